/-! ===== mathematics 3: reaching, slope by slope ===== -/
def smv (L0 L1 : Int → Int) (i j ga lo p q : Int) : Int := if L0 (i + p - 1) = L1 (j + q - 1) then ga else -lo
def rawC (sm : Int → Int → Int) (gp : Int) (one two : Int → Int) (p q : Int) : Int := if 0 < p then (if 0 < q then max (max (one p) (one (p - 1)) - gp) (two (p - 1) + sm p q) else max (one p) (one (p - 1)) - gp) else one p - gp
/-- a cell of slope d, from the slopes before -/
def nx (sm : Int → Int → Int) (P Q gp li d top : Int) (one two : Int → Int) (p : Int) : Int := if (0 ≤ p ∧ p ≤ P ∧ 0 ≤ d - p ∧ d - p ≤ Q) ∧ top - li ≤ rawC sm gp one two p (d - p) then rawC sm gp one two p (d - p) else -1000000
/-- greatest score, its p and q, how many are alive, the last slope -/
abbrev acc : Type := Int × Int × Int × Int × Int
def acc1 (v d p : Int) (t : acc) : acc := if v = -1000000 then t else if t.1 < v then (v, p, d - p, t.2.2.2.1 + 1, d) else (t.1, t.2.1, t.2.2.1, t.2.2.2.1 + 1, d)
def rowA (S : Int → Int) (d : Int) (t : acc) : Nat → acc
  | 0 => t
  | p + 1 => acc1 (S (p : Int)) d (p : Int) (rowA S d t p)
def rA (S : Int → Int) (d : Int) (t : acc) (p : Int) : acc := rowA S d t p.toNat
def Zf (sm : Int → Int → Int) (P Q gp li : Int) : Nat → (Int → Int) × (Int → Int) × acc
  | 0 => (fun _ => -1000000, fun p => if p = 0 then 0 else -1000000, (0, 0, 0, 1, 0))
  | d + 1 => ((Zf sm P Q gp li d).2.1, nx sm P Q gp li ((d : Int) + 1) (Zf sm P Q gp li d).2.2.1 (Zf sm P Q gp li d).2.1 (Zf sm P Q gp li d).1, rA (nx sm P Q gp li ((d : Int) + 1) (Zf sm P Q gp li d).2.2.1 (Zf sm P Q gp li d).2.1 (Zf sm P Q gp li d).1) ((d : Int) + 1) (Zf sm P Q gp li d).2.2 ((d : Int) + 2))
theorem acc1_dead {v d p : Int} {t : acc} (h : v = -1000000) : acc1 v d p t = t := if_pos h
theorem acc1_hi {v d p : Int} {t : acc} (h : v ≠ -1000000) (h2 : t.1 < v) : acc1 v d p t = (v, p, d - p, t.2.2.2.1 + 1, d) := (if_neg h).trans (if_pos h2)
theorem acc1_lo {v d p : Int} {t : acc} (h : v ≠ -1000000) (h2 : ¬ t.1 < v) : acc1 v d p t = (t.1, t.2.1, t.2.2.1, t.2.2.2.1 + 1, d) := (if_neg h).trans (if_neg h2)
theorem rA_0 {S : Int → Int} {d : Int} {t : acc} : rA S d t 0 = t := rfl
theorem rA_s {S : Int → Int} {d : Int} {t : acc} {p : Int} (h : 0 ≤ p) : rA S d t (p + 1) = acc1 (S p) d p (rA S d t p) := by
  unfold rA
  have e : (p + 1).toNat = p.toNat + 1 := by omega
  rw [e]
  show acc1 (S ((p.toNat : Nat) : Int)) d ((p.toNat : Nat) : Int) (rowA S d t p.toNat) = _
  rw [Int.toNat_of_nonneg h]
/-- cells that are dead change nothing -/
theorem rA_skip {S : Int → Int} {d : Int} {t : acc} {p : Int} (hp : 0 ≤ p) : ∀ (k : Nat), (∀ x, p ≤ x → x < p + (k : Int) → S x = -1000000) → rA S d t (p + (k : Int)) = rA S d t p := by
  intro k
  induction k with
  | zero => intro _; show rA S d t (p + 0) = _; rw [Int.add_zero]
  | succ k ih =>
    intro h
    have e : p + ((k + 1 : Nat) : Int) = (p + (k : Int)) + 1 := by omega
    rw [e, rA_s (by omega), acc1_dead (h _ (by omega) (by omega))]
    exact ih (fun x a b => h x a (by omega))
theorem rA_skip2 {S : Int → Int} {d : Int} {t : acc} {p q : Int} (hp : 0 ≤ p) (hq : p ≤ q) (h : ∀ x, p ≤ x → x < q → S x = -1000000) : rA S d t q = rA S d t p := by
  have := rA_skip (S := S) (d := d) (t := t) hp (q - p).toNat (fun x a b => h x a (by omega))
  rw [← this]; congr 1; omega
theorem rA_b {S : Int → Int} {d B : Int} {t : acc} (hS : ∀ x, S x = -1000000 ∨ S x ≤ B) : ∀ (k : Nat), (t.1 ≤ (rA S d t (k : Int)).1 ∧ (t.1 ≤ B → (rA S d t (k : Int)).1 ≤ B)) ∧ (t.2.2.2.1 ≤ (rA S d t (k : Int)).2.2.2.1 ∧ (rA S d t (k : Int)).2.2.2.1 ≤ t.2.2.2.1 + (k : Int)) ∧ ((∀ x, 0 ≤ x → x < (k : Int) → S x = -1000000) ∧ (rA S d t (k : Int)).2.2.2.2 = t.2.2.2.2 ∨ (rA S d t (k : Int)).2.2.2.2 = d) := by
  intro k
  induction k with
  | zero => exact ⟨⟨Int.le_refl _, fun h => h⟩, ⟨Int.le_refl _, by show t.2.2.2.1 ≤ t.2.2.2.1 + 0; omega⟩, Or.inl ⟨fun x a b => by omega, rfl⟩⟩
  | succ k ih =>
    obtain ⟨⟨a1, a2⟩, ⟨b1, b2⟩, cc⟩ := ih
    have e : ((k + 1 : Nat) : Int) = (k : Int) + 1 := by omega
    rw [e, rA_s (by omega)]
    by_cases h : S (k : Int) = -1000000
    · rw [acc1_dead h]
      refine ⟨⟨a1, a2⟩, ⟨b1, by omega⟩, ?_⟩
      rcases cc with ⟨x1, x2⟩ | x
      · refine Or.inl ⟨fun x y z => ?_, x2⟩
        by_cases hx : x = (k : Int)
        · rw [hx]; exact h
        · exact x1 x y (by omega)
      · exact Or.inr x
    · have hb := hS (k : Int)
      by_cases h2 : (rA S d t (k : Int)).1 < S (k : Int)
      · rw [acc1_hi h h2]
        refine ⟨⟨?_, fun _ => ?_⟩, ⟨?_, ?_⟩, Or.inr rfl⟩
        · show t.1 ≤ S (k : Int); omega
        · show S (k : Int) ≤ B; omega
        · show t.2.2.2.1 ≤ (rA S d t (k : Int)).2.2.2.1 + 1; omega
        · show (rA S d t (k : Int)).2.2.2.1 + 1 ≤ t.2.2.2.1 + ((k : Int) + 1); omega
      · rw [acc1_lo h h2]
        refine ⟨⟨a1, a2⟩, ⟨?_, ?_⟩, Or.inr rfl⟩
        · show t.2.2.2.1 ≤ (rA S d t (k : Int)).2.2.2.1 + 1; omega
        · show (rA S d t (k : Int)).2.2.2.1 + 1 ≤ t.2.2.2.1 + ((k : Int) + 1); omega
section RCH
variable {sm : Int → Int → Int} {P Q gp li : Int}
/-- a slope's cells: dead, or within and of a score that isn't far -/
def slo (P Q d : Int) (S : Int → Int) : Prop := ∀ x, S x = -1000000 ∨ ((0 ≤ x ∧ x ≤ P ∧ 0 ≤ d - x ∧ d - x ≤ Q) ∧ -99 ≤ S x ∧ S x ≤ 9 * d)
theorem nx_slo {d top : Int} {one two : Int → Int} (hsm : ∀ p q, -9 ≤ sm p q ∧ sm p q ≤ 9) (hgp : 1 ≤ gp ∧ gp ≤ 9) (hli : 0 ≤ li ∧ li ≤ 99) (hd : 1 ≤ d) (ht : 0 ≤ top) (h1 : slo P Q (d - 1) one) (h2 : slo P Q (d - 2) two ∨ ∀ x, two x = -1000000) : slo P Q d (nx sm P Q gp li d top one two) := by
  intro x
  by_cases h : (0 ≤ x ∧ x ≤ P ∧ 0 ≤ d - x ∧ d - x ≤ Q) ∧ top - li ≤ rawC sm gp one two x (d - x)
  · have e : nx sm P Q gp li d top one two x = rawC sm gp one two x (d - x) := if_pos h
    rw [e]
    refine Or.inr ⟨h.1, by omega, ?_⟩
    have a := h1 x
    have b := h1 (x - 1)
    have c : two (x - 1) ≤ 9 * d - 9 := by
      rcases h2 with h2 | h2
      · have := h2 (x - 1); omega
      · have := h2 (x - 1); omega
    have s := hsm x (d - x)
    unfold rawC
    by_cases p0 : 0 < x
    · by_cases q0 : 0 < d - x
      · rw [if_pos p0, if_pos q0]; omega
      · rw [if_pos p0, if_neg q0]; omega
    · rw [if_neg p0]; omega
  · exact Or.inl (if_neg h)
/-- what holds behind slope d -/
def ZI (P Q : Int) (d : Int) (z : (Int → Int) × (Int → Int) × acc) : Prop := slo P Q d z.2.1 ∧ (slo P Q (d - 1) z.1 ∨ ∀ x, z.1 x = -1000000) ∧ (0 ≤ z.2.2.1 ∧ z.2.2.1 ≤ 9 * d) ∧ (0 ≤ z.2.2.2.2.2.2 ∧ z.2.2.2.2.2.2 ≤ d) ∧ (1 ≤ z.2.2.2.2.2.1 ∧ z.2.2.2.2.2.1 ≤ 100 * (d + 1)) ∧ (z.2.2.2.2.2.2 < d → ∀ x, z.2.1 x = -1000000) ∧ (z.2.2.2.2.2.2 < d - 1 → ∀ x, z.1 x = -1000000)
theorem Zf_s (d : Nat) : Zf sm P Q gp li (d + 1) = ((Zf sm P Q gp li d).2.1, nx sm P Q gp li ((d : Int) + 1) (Zf sm P Q gp li d).2.2.1 (Zf sm P Q gp li d).2.1 (Zf sm P Q gp li d).1, rA (nx sm P Q gp li ((d : Int) + 1) (Zf sm P Q gp li d).2.2.1 (Zf sm P Q gp li d).2.1 (Zf sm P Q gp li d).1) ((d : Int) + 1) (Zf sm P Q gp li d).2.2 ((d : Int) + 2)) := rfl
theorem Zf_I (hsm : ∀ p q, -9 ≤ sm p q ∧ sm p q ≤ 9) (hgp : 1 ≤ gp ∧ gp ≤ 9) (hli : 0 ≤ li ∧ li ≤ 99) (hP : 0 ≤ P) (hQ : 0 ≤ Q) : ∀ d : Nat, (d : Int) ≤ 97 → ZI P Q (d : Int) (Zf sm P Q gp li d) := by
  intro d
  induction d with
  | zero =>
    intro _
    refine ⟨fun x => ?_, Or.inr fun x => rfl, ⟨by show (0 : Int) ≤ 0; omega, by show (0 : Int) ≤ 9 * ((0 : Nat) : Int); omega⟩, ⟨by show (0 : Int) ≤ 0; omega, by show (0 : Int) ≤ ((0 : Nat) : Int); omega⟩, ⟨by show (1 : Int) ≤ 1; omega, by show (1 : Int) ≤ 100 * (((0 : Nat) : Int) + 1); omega⟩, fun h => ?_, fun h x => rfl⟩
    · show (if x = 0 then (0 : Int) else -1000000) = -1000000 ∨ _ ∧ -99 ≤ (if x = 0 then (0 : Int) else -1000000) ∧ (if x = 0 then (0 : Int) else -1000000) ≤ 9 * ((0 : Nat) : Int)
      by_cases hx : x = 0
      · rw [if_pos hx]; exact Or.inr ⟨by omega, by omega, by omega⟩
      · exact Or.inl (if_neg hx)
    · have h : (0 : Int) < ((0 : Nat) : Int) := h
      omega
  | succ d ih =>
    intro hd
    have e : ((d + 1 : Nat) : Int) = (d : Int) + 1 := by omega
    obtain ⟨i1, i2, i3, i4, i5, i6, i7⟩ := ih (by omega)
    rw [e, Zf_s]
    generalize Zf sm P Q gp li d = z at i1 i2 i3 i4 i5 i6 i7 ⊢
    have n1 : slo P Q ((d : Int) + 1) (nx sm P Q gp li ((d : Int) + 1) z.2.2.1 z.2.1 z.1) := nx_slo hsm hgp hli (by omega) i3.1 (by rw [show (d : Int) + 1 - 1 = d by omega]; exact i1) (by rw [show (d : Int) + 1 - 2 = (d : Int) - 1 by omega]; exact i2)
    have hb := rA_b (S := nx sm P Q gp li ((d : Int) + 1) z.2.2.1 z.2.1 z.1) (d := (d : Int) + 1) (B := 9 * ((d : Int) + 1)) (t := z.2.2) (fun x => by have := n1 x; omega) (d + 2)
    rw [show ((d + 2 : Nat) : Int) = (d : Int) + 2 by omega] at hb
    obtain ⟨⟨b1, b2⟩, ⟨b3, b4⟩, b5⟩ := hb
    refine ⟨n1, Or.inl (by rw [show (d : Int) + 1 - 1 = d by omega]; exact i1), ⟨?_, ?_⟩, ⟨?_, ?_⟩, ⟨?_, ?_⟩, ?_, ?_⟩
    · show 0 ≤ (rA _ _ _ _).1; omega
    · exact b2 (by omega)
    · show 0 ≤ (rA _ _ _ _).2.2.2.2; omega
    · show (rA _ _ _ _).2.2.2.2 ≤ _; omega
    · show 1 ≤ (rA _ _ _ _).2.2.2.1; omega
    · show (rA _ _ _ _).2.2.2.1 ≤ _; omega
    · intro h x
      have h : (rA (nx sm P Q gp li ((d : Int) + 1) z.2.2.1 z.2.1 z.1) ((d : Int) + 1) z.2.2 ((d : Int) + 2)).2.2.2.2 < (d : Int) + 1 := h
      show nx sm P Q gp li ((d : Int) + 1) z.2.2.1 z.2.1 z.1 x = _
      rcases n1 x with y | y
      · exact y
      · rcases b5 with ⟨w, -⟩ | w
        · exact w x (by omega) (by omega)
        · omega
    · intro h
      have h : (rA (nx sm P Q gp li ((d : Int) + 1) z.2.2.1 z.2.1 z.1) ((d : Int) + 1) z.2.2 ((d : Int) + 2)).2.2.2.2 < (d : Int) + 1 - 1 := h
      refine i6 ?_
      rcases b5 with ⟨-, w⟩ | w
      · omega
      · omega
/-- behind two dead slopes nothing changes -/
theorem Zf_stop (hli : 0 ≤ li ∧ li ≤ 99) (hgp : 1 ≤ gp ∧ gp ≤ 9) (hsm : ∀ p q, -9 ≤ sm p q ∧ sm p q ≤ 9) {d : Nat} (ht : 0 ≤ (Zf sm P Q gp li d).2.2.1) (h1 : ∀ x, (Zf sm P Q gp li d).1 x = -1000000) (h2 : ∀ x, (Zf sm P Q gp li d).2.1 x = -1000000) : ∀ k : Nat, (Zf sm P Q gp li (d + k)).2.2 = (Zf sm P Q gp li d).2.2 ∧ (∀ x, (Zf sm P Q gp li (d + k)).1 x = -1000000) ∧ ∀ x, (Zf sm P Q gp li (d + k)).2.1 x = -1000000 := by
  intro k
  induction k with
  | zero => exact ⟨rfl, h1, h2⟩
  | succ k ih =>
    obtain ⟨a, b, c⟩ := ih
    have e : d + (k + 1) = (d + k) + 1 := by omega
    rw [e, Zf_s]
    have dead : ∀ x, nx sm P Q gp li (((d + k : Nat) : Int) + 1) (Zf sm P Q gp li (d + k)).2.2.1 (Zf sm P Q gp li (d + k)).2.1 (Zf sm P Q gp li (d + k)).1 x = -1000000 := by
      intro x
      refine if_neg fun h => ?_
      have g := h.2
      rw [a] at g
      have s := hsm x (((d + k : Nat) : Int) + 1 - x)
      have b1 := b (x - 1)
      have c0 := c x
      have c1 := c (x - 1)
      unfold rawC at g
      by_cases p0 : 0 < x
      · by_cases q0 : 0 < ((d + k : Nat) : Int) + 1 - x
        · rw [if_pos p0, if_pos q0] at g; omega
        · rw [if_pos p0, if_neg q0] at g; omega
      · rw [if_neg p0] at g; omega
    refine ⟨?_, c, dead⟩
    show rA _ _ (Zf sm P Q gp li (d + k)).2.2 (((d + k : Nat) : Int) + 2) = _
    rw [rA_skip2 (p := 0) (by omega) (by omega) (fun x _ _ => dead x), rA_0]
    exact a
end RCH
