/-! ===== mathematics 1: truth as 0 and 1, anchors, how many stand before a place, the table of anchors ===== -/
noncomputable def jB (P : Prop) : Int := @ite Int P (Classical.propDecidable P) 1 0
theorem jB_t {P : Prop} (h : P) : jB P = 1 := @if_pos P (Classical.propDecidable P) h Int 1 0
theorem jB_f {P : Prop} (h : ¬ P) : jB P = 0 := @if_neg P (Classical.propDecidable P) h Int 1 0
theorem jB_01 (P : Prop) : jB P = 0 ∨ jB P = 1 := (Classical.em P).elim (fun h => Or.inr (jB_t h)) (fun h => Or.inl (jB_f h))
theorem jB_1 {P : Prop} (h : ¬ jB P = 0) : P := Classical.byContradiction fun n => h (jB_f n)
theorem jB_0 {P : Prop} (h : jB P = 0) : ¬ P := fun p => by rw [jB_t p] at h; omega
def atv (L : Int → Int) (n i : Int) : Int := if 0 ≤ i ∧ i < n then L i else -1
theorem atv_in {L : Int → Int} {n i : Int} (h : 0 ≤ i ∧ i < n) : atv L n i = L i := if_pos h
theorem atv_out {L : Int → Int} {n i : Int} (h : ¬ (0 ≤ i ∧ i < n)) : atv L n i = -1 := if_neg h
theorem atv_rg {L : Int → Int} (hL : ∀ x, 0 ≤ L x ∧ L x ≤ 3) (n i : Int) : -1 ≤ atv L n i ∧ atv L n i ≤ 3 := by
  by_cases h : 0 ≤ i ∧ i < n
  · rw [atv_in h]; have := hL i; omega
  · rw [atv_out h]; omega
/-- (i, j) is an anchor -/
def anc (L0 L1 : Int → Int) (n0 n1 K i j : Int) : Prop := 0 ≤ i ∧ 0 ≤ j ∧ i + K ≤ n0 ∧ j + K ≤ n1 ∧ ∀ s, 0 ≤ s → s < K → L0 (i + s) = L1 (j + s)
/-- of two places: comes before -/
abbrev bef (i j k l : Int) : Prop := i < k ∨ (i = k ∧ j < l)
/-- anchors lie within the rows -/
def inG (G : Int → Int → Prop) (n0 n1 K : Int) : Prop := ∀ i j, G i j → 0 ≤ i ∧ i + K ≤ n0 ∧ 0 ≤ j ∧ j + K ≤ n1
theorem anc_in {L0 L1 : Int → Int} {n0 n1 K : Int} : inG (anc L0 L1 n0 n1 K) n0 n1 K := fun i j h => ⟨h.1, h.2.2.1, h.2.1, h.2.2.2.1⟩
noncomputable def cR (G : Int → Int → Prop) (i : Int) : Nat → Int
  | 0 => 0
  | j + 1 => cR G i j + jB (G i (j : Int))
noncomputable def cT (G : Int → Int → Prop) (n1 : Nat) : Nat → Int
  | 0 => 0
  | i + 1 => cT G n1 i + cR G (i : Int) n1
/-- how many anchors stand before (i, j) -/
noncomputable def cnt (G : Int → Int → Prop) (n1 i j : Int) : Int := cT G n1.toNat i.toNat + cR G i j.toNat
section CNT
variable {G : Int → Int → Prop} {n0 n1 K : Int}
theorem cR_b (i : Int) (j : Nat) : 0 ≤ cR G i j ∧ cR G i j ≤ (j : Int) := by
  induction j with
  | zero => exact ⟨Int.le_refl _, Int.le_refl _⟩
  | succ j ih =>
    have h := jB_01 (G i (j : Int))
    have e : cR G i (j + 1) = cR G i j + jB (G i (j : Int)) := rfl
    rw [e]; omega
theorem cT_b (m : Nat) (hm : m ≤ 48) (i : Nat) : 0 ≤ cT G m i ∧ cT G m i ≤ 48 * (i : Int) := by
  induction i with
  | zero => exact ⟨Int.le_refl _, Int.le_refl _⟩
  | succ i ih =>
    have h := cR_b (G := G) (i : Int) m
    have e : cT G m (i + 1) = cT G m i + cR G (i : Int) m := rfl
    rw [e]; omega
theorem cR_mono (i : Int) {j j' : Nat} (h : j ≤ j') : cR G i j ≤ cR G i j' := by
  induction j' with
  | zero => have e : j = 0 := by omega
            subst e; exact Int.le_refl _
  | succ k ih =>
    by_cases hk : j ≤ k
    · have h1 := ih hk
      have h2 := jB_01 (G i (k : Int))
      have e : cR G i (k + 1) = cR G i k + jB (G i (k : Int)) := rfl
      rw [e]; omega
    · have e : j = k + 1 := by omega
      subst e; exact Int.le_refl _
theorem cT_mono (m : Nat) {i i' : Nat} (h : i ≤ i') : cT G m i ≤ cT G m i' := by
  induction i' with
  | zero => have e : i = 0 := by omega
            subst e; exact Int.le_refl _
  | succ k ih =>
    by_cases hk : i ≤ k
    · have h1 := ih hk
      have h2 := (cR_b (G := G) (k : Int) m).1
      have e : cT G m (k + 1) = cT G m k + cR G (k : Int) m := rfl
      rw [e]; omega
    · have e : i = k + 1 := by omega
      subst e; exact Int.le_refl _
theorem cnt_j {i j : Int} (hj : 0 ≤ j) : cnt G n1 i (j + 1) = cnt G n1 i j + jB (G i j) := by
  have e : (j + 1).toNat = j.toNat + 1 := by omega
  have e2 : ((j.toNat : Nat) : Int) = j := Int.toNat_of_nonneg hj
  have e3 : cR G i (j.toNat + 1) = cR G i j.toNat + jB (G i j) := by
    show cR G i j.toNat + jB (G i ((j.toNat : Nat) : Int)) = _
    rw [e2]
  unfold cnt
  rw [e, e3]; omega
theorem cnt_i {i : Int} (hi : 0 ≤ i) : cnt G n1 i n1 = cnt G n1 (i + 1) 0 := by
  have e : (i + 1).toNat = i.toNat + 1 := by omega
  have e2 : ((i.toNat : Nat) : Int) = i := Int.toNat_of_nonneg hi
  have e3 : cT G n1.toNat (i.toNat + 1) = cT G n1.toNat i.toNat + cR G i n1.toNat := by
    show cT G n1.toNat i.toNat + cR G ((i.toNat : Nat) : Int) n1.toNat = _
    rw [e2]
  have e4 : cR G (i + 1) (0 : Int).toNat = 0 := rfl
  unfold cnt
  rw [e, e3, e4]; omega
theorem cnt_00 : cnt G n1 0 0 = 0 := rfl
theorem cnt_b (h1 : n1 ≤ 48) {i j : Int} (hi : 0 ≤ i) (hj : 0 ≤ j) : 0 ≤ cnt G n1 i j ∧ cnt G n1 i j ≤ 48 * i + j := by
  have a := cT_b (G := G) n1.toNat (by omega) i.toNat
  have b := cR_b (G := G) i j.toNat
  unfold cnt
  omega
theorem cnt_lt {i j k l : Int} (hg : G i j) (hi : 0 ≤ i) (hj : 0 ≤ j) (hjn : j < n1) (hl : 0 ≤ l) (h : bef i j k l) : cnt G n1 i j < cnt G n1 k l := by
  have s1 := cnt_j (G := G) (n1 := n1) (i := i) hj
  rw [jB_t hg] at s1
  rcases h with h | ⟨rfl, h⟩
  · have a := cR_mono (G := G) i (j := (j + 1).toNat) (j' := n1.toNat) (by omega)
    have b := cT_mono (G := G) n1.toNat (i := (i + 1).toNat) (i' := k.toNat) (by omega)
    have c := (cR_b (G := G) k l.toNat).1
    have d := cnt_i (G := G) (n1 := n1) hi
    have e : cnt G n1 (i + 1) 0 = cT G n1.toNat (i + 1).toNat := by
      unfold cnt
      have e4 : cR G (i + 1) (0 : Int).toNat = 0 := rfl
      rw [e4]; omega
    unfold cnt at s1 d e ⊢
    omega
  · have a := cR_mono (G := G) i (j := (j + 1).toNat) (j' := l.toNat) (by omega)
    unfold cnt at s1 ⊢
    omega
theorem bef_tri {i j k l : Int} (h : ¬ bef i j k l) (h2 : ¬ bef k l i j) : i = k ∧ j = l := by
  unfold bef at h h2
  omega
/-- the table as far as (i, j) -/
def tabP (G : Int → Int → Prop) (n1 i j : Int) (f s : Int → Int) (T : Int) : Prop := T = cnt G n1 i j ∧ (∀ k l, G k l → bef k l i j → cnt G n1 k l < T ∧ f (cnt G n1 k l) = k ∧ s (cnt G n1 k l) = l) ∧ ∀ m, 0 ≤ m → m < T → ∃ k l, G k l ∧ bef k l i j ∧ cnt G n1 k l = m
/-- the table of all anchors -/
def tabOK (G : Int → Int → Prop) (n0 n1 : Int) (f s : Int → Int) (T : Int) : Prop := T = cnt G n1 n0 0 ∧ (∀ k l, G k l → cnt G n1 k l < T ∧ f (cnt G n1 k l) = k ∧ s (cnt G n1 k l) = l) ∧ ∀ m, 0 ≤ m → m < T → ∃ k l, G k l ∧ cnt G n1 k l = m
theorem tabP_0 (hG : inG G n0 n1 K) (f s : Int → Int) : tabP G n1 0 0 f s 0 := by
  refine ⟨rfl, fun k l hg hb => ?_, fun m h1 h2 => ?_⟩
  · have := hG k l hg
    unfold bef at hb
    omega
  · omega
theorem tabP_yes {f s : Int → Int} {T i j : Int} (hj : 0 ≤ j) (h : tabP G n1 i j f s T) (hg : G i j) : tabP G n1 i (j + 1) (jU f T i) (jU s T j) (T + 1) := by
  obtain ⟨h1, h2, h3⟩ := h
  have hc := cnt_j (G := G) (n1 := n1) (i := i) hj
  rw [jB_t hg] at hc
  refine ⟨by omega, fun k l hk hb => ?_, fun m m0 m1 => ?_⟩
  · by_cases hb2 : bef k l i j
    · obtain ⟨a, b, c⟩ := h2 k l hk hb2
      exact ⟨by omega, by rw [jU_n (by omega)]; exact b, by rw [jU_n (by omega)]; exact c⟩
    · have e : k = i ∧ l = j := by unfold bef at hb hb2; omega
      obtain ⟨rfl, rfl⟩ := e
      rw [← h1]
      exact ⟨by omega, jU_s, jU_s⟩
  · by_cases hm : m < T
    · obtain ⟨k, l, a, b, c⟩ := h3 m m0 hm
      exact ⟨k, l, a, by unfold bef at b ⊢; omega, c⟩
    · exact ⟨i, j, hg, by unfold bef; omega, by omega⟩
theorem tabP_no {f s : Int → Int} {T i j : Int} (hj : 0 ≤ j) (h : tabP G n1 i j f s T) (hg : ¬ G i j) : tabP G n1 i (j + 1) f s T := by
  obtain ⟨h1, h2, h3⟩ := h
  have hc := cnt_j (G := G) (n1 := n1) (i := i) hj
  rw [jB_f hg] at hc
  refine ⟨by omega, fun k l hk hb => ?_, fun m m0 m1 => ?_⟩
  · by_cases hb2 : bef k l i j
    · exact h2 k l hk hb2
    · have e : k = i ∧ l = j := by unfold bef at hb hb2; omega
      obtain ⟨rfl, rfl⟩ := e
      exact (hg hk).elim
  · obtain ⟨k, l, a, b, c⟩ := h3 m m0 m1
    exact ⟨k, l, a, by unfold bef at b ⊢; omega, c⟩
theorem tabP_row (hG : inG G n0 n1 K) (hK : 1 ≤ K) {f s : Int → Int} {T i j : Int} (hi : 0 ≤ i) (hj : j = n1) (h : tabP G n1 i j f s T) : tabP G n1 (i + 1) 0 f s T := by
  subst hj
  obtain ⟨h1, h2, h3⟩ := h
  have hc := cnt_i (G := G) (n1 := j) hi
  refine ⟨by omega, fun k l hk hb => ?_, fun m m0 m1 => ?_⟩
  · have := hG k l hk
    exact h2 k l hk (by unfold bef at hb ⊢; omega)
  · obtain ⟨k, l, a, b, c⟩ := h3 m m0 m1
    have := hG k l a
    exact ⟨k, l, a, by unfold bef at b ⊢; omega, c⟩
theorem tabP_all (hG : inG G n0 n1 K) (hK : 1 ≤ K) {f s : Int → Int} {T i : Int} (hi : i = n0) (h : tabP G n1 i 0 f s T) : tabOK G n0 n1 f s T := by
  subst hi
  obtain ⟨h1, h2, h3⟩ := h
  refine ⟨h1, fun k l hk => ?_, fun m m0 m1 => ?_⟩
  · have := hG k l hk
    exact h2 k l hk (by unfold bef; omega)
  · obtain ⟨k, l, a, b, c⟩ := h3 m m0 m1
    exact ⟨k, l, a, c⟩
theorem tabOK_b (hG : inG G n0 n1 K) (hK : 1 ≤ K) (h0 : 0 ≤ n0 ∧ n0 ≤ 48) (h1 : n1 ≤ 48) {f s : Int → Int} {T : Int} (h : tabOK G n0 n1 f s T) : 0 ≤ T ∧ T ≤ 2304 ∧ ∀ m, 0 ≤ m → m < T → G (f m) (s m) ∧ cnt G n1 (f m) (s m) = m := by
  have b := cnt_b (G := G) h1 h0.1 (Int.le_refl 0)
  have e := h.1
  refine ⟨by omega, by omega, fun m m0 m1 => ?_⟩
  obtain ⟨k, l, a, c⟩ := h.2.2 m m0 m1
  obtain ⟨-, x, y⟩ := h.2.1 k l a
  subst c
  rw [x, y]
  exact ⟨a, rfl⟩
end CNT
