/-! ===== mathematics 5: the search for the first pair and for the next one ===== -/
/-- z is the first of the best so far, mo its worth -/
def fpP (G : Int → Int → Prop) (wt : Int → Int → Int) (z mo i j : Int) : Prop := (z = -1 ∧ mo = 0 ∧ ∀ k l, G k l → ¬ bef k l i j) ∨ ∃ x y, z = x * 48 + y ∧ G x y ∧ bef x y i j ∧ mo = wt x y ∧ (∀ k l, G k l → bef k l i j → wt k l ≤ mo) ∧ ∀ k l, G k l → bef k l x y → wt k l < mo
def fpR (G : Int → Int → Prop) (wt : Int → Int → Int) (z : Int) : Prop := (z = -1 ∧ ∀ i j, ¬ G i j) ∨ ∃ i j, z = i * 48 + j ∧ G i j ∧ (∀ k l, G k l → wt k l ≤ wt i j) ∧ ∀ k l, G k l → bef k l i j → wt k l < wt i j
section FP
variable {G : Int → Int → Prop} {n0 n1 K g : Int} {wt : Int → Int → Int} {z mo i j : Int}
theorem fp_0 (hG : inG G n0 n1 K) : fpP G wt (-1) 0 0 0 := Or.inl ⟨rfl, rfl, fun k l hk h => by have := hG k l hk; omega⟩
theorem fp_yes (hg : G i j) (hw : mo < wt i j) (h : fpP G wt z mo i j) : fpP G wt (i * 48 + j) (wt i j) i (j + 1) := by
  refine Or.inr ⟨i, j, rfl, hg, by omega, rfl, fun k l hk hb => ?_, fun k l hk hb => ?_⟩
  · by_cases e : bef k l i j
    · rcases h with ⟨-, -, h⟩ | ⟨x, y, -, -, -, -, h, -⟩
      · exact (h k l hk e).elim
      · have := h k l hk e; omega
    · have e2 : k = i ∧ l = j := by omega
      obtain ⟨rfl, rfl⟩ := e2
      exact Int.le_refl _
  · rcases h with ⟨-, -, h⟩ | ⟨x, y, -, -, -, -, h, -⟩
    · exact (h k l hk hb).elim
    · have := h k l hk hb; omega
theorem fp_no (hg : G i j → wt i j ≤ mo) (hp : ∀ k l, G k l → 0 < wt k l) (h : fpP G wt z mo i j) : fpP G wt z mo i (j + 1) := by
  rcases h with ⟨h1, h2, h⟩ | ⟨x, y, a, b, c, d, h, h2⟩
  · refine Or.inl ⟨h1, h2, fun k l hk hb => ?_⟩
    by_cases e : bef k l i j
    · exact h k l hk e
    · have e2 : k = i ∧ l = j := by omega
      obtain ⟨rfl, rfl⟩ := e2
      have := hg hk
      have := hp k l hk
      omega
  · refine Or.inr ⟨x, y, a, b, by omega, d, fun k l hk hb => ?_, h2⟩
    by_cases e : bef k l i j
    · exact h k l hk e
    · have e2 : k = i ∧ l = j := by omega
      obtain ⟨rfl, rfl⟩ := e2
      exact hg hk
theorem fp_row (hG : inG G n0 n1 K) (hK : 1 ≤ K) (hj : n1 ≤ j) (h : fpP G wt z mo i j) : fpP G wt z mo (i + 1) 0 := by
  rcases h with ⟨h1, h2, h⟩ | ⟨x, y, a, b, c, d, h, h2⟩
  · exact Or.inl ⟨h1, h2, fun k l hk hb => h k l hk (by have := hG k l hk; omega)⟩
  · exact Or.inr ⟨x, y, a, b, by have := hG x y b; omega, d, fun k l hk hb => h k l hk (by have := hG k l hk; omega), h2⟩
theorem fp_end (hG : inG G n0 n1 K) (hK : 1 ≤ K) (hi : n0 ≤ i) (h : fpP G wt z mo i 0) : fpR G wt z := by
  rcases h with ⟨h1, h2, h⟩ | ⟨x, y, a, b, c, d, h, h2⟩
  · exact Or.inl ⟨h1, fun k l hk => h k l hk (by have := hG k l hk; omega)⟩
  · subst d
    exact Or.inr ⟨x, y, a, b, fun k l hk => h k l hk (by have := hG k l hk; omega), h2⟩
/-- none before (i, j) of those at (a, b) or behind adds v -/
def nnP (G : Int → Int → Prop) (wt : Int → Int → Int) (g a b v i j : Int) : Prop := ∀ k l, G k l → a ≤ k → b ≤ l → bef k l i j → wt k l - g * (k - a + (l - b)) ≠ v
def npR (G : Int → Int → Prop) (wt : Int → Int → Int) (g a b v z : Int) : Prop := (v ≤ 0 ∧ z = -1) ∨ (0 < v ∧ ((∃ i j, z = i * 48 + j ∧ isFst G wt g a b v i j) ∨ (z = -1 ∧ ∀ k l, G k l → a ≤ k → b ≤ l → wt k l - g * (k - a + (l - b)) ≠ v)))
variable {a b v : Int}
theorem nn_0 : nnP G wt g a b v a b := fun k l hk ha hb h => by omega
theorem nn_no (hg : G i j → wt i j - g * (i - a + (j - b)) ≠ v) (h : nnP G wt g a b v i j) : nnP G wt g a b v i (j + 1) := by
  intro k l hk ha hb hbf
  by_cases e : bef k l i j
  · exact h k l hk ha hb e
  · have e2 : k = i ∧ l = j := by omega
    obtain ⟨rfl, rfl⟩ := e2
    exact hg hk
theorem nn_row (hG : inG G n0 n1 K) (hK : 1 ≤ K) (hj : n1 ≤ j) (h : nnP G wt g a b v i j) : nnP G wt g a b v (i + 1) b := by
  intro k l hk ha hb hbf
  exact h k l hk ha hb (by have := hG k l hk; omega)
theorem nn_end (hG : inG G n0 n1 K) (hK : 1 ≤ K) (hi : n0 ≤ i) (h : nnP G wt g a b v i b) : ∀ k l, G k l → a ≤ k → b ≤ l → wt k l - g * (k - a + (l - b)) ≠ v :=
  fun k l hk ha hb => h k l hk ha hb (by have := hG k l hk; omega)
theorem gmul_b {g d : Int} (hg : 0 ≤ g ∧ g ≤ 9) (hd : 0 ≤ d ∧ d ≤ 10000) : 0 ≤ g * d ∧ g * d ≤ 90000 := by
  have h1 := Int.mul_nonneg hg.1 hd.1
  have h2 : g * d ≤ 9 * 10000 := Int.mul_le_mul hg.2 hd.2 hd.1 (by omega)
  omega
/-- the pair pr is what comes behind n links -/
def prN (G : Int → Int → Prop) (wt : Int → Int → Int) (K g t n : Int) (P Q : Int → Int) (pr : Int) : Prop := (pr = -1 ∧ nol wt K t n P Q) ∨ ∃ k l, pr = k * 48 + l ∧ nxl G wt K g t n P Q k l
theorem prN_first (hG : inG G n0 n1 K) (hK : 1 ≤ K) (hp : ∀ k l, G k l → 10 * K ≤ wt k l) {P Q : Int → Int} {pr t : Int} (h : fpR G wt pr) (ht : (pr = -1 → t = 0) ∧ ∀ k l, G k l → pr = k * 48 + l → t = wt k l) : prN G wt K g t 0 P Q pr ∧ isTop G wt t := by
  rcases h with ⟨h1, h2⟩ | ⟨i, j, h1, h2, h3, h4⟩
  · have t0 := ht.1 h1
    exact ⟨Or.inl ⟨h1, fun _ => t0, fun h => by omega⟩, by omega, fun k l hk => (h2 k l hk).elim, Or.inl t0⟩
  · have te := ht.2 i j h2 h1
    have tp := hp i j h2
    refine ⟨Or.inr ⟨i, j, h1, fun _ => ⟨by omega, ⟨h2, te.symm⟩, fun k l hk hb => ?_⟩, fun h => by omega⟩, by omega, fun k l hk => ?_, Or.inr ⟨i, j, h2, te.symm⟩⟩
    · have := h4 k l hk hb; omega
    · have := h3 k l hk; omega
theorem prN_next (hG : inG G n0 n1 K) (hK : 1 ≤ K) {P Q : Int → Int} {n t k l v pr : Int} (hn : 0 < n) (hP : P (n - 1) = k) (hQ : Q (n - 1) = l) (hm : isMore G wt g (k + K) (l + K) (wt k l - 10 * K)) (hv : wt k l - 10 * K = max 0 v) (h : npR G wt g (k + K) (l + K) v pr) : prN G wt K g t n P Q pr := by
  rcases h with ⟨h1, h2⟩ | ⟨h1, h2⟩
  · refine Or.inl ⟨h2, fun h => by omega, fun _ => ?_⟩
    rw [hP, hQ]; omega
  · have e : wt k l - 10 * K = v := by rw [hv]; exact Int.max_eq_right (Int.le_of_lt h1)
    rcases h2 with ⟨i, j, h3, h4⟩ | ⟨h3, h4⟩
    · refine Or.inr ⟨i, j, h3, fun h => by omega, fun _ => ?_⟩
      rw [hP, hQ, e]
      exact ⟨h1, h4⟩
    · rw [e] at hm
      rcases hm.2.2 with z | ⟨x, y, q1, q2, q3, q4⟩
      · omega
      · exact (h4 x y q1 q2 q3 q4).elim
end FP
