/-! ===== mathematics 2: the best chain ===== -/
/-- t is the greatest worth, or 0 -/
def isTop (G : Int → Int → Prop) (wt : Int → Int → Int) (t : Int) : Prop := 0 ≤ t ∧ (∀ i j, G i j → wt i j ≤ t) ∧ (t = 0 ∨ ∃ i j, G i j ∧ wt i j = t)
/-- M is the most that anchors at (a, b) or behind add, or 0 -/
def isMore (G : Int → Int → Prop) (wt : Int → Int → Int) (g a b M : Int) : Prop := 0 ≤ M ∧ (∀ k l, G k l → a ≤ k → b ≤ l → wt k l - g * (k - a + (l - b)) ≤ M) ∧ (M = 0 ∨ ∃ k l, G k l ∧ a ≤ k ∧ b ≤ l ∧ wt k l - g * (k - a + (l - b)) = M)
def WT (G : Int → Int → Prop) (K g : Int) (wt : Int → Int → Int) : Prop := ∀ i j, G i j → isMore G wt g (i + K) (j + K) (wt i j - 10 * K)
/-- (k, l) is the first anchor at (a, b) or behind that adds v -/
def isFst (G : Int → Int → Prop) (wt : Int → Int → Int) (g a b v k l : Int) : Prop := (G k l ∧ a ≤ k ∧ b ≤ l ∧ wt k l - g * (k - a + (l - b)) = v) ∧ ∀ k' l', G k' l' → a ≤ k' → b ≤ l' → bef k' l' k l → wt k' l' - g * (k' - a + (l' - b)) ≠ v
def isF0 (G : Int → Int → Prop) (wt : Int → Int → Int) (t k l : Int) : Prop := (G k l ∧ wt k l = t) ∧ ∀ k' l', G k' l' → bef k' l' k l → wt k' l' ≠ t
def isChn (G : Int → Int → Prop) (wt : Int → Int → Int) (K g t n : Int) (P Q : Int → Int) : Prop :=
  0 ≤ n ∧ (n = 0 → t = 0) ∧ (0 < n → 0 < t ∧ isF0 G wt t (P 0) (Q 0)) ∧ (∀ m, 0 ≤ m → m + 1 < n → 0 < wt (P m) (Q m) - 10 * K ∧ isFst G wt g (P m + K) (Q m + K) (wt (P m) (Q m) - 10 * K) (P (m + 1)) (Q (m + 1))) ∧ (0 < n → wt (P (n - 1)) (Q (n - 1)) - 10 * K ≤ 0)
section CHN
variable {G : Int → Int → Prop} {n0 n1 K g : Int}
theorem isTop_uniq {w1 w2 : Int → Int → Int} (hw : ∀ i j, G i j → w1 i j = w2 i j) {t1 t2 : Int} (h1 : isTop G w1 t1) (h2 : isTop G w2 t2) : t1 = t2 := by
  have a : t1 ≤ t2 := by
    rcases h1.2.2 with h | ⟨i, j, hg, h⟩
    · have := h2.1; omega
    · have := h2.2.1 i j hg; have := hw i j hg; omega
  have b : t2 ≤ t1 := by
    rcases h2.2.2 with h | ⟨i, j, hg, h⟩
    · have := h1.1; omega
    · have := h1.2.1 i j hg; have := hw i j hg; omega
  omega
theorem isMore_le {w1 w2 : Int → Int → Int} {a b M1 M2 : Int} (hw : ∀ k l, G k l → a ≤ k → b ≤ l → w1 k l = w2 k l) (h1 : isMore G w1 g a b M1) (h2 : isMore G w2 g a b M2) : M1 ≤ M2 := by
  rcases h1.2.2 with h | ⟨k, l, hg, ha, hb, h⟩
  · have := h2.1; omega
  · have x := h2.2.1 k l hg ha hb
    have y := hw k l hg ha hb
    rw [y] at h
    omega
theorem WT_uniq (hG : inG G n0 n1 K) (hK : 1 ≤ K) {w1 w2 : Int → Int → Int} (h1 : WT G K g w1) (h2 : WT G K g w2) : ∀ i j, G i j → w1 i j = w2 i j := by
  have key : ∀ (N : Nat) (i j : Int), G i j → n0 - i < (N : Int) → w1 i j = w2 i j := by
    intro N
    induction N with
    | zero => intro i j hg h; have := hG i j hg; omega
    | succ N ih =>
      intro i j hg h
      have e : ∀ k l, G k l → i + K ≤ k → j + K ≤ l → w1 k l = w2 k l := fun k l hk a b => ih k l hk (by omega)
      have a := isMore_le e (h1 i j hg) (h2 i j hg)
      have b := isMore_le (fun k l hk a b => (e k l hk a b).symm) (h2 i j hg) (h1 i j hg)
      omega
  intro i j hg
  exact key ((n0 - i).toNat + 1) i j hg (by omega)
theorem isFst_uniq {wt : Int → Int → Int} {a b v k l k' l' : Int} (h1 : isFst G wt g a b v k l) (h2 : isFst G wt g a b v k' l') : k = k' ∧ l = l' :=
  bef_tri (fun h => h2.2 k l h1.1.1 h1.1.2.1 h1.1.2.2.1 h h1.1.2.2.2) (fun h => h1.2 k' l' h2.1.1 h2.1.2.1 h2.1.2.2.1 h h2.1.2.2.2)
theorem isF0_uniq {wt : Int → Int → Int} {t k l k' l' : Int} (h1 : isF0 G wt t k l) (h2 : isF0 G wt t k' l') : k = k' ∧ l = l' :=
  bef_tri (fun h => h2.2 k l h1.1.1 h h1.1.2) (fun h => h1.2 k' l' h2.1.1 h h2.1.2)
theorem isChn_G {wt : Int → Int → Int} {t n : Int} {P Q : Int → Int} (h : isChn G wt K g t n P Q) : ∀ m, 0 ≤ m → m < n → G (P m) (Q m) := by
  intro m m0 m1
  by_cases hm : m = 0
  · subst hm; exact (h.2.2.1 m1).2.1.1
  · have e : m = (m - 1) + 1 := by omega
    rw [e]
    exact (h.2.2.2.1 (m - 1) (by omega) (by omega)).2.1.1
theorem isFst_congr {w1 w2 : Int → Int → Int} (hw : ∀ i j, G i j → w1 i j = w2 i j) {a b v k l : Int} (h : isFst G w1 g a b v k l) : isFst G w2 g a b v k l :=
  ⟨⟨h.1.1, h.1.2.1, h.1.2.2.1, by rw [← hw k l h.1.1]; exact h.1.2.2.2⟩, fun k' l' hg x y z => by rw [← hw k' l' hg]; exact h.2 k' l' hg x y z⟩
theorem isChn_congr {w1 w2 : Int → Int → Int} (hw : ∀ i j, G i j → w1 i j = w2 i j) {t n : Int} {P Q : Int → Int} (h : isChn G w1 K g t n P Q) : isChn G w2 K g t n P Q := by
  have hg := isChn_G h
  obtain ⟨a, b, c, d, e⟩ := h
  refine ⟨a, b, fun h => ⟨(c h).1, ⟨(c h).2.1.1, ?_⟩, fun k' l' x y => ?_⟩, fun m m0 m1 => ?_, fun h => ?_⟩
  · rw [← hw _ _ (c h).2.1.1]; exact (c h).2.1.2
  · rw [← hw _ _ x]; exact (c h).2.2 k' l' x y
  · have z := d m m0 m1
    rw [hw _ _ (hg m m0 (by omega))] at z
    exact ⟨z.1, isFst_congr hw z.2⟩
  · rw [← hw _ _ (hg (n - 1) (by omega) (by omega))]; exact e h
theorem isChn_le {wt : Int → Int → Int} {t n n' : Int} {P Q P' Q' : Int → Int} (h : isChn G wt K g t n P Q) (h' : isChn G wt K g t n' P' Q') : ∀ m : Nat, (m : Int) < n → (m : Int) < n' ∧ P m = P' m ∧ Q m = Q' m := by
  intro m
  induction m with
  | zero =>
    intro hm
    have c := h.2.2.1 (by omega)
    have z : ¬ n' = 0 := fun e => by have := h'.2.1 e; omega
    have hn : 0 < n' := by have := h'.1; omega
    have u := isF0_uniq c.2 (h'.2.2.1 hn).2
    exact ⟨by omega, u.1, u.2⟩
  | succ m ih =>
    intro hm
    obtain ⟨a, b, c⟩ := ih (by omega)
    have d := h.2.2.2.1 (m : Int) (by omega) (by omega)
    rw [b, c] at d
    have hn : (m : Int) + 1 < n' := by
      refine Classical.byContradiction fun x => ?_
      have e : n' - 1 = (m : Int) := by omega
      have z := h'.2.2.2.2 (by omega)
      rw [e] at z
      omega
    have d' := h'.2.2.2.1 (m : Int) (by omega) hn
    have u := isFst_uniq d.2 d'.2
    have e : ((m + 1 : Nat) : Int) = (m : Int) + 1 := by omega
    rw [e]
    exact ⟨hn, u.1, u.2⟩
theorem isChn_uniq {wt : Int → Int → Int} {t n n' : Int} {P Q P' Q' : Int → Int} (h : isChn G wt K g t n P Q) (h' : isChn G wt K g t n' P' Q') : n = n' ∧ ∀ m, 0 ≤ m → m < n → P m = P' m ∧ Q m = Q' m := by
  have a := isChn_le h h'
  have b := isChn_le h' h
  have p := h.1
  have q := h'.1
  refine ⟨?_, fun m m0 m1 => ?_⟩
  · by_cases x : n < n'
    · have := b n.toNat (by omega); omega
    · by_cases y : n' < n
      · have := a n'.toNat (by omega); omega
      · omega
  · have := a m.toNat (by omega)
    rw [Int.toNat_of_nonneg m0] at this
    exact this.2
/-! the class's table of what lies ahead -/
def wF (K : Int) (Ah : Int → Int) (x y : Int) : Int := 10 * K + max 0 (Ah ((x + K) * 49 + (y + K)))
def mOK (G : Int → Int → Prop) (n0 n1 K g : Int) (Ah : Int → Int) (a b v : Int) : Prop :=
  (a = n0 ∨ b = n1 → v = -1000000) ∧ (¬ (a = n0 ∨ b = n1) → (G a b → v = max (max (Ah ((a + 1) * 49 + b)) (Ah (a * 49 + (b + 1))) - g) (wF K Ah a b)) ∧ (¬ G a b → v = max (Ah ((a + 1) * 49 + b)) (Ah (a * 49 + (b + 1))) - g))
abbrev bnd (n0 n1 : Int) (a b v : Int) : Prop := -1000000 - 9 * ((n0 - a) + (n1 - b)) ≤ v ∧ v ≤ 10 * (n0 - a)
def aOK (G : Int → Int → Prop) (n0 n1 K g : Int) (Ah : Int → Int) (x y : Int) : Prop := mOK G n0 n1 K g Ah x y (Ah (x * 49 + y)) ∧ bnd n0 n1 x y (Ah (x * 49 + y))
theorem mOK_bnd (hG : inG G n0 n1 K) (hK : 1 ≤ K) (hg : 0 ≤ g ∧ g ≤ 9) {Ah : Int → Int} {a b v : Int} (ha : 0 ≤ a ∧ a ≤ n0) (hb : 0 ≤ b ∧ b ≤ n1) (h : mOK G n0 n1 K g Ah a b v)
    (h1 : a < n0 → b < n1 → bnd n0 n1 (a + 1) b (Ah ((a + 1) * 49 + b))) (h2 : a < n0 → b < n1 → bnd n0 n1 a (b + 1) (Ah (a * 49 + (b + 1)))) (h3 : G a b → bnd n0 n1 (a + K) (b + K) (Ah ((a + K) * 49 + (b + K)))) : bnd n0 n1 a b v := by
  by_cases e : a = n0 ∨ b = n1
  · rw [h.1 e]; unfold bnd; omega
  · have x := h1 (by omega) (by omega)
    have y := h2 (by omega) (by omega)
    by_cases hgg : G a b
    · have z := h3 hgg
      have i := hG a b hgg
      rw [(h.2 e).1 hgg]
      unfold bnd wF at *
      omega
    · rw [(h.2 e).2 hgg]
      unfold bnd at *
      omega
theorem mOK_upd (hG : inG G n0 n1 K) (hK : 1 ≤ K) (h1 : n1 ≤ 48) {Ah : Int → Int} {a b w x y v : Int} (hb : 0 ≤ b ∧ b ≤ n1) (hy : 0 ≤ y ∧ y ≤ n1) (hxa : bef a b x y ∨ (a = x ∧ b = y)) (h : mOK G n0 n1 K g Ah x y v) : mOK G n0 n1 K g (jU Ah (a * 49 + b) w) x y v := by
  refine ⟨h.1, fun e => ?_⟩
  have z := h.2 e
  unfold bef at hxa
  have e1 : jU Ah (a * 49 + b) w ((x + 1) * 49 + y) = Ah ((x + 1) * 49 + y) := jU_n (by omega)
  have e2 : jU Ah (a * 49 + b) w (x * 49 + (y + 1)) = Ah (x * 49 + (y + 1)) := jU_n (by omega)
  rw [e1, e2]
  refine ⟨fun hg => ?_, z.2⟩
  have i := hG x y hg
  have e3 : jU Ah (a * 49 + b) w ((x + K) * 49 + (y + K)) = Ah ((x + K) * 49 + (y + K)) := jU_n (by omega)
  unfold wF
  rw [e3]
  exact z.1 hg
theorem aOK_upd (hG : inG G n0 n1 K) (hK : 1 ≤ K) (h1 : n1 ≤ 48) {Ah : Int → Int} {a b w x y : Int} (hb : 0 ≤ b ∧ b ≤ n1) (hy : 0 ≤ y ∧ y ≤ n1) (hxa : bef a b x y) (h : aOK G n0 n1 K g Ah x y) : aOK G n0 n1 K g (jU Ah (a * 49 + b) w) x y := by
  have e : jU Ah (a * 49 + b) w (x * 49 + y) = Ah (x * 49 + y) := jU_n (by unfold bef at hxa; omega)
  unfold aOK
  rw [e]
  exact ⟨mOK_upd hG hK h1 hb hy (Or.inl hxa) h.1, h.2⟩
/-- the whole table -/
def aAll (G : Int → Int → Prop) (n0 n1 K g : Int) (Ah : Int → Int) : Prop := ∀ x y, 0 ≤ x → x ≤ n0 → 0 ≤ y → y ≤ n1 → aOK G n0 n1 K g Ah x y
theorem gmul (g d : Int) : g * (d + 1) = g * d + g := by rw [Int.mul_add, Int.mul_one]
theorem aAll_char (hG : inG G n0 n1 K) (hK : 1 ≤ K) (hg : 0 ≤ g ∧ g ≤ 9) {Ah : Int → Int} (h : aAll G n0 n1 K g Ah) : ∀ (N : Nat) (x y : Int), 0 ≤ x → x ≤ n0 → 0 ≤ y → y ≤ n1 → (n0 - x) + (n1 - y) < (N : Int) →
    (∀ k l, G k l → x ≤ k → y ≤ l → wF K Ah k l - g * (k - x + (l - y)) ≤ Ah (x * 49 + y)) ∧ (Ah (x * 49 + y) ≤ -900000 ∨ ∃ k l, G k l ∧ x ≤ k ∧ y ≤ l ∧ wF K Ah k l - g * (k - x + (l - y)) = Ah (x * 49 + y)) := by
  intro N
  induction N with
  | zero => intro x y a b c d e; omega
  | succ N ih =>
    intro x y x0 x1 y0 y1 hN
    have hA := (h x y x0 x1 y0 y1).1
    by_cases e : x = n0 ∨ y = n1
    · have v := hA.1 e
      refine ⟨fun k l hk a b => ?_, Or.inl (by omega)⟩
      have := hG k l hk
      omega
    · have a1 := ih (x + 1) y (by omega) (by omega) y0 y1 (by omega)
      have a2 := ih x (y + 1) x0 x1 (by omega) (by omega) (by omega)
      have hv := hA.2 e
      generalize hV : Ah (x * 49 + y) = V at hv ⊢
      have ge1 : Ah ((x + 1) * 49 + y) - g ≤ V ∧ Ah (x * 49 + (y + 1)) - g ≤ V := by
        by_cases hgg : G x y
        · have := hv.1 hgg; omega
        · have := hv.2 hgg; omega
      have d1 : ∀ k l : Int, g * (k - x + (l - y)) = g * (k - (x + 1) + (l - y)) + g := fun k l => by
        rw [← gmul]; congr 1; omega
      have d2 : ∀ k l : Int, g * (k - x + (l - y)) = g * (k - x + (l - (y + 1))) + g := fun k l => by
        rw [← gmul]; congr 1; omega
      refine ⟨fun k l hk a b => ?_, ?_⟩
      · by_cases c1 : x + 1 ≤ k
        · have z := a1.1 k l hk c1 b
          have := d1 k l
          omega
        · by_cases c2 : y + 1 ≤ l
          · have z := a2.1 k l hk a c2
            have := d2 k l
            omega
          · have e1 : k = x := by omega
            have e2 : l = y := by omega
            subst e1; subst e2
            have z := hv.1 hk
            have zz : g * (k - k + (l - l)) = 0 := by
              have : k - k + (l - l) = 0 := by omega
              rw [this, Int.mul_zero]
            omega
      · have cases3 : V = Ah ((x + 1) * 49 + y) - g ∨ V = Ah (x * 49 + (y + 1)) - g ∨ (G x y ∧ V = wF K Ah x y) := by
          by_cases hgg : G x y
          · have t := hv.1 hgg
            by_cases q : V = wF K Ah x y
            · exact Or.inr (Or.inr ⟨hgg, q⟩)
            · by_cases q1 : V = Ah ((x + 1) * 49 + y) - g
              · exact Or.inl q1
              · exact Or.inr (Or.inl (by omega))
          · have t := hv.2 hgg
            by_cases q1 : V = Ah ((x + 1) * 49 + y) - g
            · exact Or.inl q1
            · exact Or.inr (Or.inl (by omega))
        rcases cases3 with c | c | ⟨hgg, c⟩
        · rcases a1.2 with z | ⟨k, l, hk, ka, kb, z⟩
          · exact Or.inl (by omega)
          · exact Or.inr ⟨k, l, hk, by omega, kb, by have := d1 k l; omega⟩
        · rcases a2.2 with z | ⟨k, l, hk, ka, kb, z⟩
          · exact Or.inl (by omega)
          · exact Or.inr ⟨k, l, hk, ka, by omega, by have := d2 k l; omega⟩
        · refine Or.inr ⟨x, y, hgg, by omega, by omega, ?_⟩
          have zz : g * (x - x + (y - y)) = 0 := by
            have : x - x + (y - y) = 0 := by omega
            rw [this, Int.mul_zero]
          omega
theorem aAll_more (hG : inG G n0 n1 K) (hK : 1 ≤ K) (hg : 0 ≤ g ∧ g ≤ 9) {Ah : Int → Int} (h : aAll G n0 n1 K g Ah) {x y : Int} (x0 : 0 ≤ x) (x1 : x ≤ n0) (y0 : 0 ≤ y) (y1 : y ≤ n1) : isMore G (wF K Ah) g x y (max 0 (Ah (x * 49 + y))) := by
  have c := aAll_char hG hK hg h (((n0 - x) + (n1 - y)).toNat + 1) x y x0 x1 y0 y1 (by omega)
  refine ⟨by omega, fun k l hk a b => ?_, ?_⟩
  · have := c.1 k l hk a b; omega
  · by_cases p : 0 < Ah (x * 49 + y)
    · rcases c.2 with z | ⟨k, l, hk, a, b, z⟩
      · omega
      · exact Or.inr ⟨k, l, hk, a, b, by omega⟩
    · exact Or.inl (by omega)
theorem aAll_WT (hG : inG G n0 n1 K) (hK : 1 ≤ K) (hg : 0 ≤ g ∧ g ≤ 9) {Ah : Int → Int} (h : aAll G n0 n1 K g Ah) : WT G K g (wF K Ah) := by
  intro i j hij
  have b := hG i j hij
  have m := aAll_more hG hK hg h (x := i + K) (y := j + K) (by omega) (by omega) (by omega) (by omega)
  have e : wF K Ah i j - 10 * K = max 0 (Ah ((i + K) * 49 + (j + K))) := by unfold wF; omega
  rw [e]
  exact m
theorem wF_b (hG : inG G n0 n1 K) (hK : 1 ≤ K) {Ah : Int → Int} (h : aAll G n0 n1 K g Ah) {i j : Int} (hij : G i j) : 10 * K ≤ wF K Ah i j ∧ wF K Ah i j ≤ 10 * (n0 - i) := by
  have b := hG i j hij
  have z := (h (i + K) (j + K) (by omega) (by omega) (by omega) (by omega)).2
  unfold bnd at z
  unfold wF
  omega
end CHN
