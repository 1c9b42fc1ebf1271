/-! ===== mathematics 4: a chain link by link; the reference's tables by number ===== -/
def chp (G : Int → Int → Prop) (wt : Int → Int → Int) (K g t n : Int) (P Q : Int → Int) : Prop :=
  0 ≤ n ∧ (0 < n → 0 < t ∧ isF0 G wt t (P 0) (Q 0)) ∧ (∀ m, 0 ≤ m → m + 1 < n → 0 < wt (P m) (Q m) - 10 * K ∧ isFst G wt g (P m + K) (Q m + K) (wt (P m) (Q m) - 10 * K) (P (m + 1)) (Q (m + 1))) ∧ (0 < n → n - 1 ≤ P (n - 1))
/-- (k, l) is the next link -/
def nxl (G : Int → Int → Prop) (wt : Int → Int → Int) (K g t n : Int) (P Q : Int → Int) (k l : Int) : Prop :=
  (n = 0 → 0 < t ∧ isF0 G wt t k l) ∧ (0 < n → 0 < wt (P (n - 1)) (Q (n - 1)) - 10 * K ∧ isFst G wt g (P (n - 1) + K) (Q (n - 1) + K) (wt (P (n - 1)) (Q (n - 1)) - 10 * K) k l)
/-- there is no next link -/
def nol (wt : Int → Int → Int) (K t n : Int) (P Q : Int → Int) : Prop := (n = 0 → t = 0) ∧ (0 < n → wt (P (n - 1)) (Q (n - 1)) - 10 * K ≤ 0)
section CHP
variable {G : Int → Int → Prop} {n0 n1 K g t n : Int} {wt : Int → Int → Int} {P Q P' Q' : Int → Int}
theorem chp_0 : chp G wt K g t 0 P Q := ⟨Int.le_refl _, fun h => by omega, fun m a b => by omega, fun h => by omega⟩
theorem nxl_G (hn : 0 ≤ n) {k l : Int} (h : nxl G wt K g t n P Q k l) : G k l := by
  by_cases e : n = 0
  · exact (h.1 e).2.1.1
  · exact (h.2 (by omega)).2.1.1
theorem chp_in (h : chp G wt K g t n P Q) {m : Int} (m0 : 0 ≤ m) (m1 : m < n) : G (P m) (Q m) := by
  by_cases hm : m = 0
  · subst hm; exact (h.2.1 m1).2.1.1
  · have e : m = (m - 1) + 1 := by omega
    rw [e]
    exact (h.2.2.1 (m - 1) (by omega) (by omega)).2.1.1
theorem nxl_b (hG : inG G n0 n1 K) (hK : 1 ≤ K) (h0 : n0 ≤ 48) (h : chp G wt K g t n P Q) {k l : Int} (hx : nxl G wt K g t n P Q k l) : n ≤ k ∧ n < 48 := by
  have b := hG k l (nxl_G h.1 hx)
  have hn := h.1
  by_cases e : n = 0
  · omega
  · have a := h.2.2.2 (by omega)
    have c := (hx.2 (by omega)).2.1.2.1
    omega
theorem chp_push (hG : inG G n0 n1 K) (hK : 1 ≤ K) (h : chp G wt K g t n P Q) {k l : Int} (hx : nxl G wt K g t n P Q k l) (hP : ∀ m, m ≠ n → P' m = P m) (hQ : ∀ m, m ≠ n → Q' m = Q m) (hk : P' n = k) (hl : Q' n = l) : chp G wt K g t (n + 1) P' Q' := by
  have hn := h.1
  refine ⟨by omega, fun _ => ?_, fun m m0 m1 => ?_, fun _ => ?_⟩
  · by_cases e : n = 0
    · have z := hx.1 e
      rw [e] at hk hl
      rw [hk, hl]
      exact z
    · rw [hP 0 (by omega), hQ 0 (by omega)]
      exact h.2.1 (by omega)
  · by_cases e : m + 1 = n
    · have z := hx.2 (by omega)
      have e2 : n - 1 = m := by omega
      rw [e2] at z
      rw [hP m (by omega), hQ m (by omega), e, hk, hl]
      exact z
    · rw [hP m (by omega), hQ m (by omega), hP (m + 1) e, hQ (m + 1) e]
      exact h.2.2.1 m m0 (by omega)
  · rw [show n + 1 - 1 = n by omega, hk]
    have b := hG k l (nxl_G h.1 hx)
    by_cases e : n = 0
    · omega
    · have a := h.2.2.2 (by omega)
      have c := (hx.2 (by omega)).2.1.2.1
      omega
theorem chp_end (h : chp G wt K g t n P Q) (hx : nol wt K t n P Q) : isChn G wt K g t n P Q := ⟨h.1, hx.1, h.2.1, h.2.2.1, hx.2⟩
end CHP
/-! the reference -/
def btw (f s : Int → Int) (K a b : Int) : Int := if f b - f a - K < 0 ∨ s b - s a - K < 0 then -1 else f b - f a - K + (s b - s a - K)
theorem btw_in {f s : Int → Int} {K a b : Int} (h : ¬ (f b - f a - K < 0 ∨ s b - s a - K < 0)) : btw f s K a b = f b - f a - K + (s b - s a - K) := if_neg h
theorem btw_out {f s : Int → Int} {K a b : Int} (h : f b - f a - K < 0 ∨ s b - s a - K < 0) : btw f s K a b = -1 := if_pos h
/-- the most that anchors behind the a-th (up to the e-th) add, or 0 -/
def moreIx (f s w : Int → Int) (K g a e M : Int) : Prop := 0 ≤ M ∧ (∀ b, a < b → b < e → 0 ≤ btw f s K a b → w b - g * btw f s K a b ≤ M) ∧ (M = 0 ∨ ∃ b, a < b ∧ b < e ∧ 0 ≤ btw f s K a b ∧ w b - g * btw f s K a b = M)
def topIx (w : Int → Int) (a e t : Int) : Prop := 0 ≤ t ∧ (∀ m, a ≤ m → m < e → w m ≤ t) ∧ (t = 0 ∨ ∃ m, a ≤ m ∧ m < e ∧ w m = t)
section IX
variable {G : Int → Int → Prop} {n0 n1 K g T : Int} {f s w : Int → Int}
noncomputable def wI (G : Int → Int → Prop) (n1 : Int) (w : Int → Int) (i j : Int) : Int := w (cnt G n1 i j)
theorem moreIx_upd {a e M x v : Int} (hx : x ≤ a) (h : moreIx f s w K g a e M) : moreIx f s (jU w x v) K g a e M := by
  refine ⟨h.1, fun b b0 b1 b2 => ?_, ?_⟩
  · rw [jU_n (by omega)]; exact h.2.1 b b0 b1 b2
  · rcases h.2.2 with z | ⟨b, b0, b1, b2, z⟩
    · exact Or.inl z
    · exact Or.inr ⟨b, b0, b1, b2, by rw [jU_n (by omega)]; exact z⟩
theorem moreIx_0 {a : Int} : moreIx f s w K g a (a + 1) 0 := ⟨Int.le_refl _, fun b b0 b1 => by omega, Or.inl rfl⟩
theorem moreIx_s {a b M M' : Int} (hb : a < b) (h : moreIx f s w K g a b M) (h1 : 0 ≤ btw f s K a b → M' = max M (w b - g * btw f s K a b)) (h2 : ¬ 0 ≤ btw f s K a b → M' = M) : moreIx f s w K g a (b + 1) M' := by
  have hM := h.1
  have le : M ≤ M' := by
    by_cases c : 0 ≤ btw f s K a b
    · have := h1 c; omega
    · have := h2 c; omega
  refine ⟨by omega, fun x x0 x1 x2 => ?_, ?_⟩
  · by_cases e : x = b
    · subst e; have := h1 x2; omega
    · have := h.2.1 x x0 (by omega) x2; omega
  · have old : M' = M → (M' = 0 ∨ ∃ x, a < x ∧ x < b + 1 ∧ 0 ≤ btw f s K a x ∧ w x - g * btw f s K a x = M') := fun e => by
      rcases h.2.2 with z | ⟨x, x0, x1, x2, z⟩
      · exact Or.inl (by omega)
      · exact Or.inr ⟨x, x0, by omega, x2, by omega⟩
    by_cases c : 0 ≤ btw f s K a b
    · by_cases q : M' = M
      · exact old q
      · exact Or.inr ⟨b, hb, by omega, c, by have := h1 c; omega⟩
    · exact old (h2 c)
theorem topIx_s {a e t t' v : Int} (h : topIx w (a + 1) e t) (he : a < e) (ht : t' = max t v) (hv : 0 ≤ v) : topIx (jU w a v) a e t' := by
  have h0 := h.1
  refine ⟨by omega, fun m m0 m1 => ?_, ?_⟩
  · by_cases q : m = a
    · subst q; rw [jU_s]; omega
    · rw [jU_n q]; have := h.2.1 m (by omega) m1; omega
  · by_cases q : t' = t
    · rcases h.2.2 with z | ⟨m, m0, m1, z⟩
      · exact Or.inl (by omega)
      · exact Or.inr ⟨m, by omega, m1, by rw [jU_n (by omega)]; omega⟩
    · exact Or.inr ⟨a, by omega, he, by rw [jU_s]; omega⟩
theorem ix_lt (hG : inG G n0 n1 K) (hK : 1 ≤ K) {i j k l : Int} (hg : G i j) (hg2 : G k l) (hb : bef i j k l) : cnt G n1 i j < cnt G n1 k l := by
  have a := hG i j hg
  have b := hG k l hg2
  exact cnt_lt hg (by omega) (by omega) (by omega) (by omega) hb
theorem wI_WT (hG : inG G n0 n1 K) (hK : 1 ≤ K) (h1 : n1 ≤ 48) (hT : tabOK G n0 n1 f s T) (h : ∀ m, 0 ≤ m → m < T → moreIx f s w K g m T (w m - 10 * K)) : WT G K g (wI G n1 w) := by
  intro i j hij
  have bi := hG i j hij
  obtain ⟨c1, c2, c3⟩ := hT.2.1 i j hij
  have c0 := (cnt_b (G := G) h1 (i := i) (j := j) (by omega) (by omega)).1
  have z := h (cnt G n1 i j) c0 c1
  have key : ∀ k l, G k l → i + K ≤ k → j + K ≤ l → cnt G n1 i j < cnt G n1 k l ∧ cnt G n1 k l < T ∧ btw f s K (cnt G n1 i j) (cnt G n1 k l) = k - (i + K) + (l - (j + K)) := by
    intro k l hk a b
    obtain ⟨d1, d2, d3⟩ := hT.2.1 k l hk
    refine ⟨ix_lt hG hK hij hk (Or.inl (by omega)), d1, ?_⟩
    rw [btw_in (by rw [c2, c3, d2, d3]; omega), c2, c3, d2, d3]
    omega
  refine ⟨z.1, fun k l hk a b => ?_, ?_⟩
  · obtain ⟨x, y, e⟩ := key k l hk a b
    have q := z.2.1 (cnt G n1 k l) x y (by rw [e]; omega)
    rw [e] at q
    exact q
  · rcases z.2.2 with q | ⟨b, b0, b1, b2, q⟩
    · exact Or.inl q
    · obtain ⟨k, l, hk, e⟩ := hT.2.2 b (by omega) b1
      subst e
      obtain ⟨d1, d2, d3⟩ := hT.2.1 k l hk
      have in1 : ¬ (f (cnt G n1 k l) - f (cnt G n1 i j) - K < 0 ∨ s (cnt G n1 k l) - s (cnt G n1 i j) - K < 0) := fun o => by rw [btw_out o] at b2; omega
      rw [c2, c3, d2, d3] at in1
      obtain ⟨x, y, e⟩ := key k l hk (by omega) (by omega)
      rw [e] at q
      exact Or.inr ⟨k, l, hk, by omega, by omega, q⟩
theorem wI_top (hG : inG G n0 n1 K) (hK : 1 ≤ K) (h1 : n1 ≤ 48) (hT : tabOK G n0 n1 f s T) {t : Int} (h : topIx w 0 T t) : isTop G (wI G n1 w) t := by
  refine ⟨h.1, fun i j hij => ?_, ?_⟩
  · have bi := hG i j hij
    have c0 := (cnt_b (G := G) h1 (i := i) (j := j) (by omega) (by omega)).1
    exact h.2.1 _ c0 (hT.2.1 i j hij).1
  · rcases h.2.2 with z | ⟨m, m0, m1, z⟩
    · exact Or.inl z
    · obtain ⟨k, l, hk, e⟩ := hT.2.2 m m0 m1
      subst e
      exact Or.inr ⟨k, l, hk, z⟩
/-- where the search for the next link stands: n links, the last is the la-th anchor, le is due, no anchor before the b-th is the next link -/
def srch (f s w : Int → Int) (K g t n la le b : Int) : Prop := 0 ≤ b ∧ (n = 0 → la = -1 ∧ le = t ∧ ∀ m, 0 ≤ m → m < b → w m ≠ t) ∧ (0 < n → 0 ≤ la ∧ la < b ∧ le = w la - 10 * K ∧ ∀ m, la < m → m < b → 0 ≤ btw f s K la m → w m - g * btw f s K la m ≠ le)
theorem srch_lt (hG : inG G n0 n1 K) (hK : 1 ≤ K) (h0 : 0 ≤ n0 ∧ n0 ≤ 48) (h1 : n1 ≤ 48) (hT : tabOK G n0 n1 f s T) {t n la le b : Int} (hw : ∀ m, 0 ≤ m → m < T → moreIx f s w K g m T (w m - 10 * K)) (ht : topIx w 0 T t) (hn : 0 ≤ n) (hla : la < T) (h : srch f s w K g t n la le b) (hle : 0 < le) : b < T := by
  by_cases e : n = 0
  · obtain ⟨a1, a2, a3⟩ := h.2.1 e
    rcases ht.2.2 with z | ⟨m, m0, m1, z⟩
    · omega
    · by_cases q : m < b
      · exact (a3 m m0 q z).elim
      · omega
  · obtain ⟨a0, a1, a2, a3⟩ := h.2.2 (by omega)
    rcases (hw la a0 hla).2.2 with z | ⟨m, m0, m1, m2, z⟩
    · omega
    · by_cases q : m < b
      · exact (a3 m m0 q m2 (by omega)).elim
      · omega
theorem srch_no {t n la le b : Int} (h : srch f s w K g t n la le b) (hn : n = 0 → w b ≠ t) (hn2 : 0 < n → 0 ≤ btw f s K la b → w b - g * btw f s K la b ≠ le) : srch f s w K g t n la le (b + 1) := by
  have hb := h.1
  refine ⟨by omega, fun e => ?_, fun e => ?_⟩
  · obtain ⟨a1, a2, a3⟩ := h.2.1 e
    refine ⟨a1, a2, fun m m0 m1 => ?_⟩
    by_cases q : m = b
    · subst q; exact hn e
    · exact a3 m m0 (by omega)
  · obtain ⟨a0, a1, a2, a3⟩ := h.2.2 e
    refine ⟨a0, by omega, a2, fun m m0 m1 m2 => ?_⟩
    by_cases q : m = b
    · subst q; exact hn2 e m2
    · exact a3 m m0 (by omega) m2
theorem srch_yes (hG : inG G n0 n1 K) (hK : 1 ≤ K) (h0 : 0 ≤ n0 ∧ n0 ≤ 48) (h1 : n1 ≤ 48) (hT : tabOK G n0 n1 f s T) {t n la le b : Int} {lk : Int → Int} (h : srch f s w K g t n la le b) (hb : b < T) (hle : 0 < le) (hlk : 0 < n → lk (n - 1) = la) (hla : la < T) (hn0 : n = 0 → w b = t) (hn2 : 0 < n → 0 ≤ btw f s K la b ∧ w b - g * btw f s K la b = le) :
    nxl G (wI G n1 w) K g t n (fun m => f (lk m)) (fun m => s (lk m)) (f b) (s b) := by
  have tb := (tabOK_b hG hK h0 h1 hT).2.2
  obtain ⟨gb, cb⟩ := tb b h.1 hb
  have wb : wI G n1 w (f b) (s b) = w b := by unfold wI; rw [cb]
  refine ⟨fun e => ?_, fun e => ?_⟩
  · obtain ⟨a1, a2, a3⟩ := h.2.1 e
    refine ⟨by omega, ⟨gb, by rw [wb]; exact hn0 e⟩, fun k l hk hbf => ?_⟩
    have lt := ix_lt hG hK hk gb hbf
    rw [cb] at lt
    have bi := hG k l hk
    exact a3 _ (cnt_b (G := G) h1 (i := k) (j := l) (by omega) (by omega)).1 lt
  · obtain ⟨a0, a1, a2, a3⟩ := h.2.2 e
    obtain ⟨y1, y2⟩ := hn2 e
    obtain ⟨ga, ca⟩ := tb la a0 hla
    have wa : wI G n1 w (f la) (s la) = w la := by unfold wI; rw [ca]
    show 0 < wI G n1 w (f (lk (n - 1))) (s (lk (n - 1))) - 10 * K ∧ isFst G (wI G n1 w) g (f (lk (n - 1)) + K) (s (lk (n - 1)) + K) (wI G n1 w (f (lk (n - 1))) (s (lk (n - 1))) - 10 * K) (f b) (s b)
    rw [hlk e, wa]
    have in1 : ¬ (f b - f la - K < 0 ∨ s b - s la - K < 0) := fun o => by rw [btw_out o] at y1; omega
    have eb := btw_in in1
    have e1 : f b - (f la + K) + (s b - (s la + K)) = btw f s K la b := by rw [eb]; omega
    refine ⟨by omega, ⟨gb, by omega, by omega, by rw [wb, e1]; omega⟩, fun k l hk ka kb hbf => ?_⟩
    obtain ⟨d1, d2, d3⟩ := hT.2.1 k l hk
    have lt := ix_lt hG hK hk gb hbf
    rw [cb] at lt
    have gt : la < cnt G n1 k l := by
      have := ix_lt hG hK ga hk (Or.inl (by omega))
      rw [ca] at this
      exact this
    have in2 : ¬ (f (cnt G n1 k l) - f la - K < 0 ∨ s (cnt G n1 k l) - s la - K < 0) := by rw [d2, d3]; omega
    have e2 : btw f s K la (cnt G n1 k l) = k - (f la + K) + (l - (s la + K)) := by rw [btw_in in2, d2, d3]; omega
    have q := a3 (cnt G n1 k l) gt lt (by rw [e2]; omega)
    rw [e2, a2] at q
    exact q
end IX
