/-! ===== what class and reference have in common ===== -/
/-- rows, K, penalty, scores; the reference's letters M, lengths N -/
def Base (n0 n1 K g ga lo gp li : Int) (L0 L1 M N : Int → Int) : Prop := (0 ≤ n0 ∧ n0 ≤ 48) ∧ (0 ≤ n1 ∧ n1 ≤ 48) ∧ (1 ≤ K ∧ K ≤ 6) ∧ (0 ≤ g ∧ g ≤ 9) ∧ (1 ≤ ga ∧ ga ≤ 9) ∧ (0 ≤ lo ∧ lo ≤ 9) ∧ (1 ≤ gp ∧ gp ≤ 9) ∧ (0 ≤ li ∧ li ≤ 99) ∧ (∀ x, 0 ≤ L0 x ∧ L0 x ≤ 3) ∧ (∀ x, 0 ≤ L1 x ∧ L1 x ≤ 3) ∧ N 0 = n0 ∧ N 1 = n1 ∧ (∀ x, 0 ≤ x → x < 48 → M x = L0 x) ∧ (∀ x, 0 ≤ x → x < 48 → M (48 + x) = L1 x)
section BASE
variable {n0 n1 K g ga lo gp li : Int} {L0 L1 M N : Int → Int}
theorem jU_b {L : Int → Int} {z v : Int} (h : ∀ x, 0 ≤ L x ∧ L x ≤ 3) (hv : 0 ≤ v ∧ v ≤ 3) : ∀ x, 0 ≤ jU L z v x ∧ jU L z v x ≤ 3 := by
  intro x
  by_cases e : x = z
  · rw [e, jU_s]; exact hv
  · rw [jU_n e]; exact h x
theorem Base.put0 {y : Int} (h : Base n0 n1 K g ga lo gp li L0 L1 M N) (hy : 0 ≤ y ∧ y ≤ 3) (hn : n0 < 48) : Base (n0 + 1) n1 K g ga lo gp li (jU L0 n0 y) L1 (jU M (48 * 0 + N 0) y) (jU N 0 (N 0 + 1)) := by
  obtain ⟨h1, h2, h3, h4, h5, h6, h7, h8, h9, h10, h11, h12, h13, h14⟩ := h
  refine ⟨by omega, h2, h3, h4, h5, h6, h7, h8, jU_b h9 hy, h10, by rw [jU_s]; omega, by rw [jU_n (by omega)]; exact h12, fun x x0 x1 => ?_, fun x x0 x1 => ?_⟩
  · by_cases e : x = n0
    · rw [show 48 * 0 + N 0 = x by omega, jU_s, e, jU_s]
    · rw [jU_n (by omega), jU_n e]; exact h13 x x0 x1
  · rw [jU_n (by omega)]; exact h14 x x0 x1
theorem Base.put1 {y : Int} (h : Base n0 n1 K g ga lo gp li L0 L1 M N) (hy : 0 ≤ y ∧ y ≤ 3) (hn : n1 < 48) : Base n0 (n1 + 1) K g ga lo gp li L0 (jU L1 n1 y) (jU M (48 * 1 + N 1) y) (jU N 1 (N 1 + 1)) := by
  obtain ⟨h1, h2, h3, h4, h5, h6, h7, h8, h9, h10, h11, h12, h13, h14⟩ := h
  refine ⟨h1, by omega, h3, h4, h5, h6, h7, h8, h9, jU_b h10 hy, by rw [jU_n (by omega)]; exact h11, by rw [jU_s]; omega, fun x x0 x1 => ?_, fun x x0 x1 => ?_⟩
  · rw [jU_n (by omega)]; exact h13 x x0 x1
  · by_cases e : x = n1
    · rw [show 48 * 1 + N 1 = 48 + x by omega, jU_s, e, jU_s]
    · rw [jU_n (by omega), jU_n e]; exact h14 x x0 x1
theorem Base.cut0 (h : Base n0 n1 K g ga lo gp li L0 L1 M N) (hn : 0 < n0) : Base (n0 - 1) n1 K g ga lo gp li L0 L1 M (jU N 0 (N 0 - 1)) := by
  obtain ⟨h1, h2, h3, h4, h5, h6, h7, h8, h9, h10, h11, h12, h13, h14⟩ := h
  exact ⟨by omega, h2, h3, h4, h5, h6, h7, h8, h9, h10, by rw [jU_s]; omega, by rw [jU_n (by omega)]; exact h12, h13, h14⟩
theorem Base.cut1 (h : Base n0 n1 K g ga lo gp li L0 L1 M N) (hn : 0 < n1) : Base n0 (n1 - 1) K g ga lo gp li L0 L1 M (jU N 1 (N 1 - 1)) := by
  obtain ⟨h1, h2, h3, h4, h5, h6, h7, h8, h9, h10, h11, h12, h13, h14⟩ := h
  exact ⟨h1, by omega, h3, h4, h5, h6, h7, h8, h9, h10, by rw [jU_n (by omega)]; exact h11, by rw [jU_s]; omega, h13, h14⟩
theorem Base.seeds {k : Int} (h : Base n0 n1 K g ga lo gp li L0 L1 M N) (hk : 1 ≤ k ∧ k ≤ 6) : Base n0 n1 k g ga lo gp li L0 L1 M N := ⟨h.1, h.2.1, hk, h.2.2.2⟩
theorem Base.pen {k : Int} (h : Base n0 n1 K g ga lo gp li L0 L1 M N) (hk : 0 ≤ k ∧ k ≤ 9) : Base n0 n1 K k ga lo gp li L0 L1 M N := ⟨h.1, h.2.1, h.2.2.1, hk, h.2.2.2.2⟩
theorem Base.sco {a1 a2 a3 a4 : Int} (h : Base n0 n1 K g ga lo gp li L0 L1 M N) (hk : (1 ≤ a1 ∧ a1 ≤ 9) ∧ (0 ≤ a2 ∧ a2 ≤ 9) ∧ (1 ≤ a3 ∧ a3 ≤ 9) ∧ (0 ≤ a4 ∧ a4 ≤ 99)) : Base n0 n1 K g a1 a2 a3 a4 L0 L1 M N := ⟨h.1, h.2.1, h.2.2.1, h.2.2.2.1, hk.1, hk.2.1, hk.2.2.1, hk.2.2.2, h.2.2.2.2.2.2.2.2⟩
theorem eq_let0 (h : Base n0 n1 K g ga lo gp li L0 L1 M N) (x : Int) : atv L0 n0 x = atv (fun x => M (48 * 0 + x)) (N 0) x := by
  obtain ⟨h1, h2, h3, h4, h5, h6, h7, h8, h9, h10, h11, h12, h13, h14⟩ := h
  by_cases e : 0 ≤ x ∧ x < n0
  · rw [atv_in e, atv_in (by omega), show 48 * 0 + x = x by omega, h13 x (by omega) (by omega)]
  · rw [atv_out e, atv_out (by omega)]
theorem eq_let1 (h : Base n0 n1 K g ga lo gp li L0 L1 M N) (x : Int) : atv L1 n1 x = atv (fun x => M (48 * 1 + x)) (N 1) x := by
  obtain ⟨h1, h2, h3, h4, h5, h6, h7, h8, h9, h10, h11, h12, h13, h14⟩ := h
  by_cases e : 0 ≤ x ∧ x < n1
  · rw [atv_in e, atv_in (by omega), show 48 * 1 + x = 48 + x by omega, h14 x (by omega) (by omega)]
  · rw [atv_out e, atv_out (by omega)]
theorem eq_cut0 (h : Base n0 n1 K g ga lo gp li L0 L1 M N) (hn : 0 < n0) : L0 (n0 - 1) = M (48 * 0 + (N 0 - 1)) := by
  obtain ⟨h1, h2, h3, h4, h5, h6, h7, h8, h9, h10, h11, h12, h13, h14⟩ := h
  rw [show 48 * 0 + (N 0 - 1) = n0 - 1 by omega, h13 (n0 - 1) (by omega) (by omega)]
theorem eq_cut1 (h : Base n0 n1 K g ga lo gp li L0 L1 M N) (hn : 0 < n1) : L1 (n1 - 1) = M (48 * 1 + (N 1 - 1)) := by
  obtain ⟨h1, h2, h3, h4, h5, h6, h7, h8, h9, h10, h11, h12, h13, h14⟩ := h
  rw [show 48 * 1 + (N 1 - 1) = 48 + (n1 - 1) by omega, h14 (n1 - 1) (by omega) (by omega)]
end BASE
section EQS
variable {G : Int → Int → Prop} {n0 n1 K g : Int}
theorem eq_best (hG : inG G n0 n1 K) (hK : 1 ≤ K) {n t T n' t' : Int} {Pa f s lk : Int → Int} (h : fin G K g n t Pa) (h' : knw G n0 n1 K g f s T lk n' t') : t = t' ∧ n = n' ∧ ∀ m, 0 ≤ m → m < n → Pa m / 48 = f (lk m) ∧ Pa m % 48 = s (lk m) := by
  obtain ⟨w1, a1, a2, a3, -⟩ := h
  obtain ⟨-, ⟨w2, b1, b2, b3⟩, -⟩ := h'
  have hw := WT_uniq hG hK a1 b1
  have ht := isTop_uniq hw a2 b2
  subst ht
  have c := isChn_uniq (isChn_congr hw a3) b3
  exact ⟨rfl, c.1, c.2⟩
theorem eq_link (hG : inG G n0 n1 K) (hK : 1 ≤ K) {n t T n' t' x wh : Int} {Pa f s lk : Int → Int} (h : fin G K g n t Pa) (h' : knw G n0 n1 K g f s T lk n' t') : plc (atv Pa n x) wh = anv (fun q => f (lk q)) (fun q => s (lk q)) n' x wh := by
  obtain ⟨-, e, c⟩ := eq_best hG hK h h'
  obtain ⟨-, -, -, -, -, hp⟩ := h
  subst e
  by_cases hx : 0 ≤ x ∧ x < n
  · have q := c x hx.1 hx.2
    have r := hp x hx.1 hx.2
    rw [atv_in hx]
    by_cases h0 : wh = 0
    · rw [plc_0 (by omega) h0, anv_0 hx h0]; exact q.1
    · by_cases h1 : wh = 1
      · rw [plc_1 (by omega) h1, anv_1 hx h1]; exact q.2
      · rw [plc_n (by omega), anv_n (by omega)]
  · rw [atv_out hx, plc_n (Or.inl rfl), anv_n (fun h => hx h.1)]
theorem eq_anchor (hG : inG G n0 n1 K) (hK : 1 ≤ K) (h0 : 0 ≤ n0 ∧ n0 ≤ 48) (h1 : n1 ≤ 48) {z x wh T : Int} {f s : Int → Int} (h : (∃ i j, G i j ∧ cnt G n1 i j = x ∧ z = i * 48 + j) ∨ ((∀ i j, G i j → cnt G n1 i j ≠ x) ∧ z = -1)) (hT : tabOK G n0 n1 f s T) : plc z wh = anv f s T x wh := by
  rcases h with ⟨i, j, hg, hc, hz⟩ | ⟨hn, hz⟩
  · obtain ⟨a, b, c⟩ := hT.2.1 i j hg
    have bi := hG i j hg
    have c0 := (cnt_b (G := G) h1 (i := i) (j := j) (by omega) (by omega)).1
    rw [hc] at a b c c0
    by_cases e0 : wh = 0
    · rw [plc_0 (by omega) e0, anv_0 ⟨c0, a⟩ e0, b]; omega
    · by_cases e1 : wh = 1
      · rw [plc_1 (by omega) e1, anv_1 ⟨c0, a⟩ e1, c]; omega
      · rw [plc_n (by omega), anv_n (by omega)]
  · rw [hz, plc_n (Or.inl rfl), anv_n]
    intro h5
    obtain ⟨k, l, q1, q2⟩ := hT.2.2 x h5.1.1 h5.1.2
    exact hn k l q1 q2
end EQS
