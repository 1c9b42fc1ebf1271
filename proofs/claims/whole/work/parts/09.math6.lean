/-! ===== mathematics 6: a cell of the reference's table is a cell of the slope ===== -/
theorem mc_eq {sm : Int → Int → Int} {P Q gp li d top p A B C s1 s2 s3 : Int} {one two : Int → Int} (hsm : ∀ p q, -9 ≤ sm p q ∧ sm p q ≤ 9) (hgp : 1 ≤ gp ∧ gp ≤ 9) (hli : 0 ≤ li ∧ li ≤ 99) (hd : 1 ≤ d) (ht : 0 ≤ top) (h1 : slo P Q (d - 1) one) (h2 : slo P Q (d - 2) two ∨ ∀ x, two x = -1000000) (hd2 : d ≤ 97)
    (hp : 0 ≤ p ∧ p ≤ P ∧ 0 ≤ d - p ∧ d - p ≤ Q) (hA : 0 < p → 0 < d - p → A = two (p - 1)) (hB : B = -1000000 ∧ p = 0 ∨ 0 < p ∧ B = one (p - 1)) (hC : C = -1000000 ∧ d - p = 0 ∨ 0 < d - p ∧ C = one p)
    (e1 : 0 < p ∧ 0 < d - p ∧ -1000000 < A ∧ s1 = A + sm p (d - p) ∨ ¬ (0 < p ∧ 0 < d - p ∧ -1000000 < A) ∧ s1 = -1000000) (e2 : -1000000 < B ∧ s2 = max s1 (B - gp) ∨ ¬ -1000000 < B ∧ s2 = s1) (e3 : -1000000 < C ∧ s3 = max s2 (C - gp) ∨ ¬ -1000000 < C ∧ s3 = s2) :
    (-1000000 < s3 ∧ top - li ≤ s3 → s3 = nx sm P Q gp li d top one two p ∧ s3 ≠ -1000000) ∧ (¬ (-1000000 < s3 ∧ top - li ≤ s3) → nx sm P Q gp li d top one two p = -1000000) := by
  have a := h1 p
  have b := h1 (p - 1)
  have c : two (p - 1) = -1000000 ∨ (-99 ≤ two (p - 1) ∧ two (p - 1) ≤ 900) := by
    rcases h2 with h2 | h2
    · have := h2 (p - 1); omega
    · exact Or.inl (h2 (p - 1))
  have s := hsm p (d - p)
  have key : ∀ r, rawC sm gp one two p (d - p) = r → (-1000000 < s3 ∧ top - li ≤ s3 → s3 = r) ∧ (¬ (-1000000 < s3 ∧ top - li ≤ s3) → r < top - li) := by
    intro r hr
    unfold rawC at hr
    by_cases p0 : 0 < p
    · by_cases q0 : 0 < d - p
      · rw [if_pos p0, if_pos q0] at hr
        have := hA p0 q0
        omega
      · rw [if_pos p0, if_neg q0] at hr
        omega
    · rw [if_neg p0] at hr
      omega
  have k := key _ rfl
  refine ⟨fun h => ?_, fun h => ?_⟩
  · have e := k.1 h
    have n : nx sm P Q gp li d top one two p = rawC sm gp one two p (d - p) := if_pos ⟨hp, by omega⟩
    rw [n]
    exact ⟨e, by omega⟩
  · exact if_neg (fun h5 => by have := k.2 h; have := h5.2; omega)
