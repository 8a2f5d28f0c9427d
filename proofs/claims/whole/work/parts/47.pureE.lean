/-! Pure: a claim's state, 'said' and paid sum change on both sides. -/
/-- columns agree but for claim j's state, said, paid sum -/
def ag_9 (co co' : co_T) (j : Nat) : Prop := co'.1 = co.1 ∧ co'.2.2.2 = co.2.2.2 ∧ (∀ k i, (k ≠ 9 ∧ k ≠ 15) ∨ i ≠ j → co'.2.1 k i = co.2.1 k i) ∧ (∀ k i, k ≠ 2 ∨ i ≠ j → co'.2.2.1 k i = co.2.2.1 k i)
/-- the reference's arrays agree but for those at place c -/
def ag_m (τ τ' : xs_T) (c : Nat) : Prop := (∀ k, k ≠ 10 → k ≠ 13 → k ≠ 18 → k ≠ 19 → k ≠ 7 → τ'.2.2.1 k = τ.2.2.1 k) ∧ (∀ i, i ≠ c → τ'.2.2.1 10 i = τ.2.2.1 10 i ∧ τ'.2.2.1 13 i = τ.2.2.1 13 i ∧ τ'.2.2.2.1 3 i = τ.2.2.2.1 3 i) ∧ (∀ k, k ≠ 3 → k ≠ 2 → k ≠ 4 → τ'.2.2.2.1 k = τ.2.2.2.1 k) ∧ τ'.1 0 = τ.1 0 ∧ τ'.1 1 = τ.1 1 ∧ τ'.1 2 = τ.1 2 ∧ τ'.1 4 = τ.1 4
theorem rl_C1 {σ σ' τ τ' : xs_T} {co co' : co_T} {n : nn_T} (hA : rl_A σ co τ n) {j : Nat} (hj : j < n.2.1) (hc : ag_9 co co' j) (hm : ag_m τ τ' (j + 1)) (hx : rl_X σ' τ') (h10 : τ'.2.2.1 10 (j + 1) = co'.2.1 9 j) (h13 : τ'.2.2.1 13 (j + 1) = co'.2.1 15 j) (h3 : τ'.2.2.2.1 3 (j + 1) = co'.2.2.1 2 j) (hst : co'.2.1 9 j = 0 ∨ co'.2.1 9 j = 1 ∨ co'.2.1 9 j = 2) (h2 : ¬ co'.2.1 9 j = 2 → ¬ co.2.1 9 j = 2) (hw : co'.2.1 9 j = co.2.1 9 j ∨ ∀ k, k < n.2.2.1 → co.1 1 k = j → co.2.1 18 k = 0) : rl_A σ' co' τ' n := by
  obtain ⟨⟨⟨a1, a2, a3, a4, a5, a6, a7, a8⟩, v1, v2⟩, -, hI, hI0, hC, hC0, hS, hU⟩ := hA
  obtain ⟨c1, c2, c3, c4⟩ := hc
  obtain ⟨m1, m2, m3, m4, m5, m6, m7⟩ := hm
  have i0 := m1 0 (by decide) (by decide) (by decide) (by decide) (by decide)
  have i1 := m1 1 (by decide) (by decide) (by decide) (by decide) (by decide)
  have i2 := m1 2 (by decide) (by decide) (by decide) (by decide) (by decide)
  have i3 := m1 3 (by decide) (by decide) (by decide) (by decide) (by decide)
  have i4 := m1 4 (by decide) (by decide) (by decide) (by decide) (by decide)
  have i5 := m1 5 (by decide) (by decide) (by decide) (by decide) (by decide)
  have i6 := m1 6 (by decide) (by decide) (by decide) (by decide) (by decide)
  have i8 := m1 8 (by decide) (by decide) (by decide) (by decide) (by decide)
  have i9 := m1 9 (by decide) (by decide) (by decide) (by decide) (by decide)
  have i11 := m1 11 (by decide) (by decide) (by decide) (by decide) (by decide)
  have i12 := m1 12 (by decide) (by decide) (by decide) (by decide) (by decide)
  have i14 := m1 14 (by decide) (by decide) (by decide) (by decide) (by decide)
  have i15 := m1 15 (by decide) (by decide) (by decide) (by decide) (by decide)
  have i16 := m1 16 (by decide) (by decide) (by decide) (by decide) (by decide)
  have i17 := m1 17 (by decide) (by decide) (by decide) (by decide) (by decide)
  have l0 := m3 0 (by decide) (by decide) (by decide)
  have l1 := m3 1 (by decide) (by decide) (by decide)
  have g : ∀ k i, k ≠ 9 → k ≠ 15 → co'.2.1 k i = co.2.1 k i := fun k i h1 h2 => c3 k i (Or.inl ⟨h1, h2⟩)
  have gj : ∀ k i, i ≠ j → co'.2.1 k i = co.2.1 k i := fun k i h => c3 k i (Or.inr h)
  have hold : ¬ co'.2.1 9 j = 2 → ¬ co.2.1 9 j = 2 := h2
  refine ⟨⟨⟨m4.trans a1, a2, m5.trans a3, a4, m6.trans a5, a6, m7.trans a7, a8⟩, ?_, ?_⟩, hx, fun i h => ?_, fun i h => ?_, fun i h => ?_, fun i h => ?_, fun k h => ?_, fun p q hp hq e6 e7 n1 n2 => ?_⟩
  · rw [i0, i3]; exact v1
  · rw [i8, i9]; exact v2
  · have := hI i h
    unfold rl_I at this ⊢
    rw [i0, i1, i2, i3, i4, i6, l0, l1, g 0 i (by decide) (by decide), g 1 i (by decide) (by decide), g 2 i (by decide) (by decide), g 3 i (by decide) (by decide), g 4 i (by decide) (by decide), g 5 i (by decide) (by decide), c4 0 i (Or.inl (by decide)), c4 1 i (Or.inl (by decide)), c2]
    simp only [fi_cg i5]
    exact this
  · rw [i3, i6]; exact hI0 i h
  · obtain ⟨d1, d2, d3, d4, d5, d6, d7, d8, d9, d10, d11, d12, d13⟩ := hC i h
    unfold rl_C
    rw [i8, i9, i12, g 6 i (by decide) (by decide), g 7 i (by decide) (by decide), g 8 i (by decide) (by decide), g 10 i (by decide) (by decide), g 11 i (by decide) (by decide), g 12 i (by decide) (by decide), g 13 i (by decide) (by decide), g 14 i (by decide) (by decide)]
    simp only [lk_cg i11, be_cg i2 i8, ma_cg i14 i16 i17]
    by_cases e : i = j
    · subst e
      exact ⟨d1, d2, h10, d4, h13, h3, hst, d8, d9, d10, d11, d12, d13⟩
    · obtain ⟨z1, z2, z3⟩ := m2 (i + 1) (by omega)
      rw [z1, z2, z3, gj 9 i e, gj 15 i e, c4 2 i (Or.inr e)]
      exact ⟨d1, d2, d3, d4, d5, d6, d7, d8, d9, d10, d11, d12, d13⟩
  · rw [i11, i12, (m2 (i + 1) (by omega)).2.1, (m2 (i + 1) (by omega)).2.2]; exact hC0 i h
  · obtain ⟨d1, d2, d3, d4⟩ := hS k h
    unfold rl_S
    rw [i14, i15, i16, i17, c1, g 7 _ (by decide) (by decide), g 17 k (by decide) (by decide), g 18 k (by decide) (by decide)]
    refine ⟨d1, d2, d3, ?_⟩
    rcases d4 with ⟨x1, x2, x3, x4⟩ | x
    · refine Or.inl ⟨x1, x2, x3, ?_⟩
      by_cases e : co.1 1 k = j
      · rcases hw with hw | hw
        · rw [e, hw, ← e]; exact x4
        · exact absurd (x1.symm.trans (hw k h e)) (by decide)
      · rw [gj 9 _ e]; exact x4
    · exact Or.inr x
  · have f1 : ¬ co.2.1 9 p = 2 := by
      by_cases e : p = j
      · rw [e]; rw [e] at n1; exact h2 n1
      · rw [← gj 9 p e]; exact n1
    have f2 : ¬ co.2.1 9 q = 2 := by
      by_cases e : q = j
      · rw [e]; rw [e] at n2; exact h2 n2
      · rw [← gj 9 q e]; exact n2
    exact hU p q hp hq (by rw [← g 6 p (by decide) (by decide), ← g 6 q (by decide) (by decide)]; exact e6) (by rw [← g 7 p (by decide) (by decide), ← g 7 q (by decide) (by decide)]; exact e7) f1 f2
