/-! Pure: the claim that stands, on both sides. -/
def mt_c (co : co_T) (x kd : Int32) (j : Nat) : Prop := co.2.1 6 j = x ∧ co.2.1 7 j = kd ∧ ¬ co.2.1 9 j = 2
theorem st_sm {co : co_T} {x kd : Int32} : ∀ {k i j : Nat}, st_cl co x kd k i = some j → i ≤ j ∧ j < i + k ∧ mt_c co x kd j := by
  intro k
  induction k with
  | zero => intro i j h; cases h
  | succ k ih =>
    intro i j h
    unfold st_cl at h
    split at h
    · rename_i z
      cases h
      exact ⟨Nat.le_refl _, by omega, z⟩
    · obtain ⟨h1, h2, h3⟩ := ih h
      exact ⟨by omega, by omega, h3⟩
theorem st_no {co : co_T} {x kd : Int32} : ∀ {k i : Nat}, st_cl co x kd k i = none → ∀ j, i ≤ j → j < i + k → ¬ mt_c co x kd j := by
  intro k
  induction k with
  | zero => intro i h j h1 h2; omega
  | succ k ih =>
    intro i h j h1 h2
    unfold st_cl at h
    split at h
    · cases h
    · rename_i z
      by_cases e : j = i
      · rw [e]; exact z
      · exact ih h j (by omega) (by omega)
section PQD
variable {σ τ : xs_T} {co : co_T} {n : nn_T}
theorem ot_st (hP : rl_P σ co n) (hA : rl_A σ co τ n) {x kd but : Int32} {j : Nat} (hj : j < n.2.1) : (¬ nI (j + 1) = but ∧ τ.2.2.1 8 (nI (j + 1)).toNatClampNeg = x ∧ τ.2.2.1 9 (nI (j + 1)).toNatClampNeg = kd ∧ ¬ τ.2.2.1 10 (nI (j + 1)).toNatClampNeg = 2) ↔ (¬ nI (j + 1) = but ∧ mt_c co x kd j) := by
  obtain ⟨c1, c2, c3, -⟩ := hA.2.2.2.2.1 j hj
  rw [pq_cl hP hj, c1, c2, c3]
  exact Iff.rfl
theorem ot_no (hP : rl_P σ co n) (hA : rl_A σ co τ n) {x kd but : Int32} (h : ∀ j, j < n.2.1 → ¬ nI (j + 1) = but → ¬ mt_c co x kd j) : ∀ m, m ≤ n.2.1 → ot_r τ x kd but m = 0 := by
  intro m
  induction m with
  | zero => intro _; rfl
  | succ m ih =>
    intro hm
    unfold ot_r
    rw [if_neg (fun q => h m (by omega) ((ot_st hP hA (by omega)).mp q).1 ((ot_st hP hA (by omega)).mp q).2)]
    exact ih (by omega)
theorem ot_sm (hP : rl_P σ co n) (hA : rl_A σ co τ n) {x kd but : Int32} {j : Nat} (hj : j < n.2.1) (hb : ¬ nI (j + 1) = but) (h : mt_c co x kd j) : ∀ m, j < m → m ≤ n.2.1 → ot_r τ x kd but m = nI (j + 1) := by
  intro m
  induction m with
  | zero => intro h1; omega
  | succ m ih =>
    intro h1 hm
    unfold ot_r
    by_cases e : m = j
    · subst e
      rw [if_pos ((ot_st hP hA hj).mpr ⟨hb, h⟩)]
    · rw [if_neg (fun q => e (hA.2.2.2.2.2.2.2 m j (by omega) hj (((ot_st hP hA (by omega)).mp q).2.1.trans h.1.symm) (((ot_st hP hA (by omega)).mp q).2.2.1.trans h.2.1.symm) ((ot_st hP hA (by omega)).mp q).2.2.2 h.2.2))]
      exact ih (by omega) (by omega)
theorem pd_iff (hP : rl_P σ co n) (hA : rl_A σ co τ n) (x kd : Int32) : ∀ m, m ≤ n.2.1 → pd_r τ x kd m = bb_v (decide (∃ j, j < m ∧ co.2.1 6 j = x ∧ co.2.1 7 j = kd ∧ co.2.1 9 j = 1)) := by
  intro m
  induction m with
  | zero => intro _; exact (bb_f (by rintro ⟨j, h, -⟩; omega)).symm
  | succ m ih =>
    intro hm
    obtain ⟨c1, c2, c3, -⟩ := hA.2.2.2.2.1 m (by omega)
    unfold pd_r
    rw [ih (by omega), pq_cl hP (show m < n.2.1 by omega), c1, c2, c3]
    by_cases h : ∃ j, j < m ∧ co.2.1 6 j = x ∧ co.2.1 7 j = kd ∧ co.2.1 9 j = 1
    · rw [if_pos (Or.inl (by rw [bb_t h]; decide))]
      obtain ⟨j, h1, h2⟩ := h
      exact (bb_t ⟨j, by omega, h2⟩).symm
    · by_cases h2 : co.2.1 6 m = x ∧ co.2.1 7 m = kd ∧ co.2.1 9 m = 1
      · rw [if_pos (Or.inr h2)]
        exact (bb_t ⟨m, by omega, h2⟩).symm
      · rw [if_neg (fun q => q.elim (fun z => z (bb_f h)) h2)]
        refine (bb_f ?_).symm
        rintro ⟨j, h3, h4⟩
        by_cases e : j = m
        · exact h2 (e ▸ h4)
        · exact h ⟨j, by omega, h4⟩
theorem pq_paid (hP : rl_P σ co n) (hA : rl_A σ co τ n) (a b : Int32) : bb_v (kc_paid (σ, co) a b) = pd_r τ a b n.2.1 := by
  rw [pd_iff hP hA a b n.2.1 (Nat.le_refl _)]
  have hc : (σ.1 1).toNatClampNeg = n.2.1 := by rw [hP.1.2.2.1]; exact nI_clamp (by have := hP.1.2.2.2.1; omega)
  unfold kc_paid
  simp only [hc]
  cases hs : st_cl co a b n.2.1 0 with
  | none =>
    refine (bb_f ?_).symm
    rintro ⟨j, h1, h2, h3, h4⟩
    exact st_no hs j (Nat.zero_le _) (by omega) ⟨h2, h3, by rw [h4]; decide⟩
  | some j =>
    obtain ⟨h1, h2, h3⟩ := st_sm hs
    simp only [Option.elim]
    by_cases e : co.2.1 9 j = 1
    · rw [bb_t e, bb_t ⟨j, by omega, h3.1, h3.2.1, e⟩]
    · rw [bb_f e]
      refine (bb_f ?_).symm
      rintro ⟨i, i1, i2, i3, i4⟩
      have := hA.2.2.2.2.2.2.2 i j i1 (by omega) (i2.trans h3.1.symm) (i3.trans h3.2.1.symm) (by rw [i4]; decide) h3.2.2
      exact e (this ▸ i4)
end PQD
