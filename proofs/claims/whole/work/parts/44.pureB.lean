/-! Pure: what reads, and letters. -/
section PQB
variable {σ τ : xs_T} {co : co_T} {n : nn_T}
theorem pq_table (hP : rl_P σ co n) (hA : rl_A σ co τ n) (a b : Int32) (c : Int64) (d : Int32) : rl_M (σ, co) τ n (kc_table (σ, co) a b c d) (kr_table τ a b c d) := by
  unfold kc_table kr_table
  simp only [pq_3]
  by_cases h1 : 0 ≤ a ∧ a < 4
  · by_cases h2 : 0 ≤ b ∧ b < 4
    · by_cases h3 : 0 ≤ c ∧ c ≤ 10000000
      · by_cases h4 : (0 : Int64) ≤ d.toInt64 ∧ d.toInt64 ≤ 10000
        · simp only [if_pos h1, if_pos h2, if_pos h3, if_pos h4]
          refine ⟨rfl, fun n' h => ?_⟩
          rw [rl_n (n := n) (co := co) hP h]
          obtain ⟨x1, x2, x3, x4, x5, x6, x7, x8, x9⟩ := hA.2.1
          have e : 4 * a + b = a * 4 + b := by rw [Int32.mul_comm]
          exact rl_T hA n.2.2.2 hA.1.1.2.2.2.2.2.2.2 rfl rfl rfl hA.1.1.2.2.2.2.2.2.1 (fun k h7 _ _ => by simp [xs_al, xs_ai, va_up, h7]) (fun k h2 h4 => by simp [xs_al, xs_ai, va_up, h2]) ⟨x1, x2, x3, x4, by simp [xs_al, xs_ai, va_up, x5, e], by simp [xs_al, xs_ai, va_up, x6, e], x7, x8, x9⟩
        · simp only [if_pos h1, if_pos h2, if_pos h3, if_neg h4]; exact rl_no hP hA _
      · simp only [if_pos h1, if_pos h2, if_neg h3]; exact rl_no hP hA _
    · simp only [if_pos h1, if_neg h2]; exact rl_no hP hA _
  · simp only [if_neg h1]; exact rl_no hP hA _
theorem pq_all (hP : rl_P σ co n) (hA : rl_A σ co τ n) (a : Int32) : kc_all (σ, co) a = kr_all τ a := by
  obtain ⟨x1, x2, x3, x4, x5, x6, x7, x8, x9⟩ := hA.2.1
  unfold kc_all kr_all
  simp only [x2, x3, x4, hA.1.1.2.2.2.2.2.2.1, hP.1.2.2.2.2.2.2]
theorem pq_letter (hP : rl_P σ co n) (hA : rl_A σ co τ n) (a b : Int32) : kc_letter (σ, co) a b = kr_letter τ a b := by
  obtain ⟨x1, x2, x3, x4, x5, x6, x7, x8, x9⟩ := hA.2.1
  unfold kc_letter kr_letter
  have e3 : σ.1 3 = nI n.2.2.2 := hP.1.2.2.2.2.2.2
  have e4 : τ.1 4 = nI n.2.2.2 := hA.1.1.2.2.2.2.2.2.1
  have hb := hP.2.2
  simp only [e3, e4, x8, x9]
  by_cases h0 : a < 0
  · rw [if_pos h0, if_neg (fun q => absurd q.1 (Int32.not_le.mpr h0))]
  · rw [if_neg h0]
    by_cases h1 : nI n.2.2.2 ≤ a
    · rw [if_pos h1, if_neg]
      rintro ⟨-, q⟩
      rw [Int32.le_iff_toInt_le] at h1
      rw [Int32.lt_iff_toInt_lt] at q
      split at q
      · rename_i z
        rw [Int32.lt_iff_toInt_lt] at z
        omega
      · omega
    · rw [if_neg h1]
      by_cases h2 : (200 : Int32) ≤ a
      · rw [if_pos h2, if_neg]
        rintro ⟨-, q⟩
        rw [Int32.le_iff_toInt_le] at h1 h2
        rw [Int32.lt_iff_toInt_lt] at q
        split at q
        · omega
        · rename_i z
          rw [Int32.lt_iff_toInt_lt] at z
          omega
      · rw [if_neg h2, if_pos]
        refine ⟨Int32.not_lt.mp h0, ?_⟩
        split
        · exact Int32.not_le.mp h2
        · exact Int32.not_le.mp h1
/-- a number that names a row, on both sides -/
theorem pq_nm {x c : Int32} {m : Nat} (hc : c = nI m) (hm : m ≤ 100) : (na_m x c = none ∧ ¬ (1 ≤ x ∧ x ≤ c)) ∨ ∃ j : Nat, j < m ∧ na_m x c = some j ∧ (1 ≤ x ∧ x ≤ c) ∧ x = nI (j + 1) ∧ x.toNatClampNeg = j + 1 := by
  by_cases h : 1 ≤ x ∧ x ≤ c
  · obtain ⟨j, h1, h2, h3⟩ := nu_j hc hm h
    refine Or.inr ⟨j, h1, by rw [na_m, if_pos h, h3], h, h2, ?_⟩
    rw [h2]; exact nI_clamp (by omega)
  · exact Or.inl ⟨if_neg h, h⟩
end PQB
