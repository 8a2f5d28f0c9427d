/-! Pure: sums, letters sent. -/
section PQC
variable {σ τ : xs_T} {co : co_T} {n : nn_T}
theorem pq_cl (hP : rl_P σ co n) {j : Nat} (hj : j < n.2.1) : (nI (j + 1)).toNatClampNeg = j + 1 := nI_clamp (by have := hP.1.2.2.2.1; omega)
theorem pq_it (hP : rl_P σ co n) {j : Nat} (hj : j < n.2.1) : co.1 0 j < n.1 ∧ co.2.1 6 j = nI (co.1 0 j + 1) ∧ (nI (co.1 0 j + 1)).toNatClampNeg = co.1 0 j + 1 := by
  obtain ⟨h1, h2, -⟩ := hP.2.1.2.1 j hj
  exact ⟨h1, h2, nI_clamp (by have := hP.1.2.1; omega)⟩
theorem pq_min (a b : Int64) : (if b < a then b else a) = if a < b then a else b := by
  by_cases h1 : b < a
  · rw [if_pos h1, if_neg (fun q => by rw [Int64.lt_iff_toInt_lt] at h1 q; omega)]
  · by_cases h2 : a < b
    · rw [if_neg h1, if_pos h2]
    · rw [if_neg h1, if_neg h2]
      exact Int64.toInt_inj.mp (by rw [Int64.lt_iff_toInt_lt] at h1 h2; omega)
theorem pq_sm (hP : rl_P σ co n) (hA : rl_A σ co τ n) {j : Nat} (hj : j < n.2.1) : su_m σ co j = sm_n τ (nI (j + 1)) := by
  obtain ⟨i1, i2, i3⟩ := pq_it hP hj
  obtain ⟨c1, c2, c3, c4, c5, c6, -⟩ := hA.2.2.2.2.1 j hj
  obtain ⟨d1, d2, d3, d4, d5, d6, d7, -⟩ := hA.2.2.1 _ i1
  obtain ⟨x1, x2, x3, x4, x5, x6, x7, x8, x9⟩ := hA.2.1
  unfold su_m sm_n
  simp only [pq_cl hP hj, c1, c2, i2, i3, d1, d2, d3, x6]
  rw [Int32.mul_comm 4 (co.2.1 0 (co.1 0 j)), pq_min]
theorem pq_sum (hP : rl_P σ co n) (hA : rl_A σ co τ n) (a : Int32) : kc_sum (σ, co) a = kr_sum τ a := by
  have ec : τ.1 1 = σ.1 1 := hA.1.1.2.2.1.trans hP.1.2.2.1.symm
  unfold kc_sum kr_sum
  rw [ec]
  rcases pq_nm (x := a) hP.1.2.2.1 (by have := hP.1.2.2.2.1; omega) with ⟨h1, h2⟩ | ⟨j, hj, h1, h2, h3, h4⟩
  · simp only [h1, if_neg h2, Option.elim]
  · obtain ⟨c1, c2, c3, c4, c5, c6, -⟩ := hA.2.2.2.2.1 j hj
    simp only [h1, if_pos h2, Option.elim, h4, c3, c6]
    rw [h3, pq_sm hP hA hj]
/-- a letter goes out on both sides -/
theorem pq_send {σ' τ' : xs_T} {n' : nn_T} (hA : rl_A σ' co τ' n') (e : σ'.1 3 = τ'.1 4) (hb : n'.2.2.2 < 90000) (c k : Int32) : rl_A (se_nd σ' c k) co (sm_nd τ' c k) (n'.1, n'.2.1, n'.2.2.1, n'.2.2.2 + 1) := by
  have h4 : τ'.1 4 = nI n'.2.2.2 := hA.1.1.2.2.2.2.2.2.1
  obtain ⟨x1, x2, x3, x4, x5, x6, x7, x8, x9⟩ := hA.2.1
  unfold se_nd sm_nd
  rw [e]
  by_cases h : τ'.1 4 < 200
  · simp only [if_pos h]
    refine rl_T hA _ (by omega) rfl rfl rfl ?_ (fun k _ h1 h2 => by simp [xs_i, xs_ai, va_up, h1, h2]) (fun k _ _ => rfl) ⟨x1, x2, x3, x4, x5, x6, x7, ?_, ?_⟩
    · show τ'.1 4 + 1 = _; rw [h4]; exact nI_1 _
    · simp [xs_i, xs_ai, va_up, x8]
    · simp [xs_i, xs_ai, va_up, x9]
  · simp only [if_neg h]
    refine rl_T hA _ (by omega) rfl rfl rfl ?_ (fun k _ _ _ => rfl) (fun k _ _ => rfl) ⟨x1, x2, x3, x4, x5, x6, x7, x8, x9⟩
    show τ'.1 4 + 1 = _; rw [h4]; exact nI_1 _
end PQC
