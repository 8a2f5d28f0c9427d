/-! Pure: states that agree where it matters; calls that change tables, limits, letters, totals. -/
theorem fi_cg {τ τ' : xs_T} (h : τ'.2.2.1 5 = τ.2.2.1 5) (it : Int32) (v : Nat) : fi_r τ' it v = fi_r τ it v := by
  induction v with
  | zero => rfl
  | succ v ih => unfold fi_r; rw [h, ih]
theorem be_cg {τ τ' : xs_T} (h2 : τ'.2.2.1 2 = τ.2.2.1 2) (h8 : τ'.2.2.1 8 = τ.2.2.1 8) (x : Int32) (v : Nat) : be_r τ' x v = be_r τ x v := by
  induction v with
  | zero => rfl
  | succ v ih => unfold be_r; rw [h2, h8, ih]
theorem ma_cg {τ τ' : xs_T} (h4 : τ'.2.2.1 14 = τ.2.2.1 14) (h6 : τ'.2.2.1 16 = τ.2.2.1 16) (h7 : τ'.2.2.1 17 = τ.2.2.1 17) (x w : Int32) (v : Nat) : ma_r τ' x w v = ma_r τ x w v := by
  induction v with
  | zero => rfl
  | succ v ih => unfold ma_r; rw [h4, h6, h7, ih]
theorem lk_cg {τ τ' : xs_T} (h : τ'.2.2.1 11 = τ.2.2.1 11) (j : Nat) (kd : Int32) (p : Nat) : lk_b τ' j kd p = lk_b τ j kd p := by unfold lk_b; rw [h]
def rl_X (σ τ : xs_T) : Prop := τ.1 3 = σ.1 4 ∧ τ.1 5 = σ.1 5 ∧ τ.2.1 0 = σ.2.1 0 ∧ τ.2.1 1 = σ.2.1 1 ∧ τ.2.2.1 7 = σ.2.2.1 0 ∧ τ.2.2.2.1 2 = σ.2.2.2.1 0 ∧ τ.2.2.2.1 4 = σ.2.2.2.1 1 ∧ τ.2.2.1 18 = σ.2.2.1 1 ∧ τ.2.2.1 19 = σ.2.2.1 2
/-- only tables, limits, letters, clock and totals change -/
theorem rl_T {σ σ' τ τ' : xs_T} {co : co_T} {n : nn_T} (hA : rl_A σ co τ n) (m : Nat) (hm : m < 100000) (h0 : τ'.1 0 = τ.1 0) (h1 : τ'.1 1 = τ.1 1) (h2 : τ'.1 2 = τ.1 2) (h4 : τ'.1 4 = nI m) (hi : ∀ k, k ≠ 7 → k ≠ 18 → k ≠ 19 → τ'.2.2.1 k = τ.2.2.1 k) (hl : ∀ k, k ≠ 2 → k ≠ 4 → τ'.2.2.2.1 k = τ.2.2.2.1 k) (hs : rl_X σ' τ') : rl_A σ' co τ' (n.1, n.2.1, n.2.2.1, m) := by
  obtain ⟨⟨⟨a1, a2, a3, a4, a5, a6, -, -⟩, v1, v2⟩, -, hI, hI0, hC, hC0, hS, hU⟩ := hA
  have i0 := hi 0 (by decide) (by decide) (by decide)
  have i1 := hi 1 (by decide) (by decide) (by decide)
  have i2 := hi 2 (by decide) (by decide) (by decide)
  have i3 := hi 3 (by decide) (by decide) (by decide)
  have i4 := hi 4 (by decide) (by decide) (by decide)
  have i5 := hi 5 (by decide) (by decide) (by decide)
  have i6 := hi 6 (by decide) (by decide) (by decide)
  have i8 := hi 8 (by decide) (by decide) (by decide)
  have i9 := hi 9 (by decide) (by decide) (by decide)
  have i10 := hi 10 (by decide) (by decide) (by decide)
  have i11 := hi 11 (by decide) (by decide) (by decide)
  have i12 := hi 12 (by decide) (by decide) (by decide)
  have i13 := hi 13 (by decide) (by decide) (by decide)
  have i14 := hi 14 (by decide) (by decide) (by decide)
  have i15 := hi 15 (by decide) (by decide) (by decide)
  have i16 := hi 16 (by decide) (by decide) (by decide)
  have i17 := hi 17 (by decide) (by decide) (by decide)
  have l0 := hl 0 (by decide) (by decide)
  have l1 := hl 1 (by decide) (by decide)
  have l3 := hl 3 (by decide) (by decide)
  refine ⟨⟨⟨h0.trans a1, a2, h1.trans a3, a4, h2.trans a5, a6, h4, hm⟩, ?_, ?_⟩, hs, fun i h => ?_, fun i h => ?_, fun j h => ?_, fun j h => ?_, fun k h => ?_, hU⟩
  · rw [i0, i3]; exact v1
  · rw [i8, i9]; exact v2
  · have := hI i h
    unfold rl_I at this ⊢
    rw [i0, i1, i2, i3, i4, i6, l0, l1]
    simp only [fi_cg i5]
    exact this
  · rw [i3, i6]; exact hI0 i h
  · have := hC j h
    unfold rl_C at this ⊢
    rw [i8, i9, i10, i12, i13, l3]
    simp only [lk_cg i11, be_cg i2 i8, ma_cg i14 i16 i17]
    exact this
  · rw [i11, i12, i13, l3]; exact hC0 j h
  · have := hS k h
    unfold rl_S at this ⊢
    rw [i14, i15, i16, i17]
    exact this
theorem rl_n {σ : xs_T} {co co' : co_T} {n n' : nn_T} (h : rl_P σ co n) (h' : rl_P σ co' n') : n' = n := by
  obtain ⟨⟨a1, a2, a3, a4, a5, a6, a7⟩, -, a8⟩ := h
  obtain ⟨⟨b1, b2, b3, b4, b5, b6, b7⟩, -, b8⟩ := h'
  have e1 := (nI_eq (by omega) (by omega)).mp (b1.symm.trans a1)
  have e2 := (nI_eq (by omega) (by omega)).mp (b3.symm.trans a3)
  have e3 := (nI_eq (by omega) (by omega)).mp (b5.symm.trans a5)
  have e4 := (nI_eq (by omega) (by omega)).mp (b7.symm.trans a7)
  obtain ⟨x1, x2, x3, x4⟩ := n
  obtain ⟨y1, y2, y3, y4⟩ := n'
  simp only at e1 e2 e3 e4
  rw [e1, e2, e3, e4]
/-- a refusal: nothing changes -/
theorem rl_no {σ τ : xs_T} {co : co_T} {n : nn_T} (hP : rl_P σ co n) (hA : rl_A σ co τ n) (r : Int32) : rl_M (σ, co) τ n (r, (σ, co)) (r, τ) := ⟨rfl, fun n' h => by rw [rl_n hP h]; exact hA⟩
theorem pq_b {x : Int32} {y : Int64} {z : Int32} {N : Nat} (hN : N < 2 ^ 30) (hy : y = lN N) (hz : z = nI (N + 1)) : ((0 : Int64) ≤ x.toInt64 ∧ x.toInt64 ≤ y) ↔ (0 ≤ x ∧ x < z) := by
  rw [hy, hz, Int64.le_iff_toInt_le, Int64.le_iff_toInt_le, Int32.toInt_toInt64, Int64.toInt_zero, lN_toInt (by omega), Int32.le_iff_toInt_le, Int32.lt_iff_toInt_lt, Int32.toInt_zero, nI_toInt (by omega)]
  omega
theorem pq_3 {x : Int32} : ((0 : Int64) ≤ x.toInt64 ∧ x.toInt64 ≤ 3) ↔ (0 ≤ x ∧ x < 4) := pq_b (N := 3) (by decide) rfl rfl
theorem pq_5 {x : Int32} : ((0 : Int64) ≤ x.toInt64 ∧ x.toInt64 ≤ 5) ↔ (0 ≤ x ∧ x < 6) := pq_b (N := 5) (by decide) rfl rfl
theorem pq_9 {x : Int32} : ((0 : Int64) ≤ x.toInt64 ∧ x.toInt64 ≤ 9) ↔ (0 ≤ x ∧ x < 10) := pq_b (N := 9) (by decide) rfl rfl
theorem pq_19 {x : Int32} : ((0 : Int64) ≤ x.toInt64 ∧ x.toInt64 ≤ 19) ↔ (0 ≤ x ∧ x < 20) := pq_b (N := 19) (by decide) rfl rfl
theorem pq_49 {x : Int32} : ((0 : Int64) ≤ x.toInt64 ∧ x.toInt64 ≤ 49) ↔ (0 ≤ x ∧ x < 50) := pq_b (N := 49) (by decide) rfl rfl
section PQA
variable {σ τ : xs_T} {co : co_T} {n : nn_T}
theorem pq_limit (hP : rl_P σ co n) (hA : rl_A σ co τ n) (a : Int32) (b : Int64) : rl_M (σ, co) τ n (kc_limit (σ, co) a b) (kr_limit τ a b) := by
  unfold kc_limit kr_limit
  simp only [pq_9]
  by_cases h1 : 0 ≤ a ∧ a < 10
  · by_cases h2 : 0 ≤ b ∧ b ≤ 10000000
    · simp only [if_pos h1, if_pos h2]
      refine ⟨rfl, fun n' h => ?_⟩
      rw [rl_n (n := n) (co := co) hP h]
      obtain ⟨x1, x2, x3, x4, x5, x6, x7, x8, x9⟩ := hA.2.1
      exact rl_T hA n.2.2.2 hA.1.1.2.2.2.2.2.2.2 rfl rfl rfl hA.1.1.2.2.2.2.2.2.1 (fun k _ _ _ => rfl) (fun k h2 h4 => by simp [xs_al, va_up, h4]) ⟨x1, x2, x3, x4, x5, x6, by simp [xs_al, va_up, x7], x8, x9⟩
    · simp only [if_pos h1, if_neg h2]; exact rl_no hP hA _
  · simp only [if_neg h1]; exact rl_no hP hA _
end PQA
