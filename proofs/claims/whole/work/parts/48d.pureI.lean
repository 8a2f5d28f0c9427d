/-! Pure: letters that go out, decisions, items back. -/
theorem nI_l0 {a : Nat} (h : a < 2 ^ 31) : nI a ≤ 0 ↔ a = 0 := by
  rw [Int32.le_iff_toInt_le, nI_toInt h, Int32.toInt_zero]; omega
theorem sn_i (σ : xs_T) (c k : Int32) (q : Nat) : (se_nd σ c k).1 q = if q = 3 then σ.1 3 + 1 else σ.1 q := by
  unfold se_nd
  split <;> simp [xs_i, xs_ai, va_up]
theorem pq_ls {σ' τ' : xs_T} {co' : co_T} {n : nn_T} (hX : re_X σ' n) (hb : n.2.2.2 < 10000) (hA : rl_A σ' co' τ' n) (c k : Int32) : ∀ n', rl_P (se_nd σ' c k) co' n' → rl_A (se_nd σ' c k) co' (sm_nd τ' c k) n' := by
  intro n' h
  obtain ⟨b1, b2, b3, b4, b5, b6, b7⟩ := hX
  have e := rl_e h (a := n.1) (b := n.2.1) (c := n.2.2.1) (d := n.2.2.2 + 1) ((sn_i _ _ _ _).trans b1) ((sn_i _ _ _ _).trans b3) ((sn_i _ _ _ _).trans b5) ((sn_i _ _ _ _).trans (by rw [if_pos rfl, b7, nI_1])) (by omega) (by omega) (by omega) (by omega)
  rw [e]
  exact pq_send hA (b7.trans hA.1.1.2.2.2.2.2.2.1.symm) (by omega) c k
section PQI
variable {σ τ : xs_T} {co : co_T} {n : nn_T}
/-- a search that is for claim j, in the reference, is so in the class -/
theorem se_j (hP : rl_P σ co n) (hA : rl_A σ co τ n) {k j : Nat} (hk : k < n.2.2.1) (hj : j < 100) (h : τ.2.2.1 14 (k + 1) = nI (j + 1)) : co.1 1 k = j := by
  have h1 := hP.2.1.2.2 k hk
  have h2 := hP.1.2.2.2.1
  have := (nI_eq (by omega) (by omega)).mp ((hA.2.2.2.2.2.2.1 k hk).1.symm.trans h)
  omega
/-- what waits for an answer is of a claim that is open -/
theorem se_w (hP : rl_P σ co n) (hA : rl_A σ co τ n) {k j : Nat} (hk : k < n.2.2.1) (hj : j < 100) (h : cn_m τ (nI (j + 1)) 0 (k + 1)) : co.2.1 18 k = 1 ∧ co.1 1 k = j ∧ co.2.1 9 j = 0 := by
  have e := se_j hP hA hk hj h.1
  rcases (hA.2.2.2.2.2.2.1 k hk).2.2.2 with ⟨x1, x2, x3, x4⟩ | ⟨x1, x2⟩
  · exact ⟨x1, e, by rw [← e]; exact x4⟩
  · rcases x2 with x2 | x2
    · exact absurd (h.2.2.symm.trans x2) (by decide)
    · exact absurd (h.2.2.symm.trans x2) (by decide)
/-- no search waits: none is open in the class -/
theorem se_z (hP : rl_P σ co n) (hA : rl_A σ co τ n) {j : Nat} (hj : j < n.2.1) (h : ma_r τ (nI (j + 1)) 0 n.2.2.1 = 0) : ∀ k, k < n.2.2.1 → co.1 1 k = j → co.2.1 18 k = 0 := by
  intro k hk e
  obtain ⟨s1, s2, s3, s4⟩ := hA.2.2.2.2.2.2.1 k hk
  rcases s4 with ⟨x1, x2, x3, x4⟩ | ⟨x1, x2⟩
  · exact absurd ⟨by rw [s1, e], x3, x2⟩ ((ma_0 _ hP.1.2.2.2.2.2.1).mp h k hk)
  · exact x1
/-- a claim of another kind has no searches -/
theorem se_k (hP : rl_P σ co n) (hA : rl_A σ co τ n) {j : Nat} (hj : j < n.2.1) (h : ¬ co.2.1 7 j = 0) (w : Int32) : ma_r τ (nI (j + 1)) w n.2.2.1 = 0 := by
  refine (ma_0 _ hP.1.2.2.2.2.2.1).mpr (fun k hk q => h ?_)
  have e := se_j hP hA hk (by have := hP.1.2.2.2.1; omega) q.1
  rw [← e]; exact (hA.2.2.2.2.2.2.1 k hk).2.2.1
theorem rl_pay (hP : rl_P σ co n) (hA : rl_A σ co τ n) {j : Nat} (hj : j < n.2.1) (h9 : co.2.1 9 j = 0) (hz : ma_r τ (nI (j + 1)) 0 n.2.2.1 = 0) : rl_M (σ, co) τ n (1, (se_nd (xs_l σ 0 (σ.2.1 0 + su_m σ co j)) (nI (j + 1)) 3, (co.1, up_2 co.2.1 9 j 1, up_2 co.2.2.1 2 j (su_m σ co j), co.2.2.2))) (1, py_m τ (nI (j + 1))) := by
  obtain ⟨x1, x2, x3, x4, x5, x6, x7, x8, x9⟩ := hA.2.1
  unfold py_m
  rw [pq_cl hP hj, ← pq_sm hP hA hj]
  obtain ⟨c1, c2, c3, c4, c5, c6, c7, -⟩ := hA.2.2.2.2.1 j hj
  refine ⟨rfl, pq_ls (σ' := xs_l σ 0 (σ.2.1 0 + su_m σ co j)) hP.1 hP.2.2 ?_ _ _⟩
  refine rl_C1 hA hj ⟨rfl, rfl, fun k i h => u2_o (by omega), fun k i h => u2_o h⟩ ⟨fun k h10 _ _ _ _ => ?_, fun i hi => ⟨by simp [xs_l, xs_al, xs_ai, va_up, upd, hi], rfl, by simp [xs_l, xs_al, xs_ai, va_up, vp_updL, hi]⟩, fun k h3 _ _ => ?_, rfl, rfl, rfl, rfl⟩ ⟨x1, x2, ?_, x4, x5, ?_, ?_, ?_, ?_⟩ ?_ ?_ ?_ ?_ ?_ (Or.inr (se_z hP hA hj hz))
  · simp [xs_l, xs_al, xs_ai, va_up, h10]
  · simp [xs_l, xs_al, xs_ai, va_up, h3]
  · simp [xs_l, xs_al, xs_ai, va_up, x3]
  · simp [xs_l, xs_al, xs_ai, va_up, x6]
  · simp [xs_l, xs_al, xs_ai, va_up, x7]
  · simp [xs_l, xs_al, xs_ai, va_up, x8]
  · simp [xs_l, xs_al, xs_ai, va_up, x9]
  · simp [xs_l, xs_al, xs_ai, va_up, upd, up_2]
  · simp [xs_l, xs_al, xs_ai, va_up, upd, up_2, c5]
  · simp [xs_l, xs_al, xs_ai, va_up, vp_updL, up_2]
  · exact Or.inr (Or.inl (up_2s co.2.1 9 j 1))
  · intro _; rw [h9]; decide
theorem rl_ref (hP : rl_P σ co n) (hA : rl_A σ co τ n) {j : Nat} (hj : j < n.2.1) (hz : ma_r τ (nI (j + 1)) 0 n.2.2.1 = 0) : rl_M (σ, co) τ n (2, (se_nd (xs_i σ 5 (σ.1 5 + 1)) (nI (j + 1)) 4, co_g co (up_2 co.2.1 9 j 2))) (2, rf_m τ (nI (j + 1))) := by
  obtain ⟨x1, x2, x3, x4, x5, x6, x7, x8, x9⟩ := hA.2.1
  unfold rf_m
  rw [pq_cl hP hj]
  obtain ⟨c1, c2, c3, c4, c5, c6, c7, -⟩ := hA.2.2.2.2.1 j hj
  refine ⟨rfl, pq_ls (σ' := xs_i σ 5 (σ.1 5 + 1)) hP.1 hP.2.2 ?_ _ _⟩
  refine rl_C1 hA hj ⟨rfl, rfl, fun k i h => u2_o (by omega), fun k i h => rfl⟩ ⟨fun k h10 _ _ _ _ => ?_, fun i hi => ⟨by simp [xs_i, xs_ai, va_up, upd, hi], rfl, rfl⟩, fun k h3 _ _ => rfl, rfl, rfl, rfl, rfl⟩ ⟨x1, ?_, x3, x4, x5, x6, x7, ?_, ?_⟩ ?_ ?_ c6 ?_ ?_ (Or.inr (se_z hP hA hj hz))
  · simp [xs_i, xs_al, xs_ai, va_up, h10]
  · simp [xs_i, xs_al, xs_ai, va_up, x2]
  · simp [xs_i, xs_al, xs_ai, va_up, x8]
  · simp [xs_i, xs_al, xs_ai, va_up, x9]
  · simp [xs_i, xs_al, xs_ai, va_up, upd, up_2, co_g]
  · simp [xs_i, xs_al, xs_ai, va_up, upd, up_2, co_g, c5]
  · exact Or.inr (Or.inr (up_2s co.2.1 9 j 2))
  · intro h; exact absurd (up_2s co.2.1 9 j 2) h
theorem pq_dp (hP : rl_P σ co n) (hA : rl_A σ co τ n) {j : Nat} (hj : j < n.2.1) (h9 : co.2.1 9 j = 0) (hz : ma_r τ (nI (j + 1)) 0 n.2.2.1 = 0) (b : Int32) : rl_M (σ, co) τ n (if σ.2.2.2.1 1 b.toNatClampNeg < su_m σ co j then (-107, (σ, co)) else (1, (se_nd (xs_l σ 0 (σ.2.1 0 + su_m σ co j)) (nI (j + 1)) 3, (co.1, up_2 co.2.1 9 j 1, up_2 co.2.2.1 2 j (su_m σ co j), co.2.2.2)))) (dp_m τ (nI (j + 1)) b) := by
  unfold dp_m
  rw [← pq_sm hP hA hj, hA.2.1.2.2.2.2.2.2.1]
  by_cases h : σ.2.2.2.1 1 b.toNatClampNeg < su_m σ co j
  · rw [if_pos h, if_pos h]; exact rl_no hP hA _
  · rw [if_neg h, if_neg h]; exact rl_pay hP hA hj h9 hz
theorem pq_decide (hP : rl_P σ co n) (hA : rl_A σ co τ n) (a b : Int32) : rl_M (σ, co) τ n (kc_decide (σ, co) a b) (kr_decide τ a b) := by
  have ec : τ.1 1 = σ.1 1 := hA.1.1.2.2.1.trans hP.1.2.2.1.symm
  unfold kc_decide kr_decide
  rw [ec]
  simp only [pq_9, pq_n2 hP hA]
  rcases pq_nm (x := a) hP.1.2.2.1 (by have := hP.1.2.2.2.1; omega) with ⟨h1, h2⟩ | ⟨j, hj, h1, h2, h3, h4⟩
  · simp only [h1, if_neg h2, Option.elim]; exact rl_no hP hA _
  · obtain ⟨c1, c2, c3, c4, c5, c6, c7, c8, c9, c10, c11, c12, c13⟩ := hA.2.2.2.2.1 j hj
    simp only [h1, if_pos h2, Option.elim, h4, c2, c3]
    rw [h3]
    by_cases q1 : 0 ≤ b ∧ b < 10
    · by_cases q2 : co.2.1 9 j = 0
      · by_cases q3 : co.2.1 10 j = 0
        · have l0 : la_r τ (nI (j + 1)) 4 ≤ 0 := (la_0 hP hA hj).mpr q3
          by_cases q4 : co.2.1 7 j = 0
          · obtain ⟨a0, y0, z0⟩ := ma_le (τ := τ) (x := nI (j + 1)) (w := 0) n.2.2.1 hP.1.2.2.2.2.2.1
            obtain ⟨a1, y1, z1⟩ := ma_le (τ := τ) (x := nI (j + 1)) (w := 1) n.2.2.1 hP.1.2.2.2.2.2.1
            obtain ⟨a2, y2, z2⟩ := ma_le (τ := τ) (x := nI (j + 1)) (w := 2) n.2.2.1 hP.1.2.2.2.2.2.1
            have hb := hP.1.2.2.2.2.2.1
            have e11 : co.2.1 11 j = nI (a0 + a1 + a2) := by rw [c11, z0, z1, z2, nI_add, nI_add]
            have e12 : co.2.1 12 j = nI a0 := c10.trans z0
            by_cases q5 : a0 = 0
            · have m0 : ma_r τ (nI (j + 1)) 0 n.2.2.1 = 0 := by rw [z0, q5]; rfl
              by_cases q6 : a1 + a2 = 0
              · rw [if_pos q1, if_neg (c := co.2.1 9 j = 0 ∧ co.2.1 10 j = 0 ∧ (¬ co.2.1 7 j = 0 ∨ (0 < co.2.1 11 j ∧ co.2.1 12 j = 0))), if_pos q1, if_pos q2, if_pos l0, if_pos q4, if_pos (show ma_r τ (nI (j + 1)) 0 n.2.2.1 ≤ 0 by rw [m0]; decide), if_pos (show ma_r τ (nI (j + 1)) 1 n.2.2.1 + ma_r τ (nI (j + 1)) 2 n.2.2.1 = 0 by rw [z1, z2, nI_add, q6]; rfl)]
                · exact rl_no hP hA _
                · rintro ⟨-, -, z | ⟨z, -⟩⟩
                  · exact z q4
                  · rw [e11, q5, show 0 + a1 + a2 = 0 by omega] at z; exact absurd z (by decide)
              · have y11 : 0 < co.2.1 11 j := by rw [e11]; exact nI_lt (a := 0) (by omega) (by omega)
                have y12 : co.2.1 12 j = 0 := by rw [e12, q5]; rfl
                rw [if_pos q1, if_pos ⟨q2, q3, Or.inr ⟨y11, y12⟩⟩, if_pos q1, if_pos q2, if_pos l0, if_pos q4, if_pos (show ma_r τ (nI (j + 1)) 0 n.2.2.1 ≤ 0 by rw [m0]; decide), if_neg (show ¬ ma_r τ (nI (j + 1)) 1 n.2.2.1 + ma_r τ (nI (j + 1)) 2 n.2.2.1 = 0 by rw [z1, z2, nI_add]; exact nI_ne0 (by omega) (by omega))]
                · by_cases q7 : co.2.1 13 j = 0
                  · rw [if_pos q7, if_pos (show ma_r τ (nI (j + 1)) 1 n.2.2.1 ≤ 0 by rw [c12.mp q7]; decide)]
                    exact pq_dp hP hA hj q2 m0 b
                  · rw [if_neg q7, if_neg]
                    · exact rl_ref hP hA hj m0
                    · intro z
                      rw [z1, nI_l0 (by omega)] at z
                      exact q7 (c12.mpr (by rw [z1, z]; rfl))
            · rw [if_pos q1, if_neg (c := co.2.1 9 j = 0 ∧ co.2.1 10 j = 0 ∧ (¬ co.2.1 7 j = 0 ∨ (0 < co.2.1 11 j ∧ co.2.1 12 j = 0))), if_pos q1, if_pos q2, if_pos l0, if_pos q4, if_neg]
              · exact rl_no hP hA _
              · rw [z0, nI_l0 (by omega)]; exact q5
              · rintro ⟨-, -, z | ⟨-, z⟩⟩
                · exact z q4
                · rw [e12] at z; exact absurd z (nI_ne0 (by omega) (by omega))
          · have m0 := se_k hP hA hj q4 0
            have m1 := se_k hP hA hj q4 1
            rw [if_pos q1, if_pos ⟨q2, q3, Or.inl q4⟩, if_pos q1, if_pos q2, if_pos l0, if_neg q4, if_pos (c12.mpr m1)]
            exact pq_dp hP hA hj q2 m0 b
        · rw [if_pos q1, if_neg (fun z => q3 z.2.1), if_pos q1, if_pos q2, if_neg (fun z => q3 ((la_0 hP hA hj).mp z))]; exact rl_no hP hA _
      · rw [if_pos q1, if_neg (fun z => q2 z.1), if_pos q1, if_neg q2]; exact rl_no hP hA _
    · rw [if_neg q1, if_neg q1]; exact rl_no hP hA _
theorem pq_back (hP : rl_P σ co n) (hA : rl_A σ co τ n) (a : Int32) (b : Bool) : rl_M (σ, co) τ n (kc_back (σ, co) a b) (kr_back τ a b) := by
  have ec : τ.1 1 = σ.1 1 := hA.1.1.2.2.1.trans hP.1.2.2.1.symm
  unfold kc_back kr_back
  rw [ec]
  rcases pq_nm (x := a) hP.1.2.2.1 (by have := hP.1.2.2.2.1; omega) with ⟨h1, h2⟩ | ⟨j, hj, h1, h2, h3, h4⟩
  · simp only [h1, if_neg h2, Option.elim]; exact rl_no hP hA _
  · obtain ⟨c1, c2, c3, c4, c5, c6, c7, c8, c9, c10, c11, c12, c13⟩ := hA.2.2.2.2.1 j hj
    obtain ⟨i1, i2, i3⟩ := pq_it hP hj
    obtain ⟨d1, d2, d3, d4, d5, d6, d7, d8⟩ := hA.2.2.1 _ i1
    obtain ⟨x1, x2, x3, x4, x5, x6, x7, x8, x9⟩ := hA.2.1
    simp only [h1, if_pos h2, Option.elim, h4, c1, c2, c3, c5, c6, i2, i3, d7, x4]
    by_cases q1 : co.2.1 7 j = 0
    · by_cases q2 : co.2.1 9 j = 1
      · by_cases q3 : co.2.1 5 (co.1 0 j) = 0
        · simp only [if_pos q1, if_pos q2, if_pos q3]; exact rl_no hP hA _
        · by_cases q4 : co.2.1 15 j = 0
          · simp only [if_pos q1, if_pos q2, if_neg q3, if_pos q4]
            have H : ∀ σ' τ' : xs_T, τ'.1 = τ.1 → τ'.2.2 = (xs_ai τ 13 (upd (τ.2.2.1 13) (j + 1) 1)).2.2 → rl_X σ' τ' → rl_A σ' (co_g co (up_2 co.2.1 15 j 1)) τ' n := by
              intro σ' τ' t1 t2 hx
              refine rl_C1 hA hj ⟨rfl, rfl, fun k i h => u2_o (by omega), fun k i h => rfl⟩ ⟨fun k _ h13 _ _ _ => ?_, fun i hi => ?_, fun k _ _ _ => ?_, by rw [t1], by rw [t1], by rw [t1], by rw [t1]⟩ hx ?_ ?_ ?_ ?_ ?_ ?_
              · rw [t2]; simp [xs_ai, va_up, h13]
              · rw [t2]; exact ⟨by simp [xs_ai, va_up], by simp [xs_ai, va_up, upd, hi], rfl⟩
              · rw [t2]; rfl
              · rw [t2]; simp [xs_ai, va_up, co_g, up_2, c3]
              · rw [t2]; simp [xs_ai, va_up, upd, co_g, up_2]
              · rw [t2]; exact c6
              · simp [co_g, up_2, va_up]; simpa using c7
              · intro h; exact h
              · exact Or.inl rfl
            cases b
            · refine ⟨rfl, fun n' h => ?_⟩
              rw [rl_n (n := n) (co := co) hP h]
              exact H _ _ rfl rfl ⟨x1, x2, x3, x4, x5, x6, x7, x8, x9⟩
            · refine ⟨rfl, pq_ls (σ' := xs_l σ 1 (σ.2.1 1 + co.2.2.1 2 j)) (τ' := xs_l (xs_ai τ 13 (upd (τ.2.2.1 13) (j + 1) 1)) 1 (σ.2.1 1 + co.2.2.1 2 j)) hP.1 hP.2.2 (H _ _ rfl rfl ⟨x1, x2, ?_, ?_, x5, x6, x7, x8, x9⟩) _ _⟩
              · simp [xs_l, xs_ai, va_up, x3]
              · simp [xs_l, xs_ai, va_up]
          · simp only [if_pos q1, if_pos q2, if_neg q3, if_neg q4]; exact rl_no hP hA _
      · simp only [if_pos q1, if_neg q2]; exact rl_no hP hA _
    · by_cases q2 : co.2.1 9 j = 1
      · simp only [if_neg q1, if_pos q2]; exact rl_no hP hA _
      · simp only [if_neg q1, if_neg q2]; exact rl_no hP hA _
end PQI
