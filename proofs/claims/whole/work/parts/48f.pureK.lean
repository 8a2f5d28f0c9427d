/-! Pure: claims, proofs, appeals. -/
theorem be_se {τ' : xs_T} {co : co_T} {J : Nat} (hJ : J < 100) {s : Int32} (hs : sd_m τ' (J + 1) = s) : ∀ m, m ≤ 100 → (∀ q, q < m → sd_m τ' (q + 1) = co.2.1 2 (co.1 0 q)) → se_cl co s m = be_r τ' (nI (J + 1)) m := by
  intro m
  induction m with
  | zero => intro _ _; rfl
  | succ m ih =>
    intro h1 h2
    have hm := h2 m (by omega)
    unfold sd_m at hm hs
    unfold se_cl be_r
    rw [cl_s (by omega), cl_s (by omega), hm, hs, ih (by omega) (fun k hk => h2 k (by omega))]
theorem ne_lk {τ : xs_T} {j v : Nat} (hv : v < 4) (h : ∀ p, p < 4 → τ.2.2.1 11 (4 * j + p) = 0) : ne_ed (nI v) = nI (lk_b τ j (nI v) 0 + lk_b τ j (nI v) 1 + lk_b τ j (nI v) 2 + lk_b τ j (nI v) 3) := by
  unfold lk_b
  rw [h 0 (by decide), h 1 (by decide), h 2 (by decide), h 3 (by decide)]
  have : v = 0 ∨ v = 1 ∨ v = 2 ∨ v = 3 := by omega
  rcases this with e | e | e | e <;> subst e <;> decide +kernel
section PQK
variable {σ τ : xs_T} {co : co_T} {n : nn_T}
/-- a new claim -/
theorem rl_D0 {σ' τ' : xs_T} {co' : co_T} (hA : rl_A σ co τ n) (hV : ∀ k, k < n.2.2.1 → co.1 1 k < n.2.1) (hn : n.2.1 < 60) {i v : Nat} (hi : i < n.1) (hv : v < 4) (x2 : τ'.1 1 = nI (n.2.1 + 1)) (x1 : ∀ k, k ≠ 1 → τ'.1 k = τ.1 k) (hx : rl_X σ' τ') (c1 : co'.1 1 = co.1 1) (c2 : co'.2.2.2 = co.2.2.2) (G : ∀ q i, q < 6 ∨ 16 ≤ q ∨ i ≠ n.2.1 → co'.2.1 q i = co.2.1 q i) (Gl : ∀ q i, q ≠ 2 ∨ i ≠ n.2.1 → co'.2.2.1 q i = co.2.2.1 q i) (g6 : co'.2.1 6 n.2.1 = nI (i + 1)) (g7 : co'.2.1 7 n.2.1 = nI v) (g8 : co'.2.1 8 n.2.1 = be_r τ' (nI (n.2.1 + 1)) n.2.1) (g9 : co'.2.1 9 n.2.1 = 0) (g10 : co'.2.1 10 n.2.1 = ne_ed (nI v)) (gz : ∀ q, 11 ≤ q → q < 16 → co'.2.1 q n.2.1 = 0) (gl : co'.2.2.1 2 n.2.1 = 0) (t3 : τ'.2.2.2 = τ.2.2.2) (M : ∀ q c, (q ≠ 8 ∧ q ≠ 9 ∧ q ≠ 10) ∨ c ≠ n.2.1 + 1 → τ'.2.2.1 q c = τ.2.2.1 q c) (m8 : τ'.2.2.1 8 (n.2.1 + 1) = nI (i + 1)) (m9 : τ'.2.2.1 9 (n.2.1 + 1) = nI v) (m10 : τ'.2.2.1 10 (n.2.1 + 1) = 0) (hno : ∀ q, q < n.2.1 → ¬ mt_c co (nI (i + 1)) (nI v) q) : rl_A σ' co' τ' (n.1, n.2.1 + 1, n.2.2.1, n.2.2.2) := by
  obtain ⟨⟨⟨a1, a2, a3, a4, a5, a6, a7, a8⟩, w1, w2⟩, hX, hI, hI0, hC, hC0, hS, hU⟩ := hA
  have F : ∀ q, q ≠ 8 → q ≠ 9 → q ≠ 10 → τ'.2.2.1 q = τ.2.2.1 q := fun q h1 h2 h3 => funext (fun c => M q c (Or.inl ⟨h1, h2, h3⟩))
  have mz : ∀ w : Int32, ma_r τ' (nI (n.2.1 + 1)) w n.2.2.1 = 0 := by
    intro w
    refine (ma_0 _ a6).mpr (fun k hk z => ?_)
    have z1 := z.1
    rw [M 14 _ (Or.inl (by decide)), (hS k hk).1] at z1
    have := hV k hk
    have := (nI_eq (by omega) (by omega)).mp z1
    omega
  refine ⟨⟨⟨(x1 0 (by decide)).trans a1, a2, x2, by show n.2.1 + 1 ≤ 60; omega, (x1 2 (by decide)).trans a5, a6, (x1 4 (by decide)).trans a7, a8⟩, ?_, fun c hc1 hc2 => ?_⟩, hx, fun k hk => ?_, fun k hk => ?_, fun k hk => ?_, fun k hk => ?_, fun k hk => ?_, fun p q hp hq e6 e7 n1 n2 => ?_⟩
  · rw [F 0 (by decide) (by decide) (by decide), F 3 (by decide) (by decide) (by decide)]; exact w1
  · by_cases e : c = n.2.1 + 1
    · rw [e, m8, m9]; exact ⟨⟨i + 1, by omega, hi, rfl⟩, v, hv, rfl⟩
    · rw [M 8 c (Or.inr e), M 9 c (Or.inr e)]; exact w2 c hc1 (by have : c ≤ n.2.1 + 1 := hc2; omega)
  · have hk' : k < n.1 := hk
    exact rl_Ic (by omega) (hI k hk) (fun q hq => G q k (Or.inl hq)) (fun q _ => Gl q k (Or.inl (by omega))) (by rw [c2]) (fun q h7 _ _ => M q _ (Or.inl (by omega))) (fun q _ => ⟨M 4 _ (Or.inl (by decide)), M 5 _ (Or.inl (by decide))⟩) (fun q _ => by rw [t3])
  · rw [M 3 _ (Or.inl (by decide)), M 6 _ (Or.inl (by decide))]; exact hI0 k hk
  · by_cases e : k = n.2.1
    · rw [e]
      obtain ⟨z1, z2, z3, z4⟩ := hC0 n.2.1 (Nat.le_refl _)
      unfold rl_C
      rw [m8, m9, m10, M 12 _ (Or.inl (by decide)), M 13 _ (Or.inl (by decide)), t3, z2, z3, z4, g6, g7, g8, g9, g10, gl, gz 11 (by decide) (by decide), gz 12 (by decide) (by decide), gz 13 (by decide) (by decide), gz 14 (by decide) (by decide), gz 15 (by decide) (by decide)]
      refine ⟨rfl, rfl, rfl, rfl, rfl, rfl, Or.inl rfl, ?_, rfl, (mz 0).symm, ?_, ?_, Or.inl rfl⟩
      · exact ne_lk hv (fun p hp => (M 11 _ (Or.inl (by decide))).trans (z1 p hp))
      · show (0 : Int32) = ma_r τ' (nI (n.2.1 + 1)) 0 n.2.2.1 + ma_r τ' (nI (n.2.1 + 1)) 1 n.2.2.1 + ma_r τ' (nI (n.2.1 + 1)) 2 n.2.2.1
        rw [mz 0, mz 1, mz 2]; rfl
      · exact ⟨fun _ => mz 1, fun _ => rfl⟩
    · have hk' : k < n.2.1 := by have : k < n.2.1 + 1 := hk; omega
      exact rl_Cc (by omega) rfl a6 (hC k hk') (fun q _ _ => G q k (Or.inr (Or.inr e))) (Gl 2 k (Or.inr e)) (fun q _ _ _ => M q _ (Or.inr (by omega))) (fun q _ => M 11 _ (Or.inl (by decide))) (by rw [t3]) (fun q _ => sd_c (M 2 _ (Or.inl (by decide))) (M 8 _ (Or.inr (by omega)))) (fun w q _ => cn_c (fun r hr _ => M r _ (Or.inl (by omega))))
  · have hk' : n.2.1 + 1 ≤ k := hk
    rw [F 11 (by decide) (by decide) (by decide), F 12 (by decide) (by decide) (by decide), F 13 (by decide) (by decide) (by decide), t3]
    exact hC0 k (by omega)
  · have hk' := hV k hk
    exact rl_Sc (hS k hk) (by rw [c1]) (fun q hq => G q k (by omega)) (fun q hq => G q _ (by omega)) (fun q hq _ => M q _ (Or.inl (by omega)))
  · have hp' : p < n.2.1 + 1 := hp
    have hq' : q < n.2.1 + 1 := hq
    by_cases ep : p = n.2.1
    · by_cases eq : q = n.2.1
      · omega
      · rw [ep, g6, G 6 q (Or.inr (Or.inr eq))] at e6
        rw [ep, g7, G 7 q (Or.inr (Or.inr eq))] at e7
        rw [G 9 q (Or.inr (Or.inr eq))] at n2
        exact absurd ⟨e6.symm, e7.symm, n2⟩ (hno q (by omega))
    · by_cases eq : q = n.2.1
      · rw [eq, g6, G 6 p (Or.inr (Or.inr ep))] at e6
        rw [eq, g7, G 7 p (Or.inr (Or.inr ep))] at e7
        rw [G 9 p (Or.inr (Or.inr ep))] at n1
        exact absurd ⟨e6, e7, n1⟩ (hno p (by omega))
      · rw [G 6 p (Or.inr (Or.inr ep)), G 6 q (Or.inr (Or.inr eq))] at e6
        rw [G 7 p (Or.inr (Or.inr ep)), G 7 q (Or.inr (Or.inr eq))] at e7
        rw [G 9 p (Or.inr (Or.inr ep))] at n1
        rw [G 9 q (Or.inr (Or.inr eq))] at n2
        exact hU p q (by omega) (by omega) e6 e7 n1 n2
theorem pq_who {who kd : Int32} (h : (0 : Int64) ≤ who.toInt64 ∧ who.toInt64 ≤ 2) : (who = 0 ∨ (who = 1 ∧ (kd = 1 ∨ kd = 2))) ↔ ¬ (who = 2 ∨ (who = 1 ∧ ¬ (kd = 1 ∨ kd = 2))) := by
  have h := (pq_b (x := who) (y := 2) (N := 2) (z := 3) (by decide) rfl rfl).mp h
  obtain ⟨v, hv, e⟩ := nu_4 ⟨h.1, Int32.lt_trans h.2 (by decide)⟩
  have h3 : v < 3 := by
    have := h.2
    rw [e] at this
    exact (nI_ltI (b := 3) (by omega) (by decide)).mp this
  have : v = 0 ∨ v = 1 ∨ v = 2 := by omega
  rw [e]
  rcases this with e | e | e <;> subst e
  · exact ⟨fun _ z => z.elim (fun y => absurd y (by decide)) (fun y => absurd y.1 (by decide)), fun _ => Or.inl rfl⟩
  · exact ⟨fun z y => y.elim (fun y => absurd y (by decide)) (fun y => z.elim (fun u => absurd u (by decide)) (fun u => y.2 u.2)), fun z => Or.inr ⟨rfl, Classical.byContradiction (fun y => z (Or.inr ⟨rfl, y⟩))⟩⟩
  · exact ⟨fun z => z.elim (fun u => absurd u (by decide)) (fun u => absurd u.1 (by decide)), fun z => absurd (Or.inl rfl) z⟩
theorem pq_claim (hP : rl_P σ co n) (hA : rl_A σ co τ n) (a kd who dy : Int32) : rl_M (σ, co) τ n (kc_claim (σ, co) a kd who dy) (kr_claim τ a kd who dy) := by
  have ec : τ.1 0 = σ.1 0 := hA.1.1.1.trans hP.1.1.symm
  have e1 : τ.1 1 = σ.1 1 := hA.1.1.2.2.1.trans hP.1.2.2.1.symm
  obtain ⟨x1, x2, x3, x4, x5, x6, x7, x8, x9⟩ := hA.2.1
  unfold kc_claim kr_claim
  rw [ec, e1, x5]
  simp only [pq_3, pq_c1 hP]
  rcases pq_nm (x := a) hP.1.1 hP.1.2.1 with ⟨h1, h2⟩ | ⟨i, hi, h1, h2, h3, h4⟩
  · simp only [h1, if_neg h2, Option.elim]; exact rl_no hP hA _
  · obtain ⟨d1, d2, d3, d4, d5, d6, d7, d8⟩ := hA.2.2.1 i hi
    simp only [h1, if_pos h2, Option.elim, h4, d1, d4, Int32.mul_comm 4 (co.2.1 0 i)]
    by_cases q1 : 0 ≤ kd ∧ kd < 4
    · by_cases q2 : (0 : Int64) ≤ who.toInt64 ∧ who.toInt64 ≤ 2
      · by_cases q3 : (0 : Int64) ≤ dy.toInt64 ∧ dy.toInt64 ≤ 200000
        · by_cases q4 : who = 2 ∨ (who = 1 ∧ ¬ (kd = 1 ∨ kd = 2))
          · simp only [if_pos q1, if_pos q2, if_pos q3, if_pos q4, if_neg (fun z => (pq_who q2).mp z q4)]; exact rl_no hP hA _
          · by_cases q5 : dy ≤ co.2.1 1 i + σ.2.2.1 0 (co.2.1 0 i * 4 + kd).toNatClampNeg
            · simp only [if_pos q1, if_pos q2, if_pos q3, if_neg q4, if_pos ((pq_who q2).mpr q4), if_pos q5]
              cases hs : st_cl co a kd n.2.1 0 with
              | some j =>
                obtain ⟨s1, s2, s3⟩ := st_sm hs
                have hj : j < n.2.1 := by omega
                have hj6 := hP.1.2.2.2.1
                rw [ot_sm hP hA hj (nI_ne0 (by omega) (by omega)) s3 _ hj (Nat.le_refl _), if_neg (show ¬ nI (j + 1) ≤ 0 from fun z => by rw [nI_l0 (by omega)] at z; omega)]
                exact rl_no hP hA _
              | none =>
                rw [ot_no hP hA (fun j hj _ => st_no hs j (Nat.zero_le _) (by omega)) _ (Nat.le_refl _), if_pos (show (0 : Int32) ≤ 0 by decide)]
                simp only
                rcases pq_fu (y := 60) hP.1.2.2.1 hP.1.2.2.2.1 (by decide) rfl with ⟨m1, m2, m3⟩ | ⟨m1, m2, m3⟩
                · rw [if_pos m2, if_neg m3]
                  have e0 : σ.1 1 + 1 = nI (n.2.1 + 1) := by rw [hP.1.2.2.1, nI_1]
                  have ep : (σ.1 1 + 1).toNatClampNeg = n.2.1 + 1 := by rw [e0]; exact nI_clamp (by omega)
                  rw [ep]
                  obtain ⟨v, v1, v2⟩ := nu_4 q1
                  obtain ⟨b1, b2, b3, b4, b5, b6, b7⟩ := hP.1
                  have hx1 : re_X (xs_i σ 1 (σ.1 1 + 1)) (n.1, n.2.1 + 1, n.2.2.1, n.2.2.2) := ⟨b1, b2, by simp only [xs_i, va_up]; exact e0, by show n.2.1 + 1 ≤ 60; omega, b5, b6, b7⟩
                  refine ⟨rfl, pq_ls hx1 hP.2.2 ?_ _ _⟩
                  refine rl_D0 hA hP.2.1.2.2 m1 hi v1 ?_ (fun k hk => ?_) ⟨x1, x2, x3, x4, x5, x6, x7, x8, x9⟩ ?_ rfl (fun q r h => ?_) (fun q r h => u2_o h) ?_ ?_ ?_ ?_ ?_ (fun q h6 h7 => ?_) ?_ rfl (fun q c h => ?_) ?_ ?_ ?_ (fun q hq => ?_)
                  · simp only [xs_i, xs_ai, va_up]; exact e0
                  · simp [xs_i, xs_ai, va_up, hk]
                  · simp [nc_co, up_2, va_up]
                  · exact (u2_o (show q ≠ 15 ∨ r ≠ n.2.1 by omega)).trans ((u2_o (show q ≠ 14 ∨ r ≠ n.2.1 by omega)).trans ((u2_o (show q ≠ 13 ∨ r ≠ n.2.1 by omega)).trans ((u2_o (show q ≠ 12 ∨ r ≠ n.2.1 by omega)).trans ((u2_o (show q ≠ 11 ∨ r ≠ n.2.1 by omega)).trans ((u2_o (show q ≠ 10 ∨ r ≠ n.2.1 by omega)).trans ((u2_o (show q ≠ 9 ∨ r ≠ n.2.1 by omega)).trans ((u2_o (show q ≠ 8 ∨ r ≠ n.2.1 by omega)).trans ((u2_o (show q ≠ 7 ∨ r ≠ n.2.1 by omega)).trans (u2_o (show q ≠ 6 ∨ r ≠ n.2.1 by omega))))))))))
                  · simp [nc_co, up_2, va_up, h3]
                  · simp [nc_co, up_2, va_up, v2]
                  · refine Eq.trans (b := se_cl co (co.2.1 2 i) n.2.1) (by simp [nc_co, up_2, va_up]) (be_se (by omega) ?_ _ (by omega) (fun q hq => ?_))
                    · simp [sd_m, xs_i, xs_ai, va_up, upd, h4, d5]
                    · obtain ⟨i1, i2, i3⟩ := pq_it hP hq
                      have e8 : τ.2.2.1 8 (q + 1) = nI (co.1 0 q + 1) := (hA.2.2.2.2.1 q hq).1.trans i2
                      have ne : q ≠ n.2.1 := by omega
                      simp [sd_m, xs_i, xs_ai, va_up, upd, ne, e8, i3, (hA.2.2.1 _ i1).2.2.2.2.1]
                  · simp [nc_co, up_2, va_up]
                  · simp [nc_co, up_2, va_up, v2]
                  · have : q = 11 ∨ q = 12 ∨ q = 13 ∨ q = 14 ∨ q = 15 := by omega
                    rcases this with e | e | e | e | e <;> subst e <;> simp [nc_co, up_2, va_up]
                  · exact up_2s co.2.2.1 2 n.2.1 0
                  · exact xg_o (by omega) (xg_o (by omega) (xg_o (by omega) rfl))
                  · simp [xs_i, xs_ai, va_up, upd, h3]
                  · simp [xs_i, xs_ai, va_up, upd, v2]
                  · simp [xs_i, xs_ai, va_up, upd]
                  · rw [← h3, ← v2]; exact st_no hs q (Nat.zero_le _) (by omega)
                · rw [if_neg m2, if_pos m3]; exact rl_no hP hA _
            · simp only [if_pos q1, if_pos q2, if_pos q3, if_neg q4, if_pos ((pq_who q2).mpr q4), if_neg q5]; exact rl_no hP hA _
        · simp only [if_pos q1, if_pos q2, if_neg q3]; exact rl_no hP hA _
      · simp only [if_pos q1, if_neg q2]; exact rl_no hP hA _
    · simp only [if_neg q1]; exact rl_no hP hA _
end PQK
