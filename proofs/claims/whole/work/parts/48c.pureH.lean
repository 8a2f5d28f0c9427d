/-! Pure: items and passes, shares. -/
theorem rl_e {σ : xs_T} {co : co_T} {n' : nn_T} (h : rl_P σ co n') {a b c d : Nat} (h0 : σ.1 0 = nI a) (h1 : σ.1 1 = nI b) (h2 : σ.1 2 = nI c) (h3 : σ.1 3 = nI d) (k0 : a < 20000) (k1 : b < 20000) (k2 : c < 20000) (k3 : d < 20000) : n' = (a, b, c, d) := by
  obtain ⟨⟨b1, b2, b3, b4, b5, b6, b7⟩, -, b8⟩ := h
  have e1 := (nI_eq (by omega) (by omega)).mp (b1.symm.trans h0)
  have e2 := (nI_eq (by omega) (by omega)).mp (b3.symm.trans h1)
  have e3 := (nI_eq (by omega) (by omega)).mp (b5.symm.trans h2)
  have e4 := (nI_eq (by omega) (by omega)).mp (b7.symm.trans h3)
  obtain ⟨y1, y2, y3, y4⟩ := n'
  simp only at e1 e2 e3 e4
  rw [e1, e2, e3, e4]
theorem rl_I1 {σ σ' τ τ' : xs_T} {co co' : co_T} {n : nn_T} (hA : rl_A σ co τ n) (hn : n.1 < 100) (x0 : τ'.1 0 = nI (n.1 + 1)) (x1 : ∀ k, k ≠ 0 → τ'.1 k = τ.1 k) (hx : rl_X σ' τ') (c1 : co'.1 = co.1) (G : ∀ k q, 6 ≤ k ∨ q ≠ n.1 → co'.2.1 k q = co.2.1 k q) (Gl : ∀ k q, 2 ≤ k ∨ q ≠ n.1 → co'.2.2.1 k q = co.2.2.1 k q) (Gp : ∀ q, q ≠ n.1 → co'.2.2.2 q = co.2.2.2 q) (M : ∀ k c, 3 ≤ k ∨ c ≠ n.1 + 1 → τ'.2.2.1 k c = τ.2.2.1 k c) (Ml : ∀ k c, 2 ≤ k ∨ c ≠ n.1 + 1 → τ'.2.2.2.1 k c = τ.2.2.2.1 k c)
    (e0 : τ'.2.2.1 0 (n.1 + 1) = co'.2.1 0 n.1) (e1 : τ'.2.2.2.1 0 (n.1 + 1) = co'.2.2.1 0 n.1) (e2 : τ'.2.2.2.1 1 (n.1 + 1) = co'.2.2.1 1 n.1) (e3 : τ'.2.2.1 1 (n.1 + 1) = co'.2.1 1 n.1) (e4 : τ'.2.2.1 2 (n.1 + 1) = co'.2.1 2 n.1) (z3 : co'.2.1 3 n.1 = 0) (z4 : co'.2.1 4 n.1 = 0) (z5 : co'.2.1 5 n.1 = 0) (sv : ∃ v : Nat, v < 4 ∧ co'.2.1 0 n.1 = nI v) : rl_A σ' co' τ' (n.1 + 1, n.2) := by
  obtain ⟨⟨⟨a1, a2, a3, a4, a5, a6, a7, a8⟩, w1, w2⟩, hX, hI, hI0, hC, hC0, hS, hU⟩ := hA
  refine ⟨⟨⟨x0, by show n.1 + 1 ≤ 100; omega, (x1 1 (by decide)).trans a3, a4, (x1 2 (by decide)).trans a5, a6, (x1 4 (by decide)).trans a7, a8⟩, fun i h1 h2 => ?_, fun c h1 h2 => ?_⟩, hx, fun k hk => ?_, fun k hk => ?_, fun k hk => ?_, fun k hk => ?_, fun k hk => ?_, rl_Uc hU (fun k q _ h => G k q (Or.inl (by omega)))⟩
  · by_cases e : i = n.1 + 1
    · subst e
      refine ⟨?_, 0, by decide, ?_⟩
      · rw [e0]; exact sv
      · rw [M 3 _ (Or.inl (by decide))]; exact (hI0 n.1 (Nat.le_refl _)).1
    · rw [M 0 i (Or.inr e), M 3 i (Or.inr e)]; exact w1 i h1 (by have : i ≤ n.1 + 1 := h2; omega)
  · rw [M 8 c (Or.inl (by decide)), M 9 c (Or.inl (by decide))]
    obtain ⟨⟨k, k1, k2, k3⟩, k4⟩ := w2 c h1 h2
    exact ⟨⟨k, k1, by show k ≤ n.1 + 1; omega, k3⟩, k4⟩
  · by_cases e : k = n.1
    · subst e
      refine ⟨e0, e1, e2, e3, e4, ?_, ?_, 0, by decide, z3, fun q hq => absurd hq (Nat.not_lt_zero q), z4⟩
      · rw [M 3 _ (Or.inl (by decide)), z3]; exact (hI0 n.1 (Nat.le_refl _)).1
      · rw [M 6 _ (Or.inl (by decide)), z5]; exact (hI0 n.1 (Nat.le_refl _)).2
    · have hk' : k < n.1 := by have : k < n.1 + 1 := hk; omega
      exact rl_Ic (by omega) (hI k hk') (fun q _ => G q k (Or.inr e)) (fun q _ => Gl q k (Or.inr e)) (Gp k e) (fun q _ _ _ => M q _ (Or.inr (by omega))) (fun q _ => ⟨M 4 _ (Or.inl (by decide)), M 5 _ (Or.inl (by decide))⟩) (fun q _ => Ml q _ (Or.inr (by omega)))
  · rw [M 3 _ (Or.inl (by decide)), M 6 _ (Or.inl (by decide))]; exact hI0 k (by have : n.1 + 1 ≤ k := hk; omega)
  · have hk' : k < n.2.1 := hk
    refine rl_Cc (by omega) rfl a6 (hC k hk) (fun q h6 _ => G q k (Or.inl (by omega))) (Gl 2 k (Or.inl (by decide))) (fun q h8 _ _ => M q _ (Or.inl (by omega))) (fun q _ => M 11 _ (Or.inl (by decide))) (Ml 3 _ (Or.inl (by decide))) (fun q hq => sd_c (M 2 _ (Or.inr ?_)) (M 8 _ (Or.inl (by decide)))) (fun w q _ => cn_c (fun r hr _ => M r _ (Or.inl (by omega))))
    obtain ⟨⟨k, k1, k2, k3⟩, k4⟩ := w2 (q + 1) (by omega) (by omega)
    rw [k3, nI_clamp (by omega)]
    omega
  · rw [M 12 _ (Or.inl (by decide)), M 13 _ (Or.inl (by decide)), Ml 3 _ (Or.inl (by decide))]
    exact ⟨fun p hp => (M 11 _ (Or.inl (by decide))).trans ((hC0 k hk).1 p hp), (hC0 k hk).2⟩
  · exact rl_Sc (hS k hk) (by rw [c1]) (fun q hq => G q k (Or.inl (by omega))) (fun q hq => G q _ (Or.inl (by omega))) (fun q hq _ => M q _ (Or.inl (by omega)))
theorem rl_P1 {σ τ τ' : xs_T} {co co' : co_T} {n : nn_T} (hA : rl_A σ co τ n) {i v : Nat} (hi : i < n.1) (hv : v < 8) (h3 : co.2.1 3 i = nI v) {post : Int32} {b : Bool} (x1 : τ'.1 = τ.1) (x2 : τ'.2.1 = τ.2.1) (x3 : τ'.2.2.2 = τ.2.2.2) (c1 : co'.1 = co.1) (G : ∀ k q, (k ≠ 3 ∧ k ≠ 4) ∨ q ≠ i → co'.2.1 k q = co.2.1 k q) (Gl : co'.2.2.1 = co.2.2.1) (Gp : ∀ q, q ≠ i → co'.2.2.2 q = co.2.2.2 q) (gp : co'.2.2.2 i = upd (co.2.2.2 i) v post) (g3 : co'.2.1 3 i = nI (v + 1)) (g4 : co'.2.1 4 i = if b then nI v else co.2.1 4 i)
    (M : ∀ k c, (k ≠ 3 ∧ k ≠ 4 ∧ k ≠ 5) ∨ (k = 3 ∧ c ≠ i + 1) ∨ ((k = 4 ∨ k = 5) ∧ c ≠ 8 * i + v) → τ'.2.2.1 k c = τ.2.2.1 k c) (m3 : τ'.2.2.1 3 (i + 1) = nI (v + 1)) (m4 : τ'.2.2.1 4 (8 * i + v) = post) (m5 : τ'.2.2.1 5 (8 * i + v) = bb_v b) : rl_A σ co' τ' n := by
  obtain ⟨⟨⟨a1, a2, a3, a4, a5, a6, a7, a8⟩, w1, w2⟩, hX, hI, hI0, hC, hC0, hS, hU⟩ := hA
  have F : ∀ k, k ≠ 3 → k ≠ 4 → k ≠ 5 → τ'.2.2.1 k = τ.2.2.1 k := fun k h1 h2 h3 => funext (fun c => M k c (Or.inl ⟨h1, h2, h3⟩))
  refine ⟨⟨by rw [x1]; exact ⟨a1, a2, a3, a4, a5, a6, a7, a8⟩, fun k h1 h2 => ?_, ?_⟩, ?_, fun k hk => ?_, fun k hk => ?_, fun k hk => ?_, ?_, fun k hk => ?_, rl_Uc hU (fun k q _ h => G k q (Or.inl (by omega)))⟩
  · rw [F 0 (by decide) (by decide) (by decide)]
    refine ⟨(w1 k h1 h2).1, ?_⟩
    by_cases e : k = i + 1
    · subst e; exact ⟨v + 1, by omega, m3⟩
    · rw [M 3 k (Or.inr (Or.inl ⟨rfl, e⟩))]; exact (w1 k h1 h2).2
  · rw [F 8 (by decide) (by decide) (by decide), F 9 (by decide) (by decide) (by decide)]; exact w2
  · rw [x1, x2, x3, F 7 (by decide) (by decide) (by decide), F 18 (by decide) (by decide) (by decide), F 19 (by decide) (by decide) (by decide)]; exact hX
  · by_cases e : k = i
    · subst e
      obtain ⟨f1, f2, f3, f4, f5, f6, f7, v', v1, v2, v3, v4⟩ := hI k hk
      have hvv : v' = v := (nI_eq (by omega) (by omega)).mp (v2.symm.trans h3)
      subst hvv
      unfold rl_I
      rw [F 0 (by decide) (by decide) (by decide), F 1 (by decide) (by decide) (by decide), F 2 (by decide) (by decide) (by decide), F 6 (by decide) (by decide) (by decide), x3, Gl, G 0 k (by omega), G 1 k (by omega), G 2 k (by omega), G 5 k (by omega), gp]
      refine ⟨f1, f2, f3, f4, f5, m3.trans g3.symm, f7, v' + 1, by omega, g3, fun q hq => ?_, ?_⟩
      · by_cases z : q = v'
        · rw [z, m4]; simp [upd]
        · rw [M 4 _ (Or.inr (Or.inr ⟨Or.inl rfl, by omega⟩)), v3 q (by omega)]; simp [upd, z]
      · unfold fi_r
        rw [ix_8 (by omega) hv, m5, g4, fi_pt (τ := τ) (τ' := τ') (by omega) v' v1 (fun q hq => M 5 _ (Or.inr (Or.inr ⟨Or.inr rfl, by omega⟩))), ← v4]
        cases b
        · rw [if_pos (show bb_v false = 0 by decide), if_neg (by decide)]
        · rw [if_neg (show ¬ bb_v true = 0 by decide), if_pos rfl]
    · exact rl_Ic (by omega) (hI k hk) (fun q _ => G q k (Or.inr e)) (fun q _ => by rw [Gl]) (Gp k e) (fun q hq _ _ => M q _ (by omega)) (fun q hq => ⟨M 4 _ (by omega), M 5 _ (by omega)⟩) (fun q _ => by rw [x3])
  · rw [M 3 _ (Or.inr (Or.inl ⟨rfl, by omega⟩)), F 6 (by decide) (by decide) (by decide)]; exact hI0 k hk
  · exact rl_Cc (by omega) rfl a6 (hC k hk) (fun q h6 _ => G q k (Or.inl (by omega))) (by rw [Gl]) (fun q h8 _ _ => M q _ (by omega)) (fun q _ => M 11 _ (by omega)) (by rw [x3]) (fun q hq => sd_c (M 2 _ (by omega)) (M 8 _ (by omega))) (fun w q _ => cn_c (fun r hr _ => M r _ (by omega)))
  · rw [F 11 (by decide) (by decide) (by decide), F 12 (by decide) (by decide) (by decide), F 13 (by decide) (by decide) (by decide), x3]; exact hC0
  · exact rl_Sc (hS k hk) (by rw [c1]) (fun q hq => G q k (Or.inl (by omega))) (fun q hq => G q _ (Or.inl (by omega))) (fun q hq _ => M q _ (by omega))
section PQH
variable {σ τ : xs_T} {co : co_T} {n : nn_T}
/-- full, on both sides -/
theorem pq_fu {x : Int32} {m N : Nat} (hx : x = nI m) (hm : m ≤ N) (hN : N < 2 ^ 30) {y : Int32} (hy : y = nI N) : (m < N ∧ x < y ∧ ¬ x = y) ∨ (m = N ∧ ¬ x < y ∧ x = y) := by
  subst hx hy
  by_cases e : m = N
  · subst e; exact Or.inr ⟨rfl, fun h => by rw [nI_ltI (by omega) (by omega)] at h; omega, rfl⟩
  · exact Or.inl ⟨by omega, (nI_ltI (by omega) (by omega)).mpr (by omega), fun h => e ((nI_eq (by omega) (by omega)).mp h)⟩
theorem pq_item (hP : rl_P σ co n) (hA : rl_A σ co τ n) (sv : Int32) (v w : Int64) (dy se : Int32) : rl_M (σ, co) τ n (kc_item (σ, co) sv v w dy se) (kr_item τ sv v w dy se) := by
  have ec : τ.1 0 = σ.1 0 := hA.1.1.1.trans hP.1.1.symm
  unfold kc_item kr_item
  simp only [pq_3, pq_19]
  by_cases h1 : 0 ≤ sv ∧ sv < 4
  · by_cases h2 : 0 ≤ v ∧ v ≤ 10000000
    · by_cases h3 : 0 ≤ w ∧ w ≤ 10000000
      · by_cases h4 : (0 : Int64) ≤ dy.toInt64 ∧ dy.toInt64 ≤ 100000
        · by_cases h5 : 0 ≤ se ∧ se < 20
          · simp only [if_pos h1, if_pos h2, if_pos h3, if_pos h4, if_pos h5, ec]
            rcases pq_fu (y := 100) hP.1.1 hP.1.2.1 (by decide) rfl with ⟨m1, m2, m3⟩ | ⟨m1, m2, m3⟩
            · simp only [if_pos m2, if_neg m3]
              refine ⟨rfl, fun n' h => ?_⟩
              have e0 : σ.1 0 + 1 = nI (n.1 + 1) := by rw [hP.1.1, nI_1]
              have ep : (σ.1 0 + 1).toNatClampNeg = n.1 + 1 := by rw [e0]; exact nI_clamp (by omega)
              have eq : (σ.1 0).toNatClampNeg = n.1 := by rw [hP.1.1]; exact nI_clamp (by omega)
              have hn := rl_e h (a := n.1 + 1) (b := n.2.1) (c := n.2.2.1) (d := n.2.2.2) (by simp only [xs_i, va_up]; exact e0) hP.1.2.2.1 hP.1.2.2.2.2.1 hP.1.2.2.2.2.2.2 (by omega) (by have := hP.1.2.2.2.1; omega) (by have := hP.1.2.2.2.2.2.1; omega) (by have := hP.2.2; omega)
              rw [hn]
              simp only [ep, eq]
              obtain ⟨y1, y2, y3, y4, y5, y6, y7, y8, y9⟩ := hA.2.1
              obtain ⟨sn, s1, s2⟩ := nu_4 h1
              refine rl_I1 hA m1 ?_ (fun k hk => ?_) ⟨y1, y2, y3, y4, y5, y6, y7, y8, y9⟩ rfl (fun k q hq => ?_) (fun k q hq => ?_) (fun q hq => ?_) (fun k c hc => ?_) (fun k c hc => ?_) ?_ ?_ ?_ ?_ ?_ ?_ ?_ ?_ ⟨sn, s1, ?_⟩
              · simp only [xs_i, xs_ai, xs_al, va_up]; exact e0
              · simp [xs_i, xs_ai, xs_al, va_up, hk]
              · exact (u2_o (show k ≠ 5 ∨ q ≠ n.1 by omega)).trans ((u2_o (show k ≠ 4 ∨ q ≠ n.1 by omega)).trans ((u2_o (show k ≠ 3 ∨ q ≠ n.1 by omega)).trans ((u2_o (show k ≠ 2 ∨ q ≠ n.1 by omega)).trans ((u2_o (show k ≠ 1 ∨ q ≠ n.1 by omega)).trans (u2_o (show k ≠ 0 ∨ q ≠ n.1 by omega))))))
              · exact (u2_o (show k ≠ 1 ∨ q ≠ n.1 by omega)).trans (u2_o (show k ≠ 0 ∨ q ≠ n.1 by omega))
              · simp [ni_co, va_up, hq]
              · exact xg_o (by omega) (xg_o (by omega) (xg_o (by omega) rfl))
              · exact xl_o (by omega) (xl_o (by omega) rfl)
              · simp [xs_i, xs_ai, xs_al, va_up, upd, ni_co, up_2]
              · simp [xs_i, xs_ai, xs_al, va_up, vp_updL, ni_co, up_2]
              · simp [xs_i, xs_ai, xs_al, va_up, vp_updL, ni_co, up_2]
              · simp [xs_i, xs_ai, xs_al, va_up, upd, ni_co, up_2]
              · simp [xs_i, xs_ai, xs_al, va_up, upd, ni_co, up_2]
              · simp [ni_co, up_2, va_up]
              · simp [ni_co, up_2, va_up]
              · simp [ni_co, up_2, va_up]
              · simp [ni_co, up_2, va_up, s2]
            · simp only [if_neg m2, if_pos m3]; exact rl_no hP hA _
          · simp only [if_pos h1, if_pos h2, if_pos h3, if_pos h4, if_neg h5]; exact rl_no hP hA _
        · simp only [if_pos h1, if_pos h2, if_pos h3, if_neg h4]; exact rl_no hP hA _
      · simp only [if_pos h1, if_pos h2, if_neg h3]; exact rl_no hP hA _
    · simp only [if_pos h1, if_neg h2]; exact rl_no hP hA _
  · simp only [if_neg h1]; exact rl_no hP hA _
theorem pq_pass (hP : rl_P σ co n) (hA : rl_A σ co τ n) (x post : Int32) (b : Bool) : rl_M (σ, co) τ n (kc_pass (σ, co) x post b) (kr_pass τ x post b) := by
  have ec : τ.1 0 = σ.1 0 := hA.1.1.1.trans hP.1.1.symm
  unfold kc_pass kr_pass
  rw [ec]
  simp only [pq_5]
  rcases pq_nm (x := x) hP.1.1 hP.1.2.1 with ⟨h1, h2⟩ | ⟨i, hi, h1, h2, h3, h4⟩
  · simp only [h1, if_neg h2, Option.elim]; exact rl_no hP hA _
  · obtain ⟨d1, d2, d3, d4, d5, d6, d7, v, v1, v2, v3, v4⟩ := hA.2.2.1 i hi
    have b1 := hP.1.2.1
    simp only [h1, if_pos h2, Option.elim, h4, d6]
    by_cases q1 : 0 ≤ post ∧ post < 6
    · rcases pq_fu (y := 8) v2 v1 (by decide) rfl with ⟨m1, m2, m3⟩ | ⟨m1, m2, m3⟩
      · simp only [if_pos q1, if_pos m2, if_neg m3]
        have ev : (co.2.1 3 i).toNatClampNeg = v := by rw [v2]; exact nI_clamp (by omega)
        have e1 : co.2.1 3 i + 1 = nI (v + 1) := by rw [v2, nI_1]
        have pa : pm_at τ x = 8 * i + v := by unfold pm_at; rw [h4, d6, v2, h3]; exact ix_8 (by omega) m1
        rw [pa]
        refine ⟨by simp [upd], fun n' h => ?_⟩
        rw [rl_n (n := n) (co := co) hP h]
        refine rl_P1 hA hi m1 v2 (post := post) (b := b) rfl rfl rfl rfl (fun k q hq => ?_) rfl (fun q hq => ?_) ?_ ?_ ?_ (fun k c hc => xg_o (by omega) (xg_o (by omega) (xg_o (by omega) rfl))) ?_ ?_ ?_
        · refine (u2_o (show k ≠ 3 ∨ q ≠ i by omega)).trans ?_
          cases b
          · rfl
          · exact u2_o (show k ≠ 4 ∨ q ≠ i by omega)
        · simp [ps_co, va_up, hq]
        · simp [ps_co, va_up, ev]
        · exact (up_2s (if b then up_2 co.2.1 4 i (co.2.1 3 i) else co.2.1) 3 i (co.2.1 3 i + 1)).trans e1
        · refine (u2_o (g := if b then up_2 co.2.1 4 i (co.2.1 3 i) else co.2.1) (v := co.2.1 3 i + 1) (show 4 ≠ 3 ∨ i ≠ i from Or.inl (by decide))).trans ?_
          cases b
          · rfl
          · exact (up_2s co.2.1 4 i (co.2.1 3 i)).trans v2
        · simp [xs_ai, va_up, upd, e1]
        · simp [xs_ai, va_up, upd]
        · simp [xs_ai, va_up, upd]
      · simp only [if_pos q1, if_neg m2, if_pos m3]; exact rl_no hP hA _
    · simp only [if_neg q1]; exact rl_no hP hA _
theorem sr_sh {i a : Nat} {it first : Int32} (hit : it = nI (i + 1)) (hf : first = nI a) (hi : i < 100) {v : Nat} (hv : v ≤ 8) {po : Nat → Int32} (h : ∀ k, k < v → τ.2.2.1 4 (8 * i + k) = po k) (each over : Int64) (post : Int32) : ∀ m, a + m ≤ v → sr_r τ it first each over post m = sh_s po a each over post m := by
  intro m
  induction m with
  | zero => intro _; rfl
  | succ m ih =>
    intro hm
    have e1 : (8 * it - 8 + (first + nI m)).toNatClampNeg = 8 * i + (a + m) := by rw [hit, hf, nI_add]; exact ix_8 hi (by omega)
    have e2 : first + nI m - first = nI m := by rw [Int32.add_comm, Int32.add_sub_cancel]
    unfold sr_r sh_s
    rw [e1, e2, h (a + m) (by omega), ih (by omega)]
theorem pq_share (hP : rl_P σ co n) (hA : rl_A σ co τ n) (a b : Int32) : kc_share (σ, co) a b = kr_share τ a b := by
  have ec : τ.1 1 = σ.1 1 := hA.1.1.2.2.1.trans hP.1.2.2.1.symm
  unfold kc_share kr_share
  rw [ec]
  simp only [pq_5]
  rcases pq_nm (x := a) hP.1.2.2.1 (by have := hP.1.2.2.2.1; omega) with ⟨h1, h2⟩ | ⟨j, hj, h1, h2, h3, h4⟩
  · simp only [h1, if_neg h2, Option.elim]
  · obtain ⟨i1, i2, i3⟩ := pq_it hP hj
    obtain ⟨c1, c2, c3, c4, c5, c6, -⟩ := hA.2.2.2.2.1 j hj
    obtain ⟨d1, d2, d3, d4, d5, d6, d7, v, v1, v2, v3, v4⟩ := hA.2.2.1 _ i1
    have b1 := hP.1.2.1
    simp only [h1, if_pos h2, Option.elim, h4, c1, c3, c6, i2, i3, d6]
    by_cases q1 : 0 ≤ b ∧ b < 6
    · by_cases q2 : co.2.1 9 j = 1
      · simp only [if_pos q1, if_pos q2]
        have ev : (co.2.1 3 (co.1 0 j)).toNatClampNeg = v := by rw [v2]; exact nI_clamp (by omega)
        rw [ev, ← v4]
        unfold pa_o
        by_cases z : v = 0
        · subst z
          have z4 : co.2.1 4 (co.1 0 j) = 0 := v4
          have z3 : co.2.1 3 (co.1 0 j) = 0 := v2
          rw [z3, z4, if_neg (by decide), if_pos rfl]
        · obtain ⟨f, f1, f2⟩ := fi_lt (σ := τ) (nI (co.1 0 j + 1)) z
          have e4 : co.2.1 4 (co.1 0 j) = nI f := v4.trans f2
          have e0 : ¬ co.2.1 3 (co.1 0 j) = 0 := by rw [v2]; exact nI_ne0 (by omega) (by omega)
          have es : co.2.1 3 (co.1 0 j) - co.2.1 4 (co.1 0 j) = nI (v - f) := by rw [v2, e4, pk_sub (by omega)]
          have ep : (0 : Int32) < nI (v - f) := nI_lt (a := 0) (by omega) (by omega)
          have e5 : (co.2.1 4 (co.1 0 j)).toNatClampNeg = f := by rw [e4]; exact nI_clamp (by omega)
          rw [if_neg e0, es, if_pos ep, e5, nI_clamp (show v - f < 2 ^ 31 by omega)]
          exact (sr_sh rfl e4 (by omega) v1 v3 _ _ _ _ (by omega)).symm
      · simp only [if_pos q1, if_neg q2]
    · simp only [if_neg q1]
end PQH
