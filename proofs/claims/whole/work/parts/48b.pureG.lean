/-! Pure: a row of the tie under changes elsewhere. -/
theorem xa_o {τ : xs_T} {q d k c : Nat} {v : Int32} (h : k ≠ q ∨ c ≠ d) : (xs_ai τ q (upd (τ.2.2.1 q) d v)).2.2.1 k c = τ.2.2.1 k c := by
  by_cases e : k = q
  · subst e
    have : c ≠ d := h.elim (fun z => absurd rfl z) id
    simp [xs_ai, va_up, upd, this]
  · simp [xs_ai, va_up, e]
theorem xa_s {τ : xs_T} {q d : Nat} {v : Int32} : (xs_ai τ q (upd (τ.2.2.1 q) d v)).2.2.1 q d = v := by simp [xs_ai, va_up, upd]
theorem xs_u {τ : xs_T} {q k : Nat} {f : Nat → Int32} (h : k ≠ q) : (xs_ai τ q f).2.2.1 k = τ.2.2.1 k := by simp [xs_ai, va_up, h]
theorem xs_w {τ : xs_T} {q d k c : Nat} {v : Int32} (h : k = q → c ≠ d) : (xs_ai τ q (upd (τ.2.2.1 q) d v)).2.2.1 k c = τ.2.2.1 k c := by
  by_cases e : k = q
  · exact xa_o (Or.inr (h e))
  · exact xa_o (Or.inl e)
theorem u2_o {α : Type} {g : Nat → Nat → α} {k i k' j : Nat} {v : α} (h : k' ≠ k ∨ j ≠ i) : up_2 g k i v k' j = g k' j := h.elim (fun z => up_2k g i v j z) (fun z => up_2i g k k' v z)
theorem rl_Ic {co co' : co_T} {τ τ' : xs_T} {i : Nat} (hi : i < 100) (h : rl_I co τ i) (g : ∀ k, k < 6 → co'.2.1 k i = co.2.1 k i) (l : ∀ k, k < 2 → co'.2.2.1 k i = co.2.2.1 k i) (p : co'.2.2.2 i = co.2.2.2 i) (m : ∀ k, k < 7 → k ≠ 4 → k ≠ 5 → τ'.2.2.1 k (i + 1) = τ.2.2.1 k (i + 1)) (q : ∀ k, k < 8 → τ'.2.2.1 4 (8 * i + k) = τ.2.2.1 4 (8 * i + k) ∧ τ'.2.2.1 5 (8 * i + k) = τ.2.2.1 5 (8 * i + k)) (t : ∀ k, k < 2 → τ'.2.2.2.1 k (i + 1) = τ.2.2.2.1 k (i + 1)) : rl_I co' τ' i := by
  obtain ⟨f1, f2, f3, f4, f5, f6, f7, v, v1, v2, v3, v4⟩ := h
  unfold rl_I
  rw [g 0 (by decide), g 1 (by decide), g 2 (by decide), g 3 (by decide), g 4 (by decide), g 5 (by decide), l 0 (by decide), l 1 (by decide), p, m 0 (by decide) (by decide) (by decide), m 1 (by decide) (by decide) (by decide), m 2 (by decide) (by decide) (by decide), m 3 (by decide) (by decide) (by decide), m 6 (by decide) (by decide) (by decide), t 0 (by decide), t 1 (by decide)]
  exact ⟨f1, f2, f3, f4, f5, f6, f7, v, v1, v2, fun k hk => (q k (by omega)).1.trans (v3 k hk), v4.trans (fi_pt hi v v1 (fun k hk => (q k (by omega)).2)).symm⟩
theorem rl_Cc {co co' : co_T} {τ τ' : xs_T} {n n' : nn_T} {j : Nat} (hj : j < 100) (hn : n'.2.2.1 = n.2.2.1) (hb : n.2.2.1 ≤ 100) (h : rl_C co τ n j) (g : ∀ k, 6 ≤ k → k < 16 → co'.2.1 k j = co.2.1 k j) (l : co'.2.2.1 2 j = co.2.2.1 2 j) (m : ∀ k, 8 ≤ k → k < 14 → k ≠ 11 → τ'.2.2.1 k (j + 1) = τ.2.2.1 k (j + 1)) (b : ∀ p, p < 4 → τ'.2.2.1 11 (4 * j + p) = τ.2.2.1 11 (4 * j + p)) (t : τ'.2.2.2.1 3 (j + 1) = τ.2.2.2.1 3 (j + 1)) (s : ∀ i, i ≤ j → sd_m τ' (i + 1) = sd_m τ (i + 1)) (c : ∀ w k, k < n.2.2.1 → (cn_m τ' (nI (j + 1)) w (k + 1) ↔ cn_m τ (nI (j + 1)) w (k + 1))) : rl_C co' τ' n' j := by
  obtain ⟨c1, c2, c3, c4, c5, c6, c7, c8, c9, c10, c11, c12, c13⟩ := h
  have hk : ∀ p, p < 4 → lk_b τ' j (co.2.1 7 j) p = lk_b τ j (co.2.1 7 j) p := fun p hp => by unfold lk_b; rw [b p hp]
  have hm : ∀ w, ma_r τ' (nI (j + 1)) w n.2.2.1 = ma_r τ (nI (j + 1)) w n.2.2.1 := fun w => ma_pt _ hb (c w)
  unfold rl_C
  rw [hn, g 6 (by decide) (by decide), g 7 (by decide) (by decide), g 8 (by decide) (by decide), g 9 (by decide) (by decide), g 10 (by decide) (by decide), g 11 (by decide) (by decide), g 12 (by decide) (by decide), g 13 (by decide) (by decide), g 14 (by decide) (by decide), g 15 (by decide) (by decide), l, m 8 (by decide) (by decide) (by decide), m 9 (by decide) (by decide) (by decide), m 10 (by decide) (by decide) (by decide), m 12 (by decide) (by decide) (by decide), m 13 (by decide) (by decide) (by decide), t, hk 0 (by decide), hk 1 (by decide), hk 2 (by decide), hk 3 (by decide), hm 0, hm 1, hm 2, be_pt hj (s j (Nat.le_refl _)) j (by omega) (fun i hi => s i (by omega))]
  exact ⟨c1, c2, c3, c4, c5, c6, c7, c8, c9, c10, c11, c12, c13⟩
theorem rl_Sc {co co' : co_T} {τ τ' : xs_T} {k : Nat} (h : rl_S co τ k) (c : co'.1 1 k = co.1 1 k) (g : ∀ q, q = 17 ∨ q = 18 → co'.2.1 q k = co.2.1 q k) (g7 : ∀ q, q = 7 ∨ q = 9 → co'.2.1 q (co.1 1 k) = co.2.1 q (co.1 1 k)) (m : ∀ q, 14 ≤ q → q < 18 → τ'.2.2.1 q (k + 1) = τ.2.2.1 q (k + 1)) : rl_S co' τ' k := by
  unfold rl_S
  rw [c, g 17 (Or.inl rfl), g 18 (Or.inr rfl), g7 7 (Or.inl rfl), g7 9 (Or.inr rfl), m 14 (by decide) (by decide), m 15 (by decide) (by decide), m 16 (by decide) (by decide), m 17 (by decide) (by decide)]
  exact h
theorem sd_c {τ τ' : xs_T} {c : Nat} (h2 : τ'.2.2.1 2 (τ.2.2.1 8 c).toNatClampNeg = τ.2.2.1 2 (τ.2.2.1 8 c).toNatClampNeg) (h8 : τ'.2.2.1 8 c = τ.2.2.1 8 c) : sd_m τ' c = sd_m τ c := by unfold sd_m; rw [h8, h2]
theorem cn_c {τ τ' : xs_T} {x w : Int32} {c : Nat} (h : ∀ q, 14 ≤ q → q < 18 → τ'.2.2.1 q c = τ.2.2.1 q c) : cn_m τ' x w c ↔ cn_m τ x w c := by unfold cn_m; rw [h 14 (by decide) (by decide), h 16 (by decide) (by decide), h 17 (by decide) (by decide)]
theorem xg_o {f g : Nat → Nat → Int32} {q d k c : Nat} {v : Int32} (h : k ≠ q ∨ c ≠ d) (hg : f k c = g k c) : va_up f q (upd (g q) d v) k c = g k c := by
  by_cases e : k = q
  · subst e
    have : c ≠ d := h.elim (fun z => absurd rfl z) id
    simp [va_up, upd, this]
  · simp [va_up, e, hg]
theorem xl_o {f g : Nat → Nat → Int64} {q d k c : Nat} {v : Int64} (h : k ≠ q ∨ c ≠ d) (hg : f k c = g k c) : va_up f q (vp_updL (g q) d v) k c = g k c := by
  by_cases e : k = q
  · subst e
    have : c ≠ d := h.elim (fun z => absurd rfl z) id
    simp [va_up, vp_updL, this]
  · simp [va_up, e, hg]
/-- uniqueness of the claim that stands, where item, kind and state stay -/
theorem rl_Uc {co co' : co_T} {m : Nat} (hU : ∀ i j, i < m → j < m → co.2.1 6 i = co.2.1 6 j → co.2.1 7 i = co.2.1 7 j → ¬ co.2.1 9 i = 2 → ¬ co.2.1 9 j = 2 → i = j) (G : ∀ k i, i < m → k = 6 ∨ k = 7 ∨ k = 9 → co'.2.1 k i = co.2.1 k i) : ∀ i j, i < m → j < m → co'.2.1 6 i = co'.2.1 6 j → co'.2.1 7 i = co'.2.1 7 j → ¬ co'.2.1 9 i = 2 → ¬ co'.2.1 9 j = 2 → i = j := by
  intro i j hi hj
  rw [G 6 i hi (by decide), G 7 i hi (by decide), G 9 i hi (by decide), G 6 j hj (by decide), G 7 j hj (by decide), G 9 j hj (by decide)]
  exact hU i j hi hj
/-- found: column 5 and array 6 -/
theorem rl_F1 {σ τ τ' : xs_T} {co co' : co_T} {n : nn_T} (hA : rl_A σ co τ n) {i : Nat} (hi : i < n.1) (c1 : co'.1 = co.1) (c2 : co'.2.2 = co.2.2) (G : ∀ k q, k ≠ 5 ∨ q ≠ i → co'.2.1 k q = co.2.1 k q) (t1 : τ'.1 = τ.1) (t2 : τ'.2.1 = τ.2.1) (t3 : τ'.2.2.2 = τ.2.2.2) (M : ∀ k c, k ≠ 6 ∨ c ≠ i + 1 → τ'.2.2.1 k c = τ.2.2.1 k c) (e6 : τ'.2.2.1 6 (i + 1) = co'.2.1 5 i) : rl_A σ co' τ' n := by
  obtain ⟨hV, hX, hI, hI0, hC, hC0, hS, hU⟩ := hA
  have F : ∀ k, k ≠ 6 → τ'.2.2.1 k = τ.2.2.1 k := fun k h => funext (fun c => M k c (Or.inl h))
  have b1 := hV.1.2.1
  have b2 := hV.1.2.2.2.1
  refine ⟨?_, ?_, fun k hk => ?_, fun k hk => ?_, fun k hk => ?_, ?_, fun k hk => ?_, rl_Uc hU (fun k q _ h => G k q (Or.inl (by omega)))⟩
  · unfold rm_V; rw [t1, F 0 (by decide), F 3 (by decide), F 8 (by decide), F 9 (by decide)]; exact hV
  · rw [t1, t2, t3, F 7 (by decide), F 18 (by decide), F 19 (by decide)]; exact hX
  · by_cases e : k = i
    · subst e
      obtain ⟨f1, f2, f3, f4, f5, f6, f7, v, v1, v2, v3, v4⟩ := hI k hk
      unfold rl_I
      rw [F 0 (by decide), F 1 (by decide), F 2 (by decide), F 3 (by decide), F 4 (by decide), t3, c2, G 0 k (by omega), G 1 k (by omega), G 2 k (by omega), G 3 k (by omega), G 4 k (by omega)]
      exact ⟨f1, f2, f3, f4, f5, f6, e6, v, v1, v2, v3, v4.trans (fi_cg (F 5 (by decide)) _ _).symm⟩
    · exact rl_Ic (by omega) (hI k hk) (fun q _ => G q k (Or.inr e)) (fun q _ => by rw [c2]) (by rw [c2]) (fun q _ _ _ => M q _ (Or.inr (by omega))) (fun q _ => ⟨M 4 _ (Or.inl (by decide)), M 5 _ (Or.inl (by decide))⟩) (fun q _ => by rw [t3])
  · rw [M 3 _ (Or.inl (by decide)), M 6 _ (Or.inr (by omega))]; exact hI0 k hk
  · exact rl_Cc (by omega) rfl hV.1.2.2.2.2.2.1 (hC k hk) (fun q h6 _ => G q k (Or.inl (by omega))) (by rw [c2]) (fun q h8 _ _ => M q _ (Or.inl (by omega))) (fun q _ => M 11 _ (Or.inl (by decide))) (by rw [t3]) (fun q _ => sd_c (M 2 _ (Or.inl (by decide))) (M 8 _ (Or.inl (by decide)))) (fun w q _ => cn_c (fun r hr _ => M r _ (Or.inl (by omega))))
  · rw [F 11 (by decide), F 12 (by decide), F 13 (by decide), t3]; exact hC0
  · exact rl_Sc (hS k hk) (by rw [c1]) (fun q hq => G q k (Or.inl (by omega))) (fun q hq => G q _ (Or.inl (by omega))) (fun q hq _ => M q _ (Or.inl (by omega)))
section PQG
variable {σ τ : xs_T} {co : co_T} {n : nn_T}
theorem pq_found (hP : rl_P σ co n) (hA : rl_A σ co τ n) (a : Int32) : rl_M (σ, co) τ n (kc_found (σ, co) a) (kr_found τ a) := by
  have ec : τ.1 0 = σ.1 0 := hA.1.1.1.trans hP.1.1.symm
  unfold kc_found kr_found
  rw [ec]
  rcases pq_nm (x := a) hP.1.1 hP.1.2.1 with ⟨h1, h2⟩ | ⟨i, hi, h1, h2, h3, h4⟩
  · simp only [h1, if_neg h2, Option.elim]; exact rl_no hP hA _
  · obtain ⟨d1, d2, d3, d4, d5, d6, d7, d8⟩ := hA.2.2.1 i hi
    simp only [h1, if_pos h2, Option.elim, h4, pq_n1 hP hA, pq_c1 hP, d7]
    cases hs : st_cl co a 0 n.2.1 0 with
    | none =>
      rw [ot_no hP hA (fun j hj _ => st_no hs j (Nat.zero_le _) (by omega)) _ (Nat.le_refl _), if_pos rfl]
      exact rl_no hP hA _
    | some j =>
      obtain ⟨s1, s2, s3⟩ := st_sm hs
      have hj : j < n.2.1 := by omega
      have hj6 := hP.1.2.2.2.1
      have e0 : ¬ nI (j + 1) = 0 := nI_ne0 (by omega) (by omega)
      obtain ⟨c1, c2, c3, -⟩ := hA.2.2.2.2.1 j hj
      rw [ot_sm hP hA hj e0 s3 _ hj (Nat.le_refl _), if_neg e0, pq_cl hP hj, c3]
      simp only
      by_cases q1 : co.2.1 9 j = 1
      · by_cases q2 : co.2.1 5 i = 0
        · simp only [if_pos q1, if_pos q2]
          refine ⟨rfl, fun n' h => ?_⟩
          rw [rl_n (n := n) (co := co) hP h]
          exact rl_F1 hA hi rfl rfl (fun k q hq => u2_o hq) rfl rfl rfl (fun k c hc => xa_o hc) (xa_s.trans (up_2s co.2.1 5 i 1).symm)
        · simp only [if_pos q1, if_neg q2]; exact rl_no hP hA _
      · simp only [if_neg q1]; exact rl_no hP hA _
end PQG
