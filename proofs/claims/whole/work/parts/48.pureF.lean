/-! Pure: places; what agrees place by place; what a claim lacks; what reads. -/
theorem ix_n {m i k : Nat} (hm : m ≤ 8) (hi : i < 100) (hk : k < 8) {x M : Int32} (hx : x = nI (i + 1)) (hM : M = nI m) : (M * x - M + nI k).toNatClampNeg = m * i + k := by
  have h1 : m * (i + 1) = m * i + m := by rw [Nat.mul_add, Nat.mul_one]
  have h2 : m * i ≤ 8 * i := Nat.mul_le_mul_right _ hm
  rw [hx, hM, pk_mul, pk_sub (by omega), nI_add, nI_clamp (by omega)]
  omega
theorem ix_8 {i k : Nat} (hi : i < 100) (hk : k < 8) : (8 * nI (i + 1) - 8 + nI k).toNatClampNeg = 8 * i + k := ix_n (Nat.le_refl _) hi hk rfl rfl
theorem ix_4 {i k : Nat} (hi : i < 100) (hk : k < 4) : (4 * nI (i + 1) - 4 + nI k).toNatClampNeg = 4 * i + k := ix_n (by decide) hi (by omega) rfl rfl
theorem cl_s {i : Nat} (h : i < 1000) : (nI (i + 1)).toNatClampNeg = i + 1 := nI_clamp (by omega)
theorem fi_pt {τ τ' : xs_T} {i : Nat} (hi : i < 100) : ∀ v, v ≤ 8 → (∀ k, k < v → τ'.2.2.1 5 (8 * i + k) = τ.2.2.1 5 (8 * i + k)) → fi_r τ' (nI (i + 1)) v = fi_r τ (nI (i + 1)) v := by
  intro v
  induction v with
  | zero => intro _ _; rfl
  | succ v ih =>
    intro h1 h2
    unfold fi_r
    rw [ix_8 hi (by omega), h2 v (by omega), ih (by omega) (fun k hk => h2 k (by omega))]
/-- a claim's sender, in the reference -/
def sd_m (τ : xs_T) (c : Nat) : Int32 := τ.2.2.1 2 (τ.2.2.1 8 c).toNatClampNeg
theorem be_pt {τ τ' : xs_T} {j : Nat} (hj : j < 100) (hx : sd_m τ' (j + 1) = sd_m τ (j + 1)) : ∀ m, m ≤ 100 → (∀ i, i < m → sd_m τ' (i + 1) = sd_m τ (i + 1)) → be_r τ' (nI (j + 1)) m = be_r τ (nI (j + 1)) m := by
  intro m
  induction m with
  | zero => intro _ _; rfl
  | succ m ih =>
    intro h1 h2
    have hm := h2 m (by omega)
    unfold sd_m at hm hx
    unfold be_r
    rw [cl_s (by omega), cl_s (by omega), hm, hx, ih (by omega) (fun k hk => h2 k (by omega))]
/-- a search counts for a claim with an answer, in the reference -/
def cn_m (τ : xs_T) (x w : Int32) (c : Nat) : Prop := τ.2.2.1 14 c = x ∧ ¬ τ.2.2.1 17 c = 0 ∧ τ.2.2.1 16 c = w
theorem ma_s {τ : xs_T} {x w : Int32} {m : Nat} (hm : m < 100) : (cn_m τ x w (m + 1) ∧ ma_r τ x w (m + 1) = ma_r τ x w m + 1) ∨ (¬ cn_m τ x w (m + 1) ∧ ma_r τ x w (m + 1) = ma_r τ x w m) := by
  have e : ma_r τ x w (m + 1) = if τ.2.2.1 14 (m + 1) = x ∧ ¬ τ.2.2.1 17 (m + 1) = 0 ∧ τ.2.2.1 16 (m + 1) = w then ma_r τ x w m + 1 else ma_r τ x w m := by
    have q : (nI (m + 1)).toNatClampNeg = m + 1 := cl_s (by omega)
    conv => lhs; unfold ma_r; rw [q]
  by_cases h : cn_m τ x w (m + 1)
  · exact Or.inl ⟨h, e.trans (if_pos h)⟩
  · exact Or.inr ⟨h, e.trans (if_neg h)⟩
theorem ma_pt {τ τ' : xs_T} {x w : Int32} : ∀ m, m ≤ 100 → (∀ k, k < m → (cn_m τ' x w (k + 1) ↔ cn_m τ x w (k + 1))) → ma_r τ' x w m = ma_r τ x w m := by
  intro m
  induction m with
  | zero => intro _ _; rfl
  | succ m ih =>
    intro h1 h2
    have hm := h2 m (by omega)
    have hi := ih (by omega) (fun k hk => h2 k (by omega))
    rcases ma_s (τ := τ) (x := x) (w := w) (show m < 100 by omega) with ⟨a, b⟩ | ⟨a, b⟩ <;> rcases ma_s (τ := τ') (x := x) (w := w) (show m < 100 by omega) with ⟨c, d⟩ | ⟨c, d⟩
    · rw [b, d, hi]
    · exact absurd (hm.mpr a) c
    · exact absurd (hm.mp c) a
    · rw [b, d, hi]
theorem ma_le {τ : xs_T} {x w : Int32} : ∀ m, m ≤ 100 → ∃ a : Nat, a ≤ m ∧ ma_r τ x w m = nI a := by
  intro m
  induction m with
  | zero => intro _; exact ⟨0, Nat.le_refl _, rfl⟩
  | succ m ih =>
    intro h1
    obtain ⟨a, h2, h3⟩ := ih (by omega)
    rcases ma_s (τ := τ) (x := x) (w := w) (show m < 100 by omega) with ⟨-, b⟩ | ⟨-, b⟩
    · exact ⟨a + 1, by omega, by rw [b, h3, nI_1]⟩
    · exact ⟨a, by omega, by rw [b, h3]⟩
theorem ma_0 {τ : xs_T} {x w : Int32} : ∀ m, m ≤ 100 → (ma_r τ x w m = 0 ↔ ∀ k, k < m → ¬ cn_m τ x w (k + 1)) := by
  intro m
  induction m with
  | zero => intro _; exact ⟨fun _ k hk => absurd hk (Nat.not_lt_zero k), fun _ => rfl⟩
  | succ m ih =>
    intro h1
    have hi := ih (by omega)
    rcases ma_s (τ := τ) (x := x) (w := w) (show m < 100 by omega) with ⟨a, b⟩ | ⟨a, b⟩
    · obtain ⟨c, h2, h3⟩ := ma_le (τ := τ) (x := x) (w := w) m (by omega)
      rw [b, h3, nI_1]
      exact ⟨fun h => absurd h (nI_ne0 (by omega) (by omega)), fun h => absurd a (h m (by omega))⟩
    · rw [b]
      refine ⟨fun h k hk => ?_, fun h => hi.mpr (fun k hk => h k (by omega))⟩
      by_cases e : k = m
      · rw [e]; exact a
      · exact hi.mp h k (by omega)
/-- one place changes: it counted and does no more -/
theorem ma_dn {τ τ' : xs_T} {x w : Int32} {q : Nat} (h1 : cn_m τ x w (q + 1)) (h2 : ¬ cn_m τ' x w (q + 1)) : ∀ m, m ≤ 100 → (∀ k, k < m → k ≠ q → (cn_m τ' x w (k + 1) ↔ cn_m τ x w (k + 1))) → q < m → ma_r τ x w m = ma_r τ' x w m + 1 := by
  intro m
  induction m with
  | zero => intro _ _ h; exact absurd h (Nat.not_lt_zero _)
  | succ m ih =>
    intro hm h hq
    by_cases e : m = q
    · have hs := ma_pt (τ := τ) (τ' := τ') (x := x) (w := w) m (by omega) (fun k hk => h k (by omega) (by omega))
      rw [← e] at h1 h2
      rcases ma_s (τ := τ) (x := x) (w := w) (show m < 100 by omega) with ⟨a, b⟩ | ⟨a, b⟩ <;> rcases ma_s (τ := τ') (x := x) (w := w) (show m < 100 by omega) with ⟨c, d⟩ | ⟨c, d⟩
      · exact absurd c h2
      · rw [b, d, hs]
      · exact absurd h1 a
      · exact absurd h1 a
    · have hi := ih (by omega) (fun k hk => h k (by omega)) (by omega)
      have hc := h m (by omega) e
      rcases ma_s (τ := τ) (x := x) (w := w) (show m < 100 by omega) with ⟨a, b⟩ | ⟨a, b⟩ <;> rcases ma_s (τ := τ') (x := x) (w := w) (show m < 100 by omega) with ⟨c, d⟩ | ⟨c, d⟩
      · rw [b, d, hi]
      · exact absurd (hc.mpr a) c
      · exact absurd (hc.mp c) a
      · rw [b, d, hi]
/-! What a claim lacks: four bits. -/
def lc_b (τ : xs_T) (j : Nat) (kd : Int32) (p : Nat) : Bool := decide ((nI p = 0 ∨ (kd = 1 ∧ nI p = 1) ∨ (kd = 2 ∧ nI p = 2) ∨ (kd = 3 ∧ 2 ≤ nI p)) ∧ τ.2.2.1 11 (4 * j + p) = 0)
def l4_n (a b c d : Bool) : Nat := (if a then 1 else 0) + (if b then 2 else 0) + (if c then 4 else 0) + (if d then 8 else 0)
def l4_c (a b c d : Bool) : Int32 := (if d then (if c then (if b then (if a then 0 + 1 else 0) + 1 else (if a then 0 + 1 else 0)) + 1 else (if b then (if a then 0 + 1 else 0) + 1 else (if a then 0 + 1 else 0))) + 1 else (if c then (if b then (if a then 0 + 1 else 0) + 1 else (if a then 0 + 1 else 0)) + 1 else (if b then (if a then 0 + 1 else 0) + 1 else (if a then 0 + 1 else 0))))
theorem l4_k {τ : xs_T} {j : Nat} {kd : Int32} : lk_b τ j kd 0 + lk_b τ j kd 1 + lk_b τ j kd 2 + lk_b τ j kd 3 = l4_n (lc_b τ j kd 0) (lc_b τ j kd 1) (lc_b τ j kd 2) (lc_b τ j kd 3) := by
  unfold lk_b l4_n lc_b
  simp only [decide_eq_true_eq]
theorem l4_l {τ : xs_T} {j : Nat} (hj : j < 100) {kd : Int32} (hk : τ.2.2.1 9 (j + 1) = kd) : la_r τ (nI (j + 1)) 4 = l4_c (lc_b τ j kd 0) (lc_b τ j kd 1) (lc_b τ j kd 2) (lc_b τ j kd 3) := by
  simp only [la_r, l4_c, lc_b, ix_4 hj (show 0 < 4 by decide), ix_4 hj (show 1 < 4 by decide), ix_4 hj (show 2 < 4 by decide), ix_4 hj (show 3 < 4 by decide), cl_s (show j < 1000 by omega), hk, decide_eq_true_eq]
theorem l4_b (a b c d : Bool) : bi_ct (nI (l4_n a b c d)) = l4_c a b c d := by cases a <;> cases b <;> cases c <;> cases d <;> decide +kernel
theorem l4_z (a b c d : Bool) : l4_c a b c d ≤ 0 ↔ nI (l4_n a b c d) = 0 := by cases a <;> cases b <;> cases c <;> cases d <;> decide +kernel
section PQF
variable {σ τ : xs_T} {co : co_T} {n : nn_T}
theorem la_ct (hP : rl_P σ co n) (hA : rl_A σ co τ n) {j : Nat} (hj : j < n.2.1) : bi_ct (co.2.1 10 j) = la_r τ (nI (j + 1)) 4 := by
  obtain ⟨c1, c2, c3, c4, c5, c6, c7, c8, c9, c10, c11, c12, c13⟩ := hA.2.2.2.2.1 j hj
  rw [c8, l4_k, l4_b, l4_l (by have := hP.1.2.2.2.1; omega) c2]
theorem la_0 (hP : rl_P σ co n) (hA : rl_A σ co τ n) {j : Nat} (hj : j < n.2.1) : la_r τ (nI (j + 1)) 4 ≤ 0 ↔ co.2.1 10 j = 0 := by
  obtain ⟨c1, c2, c3, c4, c5, c6, c7, c8, c9, c10, c11, c12, c13⟩ := hA.2.2.2.2.1 j hj
  rw [c8, l4_k, l4_l (by have := hP.1.2.2.2.1; omega) c2, l4_z]
theorem pq_n2 (hP : rl_P σ co n) (hA : rl_A σ co τ n) : (τ.1 2).toNatClampNeg = n.2.2.1 := by
  rw [hA.1.1.2.2.2.2.1]; exact nI_clamp (by have := hP.1.2.2.2.2.2.1; omega)
theorem pq_n1 (hP : rl_P σ co n) (hA : rl_A σ co τ n) : (τ.1 1).toNatClampNeg = n.2.1 := by
  rw [hA.1.1.2.2.1]; exact nI_clamp (by have := hP.1.2.2.2.1; omega)
theorem pq_c1 (hP : rl_P σ co n) : (σ.1 1).toNatClampNeg = n.2.1 := by
  rw [hP.1.2.2.1]; exact nI_clamp (by have := hP.1.2.2.2.1; omega)
theorem pq_about (hP : rl_P σ co n) (hA : rl_A σ co τ n) (a b : Int32) : kc_about (σ, co) a b = kr_about τ a b := by
  have ec : τ.1 1 = σ.1 1 := hA.1.1.2.2.1.trans hP.1.2.2.1.symm
  unfold kc_about kr_about
  rw [ec]
  rcases pq_nm (x := a) hP.1.2.2.1 (by have := hP.1.2.2.2.1; omega) with ⟨h1, h2⟩ | ⟨j, hj, h1, h2, h3, h4⟩
  · simp only [h1, if_neg h2, Option.elim]
  · obtain ⟨c1, c2, c3, c4, c5, c6, c7, c8, c9, c10, c11, c12, c13⟩ := hA.2.2.2.2.1 j hj
    have e1 : (a - 1).toNatClampNeg = j := by rw [h3, nI_pred]; exact nI_clamp (by have := hP.1.2.2.2.1; omega)
    simp only [h1, if_pos h2, Option.elim, h4, c1, c2, c3, e1, pq_n2 hP hA]
    rw [la_ct hP hA hj, h3, c9, c10]
end PQF
