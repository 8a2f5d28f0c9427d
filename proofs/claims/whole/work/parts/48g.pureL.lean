/-! Pure: proofs, appeals. -/
def l4_g (a b c d : Bool) (p : Nat) : Bool := if p = 0 then a else if p = 1 then b else if p = 2 then c else d
theorem l4_t (a b c d : Bool) {p : Nat} (hp : p < 4) : nI (l4_n a b c d) &&& ((1 : Int32) <<< (nI p &&& 31)) = 0 ↔ l4_g a b c d p = false := by
  have : p = 0 ∨ p = 1 ∨ p = 2 ∨ p = 3 := by omega
  rcases this with e | e | e | e <;> subst e <;> cases a <;> cases b <;> cases c <;> cases d <;> decide +kernel
theorem l4_u (a b c d : Bool) {p : Nat} (hp : p < 4) : nI (l4_n a b c d) &&& (((1 : Int32) <<< (nI p &&& 31)) ^^^ (-1)) = nI (l4_n (a && decide (0 ≠ p)) (b && decide (1 ≠ p)) (c && decide (2 ≠ p)) (d && decide (3 ≠ p))) := by
  have : p = 0 ∨ p = 1 ∨ p = 2 ∨ p = 3 := by omega
  rcases this with e | e | e | e <;> subst e <;> cases a <;> cases b <;> cases c <;> cases d <;> decide +kernel
theorem l4_e {τ : xs_T} {j : Nat} {kd : Int32} {p : Nat} (hp : p < 4) : l4_g (lc_b τ j kd 0) (lc_b τ j kd 1) (lc_b τ j kd 2) (lc_b τ j kd 3) p = lc_b τ j kd p := by
  have : p = 0 ∨ p = 1 ∨ p = 2 ∨ p = 3 := by omega
  rcases this with e | e | e | e <;> subst e <;> rfl
theorem lc_u {τ τ' : xs_T} {j p : Nat} (h : τ'.2.2.1 11 (4 * j + p) = 1) (M : ∀ c, c ≠ 4 * j + p → τ'.2.2.1 11 c = τ.2.2.1 11 c) (kd : Int32) (q : Nat) : lc_b τ' j kd q = (lc_b τ j kd q && decide (q ≠ p)) := by
  unfold lc_b
  by_cases e : q = p
  · subst e
    rw [h]
    simp
  · rw [M _ (by omega)]
    simp [e]
section PQL
variable {σ τ : xs_T} {co : co_T} {n : nn_T}
theorem rl_L0 {τ' : xs_T} {co' : co_T} (hA : rl_A σ co τ n) {j p : Nat} (hj : j < n.2.1) (hp : p < 4) (t1 : τ'.1 = τ.1) (t2 : τ'.2.1 = τ.2.1) (t3 : τ'.2.2.2 = τ.2.2.2) (M : ∀ q c, q ≠ 11 ∨ c ≠ 4 * j + p → τ'.2.2.1 q c = τ.2.2.1 q c) (c1 : co'.1 = co.1) (c2 : co'.2.2 = co.2.2) (G : ∀ q i, q ≠ 10 ∨ i ≠ j → co'.2.1 q i = co.2.1 q i) (g : co'.2.1 10 j = nI (lk_b τ' j (co.2.1 7 j) 0 + lk_b τ' j (co.2.1 7 j) 1 + lk_b τ' j (co.2.1 7 j) 2 + lk_b τ' j (co.2.1 7 j) 3)) : rl_A σ co' τ' n := by
  obtain ⟨hW, hX, hI, hI0, hC, hC0, hS, hU⟩ := hA
  have F : ∀ q, q ≠ 11 → τ'.2.2.1 q = τ.2.2.1 q := fun q h => funext (fun c => M q c (Or.inl h))
  have b1 := hW.1.2.1
  have b2 := hW.1.2.2.2.1
  have b3 := hW.1.2.2.2.2.2.1
  refine ⟨?_, ?_, fun i hi => ?_, fun i hi => ?_, fun i hi => ?_, fun i hi => ?_, fun i hi => ?_, rl_Uc hU (fun q i _ h => G q i (Or.inl (by omega)))⟩
  · unfold rm_V; rw [t1, F 0 (by decide), F 3 (by decide), F 8 (by decide), F 9 (by decide)]; exact hW
  · rw [t1, t2, t3, F 7 (by decide), F 18 (by decide), F 19 (by decide)]; exact hX
  · exact rl_Ic (by omega) (hI i hi) (fun q hq => G q i (Or.inl (by omega))) (fun q _ => by rw [c2]) (by rw [c2]) (fun q h7 _ _ => M q _ (Or.inl (by omega))) (fun q _ => ⟨M 4 _ (Or.inl (by decide)), M 5 _ (Or.inl (by decide))⟩) (fun q _ => by rw [t3])
  · rw [M 3 _ (Or.inl (by decide)), M 6 _ (Or.inl (by decide))]; exact hI0 i hi
  · by_cases e : i = j
    · obtain ⟨d1, d2, d3, d4, d5, d6, d7, d8, d9, d10, d11, d12, d13⟩ := hC i hi
      have mm : ∀ w, ma_r τ' (nI (i + 1)) w n.2.2.1 = ma_r τ (nI (i + 1)) w n.2.2.1 := fun w => ma_cg (F 14 (by decide)) (F 16 (by decide)) (F 17 (by decide)) _ _ _
      refine rl_Cd (n' := n) (by omega) (hC i hi) (fun q h => G q i (Or.inl (by omega))) (by rw [c2]) (fun q h => M q _ (Or.inl (by omega))) (by rw [t3]) (fun q _ => sd_c (M 2 _ (Or.inl (by decide))) (M 8 _ (Or.inl (by decide)))) ?_ ?_ ?_ ?_ ?_ ?_ ?_ ?_
      · rw [M 10 _ (Or.inl (by decide)), G 9 i (Or.inl (by decide))]; exact d3
      · rw [G 9 i (Or.inl (by decide))]; exact d7
      · rw [M 12 _ (Or.inl (by decide)), G 14 i (Or.inl (by decide))]; exact d4
      · rw [e]; exact g
      · rw [mm, G 12 i (Or.inl (by decide))]; exact d10
      · rw [mm, mm, mm, G 11 i (Or.inl (by decide))]; exact d11
      · rw [mm, G 13 i (Or.inl (by decide))]; exact d12
      · rw [G 13 i (Or.inl (by decide))]; exact d13
    · exact rl_Cc (by omega) rfl b3 (hC i hi) (fun q _ _ => G q i (Or.inr e)) (by rw [c2]) (fun q _ _ h => M q _ (Or.inl h)) (fun q hq => M 11 _ (Or.inr (by omega))) (by rw [t3]) (fun q _ => sd_c (M 2 _ (Or.inl (by decide))) (M 8 _ (Or.inl (by decide)))) (fun w q _ => cn_c (fun r hr _ => M r _ (Or.inl (by omega))))
  · rw [F 12 (by decide), F 13 (by decide), t3]
    exact ⟨fun q hq => (M 11 _ (Or.inr (by omega))).trans ((hC0 i hi).1 q hq), (hC0 i hi).2⟩
  · exact rl_Sc (hS i hi) (by rw [c1]) (fun q hq => G q i (Or.inl (by omega))) (fun q hq => G q _ (Or.inl (by omega))) (fun q hq _ => M q _ (Or.inl (by omega)))
theorem pq_proof (hP : rl_P σ co n) (hA : rl_A σ co τ n) (a p : Int32) : rl_M (σ, co) τ n (kc_proof (σ, co) a p) (kr_proof τ a p) := by
  have ec : τ.1 1 = σ.1 1 := hA.1.1.2.2.1.trans hP.1.2.2.1.symm
  unfold kc_proof kr_proof
  rw [ec]
  simp only [pq_3]
  rcases pq_nm (x := a) hP.1.2.2.1 (by have := hP.1.2.2.2.1; omega) with ⟨h1, h2⟩ | ⟨j, hj, h1, h2, h3, h4⟩
  · simp only [h1, if_neg h2, Option.elim]; exact rl_no hP hA _
  · obtain ⟨c1, c2, c3, c4, c5, c6, c7, c8, c9, c10, c11, c12, c13⟩ := hA.2.2.2.2.1 j hj
    have hb := hP.1.2.2.2.1
    simp only [h1, if_pos h2, Option.elim, h4, c2, c3]
    by_cases q1 : 0 ≤ p ∧ p < 4
    · obtain ⟨v, v1, v2⟩ := nu_4 q1
      by_cases q2 : co.2.1 9 j = 0
      · simp only [if_pos q1, if_pos q2]
        have ix : (4 * a - 4 + p).toNatClampNeg = 4 * j + v := by rw [h3, v2]; exact ix_4 (by omega) v1
        have e10 : co.2.1 10 j = nI (l4_n (lc_b τ j (co.2.1 7 j) 0) (lc_b τ j (co.2.1 7 j) 1) (lc_b τ j (co.2.1 7 j) 2) (lc_b τ j (co.2.1 7 j) 3)) := by rw [c8, l4_k]
        have et : co.2.1 10 j &&& ((1 : Int32) <<< (p &&& 31)) = 0 ↔ lc_b τ j (co.2.1 7 j) v = false := by rw [e10, v2, l4_t _ _ _ _ v1, l4_e v1]
        rw [ix]
        by_cases q3 : lc_b τ j (co.2.1 7 j) v = true
        · have q4 : (p = 0 ∨ (co.2.1 7 j = 1 ∧ p = 1) ∨ (co.2.1 7 j = 2 ∧ p = 2) ∨ (co.2.1 7 j = 3 ∧ 2 ≤ p)) ∧ τ.2.2.1 11 (4 * j + v) = 0 := by rw [v2]; exact of_decide_eq_true q3
          have pm : pr_m τ a p = xs_ai τ 11 (upd (τ.2.2.1 11) (4 * j + v) 1) := by unfold pr_m; rw [ix]
          have m1 : (pr_m τ a p).2.2.1 11 (4 * j + v) = 1 := by rw [pm]; exact xa_s
          have m2 : ∀ q c, q ≠ 11 ∨ c ≠ 4 * j + v → (pr_m τ a p).2.2.1 q c = τ.2.2.1 q c := fun q c h => by rw [pm]; exact xa_o h
          have lu := lc_u (τ := τ) (τ' := pr_m τ a p) m1 (fun c h => m2 11 c (Or.inr h)) (co.2.1 7 j)
          have el : pr_lk co j p = nI (l4_n (lc_b (pr_m τ a p) j (co.2.1 7 j) 0) (lc_b (pr_m τ a p) j (co.2.1 7 j) 1) (lc_b (pr_m τ a p) j (co.2.1 7 j) 2) (lc_b (pr_m τ a p) j (co.2.1 7 j) 3)) := by
            unfold pr_lk
            rw [lu 0, lu 1, lu 2, lu 3, e10, v2]
            exact l4_u _ _ _ _ v1
          have er : bi_ct (pr_lk co j p) = la_r (pr_m τ a p) a 4 := by
            rw [el, l4_b]
            refine (l4_l (kd := co.2.1 7 j) (by omega) ((m2 9 _ (Or.inl (by decide))).trans c2)).symm.trans ?_
            rw [← h3]
          have H : rl_A σ (co_g co (up_2 co.2.1 10 j (pr_lk co j p))) (pr_m τ a p) n := by
            refine rl_L0 hA hj v1 rfl rfl rfl m2 rfl rfl (fun q i h => u2_o h) ?_
            rw [l4_k, ← el]
            exact up_2s co.2.1 10 j _
          rw [if_neg (fun z => by rw [et.mp z] at q3; cases q3), if_pos q4.1, if_pos q4.2, er]
          by_cases q5 : 0 < la_r (pr_m τ a p) a 4
          · simp only [if_pos q5]
            exact ⟨rfl, pq_ls hP.1 hP.2.2 H _ _⟩
          · simp only [if_neg q5]
            refine ⟨rfl, fun n' h => ?_⟩
            rw [rl_n (n := n) (co := co) hP h]
            exact H
        · rw [if_pos (et.mpr (by cases z : lc_b τ j (co.2.1 7 j) v with | false => rfl | true => exact absurd z q3))]
          have q4 : ¬ ((p = 0 ∨ (co.2.1 7 j = 1 ∧ p = 1) ∨ (co.2.1 7 j = 2 ∧ p = 2) ∨ (co.2.1 7 j = 3 ∧ 2 ≤ p)) ∧ τ.2.2.1 11 (4 * j + v) = 0) := by rw [v2]; exact fun z => q3 (decide_eq_true z)
          by_cases q5 : p = 0 ∨ (co.2.1 7 j = 1 ∧ p = 1) ∨ (co.2.1 7 j = 2 ∧ p = 2) ∨ (co.2.1 7 j = 3 ∧ 2 ≤ p)
          · rw [if_pos q5, if_neg (fun z => q4 ⟨q5, z⟩)]; exact rl_no hP hA _
          · rw [if_neg q5]; exact rl_no hP hA _
      · simp only [if_pos q1, if_neg q2]; exact rl_no hP hA _
    · simp only [if_neg q1]; exact rl_no hP hA _
/-- what an appeal leaves in the reference -/
theorem ap_f {x : Int32} : ∀ m, m ≤ 100 → (ap_r τ x m).1 = τ.1 ∧ (ap_r τ x m).2.1 = τ.2.1 ∧ (ap_r τ x m).2.2.2 = τ.2.2.2 ∧ (∀ k, k ≠ 17 → (ap_r τ x m).2.2.1 k = (ap_r τ x 0).2.2.1 k) ∧ ∀ c, (ap_r τ x m).2.2.1 17 (c + 1) = if c < m ∧ τ.2.2.1 14 (c + 1) = x then 0 else τ.2.2.1 17 (c + 1) := by
  intro m
  induction m with
  | zero =>
    intro _
    refine ⟨rfl, rfl, rfl, fun _ _ => rfl, fun c => ?_⟩
    rw [if_neg (fun z => absurd z.1 (Nat.not_lt_zero _))]
    simp [ap_r, xs_ai, va_up]
  | succ m ih =>
    intro hm
    obtain ⟨f1, f2, f3, f4, f5⟩ := ih (by omega)
    have q : (nI (m + 1)).toNatClampNeg = m + 1 := cl_s (by omega)
    have e14 : (ap_r τ x m).2.2.1 14 (m + 1) = τ.2.2.1 14 (m + 1) := by rw [f4 14 (by decide)]; simp [ap_r, xs_ai, va_up]
    have eq : ap_r τ x (m + 1) = if τ.2.2.1 14 (m + 1) = x then xs_ai (ap_r τ x m) 17 (upd ((ap_r τ x m).2.2.1 17) (m + 1) 0) else ap_r τ x m := by
      conv => lhs; unfold ap_r; rw [q, e14]
    by_cases h : τ.2.2.1 14 (m + 1) = x
    · rw [if_pos h] at eq
      rw [eq]
      refine ⟨f1, f2, f3, fun k hk => (xs_u hk).trans (f4 k hk), fun c => ?_⟩
      by_cases e : c = m
      · rw [e, if_pos ⟨by omega, h⟩]; exact xa_s
      · refine (xa_o (Or.inr (by omega))).trans ((f5 c).trans ?_)
        by_cases z : c < m ∧ τ.2.2.1 14 (c + 1) = x
        · rw [if_pos z, if_pos ⟨by omega, z.2⟩]
        · rw [if_neg z, if_neg (fun y => z ⟨by omega, y.2⟩)]
    · rw [if_neg h] at eq
      rw [eq]
      refine ⟨f1, f2, f3, f4, fun c => (f5 c).trans ?_⟩
      by_cases z : c < m ∧ τ.2.2.1 14 (c + 1) = x
      · rw [if_pos z, if_pos ⟨by omega, z.2⟩]
      · rw [if_neg z, if_neg]
        intro y
        by_cases e : c = m
        · exact h (e ▸ y.2)
        · exact z ⟨by omega, y.2⟩
theorem rl_Z0 {τ' : xs_T} {co' : co_T} (hP : rl_P σ co n) (hA : rl_A σ co τ n) {j : Nat} (hj : j < n.2.1) (h9 : co.2.1 9 j = 2) (hno : ∀ q, q < n.2.1 → ¬ mt_c co (co.2.1 6 j) (co.2.1 7 j) q) (t1 : τ'.1 = τ.1) (t2 : τ'.2.1 = τ.2.1) (t3 : τ'.2.2.2 = τ.2.2.2) (M : ∀ q c, q ≠ 17 → ((q ≠ 10 ∧ q ≠ 12) ∨ c ≠ j + 1) → τ'.2.2.1 q c = τ.2.2.1 q c) (m10 : τ'.2.2.1 10 (j + 1) = 0) (m12 : τ'.2.2.1 12 (j + 1) = 1) (m17 : ∀ k, k < n.2.2.1 → τ'.2.2.1 17 (k + 1) = if τ.2.2.1 14 (k + 1) = nI (j + 1) then 0 else τ.2.2.1 17 (k + 1)) (c1 : co'.1 = co.1) (c2 : co'.2.2 = co.2.2) (G : ∀ q i, (q ≠ 9 ∧ q ≠ 14 ∧ q ≠ 11 ∧ q ≠ 13) ∨ i ≠ j → co'.2.1 q i = co.2.1 q i) (g9 : co'.2.1 9 j = 0) (g14 : co'.2.1 14 j = 1) (g11 : co'.2.1 11 j = 0) (g13 : co'.2.1 13 j = 0) : rl_A σ co' τ' n := by
  have hz : ma_r τ (nI (j + 1)) 0 n.2.2.1 = 0 := by
    refine (ma_0 _ hP.1.2.2.2.2.2.1).mpr (fun k hk z => ?_)
    have := (se_w hP hA hk (by have := hP.1.2.2.2.1; omega) z).2.2
    exact absurd (h9.symm.trans this) (by decide)
  have hcl := se_z hP hA hj hz
  obtain ⟨hW, hX, hI, hI0, hC, hC0, hS, hU⟩ := hA
  have F : ∀ q, q ≠ 17 → q ≠ 10 → q ≠ 12 → τ'.2.2.1 q = τ.2.2.1 q := fun q h1 h2 h3 => funext (fun c => M q c h1 (Or.inl ⟨h2, h3⟩))
  have b1 := hW.1.2.1
  have b2 := hW.1.2.2.2.1
  have b3 := hW.1.2.2.2.2.2.1
  have F14 := F 14 (by decide) (by decide) (by decide)
  have F16 := F 16 (by decide) (by decide) (by decide)
  have mz : ∀ w, ma_r τ' (nI (j + 1)) w n.2.2.1 = 0 := by
    intro w
    refine (ma_0 _ b3).mpr (fun k hk z => ?_)
    obtain ⟨z1, z2, z3⟩ := z
    rw [F14] at z1
    rw [m17 k hk, if_pos z1] at z2
    exact z2 rfl
  refine ⟨?_, ?_, fun i hi => ?_, fun i hi => ?_, fun i hi => ?_, fun i hi => ?_, fun i hi => ?_, fun p q hp hq e6 e7 n1 n2 => ?_⟩
  · unfold rm_V; rw [t1, F 0 (by decide) (by decide) (by decide), F 3 (by decide) (by decide) (by decide), F 8 (by decide) (by decide) (by decide), F 9 (by decide) (by decide) (by decide)]; exact hW
  · rw [t1, t2, t3, F 7 (by decide) (by decide) (by decide), F 18 (by decide) (by decide) (by decide), F 19 (by decide) (by decide) (by decide)]; exact hX
  · exact rl_Ic (by omega) (hI i hi) (fun q hq => G q i (Or.inl (by omega))) (fun q _ => by rw [c2]) (by rw [c2]) (fun q h7 _ _ => M q _ (by omega) (Or.inl (by omega))) (fun q _ => ⟨M 4 _ (by decide) (Or.inl (by decide)), M 5 _ (by decide) (Or.inl (by decide))⟩) (fun q _ => by rw [t3])
  · rw [F 3 (by decide) (by decide) (by decide), F 6 (by decide) (by decide) (by decide)]; exact hI0 i hi
  · by_cases e : i = j
    · obtain ⟨d1, d2, d3, d4, d5, d6, d7, d8, d9, d10, d11, d12, d13⟩ := hC i hi
      refine rl_Cd (n' := n) (by omega) (hC i hi) (fun q h => G q i (Or.inl (by omega))) (by rw [c2]) (fun q h => M q _ (by omega) (Or.inl (by omega))) (by rw [t3]) (fun q _ => sd_c (M 2 _ (by decide) (Or.inl (by decide))) (M 8 _ (by decide) (Or.inl (by decide)))) ?_ ?_ ?_ ?_ ?_ ?_ ?_ ?_
      · rw [e, m10, g9]
      · rw [e, g9]; exact Or.inl rfl
      · rw [e, m12, g14]
      · rw [lk_p (fun q _ => M 11 _ (by decide) (Or.inl (by decide))), G 10 i (Or.inl (by decide))]; exact d8
      · rw [G 12 i (Or.inl (by decide)), d10, e, hz, mz]
      · rw [e, g11, mz, mz, mz]; rfl
      · rw [e, g13, mz]
      · rw [e, g13]; exact Or.inl rfl
    · refine rl_Cc (by omega) rfl b3 (hC i hi) (fun q _ _ => G q i (Or.inr e)) (by rw [c2]) (fun q _ _ h => M q _ (by omega) (Or.inr (by omega))) (fun q hq => M 11 _ (by decide) (Or.inl (by decide))) (by rw [t3]) (fun q _ => sd_c (M 2 _ (by decide) (Or.inl (by decide))) (M 8 _ (by decide) (Or.inl (by decide)))) (fun w q hq => ?_)
      unfold cn_m
      rw [F14, F16, m17 q hq]
      by_cases z : τ.2.2.1 14 (q + 1) = nI (i + 1)
      · rw [if_neg]
        rw [z]
        intro y
        have := (nI_eq (by omega) (by omega)).mp y
        omega
      · exact ⟨fun y => absurd y.1 z, fun y => absurd y.1 z⟩
  · rw [F 11 (by decide) (by decide) (by decide), M 12 _ (by decide) (Or.inr (by omega)), F 13 (by decide) (by decide) (by decide), t3]; exact hC0 i hi
  · obtain ⟨s1, s2, s3, s4⟩ := hS i hi
    unfold rl_S
    rw [c1, F14, F16, F 15 (by decide) (by decide) (by decide), m17 i hi, G 17 i (Or.inl (by decide)), G 18 i (Or.inl (by decide)), G 7 _ (Or.inl (by decide))]
    refine ⟨s1, s2, s3, ?_⟩
    by_cases e : co.1 1 i = j
    · rcases s4 with ⟨x1, x2, x3, x4⟩ | x
      · exact absurd (x1.symm.trans (hcl i hi e)) (by decide)
      · exact Or.inr x
    · rw [G 9 _ (Or.inr e), if_neg]
      · exact s4
      · rw [s1]
        intro y
        have := hP.2.1.2.2 i hi
        have := (nI_eq (by omega) (by omega)).mp y
        omega
  · rw [G 6 p (Or.inl (by decide)), G 6 q (Or.inl (by decide))] at e6
    rw [G 7 p (Or.inl (by decide)), G 7 q (Or.inl (by decide))] at e7
    by_cases ep : p = j
    · by_cases eq : q = j
      · omega
      · rw [G 9 q (Or.inr eq)] at n2
        rw [ep] at e6 e7
        exact absurd ⟨e6.symm, e7.symm, n2⟩ (hno q hq)
    · rw [G 9 p (Or.inr ep)] at n1
      by_cases eq : q = j
      · rw [eq] at e6 e7
        exact absurd ⟨e6, e7, n1⟩ (hno p hp)
      · rw [G 9 q (Or.inr eq)] at n2
        exact hU p q hp hq e6 e7 n1 n2
theorem pq_appeal (hP : rl_P σ co n) (hA : rl_A σ co τ n) (a : Int32) : rl_M (σ, co) τ n (kc_appeal (σ, co) a) (kr_appeal τ a) := by
  have ec : τ.1 1 = σ.1 1 := hA.1.1.2.2.1.trans hP.1.2.2.1.symm
  unfold kc_appeal kr_appeal
  rw [ec]
  simp only [pq_c1 hP, pq_n2 hP hA]
  rcases pq_nm (x := a) hP.1.2.2.1 (by have := hP.1.2.2.2.1; omega) with ⟨h1, h2⟩ | ⟨j, hj, h1, h2, h3, h4⟩
  · simp only [h1, if_neg h2, Option.elim]; exact rl_no hP hA _
  · obtain ⟨c1, c2, c3, c4, c5, c6, c7, c8, c9, c10, c11, c12, c13⟩ := hA.2.2.2.2.1 j hj
    have hb := hP.1.2.2.2.1
    simp only [h1, if_pos h2, Option.elim, h4, c1, c2, c3, c4]
    by_cases q1 : co.2.1 9 j = 2
    · by_cases q2 : co.2.1 14 j = 0
      · simp only [if_pos q1, if_pos q2]
        cases hs : st_cl co (co.2.1 6 j) (co.2.1 7 j) n.2.1 0 with
        | some q =>
          obtain ⟨s1, s2, s3⟩ := st_sm hs
          have hq : q < n.2.1 := by omega
          have ne : ¬ nI (q + 1) = a := by
            rw [h3]
            intro y
            have := (nI_eq (by omega) (by omega)).mp y
            have e : q = j := by omega
            exact s3.2.2 (e ▸ q1)
          rw [ot_sm hP hA hq ne s3 _ hq (Nat.le_refl _), if_neg (show ¬ nI (q + 1) ≤ 0 from fun z => by rw [nI_l0 (by omega)] at z; omega)]
          exact rl_no hP hA _
        | none =>
          have hno : ∀ q, q < n.2.1 → ¬ mt_c co (co.2.1 6 j) (co.2.1 7 j) q := fun q hq => st_no hs q (Nat.zero_le _) (by omega)
          rw [ot_no hP hA (fun q hq _ => hno q hq) _ (Nat.le_refl _), if_pos (show (0 : Int32) ≤ 0 by decide)]
          obtain ⟨f1, f2, f3, f4, f5⟩ := ap_f (τ := τ) (x := a) n.2.2.1 hP.1.2.2.2.2.2.1
          have b0 : ∀ q c, (q ≠ 10 ∧ q ≠ 12) ∨ c ≠ j + 1 → (ap_r τ a 0).2.2.1 q c = τ.2.2.1 q c := fun q c h => by
            unfold ap_r
            rw [h4]
            exact xg_o (by omega) (xg_o (by omega) rfl)
          refine ⟨rfl, pq_ls (co' := ap_co co j) hP.1 hP.2.2 ?_ _ _⟩
          refine rl_Z0 hP hA hj q1 hno f1 f2 f3 (fun q c h1 h2 => ?_) ?_ ?_ (fun k hk => ?_) rfl rfl (fun q i h => ?_) ?_ ?_ ?_ ?_
          · rw [f4 q h1]; exact b0 q c h2
          · rw [f4 10 (by decide)]; simp [ap_r, xs_ai, va_up, upd, h4]
          · rw [f4 12 (by decide)]; simp [ap_r, xs_ai, va_up, upd, h4]
          · rw [f5 k, ← h3]
            by_cases z : τ.2.2.1 14 (k + 1) = a
            · rw [if_pos z, if_pos ⟨hk, z⟩]
            · rw [if_neg z, if_neg (fun y => z y.2)]
          · exact (u2_o (show q ≠ 13 ∨ i ≠ j by omega)).trans ((u2_o (show q ≠ 11 ∨ i ≠ j by omega)).trans ((u2_o (show q ≠ 14 ∨ i ≠ j by omega)).trans (u2_o (show q ≠ 9 ∨ i ≠ j by omega))))
          · simp [ap_co, co_g, up_2, va_up]
          · simp [ap_co, co_g, up_2, va_up]
          · simp [ap_co, co_g, up_2, va_up]
          · simp [ap_co, co_g, up_2, va_up]
      · simp only [if_pos q1, if_neg q2]; exact rl_no hP hA _
    · simp only [if_neg q1]; exact rl_no hP hA _
end PQL
