/-! Pure: searches: new, answered, closed by the clock. -/
theorem i3_rc (a b c : Int32) : a + b + c = a + c + b := by rw [Int32.add_assoc, Int32.add_comm b c, ← Int32.add_assoc]
/-- a claim's row, where its numbers change -/
theorem rl_Cd {co co' : co_T} {τ τ' : xs_T} {n n' : nn_T} {j : Nat} (hj : j < 100) (h : rl_C co τ n j) (g : ∀ k, k = 6 ∨ k = 7 ∨ k = 8 ∨ k = 15 → co'.2.1 k j = co.2.1 k j) (l : co'.2.2.1 2 j = co.2.2.1 2 j) (m : ∀ k, k = 8 ∨ k = 9 ∨ k = 13 → τ'.2.2.1 k (j + 1) = τ.2.2.1 k (j + 1)) (t : τ'.2.2.2.1 3 (j + 1) = τ.2.2.2.1 3 (j + 1)) (s : ∀ i, i ≤ j → sd_m τ' (i + 1) = sd_m τ (i + 1)) (e9 : τ'.2.2.1 10 (j + 1) = co'.2.1 9 j) (e9' : co'.2.1 9 j = 0 ∨ co'.2.1 9 j = 1 ∨ co'.2.1 9 j = 2) (e14 : τ'.2.2.1 12 (j + 1) = co'.2.1 14 j) (e10 : co'.2.1 10 j = nI (lk_b τ' j (co.2.1 7 j) 0 + lk_b τ' j (co.2.1 7 j) 1 + lk_b τ' j (co.2.1 7 j) 2 + lk_b τ' j (co.2.1 7 j) 3)) (e12 : co'.2.1 12 j = ma_r τ' (nI (j + 1)) 0 n'.2.2.1) (e11 : co'.2.1 11 j = ma_r τ' (nI (j + 1)) 0 n'.2.2.1 + ma_r τ' (nI (j + 1)) 1 n'.2.2.1 + ma_r τ' (nI (j + 1)) 2 n'.2.2.1) (e13 : co'.2.1 13 j = 0 ↔ ma_r τ' (nI (j + 1)) 1 n'.2.2.1 = 0) (e13' : co'.2.1 13 j = 0 ∨ co'.2.1 13 j = 1) : rl_C co' τ' n' j := by
  obtain ⟨c1, c2, c3, c4, c5, c6, c7, c8, c9, c10, c11, c12, c13⟩ := h
  unfold rl_C
  rw [g 6 (by decide), g 7 (by decide), g 8 (by decide), g 15 (by decide), l, m 8 (by decide), m 9 (by decide), m 13 (by decide), t, be_pt hj (s j (Nat.le_refl _)) j (by omega) (fun i hi => s i (by omega))]
  exact ⟨c1, c2, e9, e14, c5, c6, e9', e10, c9, e12, e11, e13, e13'⟩
theorem lk_p {τ τ' : xs_T} {j : Nat} (b : ∀ p, p < 4 → τ'.2.2.1 11 (4 * j + p) = τ.2.2.1 11 (4 * j + p)) (kd : Int32) : lk_b τ' j kd 0 + lk_b τ' j kd 1 + lk_b τ' j kd 2 + lk_b τ' j kd 3 = lk_b τ j kd 0 + lk_b τ j kd 1 + lk_b τ j kd 2 + lk_b τ j kd 3 := by
  unfold lk_b
  rw [b 0 (by decide), b 1 (by decide), b 2 (by decide), b 3 (by decide)]
/-- a search is closed -/
theorem rl_K0 {σ τ τ' : xs_T} {co co' : co_T} {n : nn_T} (hA : rl_A σ co τ n) (hV : ∀ k, k < n.2.2.1 → co.1 1 k < n.2.1) {k : Nat} (hk : k < n.2.2.1) (ho : co.2.1 18 k = 1) {b : Bool} (t1 : τ'.1 = τ.1) (t2 : τ'.2.1 = τ.2.1) (t3 : τ'.2.2.2 = τ.2.2.2) (M : ∀ q c, q ≠ 16 ∨ c ≠ k + 1 → τ'.2.2.1 q c = τ.2.2.1 q c) (m16 : τ'.2.2.1 16 (k + 1) = if b then 1 else 2) (c1 : co'.1 = co.1) (c2 : co'.2.2 = co.2.2) (G : ∀ q i, (q ≠ 18 ∨ i ≠ k) → ((q ≠ 12 ∧ q ≠ 13) ∨ i ≠ co.1 1 k) → co'.2.1 q i = co.2.1 q i) (g18 : co'.2.1 18 k = 0) (g12 : co'.2.1 12 (co.1 1 k) = co.2.1 12 (co.1 1 k) - 1) (g13 : co'.2.1 13 (co.1 1 k) = if b then 1 else co.2.1 13 (co.1 1 k)) : rl_A σ co' τ' n := by
  obtain ⟨hW, hX, hI, hI0, hC, hC0, hS, hU⟩ := hA
  have F : ∀ q, q ≠ 16 → τ'.2.2.1 q = τ.2.2.1 q := fun q h => funext (fun c => M q c (Or.inl h))
  have b1 := hW.1.2.1
  have b2 := hW.1.2.2.2.1
  have b3 := hW.1.2.2.2.2.2.1
  have hjk := hV k hk
  obtain ⟨s1, s2, s3, s4⟩ := hS k hk
  have s5 : τ.2.2.1 16 (k + 1) = 0 ∧ ¬ τ.2.2.1 17 (k + 1) = 0 := by
    rcases s4 with ⟨x1, x2, x3, x4⟩ | ⟨x1, x2⟩
    · exact ⟨x2, x3⟩
    · exact absurd (ho.symm.trans x1) (by decide)
  have hq : ∀ (x w : Int32) (q : Nat), q ≠ k → (cn_m τ' x w (q + 1) ↔ cn_m τ x w (q + 1)) := fun x w q h => cn_c (fun r _ _ => M r _ (Or.inr (by omega)))
  have h14 : τ'.2.2.1 14 (k + 1) = nI (co.1 1 k + 1) := (M 14 _ (Or.inl (by decide))).trans s1
  have h17 : ¬ τ'.2.2.1 17 (k + 1) = 0 := by rw [M 17 _ (Or.inl (by decide))]; exact s5.2
  refine ⟨?_, ?_, fun i hi => ?_, fun i hi => ?_, fun i hi => ?_, ?_, fun i hi => ?_, rl_Uc hU (fun q i _ h => G q i (Or.inl (by omega)) (Or.inl (by omega)))⟩
  · unfold rm_V; rw [t1, F 0 (by decide), F 3 (by decide), F 8 (by decide), F 9 (by decide)]; exact hW
  · rw [t1, t2, t3, F 7 (by decide), F 18 (by decide), F 19 (by decide)]; exact hX
  · exact rl_Ic (by omega) (hI i hi) (fun q hq => G q i (Or.inl (by omega)) (Or.inl (by omega))) (fun q _ => by rw [c2]) (by rw [c2]) (fun q h7 _ _ => M q _ (Or.inl (by omega))) (fun q _ => ⟨M 4 _ (Or.inl (by decide)), M 5 _ (Or.inl (by decide))⟩) (fun q _ => by rw [t3])
  · rw [M 3 _ (Or.inl (by decide)), M 6 _ (Or.inl (by decide))]; exact hI0 i hi
  · by_cases e : i = co.1 1 k
    · obtain ⟨d1, d2, d3, d4, d5, d6, d7, d8, d9, d10, d11, d12, d13⟩ := hC i hi
      have m0 : ma_r τ (nI (i + 1)) 0 n.2.2.1 = ma_r τ' (nI (i + 1)) 0 n.2.2.1 + 1 := by
        refine ma_dn (q := k) ⟨by rw [s1, e], s5.2, s5.1⟩ (fun z => ?_) _ b3 (fun q _ h => hq _ _ q h) hk
        have z2 := z.2.2
        rw [m16] at z2
        cases b
        · exact absurd z2 (by decide)
        · exact absurd z2 (by decide)
      have mu : ∀ w : Int32, ¬ w = 0 → ¬ w = (if b then 1 else 2) → ma_r τ' (nI (i + 1)) w n.2.2.1 = ma_r τ (nI (i + 1)) w n.2.2.1 := by
        intro w h1 h2
        refine ma_pt _ b3 (fun q hq' => ?_)
        by_cases z : q = k
        · rw [z]
          exact ⟨fun y => absurd (y.2.2.symm.trans m16) h2, fun y => absurd (y.2.2.symm.trans s5.1) h1⟩
        · exact hq _ _ q z
      have mp : ma_r τ' (nI (i + 1)) (if b then 1 else 2) n.2.2.1 = ma_r τ (nI (i + 1)) (if b then 1 else 2) n.2.2.1 + 1 := by
        refine ma_dn (q := k) ⟨by rw [h14, e], h17, m16⟩ (fun z => ?_) _ b3 (fun q _ h => (hq _ _ q h).symm) hk
        have z2 := z.2.2
        rw [s5.1] at z2
        cases b
        · exact absurd z2 (by decide)
        · exact absurd z2 (by decide)
      refine rl_Cd (n' := n) (by omega) (hC i hi) (fun q h => G q i (Or.inl (by omega)) (Or.inl (by omega))) (by rw [c2]) (fun q h => M q _ (Or.inl (by omega))) (by rw [t3]) (fun q _ => sd_c (M 2 _ (Or.inl (by decide))) (M 8 _ (Or.inl (by decide)))) ?_ ?_ ?_ ?_ ?_ ?_ ?_ ?_
      · rw [M 10 _ (Or.inl (by decide)), G 9 i (Or.inl (by decide)) (Or.inl (by decide))]; exact d3
      · rw [G 9 i (Or.inl (by decide)) (Or.inl (by decide))]; exact d7
      · rw [M 12 _ (Or.inl (by decide)), G 14 i (Or.inl (by decide)) (Or.inl (by decide))]; exact d4
      · rw [lk_p (fun q _ => M 11 _ (Or.inl (by decide))), G 10 i (Or.inl (by decide)) (Or.inl (by decide))]; exact d8
      · rw [e, g12, ← e, d10, m0, Int32.add_sub_cancel]
      · rw [G 11 i (Or.inl (by decide)) (Or.inl (by decide)), d11, m0]
        cases b
        · have y1 := mu 1 (by decide) (by decide)
          have y2 : ma_r τ' (nI (i + 1)) 2 n.2.2.1 = ma_r τ (nI (i + 1)) 2 n.2.2.1 + 1 := mp
          rw [y1, y2, i3_rc _ 1 (ma_r τ (nI (i + 1)) 1 n.2.2.1), Int32.add_assoc _ 1 (ma_r τ (nI (i + 1)) 2 n.2.2.1), Int32.add_comm 1 (ma_r τ (nI (i + 1)) 2 n.2.2.1)]
        · have y1 := mu 2 (by decide) (by decide)
          have y2 : ma_r τ' (nI (i + 1)) 1 n.2.2.1 = ma_r τ (nI (i + 1)) 1 n.2.2.1 + 1 := mp
          rw [y1, y2, Int32.add_assoc _ 1 (ma_r τ (nI (i + 1)) 1 n.2.2.1), Int32.add_comm 1 (ma_r τ (nI (i + 1)) 1 n.2.2.1)]
      · rw [e, g13, ← e]
        cases b
        · have y1 := mu 1 (by decide) (by decide)
          rw [y1]; exact d12
        · refine ⟨fun z => absurd (show (1 : Int32) = 0 from z) (by decide), fun z => ?_⟩
          exact absurd ⟨h14.trans (by rw [e]), h17, m16⟩ ((ma_0 _ b3).mp z k hk)
      · rw [e, g13, ← e]
        cases b
        · exact d13
        · exact Or.inr rfl
    · refine rl_Cc (by omega) rfl b3 (hC i hi) (fun q _ _ => G q i (by omega) (Or.inr e)) (by rw [c2]) (fun q _ _ _ => M q _ (Or.inl (by omega))) (fun q _ => M 11 _ (Or.inl (by decide))) (by rw [t3]) (fun q _ => sd_c (M 2 _ (Or.inl (by decide))) (M 8 _ (Or.inl (by decide)))) (fun w q _ => ?_)
      by_cases z : q = k
      · have ne : ¬ nI (co.1 1 k + 1) = nI (i + 1) := fun y => e (by have := (nI_eq (by omega) (by omega)).mp y; omega)
        rw [z]
        exact ⟨fun y => absurd (h14.symm.trans y.1) ne, fun y => absurd (s1.symm.trans y.1) ne⟩
      · exact hq _ _ q z
  · rw [F 11 (by decide), F 12 (by decide), F 13 (by decide), t3]; exact hC0
  · by_cases e : i = k
    · rw [e]
      unfold rl_S
      rw [c1, h14, M 15 _ (Or.inl (by decide)), m16, g18, G 17 k (Or.inl (by decide)) (Or.inl (by decide)), G 7 _ (Or.inl (by decide)) (Or.inl (by decide))]
      refine ⟨rfl, s2, s3, Or.inr ⟨rfl, ?_⟩⟩
      cases b
      · exact Or.inr rfl
      · exact Or.inl rfl
    · exact rl_Sc (hS i hi) (by rw [c1]) (fun q hq => G q i (Or.inr e) (Or.inl (by omega))) (fun q hq => G q _ (Or.inl (by omega)) (Or.inl (by omega))) (fun q hq _ => M q _ (Or.inr (by omega)))
section PQJ
variable {σ τ : xs_T} {co : co_T} {n : nn_T}
theorem rl_K (hA : rl_A σ co τ n) (hV : ∀ k, k < n.2.2.1 → co.1 1 k < n.2.1) {k : Nat} (hk : k < n.2.2.1) (ho : co.2.1 18 k = 1) (b : Bool) : rl_A σ (cs_co co k b) (xs_ai τ 16 (upd (τ.2.2.1 16) (k + 1) (if b then 1 else 2))) n := by
  refine rl_K0 (b := b) hA hV hk ho rfl rfl rfl (fun q c h => xa_o h) xa_s rfl rfl (fun q i h1 h2 => ?_) ?_ ?_ ?_
  · exact (u2_o (show q ≠ 13 ∨ i ≠ co.1 1 k by omega)).trans ((u2_o (show q ≠ 12 ∨ i ≠ co.1 1 k by omega)).trans (u2_o h1))
  · simp [cs_co, co_g, up_2, va_up]
  · simp [cs_co, co_g, up_2, va_up]
  · simp [cs_co, co_g, up_2, va_up]
theorem pq_answer (hP : rl_P σ co n) (hA : rl_A σ co τ n) (a : Int32) (b : Bool) : rl_M (σ, co) τ n (kc_answer (σ, co) a b) (kr_answer τ a b) := by
  have ec : τ.1 2 = σ.1 2 := hA.1.1.2.2.2.2.1.trans hP.1.2.2.2.2.1.symm
  unfold kc_answer kr_answer
  rw [ec]
  rcases pq_nm (x := a) hP.1.2.2.2.2.1 hP.1.2.2.2.2.2.1 with ⟨h1, h2⟩ | ⟨k, hk, h1, h2, h3, h4⟩
  · simp only [h1, Option.elim]
    by_cases z : a < 1
    · rw [if_pos z]; exact rl_no hP hA _
    · rw [if_neg z, if_pos (Int32.not_le.mp (fun y => h2 ⟨Int32.not_lt.mp z, y⟩))]; exact rl_no hP hA _
  · simp only [h1, Option.elim]
    rw [if_neg (Int32.not_lt.mpr h2.1), if_neg (Int32.not_lt.mpr h2.2), h4]
    obtain ⟨s1, s2, s3, s4⟩ := hA.2.2.2.2.2.2.1 k hk
    rcases s4 with ⟨x1, x2, x3, x4⟩ | ⟨x1, x2⟩
    · rw [if_neg (show ¬ co.2.1 18 k = 0 by rw [x1]; decide), if_pos x2]
      refine ⟨rfl, fun n' h => ?_⟩
      rw [rl_n (n := n) (co := co) hP h]
      exact rl_K hA hP.2.1.2.2 hk x1 b
    · rw [if_pos x1, if_neg]
      · exact rl_no hP hA _
      · intro z
        rcases x2 with x2 | x2
        · exact absurd (z.symm.trans x2) (by decide)
        · exact absurd (z.symm.trans x2) (by decide)
theorem ti_all {σ' τ : xs_T} {n : nn_T} {dy : Int32} (hd : σ'.1 4 = dy) (hn : n.2.2.1 ≤ 100) : ∀ (m k : Nat) (co : co_T) (c : Int32), k + m = n.2.2.1 → (∀ k, k < n.2.2.1 → co.1 1 k < n.2.1) → c = (ti_r τ dy k).1 → rl_A σ' co (ti_r τ dy k).2 n → (ti_co dy m k co c).1 = (ti_r τ dy n.2.2.1).1 ∧ rl_A σ' (ti_co dy m k co c).2 (ti_r τ dy n.2.2.1).2 n := by
  intro m
  induction m with
  | zero =>
    intro k co c hk hV hc hA
    have : k = n.2.2.1 := by omega
    subst this
    exact ⟨hc, hA⟩
  | succ m ih =>
    intro k co c hk hV hc hA
    have hk' : k < n.2.2.1 := by omega
    obtain ⟨s1, s2, s3, s4⟩ := hA.2.2.2.2.2.2.1 k hk'
    have e3 : (ti_r τ dy k).2.1 3 = dy := hA.2.1.1.trans hd
    have eq : ti_r τ dy (k + 1) = if (ti_r τ dy k).2.2.2.1 16 (k + 1) = 0 ∧ co.2.1 17 k < dy then ((ti_r τ dy k).1 + 1, xs_ai (ti_r τ dy k).2 16 (upd ((ti_r τ dy k).2.2.2.1 16) (k + 1) 2)) else ti_r τ dy k := by
      have q : (nI (k + 1)).toNatClampNeg = k + 1 := cl_s (by omega)
      conv => lhs; unfold ti_r; rw [q, e3, s2]
    unfold ti_co
    by_cases h : ¬ co.2.1 18 k = 0 ∧ co.2.1 17 k < dy
    · rw [if_pos h]
      have x : co.2.1 18 k = 1 ∧ (ti_r τ dy k).2.2.2.1 16 (k + 1) = 0 := by
        rcases s4 with ⟨x1, x2, x3, x4⟩ | ⟨x1, x2⟩
        · exact ⟨x1, x2⟩
        · exact absurd x1 h.1
      rw [if_pos ⟨x.2, h.2⟩] at eq
      refine ih (k + 1) (cs_co co k false) (c + 1) (by omega) hV ?_ ?_
      · rw [eq, hc]
      · rw [eq]; exact rl_K hA hV hk' x.1 false
    · rw [if_neg h]
      rw [if_neg] at eq
      · refine ih (k + 1) co c (by omega) hV ?_ ?_
        · rw [eq, hc]
        · rw [eq]; exact hA
      · rintro ⟨z1, z2⟩
        refine h ⟨fun y => ?_, z2⟩
        rcases s4 with ⟨x1, x2, x3, x4⟩ | ⟨x1, x2⟩
        · exact absurd (x1.symm.trans y) (by decide)
        · rcases x2 with x2 | x2
          · exact absurd (z1.symm.trans x2) (by decide)
          · exact absurd (z1.symm.trans x2) (by decide)
theorem pq_tick (hP : rl_P σ co n) (hA : rl_A σ co τ n) (a : Int32) : rl_M (σ, co) τ n (kc_tick (σ, co) a) (kr_tick τ a) := by
  unfold kc_tick kr_tick
  have h2 : (σ.1 2).toNatClampNeg = n.2.2.1 := by rw [hP.1.2.2.2.2.1]; exact nI_clamp (by have := hP.1.2.2.2.2.2.1; omega)
  obtain ⟨x1, x2, x3, x4, x5, x6, x7, x8, x9⟩ := hA.2.1
  simp only [x1, pq_n2 hP hA, h2]
  by_cases q1 : (σ.1 4).toInt64 ≤ a.toInt64 ∧ a.toInt64 ≤ 200000
  · simp only [if_pos q1]
    have h0 : rl_A (xs_i σ 4 a) co (ti_r τ a 0).2 n := by
      refine rl_T hA n.2.2.2 hA.1.1.2.2.2.2.2.2.2 rfl rfl rfl hA.1.1.2.2.2.2.2.2.1 (fun k _ _ _ => rfl) (fun k _ _ => rfl) ⟨?_, ?_, x3, x4, x5, x6, x7, x8, x9⟩
      · simp [ti_r, xs_i, va_up]
      · simp [ti_r, xs_i, va_up, x2]
    obtain ⟨r1, r2⟩ := ti_all (τ := τ) (dy := a) (show (xs_i σ 4 a).1 4 = a by simp [xs_i, va_up]) hP.1.2.2.2.2.2.1 n.2.2.1 0 co 0 (by omega) hP.2.1.2.2 rfl h0
    refine ⟨r1, fun n' h => ?_⟩
    have e := rl_e h (a := n.1) (b := n.2.1) (c := n.2.2.1) (d := n.2.2.2) hP.1.1 hP.1.2.2.1 hP.1.2.2.2.2.1 hP.1.2.2.2.2.2.2 (by have := hP.1.2.1; omega) (by have := hP.1.2.2.2.1; omega) (by have := hP.1.2.2.2.2.2.1; omega) (by have := hP.2.2; omega)
    rw [e]
    exact r2
  · simp only [if_neg q1]; exact rl_no hP hA _
/-- a new search -/
theorem rl_N0 {σ' τ' : xs_T} {co' : co_T} (hA : rl_A σ co τ n) (hV : ∀ k, k < n.2.2.1 → co.1 1 k < n.2.1) (hn : n.2.2.1 < 100) {j : Nat} (hj : j < n.2.1) {due : Int32} (h9 : co.2.1 9 j = 0) (h7 : co.2.1 7 j = 0) (x2 : τ'.1 2 = nI (n.2.2.1 + 1)) (x1 : ∀ k, k ≠ 2 → τ'.1 k = τ.1 k) (hx : rl_X σ' τ') (c0 : ∀ q i, q ≠ 1 ∨ i ≠ n.2.2.1 → co'.1 q i = co.1 q i) (c1 : co'.1 1 n.2.2.1 = j) (c2 : co'.2.2 = co.2.2) (G : ∀ q i, (q ≠ 17 ∧ q ≠ 18) ∨ i ≠ n.2.2.1 → (q ≠ 11 ∧ q ≠ 12) ∨ i ≠ j → co'.2.1 q i = co.2.1 q i) (g17 : co'.2.1 17 n.2.2.1 = due) (g18 : co'.2.1 18 n.2.2.1 = 1) (g11 : co'.2.1 11 j = co.2.1 11 j + 1) (g12 : co'.2.1 12 j = co.2.1 12 j + 1) (t3 : τ'.2.2.2 = τ.2.2.2) (M : ∀ q c, (q < 14 ∨ 18 ≤ q) ∨ c ≠ n.2.2.1 + 1 → τ'.2.2.1 q c = τ.2.2.1 q c) (m14 : τ'.2.2.1 14 (n.2.2.1 + 1) = nI (j + 1)) (m15 : τ'.2.2.1 15 (n.2.2.1 + 1) = due) (m16 : τ'.2.2.1 16 (n.2.2.1 + 1) = 0) (m17 : τ'.2.2.1 17 (n.2.2.1 + 1) = 1) : rl_A σ' co' τ' (n.1, n.2.1, n.2.2.1 + 1, n.2.2.2) := by
  obtain ⟨⟨⟨a1, a2, a3, a4, a5, a6, a7, a8⟩, w1, w2⟩, hX, hI, hI0, hC, hC0, hS, hU⟩ := hA
  have F : ∀ q, q < 14 ∨ 18 ≤ q → τ'.2.2.1 q = τ.2.2.1 q := fun q h => funext (fun c => M q c (Or.inl h))
  have mo : ∀ (i : Nat) (w : Int32), ma_r τ' (nI (i + 1)) w n.2.2.1 = ma_r τ (nI (i + 1)) w n.2.2.1 := fun i w => ma_pt _ (by omega) (fun q hq => cn_c (fun r _ _ => M r _ (Or.inr (by omega))))
  have mn : ∀ (i : Nat) (w : Int32), i < 100 → ¬ (i = j ∧ w = 0) → ma_r τ' (nI (i + 1)) w (n.2.2.1 + 1) = ma_r τ (nI (i + 1)) w n.2.2.1 := by
    intro i w hi h
    rcases ma_s (τ := τ') (x := nI (i + 1)) (w := w) hn with ⟨a, b⟩ | ⟨a, b⟩
    · refine absurd ⟨?_, a.2.2.symm.trans m16⟩ h
      have := (nI_eq (by omega) (by omega)).mp (m14.symm.trans a.1)
      omega
    · rw [b, mo]
  have mj : ma_r τ' (nI (j + 1)) 0 (n.2.2.1 + 1) = ma_r τ (nI (j + 1)) 0 n.2.2.1 + 1 := by
    rcases ma_s (τ := τ') (x := nI (j + 1)) (w := 0) hn with ⟨a, b⟩ | ⟨a, b⟩
    · rw [b, mo]
    · exact absurd ⟨m14, by rw [m17]; decide, m16⟩ a
  refine ⟨⟨⟨(x1 0 (by decide)).trans a1, a2, (x1 1 (by decide)).trans a3, a4, x2, by show n.2.2.1 + 1 ≤ 100; omega, (x1 4 (by decide)).trans a7, a8⟩, ?_, ?_⟩, hx, fun i hi => ?_, fun i hi => ?_, fun i hi => ?_, ?_, fun i hi => ?_, rl_Uc hU (fun q i _ h => G q i (Or.inl (by omega)) (Or.inl (by omega)))⟩
  · rw [F 0 (by decide), F 3 (by decide)]; exact w1
  · rw [F 8 (by decide), F 9 (by decide)]; exact w2
  · have hi' : i < n.1 := hi
    exact rl_Ic (by omega) (hI i hi) (fun q hq => G q i (Or.inl (by omega)) (Or.inl (by omega))) (fun q _ => by rw [c2]) (by rw [c2]) (fun q h7 _ _ => M q _ (Or.inl (by omega))) (fun q _ => ⟨M 4 _ (Or.inl (by decide)), M 5 _ (Or.inl (by decide))⟩) (fun q _ => by rw [t3])
  · rw [M 3 _ (Or.inl (by decide)), M 6 _ (Or.inl (by decide))]; exact hI0 i hi
  · have hi' : i < n.2.1 := hi
    obtain ⟨d1, d2, d3, d4, d5, d6, d7, d8, d9, d10, d11, d12, d13⟩ := hC i hi
    have y1 := mn i 1 (by omega) (fun z => absurd z.2 (by decide))
    have y2 := mn i 2 (by omega) (fun z => absurd z.2 (by decide))
    have g13 := G 13 i (Or.inl (by decide)) (Or.inl (by decide))
    refine rl_Cd (by omega) (hC i hi) (fun q h => G q i (Or.inl (by omega)) (Or.inl (by omega))) (by rw [c2]) (fun q h => M q _ (Or.inl (by omega))) (by rw [t3]) (fun q _ => sd_c (M 2 _ (Or.inl (by decide))) (M 8 _ (Or.inl (by decide)))) ?_ ?_ ?_ ?_ ?_ ?_ ?_ ?_
    · rw [M 10 _ (Or.inl (by decide)), G 9 i (Or.inl (by decide)) (Or.inl (by decide))]; exact d3
    · rw [G 9 i (Or.inl (by decide)) (Or.inl (by decide))]; exact d7
    · rw [M 12 _ (Or.inl (by decide)), G 14 i (Or.inl (by decide)) (Or.inl (by decide))]; exact d4
    · rw [lk_p (fun q _ => M 11 _ (Or.inl (by decide))), G 10 i (Or.inl (by decide)) (Or.inl (by decide))]; exact d8
    · show co'.2.1 12 i = ma_r τ' (nI (i + 1)) 0 (n.2.2.1 + 1)
      by_cases e : i = j
      · rw [e, g12, mj, ← e, d10]
      · rw [G 12 i (Or.inl (by decide)) (Or.inr e), mn i 0 (by omega) (fun z => e z.1)]; exact d10
    · show co'.2.1 11 i = ma_r τ' (nI (i + 1)) 0 (n.2.2.1 + 1) + ma_r τ' (nI (i + 1)) 1 (n.2.2.1 + 1) + ma_r τ' (nI (i + 1)) 2 (n.2.2.1 + 1)
      rw [y1, y2]
      by_cases e : i = j
      · rw [e, g11, mj, ← e, d11, i3_rc _ 1 (ma_r τ (nI (i + 1)) 1 n.2.2.1), i3_rc _ 1 (ma_r τ (nI (i + 1)) 2 n.2.2.1)]
      · rw [G 11 i (Or.inl (by decide)) (Or.inr e), mn i 0 (by omega) (fun z => e z.1)]; exact d11
    · show co'.2.1 13 i = 0 ↔ ma_r τ' (nI (i + 1)) 1 (n.2.2.1 + 1) = 0
      rw [y1, g13]; exact d12
    · rw [g13]; exact d13
  · rw [F 11 (by decide), F 12 (by decide), F 13 (by decide), t3]; exact hC0
  · by_cases e : i = n.2.2.1
    · rw [e]
      unfold rl_S
      rw [c1, m14, m15, m16, m17, g17, g18, G 7 j (Or.inl (by decide)) (Or.inl (by decide)), G 9 j (Or.inl (by decide)) (Or.inl (by decide))]
      exact ⟨rfl, rfl, h7, Or.inl ⟨rfl, rfl, by decide, h9⟩⟩
    · have hi' : i < n.2.2.1 := by have : i < n.2.2.1 + 1 := hi; omega
      exact rl_Sc (hS i hi') (c0 1 i (Or.inr e)) (fun q hq => G q i (Or.inr e) (Or.inl (by omega))) (fun q hq => G q _ (Or.inl (by omega)) (Or.inl (by omega))) (fun q hq _ => M q _ (Or.inr (by omega)))
theorem pq_search (hP : rl_P σ co n) (hA : rl_A σ co τ n) (a b c : Int32) : rl_M (σ, co) τ n (kc_search (σ, co) a b c) (kr_search τ a b c) := by
  have ec : τ.1 1 = σ.1 1 := hA.1.1.2.2.1.trans hP.1.2.2.1.symm
  have e2 : τ.1 2 = σ.1 2 := hA.1.1.2.2.2.2.1.trans hP.1.2.2.2.2.1.symm
  obtain ⟨x1, x2, x3, x4, x5, x6, x7, x8, x9⟩ := hA.2.1
  unfold kc_search kr_search
  rw [ec, e2, x1]
  simp only [pq_49]
  rcases pq_nm (x := a) hP.1.2.2.1 (by have := hP.1.2.2.2.1; omega) with ⟨h1, h2⟩ | ⟨j, hj, h1, h2, h3, h4⟩
  · simp only [h1, if_neg h2, Option.elim]; exact rl_no hP hA _
  · obtain ⟨c1, c2, c3, c4, c5, c6, c7, c8, c9, c10, c11, c12, c13⟩ := hA.2.2.2.2.1 j hj
    simp only [h1, if_pos h2, Option.elim, h4, c2, c3]
    by_cases q1 : 0 ≤ b ∧ b < 50
    · by_cases q2 : (σ.1 4).toInt64 ≤ c.toInt64 ∧ c.toInt64 ≤ 200000
      · by_cases q3 : co.2.1 9 j = 0
        · by_cases q4 : co.2.1 7 j = 0
          · simp only [if_pos q1, if_pos q2, if_pos q3, if_pos q4]
            rcases pq_fu (y := 100) hP.1.2.2.2.2.1 hP.1.2.2.2.2.2.1 (by decide) rfl with ⟨m1, m2, m3⟩ | ⟨m1, m2, m3⟩
            · simp only [if_pos m2, if_neg m3]
              refine ⟨rfl, fun n' h => ?_⟩
              have e0 : σ.1 2 + 1 = nI (n.2.2.1 + 1) := by rw [hP.1.2.2.2.2.1, nI_1]
              have ep : (σ.1 2 + 1).toNatClampNeg = n.2.2.1 + 1 := by rw [e0]; exact nI_clamp (by omega)
              have eq : (σ.1 2).toNatClampNeg = n.2.2.1 := by rw [hP.1.2.2.2.2.1]; exact nI_clamp (by omega)
              have hn := rl_e h (a := n.1) (b := n.2.1) (c := n.2.2.1 + 1) (d := n.2.2.2) hP.1.1 hP.1.2.2.1 (by simp only [xs_i, va_up]; exact e0) hP.1.2.2.2.2.2.2 (by have := hP.1.2.1; omega) (by have := hP.1.2.2.2.1; omega) (by omega) (by have := hP.2.2; omega)
              rw [hn]
              simp only [ep, eq]
              refine rl_N0 hA hP.2.1.2.2 m1 hj (due := c) q3 q4 ?_ (fun k hk => ?_) ⟨x1, x2, x3, x4, x5, x6, x7, x8, x9⟩ (fun q i h => u2_o h) ?_ rfl (fun q i g1 g2 => ?_) ?_ ?_ ?_ ?_ rfl (fun q d hd => ?_) ?_ ?_ ?_ ?_
              · simp only [xs_i, xs_ai, va_up]; exact e0
              · simp [xs_i, xs_ai, va_up, hk]
              · exact up_2s co.1 1 n.2.2.1 j
              · exact (u2_o (show q ≠ 12 ∨ i ≠ j by omega)).trans ((u2_o (show q ≠ 11 ∨ i ≠ j by omega)).trans ((u2_o (show q ≠ 18 ∨ i ≠ n.2.2.1 by omega)).trans (u2_o (show q ≠ 17 ∨ i ≠ n.2.2.1 by omega))))
              · simp [ns_co, up_2, va_up]
              · simp [ns_co, up_2, va_up]
              · simp [ns_co, up_2, va_up]
              · simp [ns_co, up_2, va_up]
              · exact xg_o (by omega) (xg_o (by omega) (xg_o (by omega) (xg_o (by omega) rfl)))
              · simp [xs_i, xs_ai, va_up, upd, h3]
              · simp [xs_i, xs_ai, va_up, upd]
              · simp [xs_i, xs_ai, va_up, upd]
              · simp [xs_i, xs_ai, va_up, upd]
            · simp only [if_neg m2, if_pos m3]; exact rl_no hP hA _
          · simp only [if_pos q1, if_pos q2, if_pos q3, if_neg q4]; exact rl_no hP hA _
        · simp only [if_pos q1, if_pos q2, if_neg q3]; exact rl_no hP hA _
      · simp only [if_pos q1, if_neg q2]; exact rl_no hP hA _
    · simp only [if_neg q1]; exact rl_no hP hA _
end PQJ
