theorem vp_b0 : vp_nar .boolean 0 = 0 := by decide
theorem vp_b1 : vp_nar .boolean 1 = 1 := by decide
theorem vp_bb {b : Bool} : vp_nar .boolean (bb_v b) = bb_v b := by cases b <;> decide
theorem pd_nar {σ : xs_T} {x kd : Int32} {j : Nat} : narrow .boolean (.int (pd_r σ x kd j)) = .int (pd_r σ x kd j) := by
  cases j with
  | zero => exact (by decide : narrow .boolean (.int 0) = .int 0)
  | succ j =>
    unfold pd_r
    split
    · decide
    · decide
theorem xs_ais (σ : xs_T) (k : Nat) (g : Nat → Int32) : (xs_ai σ k g).2.2.1 k = g := by simp [xs_ai, va_up]
theorem xs_ain (σ : xs_T) {k k' : Nat} (g : Nat → Int32) (x : Nat) (h : k' ≠ k) : (xs_ai σ k g).2.2.1 k' x = σ.2.2.1 k' x := by simp [xs_ai, va_up, h]
theorem xs_aiF (σ : xs_T) {k k' : Nat} (g : Nat → Int32) (h : k' ≠ k) : (xs_ai σ k g).2.2.1 k' = σ.2.2.1 k' := by simp [xs_ai, va_up, h]
theorem xm_W_s6 {Q : Nat → Nat} {cA : Nat → ClassId} {σ : xs_T} {L : List Nat} {f : Nat → va_E} {g : Nat → Int32} : (xm_W Q cA σ ++ va_pl L f).set 6 (Q 6, .inl (cA 0, 101, .inl g)) = xm_W Q cA (xs_ai σ 3 g) ++ va_pl L f := rfl
section RMV
variable {σ : xs_T} {n : nn_T} {x y : Int32}
theorem rm_of {c : Int32} {m : Nat} (hc : c = nI m) (hm : m ≤ 100) (h : 1 ≤ x ∧ x ≤ c) : ∃ a : Nat, 1 ≤ a ∧ a ≤ m ∧ x = nI a := by
  obtain ⟨j, h1, h2, -⟩ := nu_j hc hm h
  exact ⟨j + 1, by omega, by omega, h2⟩
theorem rm_x (hV : rm_V σ n) (h : 1 ≤ x ∧ x ≤ σ.1 1) : ∃ a : Nat, 1 ≤ a ∧ a ≤ n.2.1 ∧ x = nI a := rm_of hV.1.2.2.1 (by have := hV.1.2.2.2.1; omega) h
theorem rm_xi (hV : rm_V σ n) (h : 1 ≤ x ∧ x ≤ σ.1 0) : ∃ a : Nat, 1 ≤ a ∧ a ≤ n.1 ∧ x = nI a := rm_of hV.1.1 hV.1.2.1 h
theorem rm_c (hV : rm_V σ n) (h : 1 ≤ x ∧ x ≤ σ.1 1) : vp_in x 61 := by
  obtain ⟨a, h1, h2, rfl⟩ := rm_x hV h
  exact vp_in_nI (by have := hV.1.2.2.2.1; omega) (by decide)
theorem rm_i (hV : rm_V σ n) (h : 1 ≤ x ∧ x ≤ σ.1 0) : vp_in x 101 := by
  obtain ⟨a, h1, h2, rfl⟩ := rm_xi hV h
  exact vp_in_nI (by have := hV.1.2.1; omega) (by decide)
theorem rm_s (hV : rm_V σ n) (h1 : ¬ x < 1) (h2 : x ≤ σ.1 2) : vp_in x 101 := by
  obtain ⟨a, h1, h2, rfl⟩ := rm_of hV.1.2.2.2.2.1 hV.1.2.2.2.2.2.1 ⟨Int32.not_lt.mp h1, h2⟩
  exact vp_in_nI (by have := hV.1.2.2.2.2.2.1; omega) (by decide)
theorem rm_j (hV : rm_V σ n) {j : Nat} (h : j + 1 ≤ n.2.1) : 1 ≤ nI (j + 1) ∧ nI (j + 1) ≤ σ.1 1 := by
  have := hV.1.2.2.2.1
  rw [hV.1.2.2.1]
  exact ⟨nI_le (a := 1) (by omega) (by omega), nI_le h (by omega)⟩
theorem rm_q (hV : rm_V σ n) (h : 1 ≤ x ∧ x ≤ σ.1 1) {j : Nat} (hj : j < 4) : vp_in (4 * x - 4 + nI j) 244 := by
  obtain ⟨a, h1, h2, rfl⟩ := rm_x hV h
  have := hV.1.2.2.2.1
  rw [show (4 : Int32) = nI 4 from rfl, pk_mul, pk_sub (by omega), nI_add]
  exact vp_in_nI (by omega) (by decide)
theorem rm_l {b : Nat} {y : Int64} (hb : y = lN b) (hb9 : b < 2 ^ 31) (h : (0 : Int64) ≤ x.toInt64 ∧ x.toInt64 ≤ y) : ∃ v : Nat, v ≤ b ∧ x = nI v := by
  obtain ⟨h1, h2⟩ := h
  rw [Int64.le_iff_toInt_le, Int32.toInt_toInt64, Int64.toInt_zero] at h1
  rw [hb, Int64.le_iff_toInt_le, Int32.toInt_toInt64, lN_toInt hb9] at h2
  exact ⟨x.toInt.toNat, by omega, Int32.toInt_inj.mp (by rw [nI_toInt (by omega)]; omega)⟩
theorem rm_qp (hV : rm_V σ n) (h : 1 ≤ x ∧ x ≤ σ.1 1) (hp : (0 : Int64) ≤ y.toInt64 ∧ y.toInt64 ≤ 3) : vp_in (4 * x - 4 + y) 244 := by
  obtain ⟨v, hv, rfl⟩ := rm_l (b := 3) rfl (by decide) hp
  exact rm_q hV h (by omega)
theorem rm_9 (hp : (0 : Int64) ≤ x.toInt64 ∧ x.toInt64 ≤ 9) : vp_in x 10 := by
  obtain ⟨v, hv, rfl⟩ := rm_l (b := 9) rfl (by decide) hp
  exact vp_in_nI (by omega) (by decide)
theorem rm_44 {a b : Nat} (ha : a < 4) (hb : b < 4) : vp_in (4 * nI a + nI b) 16 := by
  rw [show (4 : Int32) = nI 4 from rfl, pk_mul, nI_add]
  exact vp_in_nI (by omega) (by decide)
theorem rm_t (h1 : (0 : Int64) ≤ x.toInt64 ∧ x.toInt64 ≤ 3) (h2 : (0 : Int64) ≤ y.toInt64 ∧ y.toInt64 ≤ 3) : vp_in (4 * x + y) 16 := by
  obtain ⟨v, hv, rfl⟩ := rm_l (b := 3) rfl (by decide) h1
  obtain ⟨w, hw, rfl⟩ := rm_l (b := 3) rfl (by decide) h2
  exact rm_44 (by omega) (by omega)
theorem rm_u (hV : rm_V σ n) (h : 1 ≤ x ∧ x ≤ σ.1 0) (h2 : (0 : Int64) ≤ y.toInt64 ∧ y.toInt64 ≤ 3) : vp_in (4 * σ.2.2.1 0 x.toNatClampNeg + y) 16 := by
  obtain ⟨a, h1, h3, rfl⟩ := rm_xi hV h
  obtain ⟨w, hw, rfl⟩ := rm_l (b := 3) rfl (by decide) h2
  rw [nI_clamp (by have := hV.1.2.1; omega)]
  obtain ⟨v, hv, e⟩ := (hV.2.1 a h1 h3).1
  rw [e]
  exact rm_44 hv (by omega)
theorem rm_p (hV : rm_V σ n) (h : 1 ≤ x ∧ x ≤ σ.1 0) (h8 : ¬ σ.2.2.1 3 x.toNatClampNeg = 8) : vp_in (8 * x - 8 + σ.2.2.1 3 x.toNatClampNeg) 808 := by
  obtain ⟨a, h1, h3, rfl⟩ := rm_xi hV h
  have := hV.1.2.1
  rw [nI_clamp (by omega)] at h8 ⊢
  obtain ⟨v, hv, e⟩ := (hV.2.1 a h1 h3).2
  rw [e] at h8 ⊢
  have hv8 : v ≠ 8 := fun q => h8 (by rw [q]; rfl)
  rw [show (8 : Int32) = nI 8 from rfl, pk_mul, pk_sub (by omega), nI_add]
  exact vp_in_nI (by omega) (by decide)
theorem rm_io (hV : rm_V σ n) (h : 1 ≤ x ∧ x ≤ σ.1 1) : vp_in (σ.2.2.1 8 x.toNatClampNeg) 101 := by
  obtain ⟨a, h1, h3, rfl⟩ := rm_x hV h
  rw [nI_clamp (by have := hV.1.2.2.2.1; omega)]
  obtain ⟨k, hk, hk2, e⟩ := (hV.2.2 a h1 h3).1
  rw [e]
  exact vp_in_nI (by have := hV.1.2.1; omega) (by decide)
theorem rm_k (hV : rm_V σ n) (h : 1 ≤ x ∧ x ≤ σ.1 1) : vp_in (4 * σ.2.2.1 0 (σ.2.2.1 8 x.toNatClampNeg).toNatClampNeg + σ.2.2.1 9 x.toNatClampNeg) 16 := by
  obtain ⟨a, h1, h3, rfl⟩ := rm_x hV h
  rw [nI_clamp (by have := hV.1.2.2.2.1; omega)]
  obtain ⟨k, hk, hk2, e⟩ := (hV.2.2 a h1 h3).1
  obtain ⟨w, hw, e2⟩ := (hV.2.2 a h1 h3).2
  rw [e, e2, nI_clamp (by have := hV.1.2.1; omega)]
  obtain ⟨v, hv, e3⟩ := (hV.2.1 k hk hk2).1
  rw [e3]
  exact rm_44 hv hw
theorem rm_nw {c y : Int32} {m N : Nat} (hc : c = nI m) (hm : m ≤ N) (h : ¬ c = y) (hN : N < 2 ^ 30) (hy : y = nI N := by rfl) : vp_in (c + 1) (N + 1) := by
  have h1 : m ≠ N := fun q => h (by rw [hc, hy, q])
  rw [hc, nI_1]
  exact vp_in_nI (by omega) (by omega)
theorem rm_2 {i : Int32} (h1 : ¬ i < 0) (h2 : i < 200) : vp_in i 200 := nu_b (b := 200) ⟨Int32.not_lt.mp h1, h2⟩
theorem ot_le (x kd but : Int32) (j : Nat) : ∃ a : Nat, a ≤ j ∧ ot_r σ x kd but j = nI a := by
  induction j with
  | zero => exact ⟨0, Nat.le_refl _, rfl⟩
  | succ j ih =>
    unfold ot_r
    split
    · exact ⟨j + 1, Nat.le_refl _, rfl⟩
    · obtain ⟨a, h1, h2⟩ := ih
      exact ⟨a, by omega, h2⟩
theorem ot_in (hV : rm_V σ n) {x kd but : Int32} : vp_in (ot_r σ x kd but n.2.1) 61 := by
  obtain ⟨a, h1, h2⟩ := ot_le (σ := σ) x kd but n.2.1
  rw [h2]
  exact vp_in_nI (by have := hV.1.2.2.2.1; omega) (by decide)
theorem smn_0 (σ : xs_T) (x k : Int32) (i : Nat) (h : i ≠ 4) : (sm_nd σ x k).1 i = σ.1 i := by
  unfold sm_nd
  split
  · simp [xs_i, xs_ai, va_up, h]
  · simp [xs_i, va_up, h]
theorem ti_2 {σ : xs_T} {dy : Int32} {j : Nat} : (ti_r σ dy j).2.1 2 = σ.1 2 := by
  induction j with
  | zero => rfl
  | succ j ih =>
    unfold ti_r
    split
    · exact ih
    · exact ih
theorem ap_2 (σ : xs_T) (x : Int32) (j k : Nat) : (ap_r σ x j).1 k = σ.1 k := by
  induction j with
  | zero => rfl
  | succ j ih =>
    unfold ap_r
    split
    · exact ih
    · exact ih
theorem sh_1 (hV : rm_V σ n) (h : 1 ≤ x ∧ x ≤ σ.1 1) : 1 ≤ x.toNatClampNeg ∧ x.toNatClampNeg ≤ n.2.1 := by
  obtain ⟨a, h1, h3, rfl⟩ := rm_x hV h
  rw [nI_clamp (by have := hV.1.2.2.2.1; omega)]; exact ⟨h1, h3⟩
theorem sh_in (hV : rm_V σ n) {a j : Nat} {it : Int32} (h1 : 1 ≤ a) (h2 : a ≤ n.1) (e : it = nI a) (hj : j < 8) : vp_in (8 * it - 8 + nI j) 808 := by
  have := hV.1.2.1
  rw [e, show (8 : Int32) = nI 8 from rfl, pk_mul, pk_sub (by omega), nI_add]
  exact vp_in_nI (by omega) (by decide)
theorem fi_lt (it : Int32) {v : Nat} (h : v ≠ 0) : ∃ a : Nat, a < v ∧ fi_r σ it v = nI a := by
  cases v with
  | zero => exact absurd rfl h
  | succ v =>
    clear h
    induction v with
    | zero =>
      unfold fi_r
      split
      · exact ⟨0, by omega, rfl⟩
      · exact ⟨0, by omega, rfl⟩
    | succ v ih =>
      unfold fi_r
      split
      · obtain ⟨a, h1, h2⟩ := ih
        exact ⟨a, by omega, h2⟩
      · exact ⟨v + 1, by omega, rfl⟩
theorem sh_nz {N : Int32} {v a : Nat} (hN : N = nI v) (ha : a < v) (hv : v < 2 ^ 30) : ¬ (N - nI a).toInt64 = 0 := by
  rw [hN, pk_sub (by omega)]
  intro h
  have h2 := congrArg Int64.toInt h
  rw [Int32.toInt_toInt64, Int64.toInt_zero, nI_toInt (by omega)] at h2
  omega
theorem sh_as {a b : Int32} : a + b + 1 = a + (b + 1) := Int32.add_assoc a b 1
theorem sh_a0 {a : Int32} : a + 0 = a := Int32.add_zero a
end RMV
