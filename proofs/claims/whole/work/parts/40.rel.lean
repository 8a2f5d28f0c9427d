/-! What ties the class's state to the reference's. -/
def lk_b (τ : xs_T) (j : Nat) (kd : Int32) (p : Nat) : Nat := if (nI p = 0 ∨ (kd = 1 ∧ nI p = 1) ∨ (kd = 2 ∧ nI p = 2) ∨ (kd = 3 ∧ 2 ≤ nI p)) ∧ τ.2.2.1 11 (4 * j + p) = 0 then 2 ^ p else 0
def rl_I (co : co_T) (τ : xs_T) (i : Nat) : Prop :=
  τ.2.2.1 0 (i + 1) = co.2.1 0 i ∧ τ.2.2.2.1 0 (i + 1) = co.2.2.1 0 i ∧ τ.2.2.2.1 1 (i + 1) = co.2.2.1 1 i ∧ τ.2.2.1 1 (i + 1) = co.2.1 1 i ∧ τ.2.2.1 2 (i + 1) = co.2.1 2 i ∧ τ.2.2.1 3 (i + 1) = co.2.1 3 i ∧ τ.2.2.1 6 (i + 1) = co.2.1 5 i ∧
  ∃ v : Nat, v ≤ 8 ∧ co.2.1 3 i = nI v ∧ (∀ k, k < v → τ.2.2.1 4 (8 * i + k) = co.2.2.2 i k) ∧ co.2.1 4 i = fi_r τ (nI (i + 1)) v
def rl_C (co : co_T) (τ : xs_T) (n : nn_T) (j : Nat) : Prop :=
  τ.2.2.1 8 (j + 1) = co.2.1 6 j ∧ τ.2.2.1 9 (j + 1) = co.2.1 7 j ∧ τ.2.2.1 10 (j + 1) = co.2.1 9 j ∧ τ.2.2.1 12 (j + 1) = co.2.1 14 j ∧ τ.2.2.1 13 (j + 1) = co.2.1 15 j ∧ τ.2.2.2.1 3 (j + 1) = co.2.2.1 2 j ∧ (co.2.1 9 j = 0 ∨ co.2.1 9 j = 1 ∨ co.2.1 9 j = 2) ∧
  co.2.1 10 j = nI (lk_b τ j (co.2.1 7 j) 0 + lk_b τ j (co.2.1 7 j) 1 + lk_b τ j (co.2.1 7 j) 2 + lk_b τ j (co.2.1 7 j) 3) ∧
  co.2.1 8 j = be_r τ (nI (j + 1)) j ∧ co.2.1 12 j = ma_r τ (nI (j + 1)) 0 n.2.2.1 ∧
  co.2.1 11 j = ma_r τ (nI (j + 1)) 0 n.2.2.1 + ma_r τ (nI (j + 1)) 1 n.2.2.1 + ma_r τ (nI (j + 1)) 2 n.2.2.1 ∧ (co.2.1 13 j = 0 ↔ ma_r τ (nI (j + 1)) 1 n.2.2.1 = 0) ∧ (co.2.1 13 j = 0 ∨ co.2.1 13 j = 1)
def rl_S (co : co_T) (τ : xs_T) (k : Nat) : Prop :=
  τ.2.2.1 14 (k + 1) = nI (co.1 1 k + 1) ∧ τ.2.2.1 15 (k + 1) = co.2.1 17 k ∧ co.2.1 7 (co.1 1 k) = 0 ∧
  ((co.2.1 18 k = 1 ∧ τ.2.2.1 16 (k + 1) = 0 ∧ ¬ τ.2.2.1 17 (k + 1) = 0 ∧ co.2.1 9 (co.1 1 k) = 0) ∨ (co.2.1 18 k = 0 ∧ (τ.2.2.1 16 (k + 1) = 1 ∨ τ.2.2.1 16 (k + 1) = 2)))
def rl_A (σ : xs_T) (co : co_T) (τ : xs_T) (n : nn_T) : Prop :=
  rm_V τ n ∧ (τ.1 3 = σ.1 4 ∧ τ.1 5 = σ.1 5 ∧ τ.2.1 0 = σ.2.1 0 ∧ τ.2.1 1 = σ.2.1 1 ∧ τ.2.2.1 7 = σ.2.2.1 0 ∧ τ.2.2.2.1 2 = σ.2.2.2.1 0 ∧ τ.2.2.2.1 4 = σ.2.2.2.1 1 ∧ τ.2.2.1 18 = σ.2.2.1 1 ∧ τ.2.2.1 19 = σ.2.2.1 2) ∧
  (∀ i, i < n.1 → rl_I co τ i) ∧ (∀ i, n.1 ≤ i → τ.2.2.1 3 (i + 1) = 0 ∧ τ.2.2.1 6 (i + 1) = 0) ∧
  (∀ j, j < n.2.1 → rl_C co τ n j) ∧ (∀ j, n.2.1 ≤ j → (∀ p, p < 4 → τ.2.2.1 11 (4 * j + p) = 0) ∧ τ.2.2.1 12 (j + 1) = 0 ∧ τ.2.2.1 13 (j + 1) = 0 ∧ τ.2.2.2.1 3 (j + 1) = 0) ∧
  (∀ k, k < n.2.2.1 → rl_S co τ k) ∧ (∀ i j, i < n.2.1 → j < n.2.1 → co.2.1 6 i = co.2.1 6 j → co.2.1 7 i = co.2.1 7 j → ¬ co.2.1 9 i = 2 → ¬ co.2.1 9 j = 2 → i = j)
/-- the class's side, as the contracts give it -/
def rl_P (σ : xs_T) (co : co_T) (n : nn_T) : Prop := re_X σ n ∧ re_V n co ∧ n.2.2.2 < 10000
/-- a call that changes: same answer, and the states stay tied -/
def rl_M (a : as_T) (τ : xs_T) (n : nn_T) (r1 : Int32 × as_T) (r2 : Int32 × xs_T) : Prop := r1.1 = r2.1 ∧ ∀ n' : nn_T, rl_P r1.2.1 r1.2.2 n' → rl_A r1.2.1 r1.2.2 r2.2 n'
def rl_all : Prop := ∀ (σ : xs_T) (co : co_T) (τ : xs_T) (n : nn_T), rl_P σ co n → rl_A σ co τ n →
  (∀ sv v w dy se, rl_M (σ, co) τ n (kc_item (σ, co) sv v w dy se) (kr_item τ sv v w dy se)) ∧ (∀ x p b, rl_M (σ, co) τ n (kc_pass (σ, co) x p b) (kr_pass τ x p b)) ∧
  (∀ a b c d, rl_M (σ, co) τ n (kc_table (σ, co) a b c d) (kr_table τ a b c d)) ∧ (∀ a b c d, rl_M (σ, co) τ n (kc_claim (σ, co) a b c d) (kr_claim τ a b c d)) ∧
  (∀ a b, rl_M (σ, co) τ n (kc_proof (σ, co) a b) (kr_proof τ a b)) ∧ (∀ a b c, rl_M (σ, co) τ n (kc_search (σ, co) a b c) (kr_search τ a b c)) ∧
  (∀ a b, rl_M (σ, co) τ n (kc_answer (σ, co) a b) (kr_answer τ a b)) ∧ (∀ a, rl_M (σ, co) τ n (kc_tick (σ, co) a) (kr_tick τ a)) ∧ (∀ a, kc_sum (σ, co) a = kr_sum τ a) ∧
  (∀ a b, rl_M (σ, co) τ n (kc_limit (σ, co) a b) (kr_limit τ a b)) ∧ (∀ a b, rl_M (σ, co) τ n (kc_decide (σ, co) a b) (kr_decide τ a b)) ∧ (∀ a b, kc_share (σ, co) a b = kr_share τ a b) ∧
  (∀ a, rl_M (σ, co) τ n (kc_found (σ, co) a) (kr_found τ a)) ∧ (∀ a b, rl_M (σ, co) τ n (kc_back (σ, co) a b) (kr_back τ a b)) ∧ (∀ a, rl_M (σ, co) τ n (kc_appeal (σ, co) a) (kr_appeal τ a)) ∧
  (∀ a b, bb_v (kc_paid (σ, co) a b) = pd_r τ a b n.2.1) ∧ (∀ a b, kc_about (σ, co) a b = kr_about τ a b) ∧ (∀ a b, kc_letter (σ, co) a b = kr_letter τ a b) ∧ (∀ a, kc_all (σ, co) a = kr_all τ a)
