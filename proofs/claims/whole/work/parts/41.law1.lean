/-! The law's loop: what holds at its head. -/
def lw_N (s : State) (tN : Nat) : Prop := va_Nw (.methodLinkNest RX0 35 yX3_isBelow "ClaimRows") s ∧ va_Nw (.fieldLinkNest RX0 31 "ClaimRows" "NEEDED" "[I" "ClaimRows") s ∧ va_Z "ClaimRows" "NEEDED" "[I" (.ref tN) (fun q : Nat => s.heap.size ≤ q) s s.heap ∧ va_T .int tN 4 (fun j => .int (nd_t j)) (fun q : Nat => s.heap.size ≤ q) s s.heap
def lw_I (dC : Nat → ClassId) (dI : Nat → Nat → Nat) (cA : Nat → ClassId) (s : State) (Q P : Nat → Nat) (g : Nat → va_E) (σ : xs_T) (co : co_T) (τ : xs_T) (n : nn_T) (L : List Nat) (f : Nat → va_E) (ad : ad_T) (H : Heap) (locs : List Loc) (T : Nat) : Prop :=
  re_A cA σ n co L f ad ∧ n.2.2.2 ≤ T ∧ rl_A σ co τ n ∧ va_P (dC, dI) vwCl ((xc_W Q cA σ ++ va_pl L f) ++ (xm_W P cA τ ++ va_pl [] g)) H ∧ va_D (fun q : Nat => s.heap.size ≤ q) ((xc_W Q cA σ ++ va_pl L f) ++ (xm_W P cA τ ++ va_pl [] g)) ∧ va_S (fun q : Nat => s.heap.size ≤ q) s.heap H locs
theorem lw_hts {s : State} {a : Array Value} (hts : ∀ w ∈ lw_tbl, w.before a s = true) : ∀ w ∈ (Cond.initialized RX3 :: al_W), w.before a s = true := fun w h => by
  rcases List.mem_cons.mp h with rfl | h
  · exact hts _ (al_in _ wd_1)
  · exact hts w (al_in w h)
theorem lg_self (x : Int64) : lg_cmp x x = 0 := by simp [lg_cmp]
