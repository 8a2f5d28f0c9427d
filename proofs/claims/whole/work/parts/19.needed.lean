/-! The table of the proofs that a kind needs: a static array, reached from a nest mate. -/
def nd_t (j : Nat) : Int32 := if j = 0 then 1 else if j = 1 then 3 else if j = 2 then 5 else 13
theorem nd_ne {x : Int32} (h : 0 ≤ x ∧ x < 4) : nd_t x.toNatClampNeg = ne_ed x := by
  obtain ⟨v, hv, rfl⟩ := nu_4 h
  exact (show ∀ v, v < 4 → nd_t (nI v).toNatClampNeg = ne_ed (nI v) by decide +kernel) v hv
def sx_Z (tN : Nat) (A : Nat → Prop) (U : State) : Prop := va_Nw (.methodLinkNest RX0 35 yX3_isBelow "ClaimRows") U ∧ va_Nw (.fieldLinkNest RX0 31 "ClaimRows" "NEEDED" "[I" "ClaimRows") U ∧ va_Z "ClaimRows" "NEEDED" "[I" (.ref tN) A U U.heap ∧ va_T .int tN 4 (fun j => .int (nd_t j)) A U U.heap
theorem sx_bl {D : va_G} {cl : List vw_C} {tys : List (ClassId × FieldType)} {w : va_W} {sz tN : Nat} {av : List Value} : FrameBlind (va_Pc av (fun U => ct_M D cl tys w sz U ∧ sx_Z tN (va_A w sz) U)) := fun a U g mk q =>
  ⟨q.1, ⟨q.2.1.1, q.2.1.2.1, va_K.moved (u := U) (U := U.calling g mk a) (Vm.Alike.refl U.vm) q.2.1.2.2.1, q.2.1.2.2.2⟩, va_Nw.same (u := U) (U := U.calling g mk a) rfl rfl q.2.2.1, va_Nw.same (u := U) (U := U.calling g mk a) rfl rfl q.2.2.2.1, va_Z.moved (u := U) (U := U.calling g mk a) (Vm.Alike.refl U.vm) q.2.2.2.2.1, va_T.moved (u := U) (U := U.calling g mk a) (Vm.Alike.refl U.vm) q.2.2.2.2.2⟩
theorem sx_at {D : va_G} {cl : List vw_C} {tys : List (ClassId × FieldType)} {w : va_W} {A : Nat → Prop} {s : State} {H : Heap} {locs : List Loc} {tN : Nat} {av : List Value} (hP : va_P D cl w H) (hK : va_K D cl tys s) (hD : va_D A w) (hS : va_S A s.heap H locs) (hA : ∀ q, s.heap.size ≤ q → A q)
    (h1 : va_Nw (.methodLinkNest RX0 35 yX3_isBelow "ClaimRows") s) (h2 : va_Nw (.fieldLinkNest RX0 31 "ClaimRows" "NEEDED" "[I" "ClaimRows") s) (hZ : va_Z "ClaimRows" "NEEDED" "[I" (.ref tN) A s s.heap) (hT : va_T .int tN 4 (fun j => .int (nd_t j)) A s s.heap) :
    ∀ U : State, U.heap = H → s.WarmedH U.vm → va_Pc av (fun U => ct_M D cl tys w H.size U ∧ sx_Z tN (va_A w H.size) U) av.toArray U := fun U hU hW => by
  have hF := ct_free hD hS hA
  have hz : va_Z "ClaimRows" "NEEDED" "[I" (.ref tN) (va_A w H.size) U H := ((hZ.kept hS.2.1).narrow hF).moved hW.alike
  have ht : va_T .int tN 4 (fun j => .int (nd_t j)) (va_A w H.size) U H := ((hT.kept hS.2.1).narrow hF).moved hW.alike
  subst hU
  exact ⟨rfl, ⟨rfl, hP, va_K.moved hW.alike hK, hD.weaken (fun _ _ _ _ => trivial)⟩, va_Nw.warmM hW h1, va_Nw.warmF hW h2, hz, ht⟩
theorem nc_ce {co : co_T} {m i a : Nat} {c x kd ea : Int32} (hc : c = nI m) (hx : x = nI (i + 1)) : (Sum.inr (0, [.int (c + 1), .int x, .ref a, .int kd, .int ea, .int 0, .int (ne_ed kd), .int 0, .int 0, .int 0, .int 0, .int 0, .long 0]) : va_E) = ce_C (nc_co co m i (nI (i + 1)) kd ea).2.1 (nc_co co m i (nI (i + 1)) kd ea).2.2.1 m a := by
  rw [hc, hx, nI_1]
  simp [ce_C, nc_co, up_2, va_up]
/-- a new object's state -/
def xs_0 : xs_T := (fun _ => 0, fun _ => 0, fun _ _ => 0, fun _ _ => 0, fun _ _ => none)
theorem sn_ar (σ : xs_T) (k : Nat) (v : Nat → Option Nat) (y x z : Int32) : se_nd (xs_i (xs_ar σ k v) 1 y) x z = xs_r (se_nd (xs_i σ 1 y) x z) (va_up σ.2.2.2.2 k v) := by
  unfold se_nd
  by_cases h : (xs_i σ 1 y).1 3 < 200
  · rw [if_pos h, if_pos (show (xs_i (xs_ar σ k v) 1 y).1 3 < 200 from h)]; rfl
  · rw [if_neg h, if_neg (show ¬ (xs_i (xs_ar σ k v) 1 y).1 3 < 200 from h)]; rfl
