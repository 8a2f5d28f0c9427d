set_option maxHeartbeats 4000000 in
set_option maxRecDepth 100000 in
/-- mt_itemNumbered -/
theorem mt_itemNumbered (l : Launch) (dC : Nat → ClassId) (dI : Nat → Nat → Nat) (cA : Nat → ClassId) (Q : Nat → Nat) (σ : xs_T) (n : nn_T) (co : co_T) (L : List Nat) (f : Nat → va_E) (ad : ad_T) (hR : re_A cA σ n co L f ad) (x : Int32) : Met l yX3_itemNumbered wsX3_itemNumbered ({ frames := 1, cells := 0, slots := 0, locals := 25 }) (va_Pc [.ref (Q 0), .int x] (ct_R (dC, dI) vwCl (ty_K cA) (xc_W Q cA σ ++ va_pl L f))) (va_Sq (fun r => (∃ j : Nat, j < n.1 ∧ na_m x (σ.1 0) = some j ∧ x = nI (j + 1) ∧ r = some (ad.1 j)) ∨ (na_m x (σ.1 0) = none ∧ r = none))) 0 0 (fun _ => False) := by
  refine Met.ofW (cc := cX3_itemNumbered) (maxL := 2) (ret := (some (.object "ClaimRows$Item"))) (by decide) rfl ?_
  intro p e s m args below meth c s₁ B hml hv
  obtain ⟨rfl, hP, hK⟩ := hv
  have hx := B.exec
  have hb := B.bytes
  have hr := B.returns
  have hts := atoms_spec (ws := wsX3_itemNumbered) B.pre
  have hown : s.vm.findClass RX3 = some m.cls := findClass_of_methodNamed B.named
  have hlocks := B.notSynchronized
  have hl := lv_entry ([.ref (Q 0), .int x]) (n := 2) (Nat.le_of_ble_eq_true rfl)
  rw [lg_entry_eq]
  generalize (lg_sl ([.ref (Q 0), .int x]) ++ List.replicate (2 - (lg_sl ([.ref (Q 0), .int x])).length) Slot.unset).toArray = ls at hl ⊢
  have hl : lv_has ls 2 [(0, .ref (Q 0)), (1, .int x)] := hl
  have lk0 := hts (.fieldLink RX3 58 "ClaimRows" "itemCount" "I") (List.mem_cons_of_mem _ wd_20)
  have lk1 := hts (.fieldLink RX3 11 "ClaimRows" "items" "[LClaimRows$Item;") (List.mem_cons_of_mem _ wd_19)
  have in0 : ∀ w ∈ u_ws RX3 TX3 16, w ∈ wsX3_itemNumbered := fun w h => List.mem_cons_of_mem _ (wu_X3 w h)
  refine lv_iload_n hx hb dX3_itemNumbered_0 rfl (lv_at hl 1 rfl) ?_
  refine lv_i2l (v := (x : Int32).toInt64) hx hb dX3_itemNumbered_1 rfl ?_
  refine lv_lconst (v := 1) hx hb dX3_itemNumbered_2 (by decide) ?_
  refine lv_aload_n hx hb dX3_itemNumbered_3 rfl (lv_at hl 0 rfl) ?_
  refine va_get (D := (dC, dI)) (ci := 3) (v := .int (σ.1 0)) (C := RX3) (T := TX3) (N := 16) hx hb hts in0 hown hK hP 0 (xc_W_0 _ _) rfl 1 (by decide) lk0 (fun _ h9 => h9) rfl dX3_itemNumbered_4 ?_
  refine lv_i2l (v := ((σ.1 0) : Int32).toInt64) hx hb dX3_itemNumbered_7 rfl ?_
  refine vp_callSi (va_Run.run (va_runS (As := [.long ((x : Int32).toInt64), .long 1, .long (((σ.1 0) : Int32).toInt64)]) (rest := []) ⟨hx, hb, hml, hown, hts⟩ (mt_isWithin l ((x : Int32).toInt64) 1 (((σ.1 0) : Int32).toInt64)) (va_cwS 3 hts (al_gS wd_48 wd_49 wd_1 wd_50) rfl rfl rfl (by decide +kernel) ⟨Nat.le_of_ble_eq_true rfl, Nat.le_of_ble_eq_true rfl⟩) ⟨ct_bl0, ct_at0⟩ rfl rfl hl.1 rfl (lv_room (Nat.le_of_ble_eq_true rfl)) dX3_itemNumbered_8 ⟨Nat.le_of_ble_eq_true rfl, Nat.le_of_ble_eq_true rfl⟩)) (fun r8 hr8 => ?_)
  subst hr8
  refine lv_if_eq (tgt := 25) hx hb dX3_itemNumbered_11 (by decide) (fun c11 => ?_) (fun c11 => ?_)
  · have c11 := of_decide_eq_false (bb_0.mp c11)
    refine lv_null hx hb dX3_itemNumbered_25 ?_
    exact W.aret (v := .null) hx hb hr (Or.inl ⟨_, rfl⟩) (Or.inl rfl) (fun t ht hW => ⟨none, rfl, (Or.inr ⟨nu_f c11, rfl⟩), ht⟩) (fun q h => by cases h) dX3_itemNumbered_26
  · have c11 := of_decide_eq_true (bb_n.mp c11)
    refine lv_aload_n hx hb dX3_itemNumbered_14 rfl (lv_at hl 0 rfl) ?_
    refine va_get (D := (dC, dI)) (ci := 3) (v := .ref (Q 1)) (C := RX3) (T := TX3) (N := 16) hx hb hts in0 hown hK hP 0 (xc_W_0 _ _) rfl 0 (by decide) lk1 (fun _ h9 => h9) rfl dX3_itemNumbered_15 ?_
    refine lv_iload_n hx hb dX3_itemNumbered_18 rfl (lv_at hl 1 rfl) ?_
    refine lv_iconst (v := 1) hx hb dX3_itemNumbered_19 (by decide) ?_
    refine lv_isub hx hb dX3_itemNumbered_20 ?_
    refine va_aldq hx hb hK hP 1 3 (xc_W_1 _ _) rfl (nu_in hR.1.1 (by have := hR.1.2.1; omega) (by decide) c11) dX3_itemNumbered_21 ?_
    refine lv_goto (tgt := 26) hx hb dX3_itemNumbered_22 (by decide) ?_
    exact W.aret (v := va_rf ((σ.2.2.2.2 0) ((x - 1)).toNatClampNeg)) hx hb hr (Or.inl ⟨_, rfl⟩) (va_rf_or _) (fun t ht hW => ⟨((σ.2.2.2.2 0) ((x - 1)).toNatClampNeg), rfl, (by obtain ⟨j, h1, h2, h3, h4⟩ := nu_t hR.1.1 (by have := hR.1.2.1; omega) c11; exact Or.inl ⟨j, h1, h2, h3, by rw [h4]; exact (hR.2.1 j h1).1⟩), ht⟩) (fun q h => by cases h) dX3_itemNumbered_26
set_option maxHeartbeats 4000000 in
set_option maxRecDepth 100000 in
/-- mt_claimNumbered -/
theorem mt_claimNumbered (l : Launch) (dC : Nat → ClassId) (dI : Nat → Nat → Nat) (cA : Nat → ClassId) (Q : Nat → Nat) (σ : xs_T) (n : nn_T) (co : co_T) (L : List Nat) (f : Nat → va_E) (ad : ad_T) (hR : re_A cA σ n co L f ad) (x : Int32) : Met l yX3_claimNumbered wsX3_claimNumbered ({ frames := 1, cells := 0, slots := 0, locals := 25 }) (va_Pc [.ref (Q 0), .int x] (ct_R (dC, dI) vwCl (ty_K cA) (xc_W Q cA σ ++ va_pl L f))) (va_Sq (fun r => (∃ j : Nat, j < n.2.1 ∧ na_m x (σ.1 1) = some j ∧ x = nI (j + 1) ∧ r = some (ad.2.2.1 j)) ∨ (na_m x (σ.1 1) = none ∧ r = none))) 0 0 (fun _ => False) := by
  refine Met.ofW (cc := cX3_claimNumbered) (maxL := 2) (ret := (some (.object "ClaimRows$Claim"))) (by decide) rfl ?_
  intro p e s m args below meth c s₁ B hml hv
  obtain ⟨rfl, hP, hK⟩ := hv
  have hx := B.exec
  have hb := B.bytes
  have hr := B.returns
  have hts := atoms_spec (ws := wsX3_claimNumbered) B.pre
  have hown : s.vm.findClass RX3 = some m.cls := findClass_of_methodNamed B.named
  have hlocks := B.notSynchronized
  have hl := lv_entry ([.ref (Q 0), .int x]) (n := 2) (Nat.le_of_ble_eq_true rfl)
  rw [lg_entry_eq]
  generalize (lg_sl ([.ref (Q 0), .int x]) ++ List.replicate (2 - (lg_sl ([.ref (Q 0), .int x])).length) Slot.unset).toArray = ls at hl ⊢
  have hl : lv_has ls 2 [(0, .ref (Q 0)), (1, .int x)] := hl
  have lk0 := hts (.fieldLink RX3 99 "ClaimRows" "claimCount" "I") (List.mem_cons_of_mem _ wd_22)
  have lk1 := hts (.fieldLink RX3 17 "ClaimRows" "claims" "[LClaimRows$Claim;") (List.mem_cons_of_mem _ wd_21)
  have in0 : ∀ w ∈ u_ws RX3 TX3 16, w ∈ wsX3_claimNumbered := fun w h => List.mem_cons_of_mem _ (wu_X3 w h)
  refine lv_iload_n hx hb dX3_claimNumbered_0 rfl (lv_at hl 1 rfl) ?_
  refine lv_i2l (v := (x : Int32).toInt64) hx hb dX3_claimNumbered_1 rfl ?_
  refine lv_lconst (v := 1) hx hb dX3_claimNumbered_2 (by decide) ?_
  refine lv_aload_n hx hb dX3_claimNumbered_3 rfl (lv_at hl 0 rfl) ?_
  refine va_get (D := (dC, dI)) (ci := 3) (v := .int (σ.1 1)) (C := RX3) (T := TX3) (N := 16) hx hb hts in0 hown hK hP 0 (xc_W_0 _ _) rfl 3 (by decide) lk0 (fun _ h9 => h9) rfl dX3_claimNumbered_4 ?_
  refine lv_i2l (v := ((σ.1 1) : Int32).toInt64) hx hb dX3_claimNumbered_7 rfl ?_
  refine vp_callSi (va_Run.run (va_runS (As := [.long ((x : Int32).toInt64), .long 1, .long (((σ.1 1) : Int32).toInt64)]) (rest := []) ⟨hx, hb, hml, hown, hts⟩ (mt_isWithin l ((x : Int32).toInt64) 1 (((σ.1 1) : Int32).toInt64)) (va_cwS 3 hts (al_gS wd_48 wd_49 wd_1 wd_50) rfl rfl rfl (by decide +kernel) ⟨Nat.le_of_ble_eq_true rfl, Nat.le_of_ble_eq_true rfl⟩) ⟨ct_bl0, ct_at0⟩ rfl rfl hl.1 rfl (lv_room (Nat.le_of_ble_eq_true rfl)) dX3_claimNumbered_8 ⟨Nat.le_of_ble_eq_true rfl, Nat.le_of_ble_eq_true rfl⟩)) (fun r8 hr8 => ?_)
  subst hr8
  refine lv_if_eq (tgt := 25) hx hb dX3_claimNumbered_11 (by decide) (fun c11 => ?_) (fun c11 => ?_)
  · have c11 := of_decide_eq_false (bb_0.mp c11)
    refine lv_null hx hb dX3_claimNumbered_25 ?_
    exact W.aret (v := .null) hx hb hr (Or.inl ⟨_, rfl⟩) (Or.inl rfl) (fun t ht hW => ⟨none, rfl, (Or.inr ⟨nu_f c11, rfl⟩), ht⟩) (fun q h => by cases h) dX3_claimNumbered_26
  · have c11 := of_decide_eq_true (bb_n.mp c11)
    refine lv_aload_n hx hb dX3_claimNumbered_14 rfl (lv_at hl 0 rfl) ?_
    refine va_get (D := (dC, dI)) (ci := 3) (v := .ref (Q 2)) (C := RX3) (T := TX3) (N := 16) hx hb hts in0 hown hK hP 0 (xc_W_0 _ _) rfl 2 (by decide) lk1 (fun _ h9 => h9) rfl dX3_claimNumbered_15 ?_
    refine lv_iload_n hx hb dX3_claimNumbered_18 rfl (lv_at hl 1 rfl) ?_
    refine lv_iconst (v := 1) hx hb dX3_claimNumbered_19 (by decide) ?_
    refine lv_isub hx hb dX3_claimNumbered_20 ?_
    refine va_aldq hx hb hK hP 2 4 (xc_W_2 _ _) rfl (nu_in hR.1.2.2.1 (by have := hR.1.2.2.2.1; omega) (by decide) c11) dX3_claimNumbered_21 ?_
    refine lv_goto (tgt := 26) hx hb dX3_claimNumbered_22 (by decide) ?_
    exact W.aret (v := va_rf ((σ.2.2.2.2 1) ((x - 1)).toNatClampNeg)) hx hb hr (Or.inl ⟨_, rfl⟩) (va_rf_or _) (fun t ht hW => ⟨((σ.2.2.2.2 1) ((x - 1)).toNatClampNeg), rfl, (by obtain ⟨j, h1, h2, h3, h4⟩ := nu_t hR.1.2.2.1 (by have := hR.1.2.2.2.1; omega) c11; exact Or.inl ⟨j, h1, h2, h3, by rw [h4]; exact (hR.2.2.1 j h1).1⟩), ht⟩) (fun q h => by cases h) dX3_claimNumbered_26
set_option maxHeartbeats 4000000 in
set_option maxRecDepth 100000 in
/-- mt_searchNumbered -/
theorem mt_searchNumbered (l : Launch) (dC : Nat → ClassId) (dI : Nat → Nat → Nat) (cA : Nat → ClassId) (Q : Nat → Nat) (σ : xs_T) (n : nn_T) (co : co_T) (L : List Nat) (f : Nat → va_E) (ad : ad_T) (hR : re_A cA σ n co L f ad) (x : Int32) : Met l yX3_searchNumbered wsX3_searchNumbered ({ frames := 1, cells := 0, slots := 0, locals := 25 }) (va_Pc [.ref (Q 0), .int x] (ct_R (dC, dI) vwCl (ty_K cA) (xc_W Q cA σ ++ va_pl L f))) (va_Sq (fun r => (∃ j : Nat, j < n.2.2.1 ∧ na_m x (σ.1 2) = some j ∧ x = nI (j + 1) ∧ r = some (ad.2.2.2 j)) ∨ (na_m x (σ.1 2) = none ∧ r = none))) 0 0 (fun _ => False) := by
  refine Met.ofW (cc := cX3_searchNumbered) (maxL := 2) (ret := (some (.object "ClaimRows$Search"))) (by decide) rfl ?_
  intro p e s m args below meth c s₁ B hml hv
  obtain ⟨rfl, hP, hK⟩ := hv
  have hx := B.exec
  have hb := B.bytes
  have hr := B.returns
  have hts := atoms_spec (ws := wsX3_searchNumbered) B.pre
  have hown : s.vm.findClass RX3 = some m.cls := findClass_of_methodNamed B.named
  have hlocks := B.notSynchronized
  have hl := lv_entry ([.ref (Q 0), .int x]) (n := 2) (Nat.le_of_ble_eq_true rfl)
  rw [lg_entry_eq]
  generalize (lg_sl ([.ref (Q 0), .int x]) ++ List.replicate (2 - (lg_sl ([.ref (Q 0), .int x])).length) Slot.unset).toArray = ls at hl ⊢
  have hl : lv_has ls 2 [(0, .ref (Q 0)), (1, .int x)] := hl
  have lk0 := hts (.fieldLink RX3 137 "ClaimRows" "searchCount" "I") (List.mem_cons_of_mem _ wd_24)
  have lk1 := hts (.fieldLink RX3 23 "ClaimRows" "searches" "[LClaimRows$Search;") (List.mem_cons_of_mem _ wd_23)
  have in0 : ∀ w ∈ u_ws RX3 TX3 16, w ∈ wsX3_searchNumbered := fun w h => List.mem_cons_of_mem _ (wu_X3 w h)
  refine lv_iload_n hx hb dX3_searchNumbered_0 rfl (lv_at hl 1 rfl) ?_
  refine lv_i2l (v := (x : Int32).toInt64) hx hb dX3_searchNumbered_1 rfl ?_
  refine lv_lconst (v := 1) hx hb dX3_searchNumbered_2 (by decide) ?_
  refine lv_aload_n hx hb dX3_searchNumbered_3 rfl (lv_at hl 0 rfl) ?_
  refine va_get (D := (dC, dI)) (ci := 3) (v := .int (σ.1 2)) (C := RX3) (T := TX3) (N := 16) hx hb hts in0 hown hK hP 0 (xc_W_0 _ _) rfl 5 (by decide) lk0 (fun _ h9 => h9) rfl dX3_searchNumbered_4 ?_
  refine lv_i2l (v := ((σ.1 2) : Int32).toInt64) hx hb dX3_searchNumbered_7 rfl ?_
  refine vp_callSi (va_Run.run (va_runS (As := [.long ((x : Int32).toInt64), .long 1, .long (((σ.1 2) : Int32).toInt64)]) (rest := []) ⟨hx, hb, hml, hown, hts⟩ (mt_isWithin l ((x : Int32).toInt64) 1 (((σ.1 2) : Int32).toInt64)) (va_cwS 3 hts (al_gS wd_48 wd_49 wd_1 wd_50) rfl rfl rfl (by decide +kernel) ⟨Nat.le_of_ble_eq_true rfl, Nat.le_of_ble_eq_true rfl⟩) ⟨ct_bl0, ct_at0⟩ rfl rfl hl.1 rfl (lv_room (Nat.le_of_ble_eq_true rfl)) dX3_searchNumbered_8 ⟨Nat.le_of_ble_eq_true rfl, Nat.le_of_ble_eq_true rfl⟩)) (fun r8 hr8 => ?_)
  subst hr8
  refine lv_if_eq (tgt := 25) hx hb dX3_searchNumbered_11 (by decide) (fun c11 => ?_) (fun c11 => ?_)
  · have c11 := of_decide_eq_false (bb_0.mp c11)
    refine lv_null hx hb dX3_searchNumbered_25 ?_
    exact W.aret (v := .null) hx hb hr (Or.inl ⟨_, rfl⟩) (Or.inl rfl) (fun t ht hW => ⟨none, rfl, (Or.inr ⟨nu_f c11, rfl⟩), ht⟩) (fun q h => by cases h) dX3_searchNumbered_26
  · have c11 := of_decide_eq_true (bb_n.mp c11)
    refine lv_aload_n hx hb dX3_searchNumbered_14 rfl (lv_at hl 0 rfl) ?_
    refine va_get (D := (dC, dI)) (ci := 3) (v := .ref (Q 3)) (C := RX3) (T := TX3) (N := 16) hx hb hts in0 hown hK hP 0 (xc_W_0 _ _) rfl 4 (by decide) lk1 (fun _ h9 => h9) rfl dX3_searchNumbered_15 ?_
    refine lv_iload_n hx hb dX3_searchNumbered_18 rfl (lv_at hl 1 rfl) ?_
    refine lv_iconst (v := 1) hx hb dX3_searchNumbered_19 (by decide) ?_
    refine lv_isub hx hb dX3_searchNumbered_20 ?_
    refine va_aldq hx hb hK hP 3 5 (xc_W_3 _ _) rfl (nu_in hR.1.2.2.2.2.1 (by have := hR.1.2.2.2.2.2.1; omega) (by decide) c11) dX3_searchNumbered_21 ?_
    refine lv_goto (tgt := 26) hx hb dX3_searchNumbered_22 (by decide) ?_
    exact W.aret (v := va_rf ((σ.2.2.2.2 2) ((x - 1)).toNatClampNeg)) hx hb hr (Or.inl ⟨_, rfl⟩) (va_rf_or _) (fun t ht hW => ⟨((σ.2.2.2.2 2) ((x - 1)).toNatClampNeg), rfl, (by obtain ⟨j, h1, h2, h3, h4⟩ := nu_t hR.1.2.2.2.2.1 (by have := hR.1.2.2.2.2.2.1; omega) c11; exact Or.inl ⟨j, h1, h2, h3, by rw [h4]; exact (hR.2.2.2.1 j h1).1⟩), ht⟩) (fun q h => by cases h) dX3_searchNumbered_26
set_option maxHeartbeats 4000000 in
set_option maxRecDepth 100000 in
/-- mt_send -/
theorem mt_send (l : Launch) (dC : Nat → ClassId) (dI : Nat → Nat → Nat) (cA : Nat → ClassId) (sz : Nat) (Q : Nat → Nat) (σ : xs_T) (L : List Nat) (f : Nat → va_E) (mq : Nat) (hm : σ.1 3 = nI mq) (hb9 : mq < 1000000) (x k : Int32) : Met l yX3_send wsX3_send ({ frames := 0, cells := 0, slots := 0, locals := 0 }) (va_Pc [.ref (Q 0), .int x, .int k] (ct_M (dC, dI) vwCl (ty_K cA) (xc_W Q cA σ ++ va_pl L f) sz)) (va_Qv (fun u => u = (se_nd σ x k, L, f)) (fun u t => ct_B (dC, dI) vwCl (ty_K cA) (va_A (xc_W Q cA σ ++ va_pl L f) sz) (xc_W Q cA u.1 ++ va_pl u.2.1 u.2.2) t) (va_A (xc_W Q cA σ ++ va_pl L f) sz)) 0 0 (va_A (xc_W Q cA σ ++ va_pl L f) sz) := by
  refine Met.ofW (cc := cX3_send) (maxL := 3) (ret := none) (by decide) rfl ?_
  intro p e s m args below meth c s₁ B hml hv
  obtain ⟨rfl, hsz, hP, hK, hD0⟩ := hv
  have hx := B.exec
  have hb := B.bytes
  have hr := B.returns
  have hts := atoms_spec (ws := wsX3_send) B.pre
  have hown : s.vm.findClass RX3 = some m.cls := findClass_of_methodNamed B.named
  have hlocks := B.notSynchronized
  subst hsz
  have hD := hD0.self (sz := s.heap.size)
  generalize hAe : va_A (xc_W Q cA σ ++ va_pl L f) s.heap.size = A at hD ⊢
  have hA : ∀ q : Nat, s.heap.size ≤ q → A q := fun q h => by rw [← hAe]; exact Or.inr h
  clear hAe hD0
  have hS : va_S A s.heap s.heap [] := va_S.rf
  have hl := lv_entry ([.ref (Q 0), .int x, .int k]) (n := 3) (Nat.le_of_ble_eq_true rfl)
  rw [lg_entry_eq]
  generalize (lg_sl ([.ref (Q 0), .int x, .int k]) ++ List.replicate (3 - (lg_sl ([.ref (Q 0), .int x, .int k])).length) Slot.unset).toArray = ls at hl ⊢
  have hl : lv_has ls 3 [(0, .ref (Q 0)), (1, .int x), (2, .int k)] := hl
  have lk0 := hts (.fieldLink RX3 222 "ClaimRows" "letterCount" "I") (List.mem_cons_of_mem _ wd_30)
  have lk1 := hts (.fieldLink RX3 38 "ClaimRows" "letterClaims" "[I") (List.mem_cons_of_mem _ wd_28)
  have lk2 := hts (.fieldLink RX3 41 "ClaimRows" "letterKinds" "[I") (List.mem_cons_of_mem _ wd_29)
  have in0 : ∀ w ∈ u_ws RX3 TX3 16, w ∈ wsX3_send := fun w h => List.mem_cons_of_mem _ (wu_X3 w h)
  refine lv_aload_n hx hb dX3_send_0 rfl (lv_at hl 0 rfl) ?_
  refine va_get (D := (dC, dI)) (ci := 3) (v := .int (σ.1 3)) (C := RX3) (T := TX3) (N := 16) hx hb hts in0 hown hK hP 0 (xc_W_0 _ _) rfl 11 (by decide) lk0 (fun _ h9 => h9) rfl dX3_send_1 ?_
  refine lv_sipush (v := 200) hx hb dX3_send_4 (by decide) ?_
  refine lv_icmp_ge (tgt := 30) hx hb dX3_send_7 (by decide) (fun c7 => ?_) (fun c7 => ?_)
  · refine lv_aload_n hx hb dX3_send_30 rfl (lv_at hl 0 rfl) ?_
    refine lv_dup hx hb dX3_send_31 rfl ?_
    refine va_get (D := (dC, dI)) (ci := 3) (v := .int (σ.1 3)) (C := RX3) (T := TX3) (N := 16) hx hb hts in0 hown hK hP 0 (xc_W_0 _ _) rfl 11 (by decide) lk0 (fun _ h9 => h9) rfl dX3_send_32 ?_
    refine lv_iconst (v := 1) hx hb dX3_send_35 (by decide) ?_
    refine lv_iadd hx hb dX3_send_36 ?_
    refine va_put (D := (dC, dI)) (ci := 3) (v := .int ((σ.1 3) + 1)) (ty := .int) (C := RX3) (T := TX3) (N := 16) hx hb hts in0 tyX3 tyX3_ok nmX3 hown hK hP hD hS 0 (xc_W_0 _ _) rfl 11 (by decide) lk0 (fun _ h9 => h9) rfl (by decide +kernel) rfl rfl (Nat.le_of_ble_eq_true rfl) dX3_send_37 (fun H locs hP hD hS => ?_)
    have hP : va_P (dC, dI) vwCl (xc_W Q cA (xs_i σ 3 ((σ.1 3) + 1)) ++ va_pl L f) H := hP
    have hD : va_D A (xc_W Q cA (xs_i σ 3 ((σ.1 3) + 1)) ++ va_pl L f) := hD
    exact W.vret hx hb hr (fun t ht hW => ⟨⟨(xs_i σ 3 ((σ.1 3) + 1), L, f), rfl, (by rw [se_nd, if_neg (Int32.not_lt.mpr c7)]), by rw [ht]; exact hP, va_K.moved hW.alike hK, hD⟩, hS.F ht⟩) hS.2.2 dX3_send_40
  · refine lv_aload_n hx hb dX3_send_10 rfl (lv_at hl 0 rfl) ?_
    refine va_get (D := (dC, dI)) (ci := 3) (v := .ref (Q 7)) (C := RX3) (T := TX3) (N := 16) hx hb hts in0 hown hK hP 0 (xc_W_0 _ _) rfl 9 (by decide) lk1 (fun _ h9 => h9) rfl dX3_send_11 ?_
    refine lv_aload_n hx hb dX3_send_14 rfl (lv_at hl 0 rfl) ?_
    refine va_get (D := (dC, dI)) (ci := 3) (v := .int (σ.1 3)) (C := RX3) (T := TX3) (N := 16) hx hb hts in0 hown hK hP 0 (xc_W_0 _ _) rfl 11 (by decide) lk0 (fun _ h9 => h9) rfl dX3_send_15 ?_
    refine lv_iload_n hx hb dX3_send_18 rfl (lv_at hl 1 rfl) ?_
    refine va_iast hx hb hK hP hD hS 7 0 (xc_W_7 _ _) rfl (sd_in hm hb9 c7) dX3_send_19 (fun H locs hP hD hS => ?_)
    have hP : va_P (dC, dI) vwCl (xc_W Q cA (xs_ai σ 1 (upd (σ.2.2.1 1) ((σ.1 3)).toNatClampNeg x)) ++ va_pl L f) H := hP
    have hD : va_D A (xc_W Q cA (xs_ai σ 1 (upd (σ.2.2.1 1) ((σ.1 3)).toNatClampNeg x)) ++ va_pl L f) := hD
    refine lv_aload_n hx hb dX3_send_20 rfl (lv_at hl 0 rfl) ?_
    refine va_get (D := (dC, dI)) (ci := 3) (v := .ref (Q 8)) (C := RX3) (T := TX3) (N := 16) hx hb hts in0 hown hK hP 0 (xc_W_0 _ _) rfl 10 (by decide) lk2 (fun _ h9 => h9) rfl dX3_send_21 ?_
    refine lv_aload_n hx hb dX3_send_24 rfl (lv_at hl 0 rfl) ?_
    refine va_get (D := (dC, dI)) (ci := 3) (v := .int (σ.1 3)) (C := RX3) (T := TX3) (N := 16) hx hb hts in0 hown hK hP 0 (xc_W_0 _ _) rfl 11 (by decide) lk0 (fun _ h9 => h9) rfl dX3_send_25 ?_
    refine lv_iload_n hx hb dX3_send_28 rfl (lv_at hl 2 rfl) ?_
    refine va_iast hx hb hK hP hD hS 8 0 (xc_W_8 _ _) rfl (sd_in hm hb9 c7) dX3_send_29 (fun H locs hP hD hS => ?_)
    have hP : va_P (dC, dI) vwCl (xc_W Q cA (xs_ai (xs_ai σ 1 (upd (σ.2.2.1 1) ((σ.1 3)).toNatClampNeg x)) 2 (upd (σ.2.2.1 2) ((σ.1 3)).toNatClampNeg k)) ++ va_pl L f) H := hP
    have hD : va_D A (xc_W Q cA (xs_ai (xs_ai σ 1 (upd (σ.2.2.1 1) ((σ.1 3)).toNatClampNeg x)) 2 (upd (σ.2.2.1 2) ((σ.1 3)).toNatClampNeg k)) ++ va_pl L f) := hD
    refine lv_aload_n hx hb dX3_send_30 rfl (lv_at hl 0 rfl) ?_
    refine lv_dup hx hb dX3_send_31 rfl ?_
    refine va_get (D := (dC, dI)) (ci := 3) (v := .int (σ.1 3)) (C := RX3) (T := TX3) (N := 16) hx hb hts in0 hown hK hP 0 (xc_W_0 _ _) rfl 11 (by decide) lk0 (fun _ h9 => h9) rfl dX3_send_32 ?_
    refine lv_iconst (v := 1) hx hb dX3_send_35 (by decide) ?_
    refine lv_iadd hx hb dX3_send_36 ?_
    refine va_put (D := (dC, dI)) (ci := 3) (v := .int ((σ.1 3) + 1)) (ty := .int) (C := RX3) (T := TX3) (N := 16) hx hb hts in0 tyX3 tyX3_ok nmX3 hown hK hP hD hS 0 (xc_W_0 _ _) rfl 11 (by decide) lk0 (fun _ h9 => h9) rfl (by decide +kernel) rfl rfl (Nat.le_of_ble_eq_true rfl) dX3_send_37 (fun H locs hP hD hS => ?_)
    have hP : va_P (dC, dI) vwCl (xc_W Q cA (xs_i (xs_ai (xs_ai σ 1 (upd (σ.2.2.1 1) ((σ.1 3)).toNatClampNeg x)) 2 (upd (σ.2.2.1 2) ((σ.1 3)).toNatClampNeg k)) 3 ((σ.1 3) + 1)) ++ va_pl L f) H := hP
    have hD : va_D A (xc_W Q cA (xs_i (xs_ai (xs_ai σ 1 (upd (σ.2.2.1 1) ((σ.1 3)).toNatClampNeg x)) 2 (upd (σ.2.2.1 2) ((σ.1 3)).toNatClampNeg k)) 3 ((σ.1 3) + 1)) ++ va_pl L f) := hD
    exact W.vret hx hb hr (fun t ht hW => ⟨⟨(xs_i (xs_ai (xs_ai σ 1 (upd (σ.2.2.1 1) ((σ.1 3)).toNatClampNeg x)) 2 (upd (σ.2.2.1 2) ((σ.1 3)).toNatClampNeg k)) 3 ((σ.1 3) + 1), L, f), rfl, (by rw [se_nd, if_pos (Int32.not_le.mp c7)]), by rw [ht]; exact hP, va_K.moved hW.alike hK, hD⟩, hS.F ht⟩) hS.2.2 dX3_send_40
