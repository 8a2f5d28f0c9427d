set_option maxHeartbeats 4000000 in
set_option maxRecDepth 100000 in
/-- mt_sum -/
theorem mt_sum (l : Launch) (dC : Nat → ClassId) (dI : Nat → Nat → Nat) (cA : Nat → ClassId) (Q : Nat → Nat) (σ : xs_T) (n : nn_T) (co : co_T) (L : List Nat) (f : Nat → va_E) (ad : ad_T) (hR : re_A cA σ n co L f ad) (hT : n.2.2.2 < 100000) (x1 : Int32) : Met l yX3_sum wsX3_sum ({ frames := 2, cells := 0, slots := 0, locals := 47 }) (va_Pc [.ref (Q 0), .int x1] (ct_R (dC, dI) vwCl (ty_K cA) (xc_W Q cA σ ++ va_pl L f))) (vp_Sl (fun r => r = kc_sum (σ, co) x1)) 0 0 (fun _ => False) := by
  refine Met.ofW (cc := cX3_sum) (maxL := 3) (ret := (some .long)) (by decide) rfl ?_
  intro p e s m args below meth c s₁ B hml hv
  obtain ⟨rfl, hP, hK⟩ := hv
  have hx := B.exec
  have hb := B.bytes
  have hr := B.returns
  have hts := atoms_spec (ws := wsX3_sum) B.pre
  have hown : s.vm.findClass RX3 = some m.cls := findClass_of_methodNamed B.named
  have hlocks := B.notSynchronized
  have hl := lv_entry ([.ref (Q 0), .int x1]) (n := 3) (Nat.le_of_ble_eq_true rfl)
  rw [lg_entry_eq]
  generalize (lg_sl ([.ref (Q 0), .int x1]) ++ List.replicate (3 - (lg_sl ([.ref (Q 0), .int x1])).length) Slot.unset).toArray = ls at hl ⊢
  have hl : lv_has ls 3 [(0, .ref (Q 0)), (1, .int x1)] := hl
  have lk0 := hts (.fieldLink RX3 120 "ClaimRows$Claim" "state" "I") (List.mem_cons_of_mem _ wd_129)
  have lk1 := hts (.fieldLink RX3 163 "ClaimRows$Claim" "paidSum" "J") (List.mem_cons_of_mem _ wd_140)
  have lk2 := hts (.constantLong RX3 161 (-101)) (List.mem_cons_of_mem _ wd_197)
  have in0 : ∀ w ∈ u_ws RX0 TX0 13, w ∈ wsX3_sum := fun w h => List.mem_cons_of_mem _ (wu_X0 w h)
  have hn0 : (σ.1 0).toNatClampNeg = n.1 := by rw [hR.1.1]; exact nI_clamp (by have := hR.1.2.1; omega)
  have hn1 : (σ.1 1).toNatClampNeg = n.2.1 := by rw [hR.1.2.2.1]; exact nI_clamp (by have := hR.1.2.2.2.1; omega)
  have hn2 : (σ.1 2).toNatClampNeg = n.2.2.1 := by rw [hR.1.2.2.2.2.1]; exact nI_clamp (by have := hR.1.2.2.2.2.2.1; omega)
  refine lv_aload_n hx hb dX3_sum_0 rfl (lv_at hl 0 rfl) ?_
  refine lv_iload_n hx hb dX3_sum_1 rfl (lv_at hl 1 rfl) ?_
  refine va_csq (va_Run.run (va_runV (As := [.int x1]) (rest := []) ⟨hx, hb, hml, hown, hts⟩ (mt_claimNumbered l dC dI cA Q σ n co L f ad hR x1) (cwV 1 hts (al_gV wd_105 wd_107 wd_106 wd_1 wd_108) rfl rfl rfl (by decide +kernel) ⟨Nat.le_of_ble_eq_true rfl, Nat.le_of_ble_eq_true rfl⟩) ⟨ct_blR, va_recv hK hP (ci := 3) (q0 := 0) rfl (xc_W_0 _ _), ct_atR hP hK⟩ rfl rfl hl.1 rfl (lv_room (Nat.le_of_ble_eq_true rfl)) dX3_sum_2 ⟨Nat.le_of_ble_eq_true rfl, Nat.le_of_ble_eq_true rfl⟩)) (fun r2 hr2 => ?_)
  rcases hr2 with ⟨j2, hj2, hm2, ex2, rfl⟩ | ⟨hm2, rfl⟩
  · have hC1 := hR.2.2.1 j2 hj2
    have hC1v := hR.2.2.2.2.1.2.1 j2 hj2
    have hC1a : f (ad.2.2.1 j2) = .inr (0, [.int (nI (j2 + 1)), .int (co.2.1 6 j2), .ref (ad.1 (co.1 0 j2)), .int (co.2.1 7 j2), .int (co.2.1 8 j2), .int (co.2.1 9 j2), .int (co.2.1 10 j2), .int (co.2.1 11 j2), .int (co.2.1 12 j2), .int (co.2.1 13 j2), .int (co.2.1 14 j2), .int (co.2.1 15 j2), .long (co.2.2.1 2 j2)]) := hC1.2.2
    have hI2 := hR.2.1 (co.1 0 j2) hC1v.1
    have hI2a : f (ad.1 (co.1 0 j2)) = .inr (1, [.int (co.2.1 0 (co.1 0 j2)), .long (co.2.2.1 0 (co.1 0 j2)), .long (co.2.2.1 1 (co.1 0 j2)), .int (co.2.1 1 (co.1 0 j2)), .int (co.2.1 2 (co.1 0 j2)), .ref (ad.2.1 (co.1 0 j2)), .int (co.2.1 3 (co.1 0 j2)), .int (co.2.1 4 (co.1 0 j2)), .int (co.2.1 5 (co.1 0 j2))]) := hI2.2.2.1
    have hI2p : f (ad.2.1 (co.1 0 j2)) = .inl ((cA 0), 8, .inl (co.2.2.2 (co.1 0 j2))) := hI2.2.2.2.2
    refine lv_astore_n (lv' := [(2, .ref (ad.2.2.1 j2)), (0, .ref (Q 0)), (1, .int x1)]) hx hb dX3_sum_5 rfl hl (by decide) rfl (fun ls hl => ?_)
    refine lv_aload_n hx hb dX3_sum_6 rfl (lv_at hl 0 rfl) ?_
    refine lv_ifnonnull (tgt := 14) hx hb dX3_sum_7 (by decide) ?_
    refine lv_aload_n hx hb dX3_sum_14 rfl (lv_at hl 0 rfl) ?_
    refine hp_get (D := (dC, dI)) (ci := 0) (v := .int (co.2.1 9 j2)) (C := RX0) (T := TX0) (N := 13) hx hb hts in0 hown hK hP hC1.2.1 hC1a rfl 5 (by decide) lk0 (fun _ h9 => h9) rfl dX3_sum_15 ?_
    refine lv_iconst (v := 1) hx hb dX3_sum_18 (by decide) ?_
    refine lv_icmp_ne (tgt := 29) hx hb dX3_sum_19 (by decide) (fun c19 => ?_) (fun c19 => ?_)
    · refine lv_aload_n hx hb dX3_sum_29 rfl (lv_at hl 1 rfl) ?_
      refine lv_aload_n hx hb dX3_sum_30 rfl (lv_at hl 0 rfl) ?_
      refine vp_callSl (va_Run.run (va_runV (As := [.ref (ad.2.2.1 j2)]) (rest := []) ⟨hx, hb, hml, hown, hts⟩ (mt_sumByTable l dC dI cA Q σ n co L f ad hR j2 hj2) (cwV 1 hts (al_gV wd_198 wd_200 wd_199 wd_1 wd_201) rfl rfl rfl (by decide +kernel) ⟨Nat.le_of_ble_eq_true rfl, Nat.le_of_ble_eq_true rfl⟩) ⟨ct_blR, va_recv hK hP (ci := 3) (q0 := 0) rfl (xc_W_0 _ _), ct_atR hP hK⟩ rfl rfl hl.1 rfl (lv_room (Nat.le_of_ble_eq_true rfl)) dX3_sum_31 ⟨Nat.le_of_ble_eq_true rfl, Nat.le_of_ble_eq_true rfl⟩)) (fun r31 hr31 => ?_)
      subst hr31
      exact W.lret (v := (su_m σ co j2)) hx hb hr (fun t ht hW => ⟨(su_m σ co j2), rfl, (by simp only [kc_sum, hm2, if_neg c19, Option.elim, hn1]), ht⟩) (fun q h => by cases h) dX3_sum_34
    · refine lv_aload_n hx hb dX3_sum_22 rfl (lv_at hl 0 rfl) ?_
      refine hp_get (D := (dC, dI)) (ci := 0) (v := .long (co.2.2.1 2 j2)) (C := RX0) (T := TX0) (N := 13) hx hb hts in0 hown hK hP hC1.2.1 hC1a rfl 12 (by decide) lk1 (fun _ h9 => h9) rfl dX3_sum_23 ?_
      refine lv_goto (tgt := 34) hx hb dX3_sum_26 (by decide) ?_
      exact W.lret (v := (co.2.2.1 2 j2)) hx hb hr (fun t ht hW => ⟨(co.2.2.1 2 j2), rfl, (by simp only [kc_sum, hm2, if_pos c19, Option.elim, hn1]), ht⟩) (fun q h => by cases h) dX3_sum_34
  · skip
    refine lv_astore_nN (lv' := [(2, .null), (0, .ref (Q 0)), (1, .int x1)]) hx hb dX3_sum_5 rfl hl (by decide) rfl (fun ls hl => ?_)
    refine lv_aload_nN hx hb dX3_sum_6 rfl (lv_at hl 0 rfl) ?_
    refine lv_ifnonnullN hx hb dX3_sum_7 ?_
    refine lv_ldc2 hx hb hown lk2 dX3_sum_10 ?_
    exact W.lret (v := (-101)) hx hb hr (fun t ht hW => ⟨(-101), rfl, (by simp only [kc_sum, hm2, Option.elim, hn1]), ht⟩) (fun q h => by cases h) dX3_sum_13
set_option maxHeartbeats 4000000 in
set_option maxRecDepth 100000 in
/-- mt_paid -/
theorem mt_paid (l : Launch) (dC : Nat → ClassId) (dI : Nat → Nat → Nat) (cA : Nat → ClassId) (Q : Nat → Nat) (σ : xs_T) (n : nn_T) (co : co_T) (L : List Nat) (f : Nat → va_E) (ad : ad_T) (hR : re_A cA σ n co L f ad) (hT : n.2.2.2 < 100000) (x1 x2 : Int32) : Met l yX3_paid wsX3_paid ({ frames := 3, cells := 0, slots := 0, locals := 70 }) (va_Pc [.ref (Q 0), .int x1, .int x2] (ct_R (dC, dI) vwCl (ty_K cA) (xc_W Q cA σ ++ va_pl L f))) (vp_Si (fun r => r = bb_v (kc_paid (σ, co) x1 x2))) 0 0 (fun _ => False) := by
  refine Met.ofW (cc := cX3_paid) (maxL := 4) (ret := (some .boolean)) (by decide) rfl ?_
  intro p e s m args below meth c s₁ B hml hv
  obtain ⟨rfl, hP, hK⟩ := hv
  have hx := B.exec
  have hb := B.bytes
  have hr := B.returns
  have hts := atoms_spec (ws := wsX3_paid) B.pre
  have hown : s.vm.findClass RX3 = some m.cls := findClass_of_methodNamed B.named
  have hlocks := B.notSynchronized
  have hl := lv_entry ([.ref (Q 0), .int x1, .int x2]) (n := 4) (Nat.le_of_ble_eq_true rfl)
  rw [lg_entry_eq]
  generalize (lg_sl ([.ref (Q 0), .int x1, .int x2]) ++ List.replicate (4 - (lg_sl ([.ref (Q 0), .int x1, .int x2])).length) Slot.unset).toArray = ls at hl ⊢
  have hl : lv_has ls 4 [(0, .ref (Q 0)), (1, .int x1), (2, .int x2)] := hl
  have lk0 := hts (.fieldLink RX3 120 "ClaimRows$Claim" "state" "I") (List.mem_cons_of_mem _ wd_129)
  have in0 : ∀ w ∈ u_ws RX0 TX0 13, w ∈ wsX3_paid := fun w h => List.mem_cons_of_mem _ (wu_X0 w h)
  have hn0 : (σ.1 0).toNatClampNeg = n.1 := by rw [hR.1.1]; exact nI_clamp (by have := hR.1.2.1; omega)
  have hn1 : (σ.1 1).toNatClampNeg = n.2.1 := by rw [hR.1.2.2.1]; exact nI_clamp (by have := hR.1.2.2.2.1; omega)
  have hn2 : (σ.1 2).toNatClampNeg = n.2.2.1 := by rw [hR.1.2.2.2.2.1]; exact nI_clamp (by have := hR.1.2.2.2.2.2.1; omega)
  refine lv_aload_n hx hb dX3_paid_0 rfl (lv_at hl 0 rfl) ?_
  refine lv_iload_n hx hb dX3_paid_1 rfl (lv_at hl 1 rfl) ?_
  refine lv_iload_n hx hb dX3_paid_2 rfl (lv_at hl 2 rfl) ?_
  refine va_csq (va_Run.run (va_runV (As := [.int x1, .int x2]) (rest := []) ⟨hx, hb, hml, hown, hts⟩ (mt_standingClaim l dC dI cA Q σ n co L f ad hR x1 x2) (cwV 2 hts (al_gV wd_101 wd_103 wd_102 wd_1 wd_104) rfl rfl rfl (by decide +kernel) ⟨Nat.le_of_ble_eq_true rfl, Nat.le_of_ble_eq_true rfl⟩) ⟨ct_blR, va_recv hK hP (ci := 3) (q0 := 0) rfl (xc_W_0 _ _), ct_atR hP hK⟩ rfl rfl hl.1 rfl (lv_room (Nat.le_of_ble_eq_true rfl)) dX3_paid_3 ⟨Nat.le_of_ble_eq_true rfl, Nat.le_of_ble_eq_true rfl⟩)) (fun r3 hr3 => ?_)
  rcases hr3 with ⟨j3, hj3, hm3, rfl⟩ | ⟨hm3, rfl⟩
  · have hC1 := hR.2.2.1 j3 hj3
    have hC1v := hR.2.2.2.2.1.2.1 j3 hj3
    have hC1a : f (ad.2.2.1 j3) = .inr (0, [.int (nI (j3 + 1)), .int (co.2.1 6 j3), .ref (ad.1 (co.1 0 j3)), .int (co.2.1 7 j3), .int (co.2.1 8 j3), .int (co.2.1 9 j3), .int (co.2.1 10 j3), .int (co.2.1 11 j3), .int (co.2.1 12 j3), .int (co.2.1 13 j3), .int (co.2.1 14 j3), .int (co.2.1 15 j3), .long (co.2.2.1 2 j3)]) := hC1.2.2
    have hI2 := hR.2.1 (co.1 0 j3) hC1v.1
    have hI2a : f (ad.1 (co.1 0 j3)) = .inr (1, [.int (co.2.1 0 (co.1 0 j3)), .long (co.2.2.1 0 (co.1 0 j3)), .long (co.2.2.1 1 (co.1 0 j3)), .int (co.2.1 1 (co.1 0 j3)), .int (co.2.1 2 (co.1 0 j3)), .ref (ad.2.1 (co.1 0 j3)), .int (co.2.1 3 (co.1 0 j3)), .int (co.2.1 4 (co.1 0 j3)), .int (co.2.1 5 (co.1 0 j3))]) := hI2.2.2.1
    have hI2p : f (ad.2.1 (co.1 0 j3)) = .inl ((cA 0), 8, .inl (co.2.2.2 (co.1 0 j3))) := hI2.2.2.2.2
    refine lv_astore_n (lv' := [(3, .ref (ad.2.2.1 j3)), (0, .ref (Q 0)), (1, .int x1), (2, .int x2)]) hx hb dX3_paid_6 rfl hl (by decide) rfl (fun ls hl => ?_)
    refine lv_aload_n hx hb dX3_paid_7 rfl (lv_at hl 0 rfl) ?_
    refine lv_ifnull hx hb dX3_paid_8 ?_
    refine lv_aload_n hx hb dX3_paid_11 rfl (lv_at hl 0 rfl) ?_
    refine hp_get (D := (dC, dI)) (ci := 0) (v := .int (co.2.1 9 j3)) (C := RX0) (T := TX0) (N := 13) hx hb hts in0 hown hK hP hC1.2.1 hC1a rfl 5 (by decide) lk0 (fun _ h9 => h9) rfl dX3_paid_12 ?_
    refine lv_iconst (v := 1) hx hb dX3_paid_15 (by decide) ?_
    refine lv_icmp_ne (tgt := 23) hx hb dX3_paid_16 (by decide) (fun c16 => ?_) (fun c16 => ?_)
    · refine lv_iconst (v := 0) hx hb dX3_paid_23 (by decide) ?_
      exact W.zret (v := 0) hx hb hr (by decide) (fun t ht hW => ⟨0, rfl, (by simp only [kc_paid, hn1, hm3, Option.elim, decide_eq_false c16]; rfl), ht⟩) (fun q h => by cases h) dX3_paid_24
    · refine lv_iconst (v := 1) hx hb dX3_paid_19 (by decide) ?_
      refine lv_goto (tgt := 24) hx hb dX3_paid_20 (by decide) ?_
      exact W.zret (v := 1) hx hb hr (by decide) (fun t ht hW => ⟨1, rfl, (by simp only [kc_paid, hn1, hm3, Option.elim, c16]; rfl), ht⟩) (fun q h => by cases h) dX3_paid_24
  · skip
    refine lv_astore_nN (lv' := [(3, .null), (0, .ref (Q 0)), (1, .int x1), (2, .int x2)]) hx hb dX3_paid_6 rfl hl (by decide) rfl (fun ls hl => ?_)
    refine lv_aload_nN hx hb dX3_paid_7 rfl (lv_at hl 0 rfl) ?_
    refine lv_ifnullN (tgt := 23) hx hb dX3_paid_8 (by decide) ?_
    refine lv_iconst (v := 0) hx hb dX3_paid_23 (by decide) ?_
    exact W.zret (v := 0) hx hb hr (by decide) (fun t ht hW => ⟨0, rfl, (by simp only [kc_paid, hn1, hm3, Option.elim]; rfl), ht⟩) (fun q h => by cases h) dX3_paid_24
set_option maxHeartbeats 4000000 in
set_option maxRecDepth 100000 in
/-- mt_about -/
theorem mt_about (l : Launch) (dC : Nat → ClassId) (dI : Nat → Nat → Nat) (cA : Nat → ClassId) (Q : Nat → Nat) (σ : xs_T) (n : nn_T) (co : co_T) (L : List Nat) (f : Nat → va_E) (ad : ad_T) (hR : re_A cA σ n co L f ad) (hT : n.2.2.2 < 100000) (x1 x2 : Int32) : Met l yX3_about wsX3_about ({ frames := 2, cells := 0, slots := 0, locals := 46 }) (va_Pc [.ref (Q 0), .int x1, .int x2] (ct_R (dC, dI) vwCl (ty_K cA) (xc_W Q cA σ ++ va_pl L f))) (vp_Si (fun r => r = kc_about (σ, co) x1 x2)) 0 0 (fun _ => False) := by
  refine Met.ofW (cc := cX3_about) (maxL := 4) (ret := (some .int)) (by decide) rfl ?_
  intro p e s m args below meth c s₁ B hml hv
  obtain ⟨rfl, hP, hK⟩ := hv
  have hx := B.exec
  have hb := B.bytes
  have hr := B.returns
  have hts := atoms_spec (ws := wsX3_about) B.pre
  have hown : s.vm.findClass RX3 = some m.cls := findClass_of_methodNamed B.named
  have hlocks := B.notSynchronized
  have hl := lv_entry ([.ref (Q 0), .int x1, .int x2]) (n := 4) (Nat.le_of_ble_eq_true rfl)
  rw [lg_entry_eq]
  generalize (lg_sl ([.ref (Q 0), .int x1, .int x2]) ++ List.replicate (4 - (lg_sl ([.ref (Q 0), .int x1, .int x2])).length) Slot.unset).toArray = ls at hl ⊢
  have hl : lv_has ls 4 [(0, .ref (Q 0)), (1, .int x1), (2, .int x2)] := hl
  have lk0 := hts (.fieldLink RX3 120 "ClaimRows$Claim" "state" "I") (List.mem_cons_of_mem _ wd_129)
  have lk1 := hts (.fieldLink RX3 211 "ClaimRows$Claim" "itemNumber" "I") (List.mem_cons_of_mem _ wd_121)
  have lk2 := hts (.fieldLink RX3 134 "ClaimRows$Claim" "kind" "I") (List.mem_cons_of_mem _ wd_125)
  have lk3 := hts (.fieldLink RX3 123 "ClaimRows$Claim" "lacking" "I") (List.mem_cons_of_mem _ wd_131)
  have lk4 := hts (.fieldLink RX3 217 "ClaimRows$Claim" "unanswered" "I") (List.mem_cons_of_mem _ wd_134)
  have lk5 := hts (.fieldLink RX3 219 "ClaimRows$Claim" "earlier" "I") (List.mem_cons_of_mem _ wd_127)
  have in0 : ∀ w ∈ u_ws RX0 TX0 13, w ∈ wsX3_about := fun w h => List.mem_cons_of_mem _ (wu_X0 w h)
  have hn0 : (σ.1 0).toNatClampNeg = n.1 := by rw [hR.1.1]; exact nI_clamp (by have := hR.1.2.1; omega)
  have hn1 : (σ.1 1).toNatClampNeg = n.2.1 := by rw [hR.1.2.2.1]; exact nI_clamp (by have := hR.1.2.2.2.1; omega)
  have hn2 : (σ.1 2).toNatClampNeg = n.2.2.1 := by rw [hR.1.2.2.2.2.1]; exact nI_clamp (by have := hR.1.2.2.2.2.2.1; omega)
  refine lv_aload_n hx hb dX3_about_0 rfl (lv_at hl 0 rfl) ?_
  refine lv_iload_n hx hb dX3_about_1 rfl (lv_at hl 1 rfl) ?_
  refine va_csq (va_Run.run (va_runV (As := [.int x1]) (rest := []) ⟨hx, hb, hml, hown, hts⟩ (mt_claimNumbered l dC dI cA Q σ n co L f ad hR x1) (cwV 1 hts (al_gV wd_105 wd_107 wd_106 wd_1 wd_108) rfl rfl rfl (by decide +kernel) ⟨Nat.le_of_ble_eq_true rfl, Nat.le_of_ble_eq_true rfl⟩) ⟨ct_blR, va_recv hK hP (ci := 3) (q0 := 0) rfl (xc_W_0 _ _), ct_atR hP hK⟩ rfl rfl hl.1 rfl (lv_room (Nat.le_of_ble_eq_true rfl)) dX3_about_2 ⟨Nat.le_of_ble_eq_true rfl, Nat.le_of_ble_eq_true rfl⟩)) (fun r2 hr2 => ?_)
  rcases hr2 with ⟨j2, hj2, hm2, ex2, rfl⟩ | ⟨hm2, rfl⟩
  · have hC1 := hR.2.2.1 j2 hj2
    have hC1v := hR.2.2.2.2.1.2.1 j2 hj2
    have hC1a : f (ad.2.2.1 j2) = .inr (0, [.int (nI (j2 + 1)), .int (co.2.1 6 j2), .ref (ad.1 (co.1 0 j2)), .int (co.2.1 7 j2), .int (co.2.1 8 j2), .int (co.2.1 9 j2), .int (co.2.1 10 j2), .int (co.2.1 11 j2), .int (co.2.1 12 j2), .int (co.2.1 13 j2), .int (co.2.1 14 j2), .int (co.2.1 15 j2), .long (co.2.2.1 2 j2)]) := hC1.2.2
    have hI2 := hR.2.1 (co.1 0 j2) hC1v.1
    have hI2a : f (ad.1 (co.1 0 j2)) = .inr (1, [.int (co.2.1 0 (co.1 0 j2)), .long (co.2.2.1 0 (co.1 0 j2)), .long (co.2.2.1 1 (co.1 0 j2)), .int (co.2.1 1 (co.1 0 j2)), .int (co.2.1 2 (co.1 0 j2)), .ref (ad.2.1 (co.1 0 j2)), .int (co.2.1 3 (co.1 0 j2)), .int (co.2.1 4 (co.1 0 j2)), .int (co.2.1 5 (co.1 0 j2))]) := hI2.2.2.1
    have hI2p : f (ad.2.1 (co.1 0 j2)) = .inl ((cA 0), 8, .inl (co.2.2.2 (co.1 0 j2))) := hI2.2.2.2.2
    refine lv_astore_n (lv' := [(3, .ref (ad.2.2.1 j2)), (0, .ref (Q 0)), (1, .int x1), (2, .int x2)]) hx hb dX3_about_5 rfl hl (by decide) rfl (fun ls hl => ?_)
    refine lv_aload_n hx hb dX3_about_6 rfl (lv_at hl 0 rfl) ?_
    refine lv_ifnonnull (tgt := 13) hx hb dX3_about_7 (by decide) ?_
    refine lv_iload_n hx hb dX3_about_13 rfl (lv_at hl 3 rfl) ?_
    rcases Classical.em (x2 = 0 ∨ x2 = 1 ∨ x2 = 2 ∨ x2 = 3 ∨ x2 = 4 ∨ x2 = 5) with e14 | e14
    · rcases e14 with e14 | e14 | e14 | e14 | e14 | e14
      · refine lv_tableIn (off := 38) (tgt := 52) hx hb dX3_about_14 (by rw [e14]; decide) (by rw [e14]; decide) (by rw [e14]; decide) (by decide) ?_
        refine lv_aload_n hx hb dX3_about_52 rfl (lv_at hl 0 rfl) ?_
        refine hp_get (D := (dC, dI)) (ci := 0) (v := .int (co.2.1 9 j2)) (C := RX0) (T := TX0) (N := 13) hx hb hts in0 hown hK hP hC1.2.1 hC1a rfl 5 (by decide) lk0 (fun _ h9 => h9) rfl dX3_about_53 ?_
        exact W.iret (v := (co.2.1 9 j2)) hx hb hr (fun t ht hW => ⟨(co.2.1 9 j2), rfl, (by simp only [kc_about, hm2, Option.elim]; subst e14; rfl), ht⟩) (fun q h => by cases h) dX3_about_56
      · refine lv_tableIn (off := 43) (tgt := 57) hx hb dX3_about_14 (by rw [e14]; decide) (by rw [e14]; decide) (by rw [e14]; decide) (by decide) ?_
        refine lv_aload_n hx hb dX3_about_57 rfl (lv_at hl 0 rfl) ?_
        refine hp_get (D := (dC, dI)) (ci := 0) (v := .int (co.2.1 6 j2)) (C := RX0) (T := TX0) (N := 13) hx hb hts in0 hown hK hP hC1.2.1 hC1a rfl 1 (by decide) lk1 (fun _ h9 => h9) rfl dX3_about_58 ?_
        exact W.iret (v := (co.2.1 6 j2)) hx hb hr (fun t ht hW => ⟨(co.2.1 6 j2), rfl, (by simp only [kc_about, hm2, Option.elim]; subst e14; rfl), ht⟩) (fun q h => by cases h) dX3_about_61
      · refine lv_tableIn (off := 48) (tgt := 62) hx hb dX3_about_14 (by rw [e14]; decide) (by rw [e14]; decide) (by rw [e14]; decide) (by decide) ?_
        refine lv_aload_n hx hb dX3_about_62 rfl (lv_at hl 0 rfl) ?_
        refine hp_get (D := (dC, dI)) (ci := 0) (v := .int (co.2.1 7 j2)) (C := RX0) (T := TX0) (N := 13) hx hb hts in0 hown hK hP hC1.2.1 hC1a rfl 3 (by decide) lk2 (fun _ h9 => h9) rfl dX3_about_63 ?_
        exact W.iret (v := (co.2.1 7 j2)) hx hb hr (fun t ht hW => ⟨(co.2.1 7 j2), rfl, (by simp only [kc_about, hm2, Option.elim]; subst e14; rfl), ht⟩) (fun q h => by cases h) dX3_about_66
      · refine lv_tableIn (off := 53) (tgt := 67) hx hb dX3_about_14 (by rw [e14]; decide) (by rw [e14]; decide) (by rw [e14]; decide) (by decide) ?_
        refine lv_aload_n hx hb dX3_about_67 rfl (lv_at hl 0 rfl) ?_
        refine hp_get (D := (dC, dI)) (ci := 0) (v := .int (co.2.1 10 j2)) (C := RX0) (T := TX0) (N := 13) hx hb hts in0 hown hK hP hC1.2.1 hC1a rfl 6 (by decide) lk3 (fun _ h9 => h9) rfl dX3_about_68 ?_
        refine vp_callSi (va_Run.run (va_runS (As := [.int (co.2.1 10 j2)]) (rest := []) ⟨hx, hb, hml, hown, hts⟩ (mt_bitCount l (co.2.1 10 j2) (hR.2.2.2.2.1.2.1 j2 hj2).2.2.2) (va_cwS 1 hts (al_gS wd_149 wd_150 wd_5 wd_151) rfl rfl rfl (by decide +kernel) ⟨Nat.le_of_ble_eq_true rfl, Nat.le_of_ble_eq_true rfl⟩) ⟨ct_bl0, ct_at0⟩ rfl rfl hl.1 rfl (lv_room (Nat.le_of_ble_eq_true rfl)) dX3_about_71 ⟨Nat.le_of_ble_eq_true rfl, Nat.le_of_ble_eq_true rfl⟩)) (fun r71 hr71 => ?_)
        subst hr71
        exact W.iret (v := (bi_ct (co.2.1 10 j2))) hx hb hr (fun t ht hW => ⟨(bi_ct (co.2.1 10 j2)), rfl, (by simp only [kc_about, hm2, Option.elim]; subst e14; rfl), ht⟩) (fun q h => by cases h) dX3_about_74
      · refine lv_tableIn (off := 61) (tgt := 75) hx hb dX3_about_14 (by rw [e14]; decide) (by rw [e14]; decide) (by rw [e14]; decide) (by decide) ?_
        refine lv_aload_n hx hb dX3_about_75 rfl (lv_at hl 0 rfl) ?_
        refine hp_get (D := (dC, dI)) (ci := 0) (v := .int (co.2.1 12 j2)) (C := RX0) (T := TX0) (N := 13) hx hb hts in0 hown hK hP hC1.2.1 hC1a rfl 8 (by decide) lk4 (fun _ h9 => h9) rfl dX3_about_76 ?_
        exact W.iret (v := (co.2.1 12 j2)) hx hb hr (fun t ht hW => ⟨(co.2.1 12 j2), rfl, (by simp only [kc_about, hm2, Option.elim]; subst e14; rfl), ht⟩) (fun q h => by cases h) dX3_about_79
      · refine lv_tableIn (off := 66) (tgt := 80) hx hb dX3_about_14 (by rw [e14]; decide) (by rw [e14]; decide) (by rw [e14]; decide) (by decide) ?_
        refine lv_aload_n hx hb dX3_about_80 rfl (lv_at hl 0 rfl) ?_
        refine hp_get (D := (dC, dI)) (ci := 0) (v := .int (co.2.1 8 j2)) (C := RX0) (T := TX0) (N := 13) hx hb hts in0 hown hK hP hC1.2.1 hC1a rfl 4 (by decide) lk5 (fun _ h9 => h9) rfl dX3_about_81 ?_
        exact W.iret (v := (co.2.1 8 j2)) hx hb hr (fun t ht hW => ⟨(co.2.1 8 j2), rfl, (by simp only [kc_about, hm2, Option.elim]; subst e14; rfl), ht⟩) (fun q h => by cases h) dX3_about_84
    · refine lv_tableOut (tgt := 85) hx hb dX3_about_14 (sw_out_0_5 (fun q => e14 q)) (by decide) ?_
      refine lv_bipush (v := (-102)) hx hb dX3_about_85 (by decide) ?_
      exact W.iret (v := (-102)) hx hb hr (fun t ht hW => ⟨(-102), rfl, (by simp only [kc_about, hm2, Option.elim]; rw [if_neg (fun q => e14 (by simp [q])), if_neg (fun q => e14 (by simp [q])), if_neg (fun q => e14 (by simp [q])), if_neg (fun q => e14 (by simp [q])), if_neg (fun q => e14 (by simp [q])), if_neg (fun q => e14 (by simp [q]))]), ht⟩) (fun q h => by cases h) dX3_about_87
  · skip
    refine lv_astore_nN (lv' := [(3, .null), (0, .ref (Q 0)), (1, .int x1), (2, .int x2)]) hx hb dX3_about_5 rfl hl (by decide) rfl (fun ls hl => ?_)
    refine lv_aload_nN hx hb dX3_about_6 rfl (lv_at hl 0 rfl) ?_
    refine lv_ifnonnullN hx hb dX3_about_7 ?_
    refine lv_bipush (v := (-101)) hx hb dX3_about_10 (by decide) ?_
    exact W.iret (v := (-101)) hx hb hr (fun t ht hW => ⟨(-101), rfl, (by simp only [kc_about, hm2, Option.elim]), ht⟩) (fun q h => by cases h) dX3_about_12
set_option maxHeartbeats 4000000 in
set_option maxRecDepth 100000 in
/-- mt_letter -/
theorem mt_letter (l : Launch) (dC : Nat → ClassId) (dI : Nat → Nat → Nat) (cA : Nat → ClassId) (Q : Nat → Nat) (σ : xs_T) (n : nn_T) (co : co_T) (L : List Nat) (f : Nat → va_E) (ad : ad_T) (hR : re_A cA σ n co L f ad) (hT : n.2.2.2 < 100000) (x1 x2 : Int32) : Met l yX3_letter wsX3_letter ({ frames := 1, cells := 0, slots := 0, locals := 21 }) (va_Pc [.ref (Q 0), .int x1, .int x2] (ct_R (dC, dI) vwCl (ty_K cA) (xc_W Q cA σ ++ va_pl L f))) (vp_Si (fun r => r = kc_letter (σ, co) x1 x2)) 0 0 (fun _ => False) := by
  refine Met.ofW (cc := cX3_letter) (maxL := 3) (ret := (some .int)) (by decide) rfl ?_
  intro p e s m args below meth c s₁ B hml hv
  obtain ⟨rfl, hP, hK⟩ := hv
  have hx := B.exec
  have hb := B.bytes
  have hr := B.returns
  have hts := atoms_spec (ws := wsX3_letter) B.pre
  have hown : s.vm.findClass RX3 = some m.cls := findClass_of_methodNamed B.named
  have hlocks := B.notSynchronized
  have hl := lv_entry ([.ref (Q 0), .int x1, .int x2]) (n := 3) (Nat.le_of_ble_eq_true rfl)
  rw [lg_entry_eq]
  generalize (lg_sl ([.ref (Q 0), .int x1, .int x2]) ++ List.replicate (3 - (lg_sl ([.ref (Q 0), .int x1, .int x2])).length) Slot.unset).toArray = ls at hl ⊢
  have hl : lv_has ls 3 [(0, .ref (Q 0)), (1, .int x1), (2, .int x2)] := hl
  have lk0 := hts (.fieldLink RX3 222 "ClaimRows" "letterCount" "I") (List.mem_cons_of_mem _ wd_30)
  have lk1 := hts (.methodLink RX3 225 yJ9_min) (List.mem_cons_of_mem _ wd_263)
  have lk2 := hts (.static yJ9_min) (List.mem_cons_of_mem _ wd_264)
  have lk3 := hts (.initialized RJ9) (List.mem_cons_of_mem _ wd_7)
  have lk4 := hts (.code yJ9_min cJ9_min 2 (some .int)) (List.mem_cons_of_mem _ wd_265)
  have lk5 := hts (.fieldLink RX3 38 "ClaimRows" "letterClaims" "[I") (List.mem_cons_of_mem _ wd_28)
  have lk6 := hts (.fieldLink RX3 41 "ClaimRows" "letterKinds" "[I") (List.mem_cons_of_mem _ wd_29)
  have in0 : ∀ w ∈ u_ws RX3 TX3 16, w ∈ wsX3_letter := fun w h => List.mem_cons_of_mem _ (wu_X3 w h)
  have hn0 : (σ.1 0).toNatClampNeg = n.1 := by rw [hR.1.1]; exact nI_clamp (by have := hR.1.2.1; omega)
  have hn1 : (σ.1 1).toNatClampNeg = n.2.1 := by rw [hR.1.2.2.1]; exact nI_clamp (by have := hR.1.2.2.2.1; omega)
  have hn2 : (σ.1 2).toNatClampNeg = n.2.2.1 := by rw [hR.1.2.2.2.2.1]; exact nI_clamp (by have := hR.1.2.2.2.2.2.1; omega)
  refine lv_iload_n hx hb dX3_letter_0 rfl (lv_at hl 1 rfl) ?_
  refine lv_aload_n hx hb dX3_letter_1 rfl (lv_at hl 0 rfl) ?_
  refine va_get (D := (dC, dI)) (ci := 3) (v := .int (σ.1 3)) (C := RX3) (T := TX3) (N := 16) hx hb hts in0 hown hK hP 0 (xc_W_0 _ _) rfl 11 (by decide) lk0 (fun _ h9 => h9) rfl dX3_letter_2 ?_
  refine lv_sipush (v := 200) hx hb dX3_letter_5 (by decide) ?_
  refine va_mmin hx hb (hml.trans hl.1.symm) hown lk1 lk2 lk3 lk4 (Nat.le_of_ble_eq_true rfl) (Nat.le_of_ble_eq_true rfl) (Nat.le_of_ble_eq_true rfl) (Nat.le_of_ble_eq_true rfl) dX3_letter_8 ?_
  refine vp_callSi (va_Run.run (va_runS (As := [.int x1, .int (if 200 < (σ.1 3) then 200 else (σ.1 3))]) (rest := []) ⟨hx, hb, hml, hown, hts⟩ (mt_isBelow l x1 (if 200 < (σ.1 3) then 200 else (σ.1 3))) (va_cwS 2 hts (al_gS wd_41 wd_42 wd_1 wd_43) rfl rfl rfl (by decide +kernel) ⟨Nat.le_of_ble_eq_true rfl, Nat.le_of_ble_eq_true rfl⟩) ⟨ct_bl0, ct_at0⟩ rfl rfl hl.1 rfl (lv_room (Nat.le_of_ble_eq_true rfl)) dX3_letter_11 ⟨Nat.le_of_ble_eq_true rfl, Nat.le_of_ble_eq_true rfl⟩)) (fun r11 hr11 => ?_)
  subst hr11
  refine lv_if_ne (tgt := 19) hx hb dX3_letter_14 (by decide) (fun c14 => ?_) (fun c14 => ?_)
  · have c14 := of_decide_eq_true (bb_n.mp c14)
    refine lv_iload_n hx hb dX3_letter_19 rfl (lv_at hl 2 rfl) ?_
    rcases Classical.em (x2 = 0 ∨ x2 = 1) with e20 | e20
    · rcases e20 with e20 | e20
      · refine lv_lookup (off := 28) (tgt := 48) hx hb dX3_letter_20 (by decide) (by rw [e20]; decide) (by decide) ?_
        refine lv_aload_n hx hb dX3_letter_48 rfl (lv_at hl 0 rfl) ?_
        refine va_get (D := (dC, dI)) (ci := 3) (v := .ref (Q 7)) (C := RX3) (T := TX3) (N := 16) hx hb hts in0 hown hK hP 0 (xc_W_0 _ _) rfl 9 (by decide) lk5 (fun _ h9 => h9) rfl dX3_letter_49 ?_
        refine lv_iload_n hx hb dX3_letter_52 rfl (lv_at hl 1 rfl) ?_
        refine va_iald hx hb hK hP 7 0 (xc_W_7 _ _) rfl (le_in hR.1.2.2.2.2.2.2 (by omega) c14) dX3_letter_53 ?_
        exact W.iret (v := ((σ.2.2.1 1) (x1).toNatClampNeg)) hx hb hr (fun t ht hW => ⟨((σ.2.2.1 1) (x1).toNatClampNeg), rfl, (by simp only [kc_letter, if_pos c14]; subst e20; rfl), ht⟩) (fun q h => by cases h) dX3_letter_54
      · refine lv_lookup (off := 35) (tgt := 55) hx hb dX3_letter_20 (by decide) (by rw [e20]; decide) (by decide) ?_
        refine lv_aload_n hx hb dX3_letter_55 rfl (lv_at hl 0 rfl) ?_
        refine va_get (D := (dC, dI)) (ci := 3) (v := .ref (Q 8)) (C := RX3) (T := TX3) (N := 16) hx hb hts in0 hown hK hP 0 (xc_W_0 _ _) rfl 10 (by decide) lk6 (fun _ h9 => h9) rfl dX3_letter_56 ?_
        refine lv_iload_n hx hb dX3_letter_59 rfl (lv_at hl 1 rfl) ?_
        refine va_iald hx hb hK hP 8 0 (xc_W_8 _ _) rfl (le_in hR.1.2.2.2.2.2.2 (by omega) c14) dX3_letter_60 ?_
        exact W.iret (v := ((σ.2.2.1 2) (x1).toNatClampNeg)) hx hb hr (fun t ht hW => ⟨((σ.2.2.1 2) (x1).toNatClampNeg), rfl, (by simp only [kc_letter, if_pos c14]; subst e20; rfl), ht⟩) (fun q h => by cases h) dX3_letter_61
    · refine lv_lookup (off := 42) (tgt := 62) hx hb dX3_letter_20 (by decide) (by rw [lv_osw (fun q => e20 (by simp [q])) (k := 0) (by decide)]; rw [lv_osw (fun q => e20 (by simp [q])) (k := 1) (by decide)]; rfl) (by decide) ?_
      refine lv_iconst (v := (-1)) hx hb dX3_letter_62 (by decide) ?_
      exact W.iret (v := (-1)) hx hb hr (fun t ht hW => ⟨(-1), rfl, (by simp only [kc_letter, if_pos c14]; rw [if_neg (fun q => e20 (Or.inl q)), if_neg (fun q => e20 (Or.inr q))]), ht⟩) (fun q h => by cases h) dX3_letter_63
  · have c14 := of_decide_eq_false (bb_0.mp c14)
    refine lv_iconst (v := (-1)) hx hb dX3_letter_17 (by decide) ?_
    exact W.iret (v := (-1)) hx hb hr (fun t ht hW => ⟨(-1), rfl, (by simp only [kc_letter, if_neg c14]), ht⟩) (fun q h => by cases h) dX3_letter_18
set_option maxHeartbeats 4000000 in
set_option maxRecDepth 100000 in
/-- mt_all -/
theorem mt_all (l : Launch) (dC : Nat → ClassId) (dI : Nat → Nat → Nat) (cA : Nat → ClassId) (Q : Nat → Nat) (σ : xs_T) (n : nn_T) (co : co_T) (L : List Nat) (f : Nat → va_E) (ad : ad_T) (hR : re_A cA σ n co L f ad) (hT : n.2.2.2 < 100000) (x1 : Int32) : Met l yX3_all wsX3_all ({ frames := 0, cells := 0, slots := 0, locals := 0 }) (va_Pc [.ref (Q 0), .int x1] (ct_R (dC, dI) vwCl (ty_K cA) (xc_W Q cA σ ++ va_pl L f))) (vp_Sl (fun r => r = kc_all (σ, co) x1)) 0 0 (fun _ => False) := by
  refine Met.ofW (cc := cX3_all) (maxL := 2) (ret := (some .long)) (by decide) rfl ?_
  intro p e s m args below meth c s₁ B hml hv
  obtain ⟨rfl, hP, hK⟩ := hv
  have hx := B.exec
  have hb := B.bytes
  have hr := B.returns
  have hts := atoms_spec (ws := wsX3_all) B.pre
  have hown : s.vm.findClass RX3 = some m.cls := findClass_of_methodNamed B.named
  have hlocks := B.notSynchronized
  have hl := lv_entry ([.ref (Q 0), .int x1]) (n := 2) (Nat.le_of_ble_eq_true rfl)
  rw [lg_entry_eq]
  generalize (lg_sl ([.ref (Q 0), .int x1]) ++ List.replicate (2 - (lg_sl ([.ref (Q 0), .int x1])).length) Slot.unset).toArray = ls at hl ⊢
  have hl : lv_has ls 2 [(0, .ref (Q 0)), (1, .int x1)] := hl
  have lk0 := hts (.fieldLink RX3 230 "ClaimRows" "paidInAll" "J") (List.mem_cons_of_mem _ wd_32)
  have lk1 := hts (.fieldLink RX3 205 "ClaimRows" "recoveredInAll" "J") (List.mem_cons_of_mem _ wd_33)
  have lk2 := hts (.fieldLink RX3 233 "ClaimRows" "refusedInAll" "I") (List.mem_cons_of_mem _ wd_34)
  have lk3 := hts (.fieldLink RX3 222 "ClaimRows" "letterCount" "I") (List.mem_cons_of_mem _ wd_30)
  have lk4 := hts (.constantLong RX3 186 (-102)) (List.mem_cons_of_mem _ wd_230)
  have in0 : ∀ w ∈ u_ws RX3 TX3 16, w ∈ wsX3_all := fun w h => List.mem_cons_of_mem _ (wu_X3 w h)
  have hn0 : (σ.1 0).toNatClampNeg = n.1 := by rw [hR.1.1]; exact nI_clamp (by have := hR.1.2.1; omega)
  have hn1 : (σ.1 1).toNatClampNeg = n.2.1 := by rw [hR.1.2.2.1]; exact nI_clamp (by have := hR.1.2.2.2.1; omega)
  have hn2 : (σ.1 2).toNatClampNeg = n.2.2.1 := by rw [hR.1.2.2.2.2.1]; exact nI_clamp (by have := hR.1.2.2.2.2.2.1; omega)
  refine lv_iload_n hx hb dX3_all_0 rfl (lv_at hl 1 rfl) ?_
  rcases Classical.em (x1 = 0 ∨ x1 = 1 ∨ x1 = 2 ∨ x1 = 3) with e1 | e1
  · rcases e1 with e1 | e1 | e1 | e1
    · refine lv_tableIn (off := 31) (tgt := 32) hx hb dX3_all_1 (by rw [e1]; decide) (by rw [e1]; decide) (by rw [e1]; decide) (by decide) ?_
      refine lv_aload_n hx hb dX3_all_32 rfl (lv_at hl 0 rfl) ?_
      refine va_get (D := (dC, dI)) (ci := 3) (v := .long (σ.2.1 0)) (C := RX3) (T := TX3) (N := 16) hx hb hts in0 hown hK hP 0 (xc_W_0 _ _) rfl 13 (by decide) lk0 (fun _ h9 => h9) rfl dX3_all_33 ?_
      exact W.lret (v := (σ.2.1 0)) hx hb hr (fun t ht hW => ⟨(σ.2.1 0), rfl, (by simp only [kc_all]; subst e1; rfl), ht⟩) (fun q h => by cases h) dX3_all_36
    · refine lv_tableIn (off := 36) (tgt := 37) hx hb dX3_all_1 (by rw [e1]; decide) (by rw [e1]; decide) (by rw [e1]; decide) (by decide) ?_
      refine lv_aload_n hx hb dX3_all_37 rfl (lv_at hl 0 rfl) ?_
      refine va_get (D := (dC, dI)) (ci := 3) (v := .long (σ.2.1 1)) (C := RX3) (T := TX3) (N := 16) hx hb hts in0 hown hK hP 0 (xc_W_0 _ _) rfl 14 (by decide) lk1 (fun _ h9 => h9) rfl dX3_all_38 ?_
      exact W.lret (v := (σ.2.1 1)) hx hb hr (fun t ht hW => ⟨(σ.2.1 1), rfl, (by simp only [kc_all]; subst e1; rfl), ht⟩) (fun q h => by cases h) dX3_all_41
    · refine lv_tableIn (off := 41) (tgt := 42) hx hb dX3_all_1 (by rw [e1]; decide) (by rw [e1]; decide) (by rw [e1]; decide) (by decide) ?_
      refine lv_aload_n hx hb dX3_all_42 rfl (lv_at hl 0 rfl) ?_
      refine va_get (D := (dC, dI)) (ci := 3) (v := .int (σ.1 5)) (C := RX3) (T := TX3) (N := 16) hx hb hts in0 hown hK hP 0 (xc_W_0 _ _) rfl 15 (by decide) lk2 (fun _ h9 => h9) rfl dX3_all_43 ?_
      refine lv_i2l (v := ((σ.1 5) : Int32).toInt64) hx hb dX3_all_46 rfl ?_
      exact W.lret (v := (((σ.1 5) : Int32).toInt64)) hx hb hr (fun t ht hW => ⟨(((σ.1 5) : Int32).toInt64), rfl, (by simp only [kc_all]; subst e1; rfl), ht⟩) (fun q h => by cases h) dX3_all_47
    · refine lv_tableIn (off := 47) (tgt := 48) hx hb dX3_all_1 (by rw [e1]; decide) (by rw [e1]; decide) (by rw [e1]; decide) (by decide) ?_
      refine lv_aload_n hx hb dX3_all_48 rfl (lv_at hl 0 rfl) ?_
      refine va_get (D := (dC, dI)) (ci := 3) (v := .int (σ.1 3)) (C := RX3) (T := TX3) (N := 16) hx hb hts in0 hown hK hP 0 (xc_W_0 _ _) rfl 11 (by decide) lk3 (fun _ h9 => h9) rfl dX3_all_49 ?_
      refine lv_i2l (v := ((σ.1 3) : Int32).toInt64) hx hb dX3_all_52 rfl ?_
      exact W.lret (v := (((σ.1 3) : Int32).toInt64)) hx hb hr (fun t ht hW => ⟨(((σ.1 3) : Int32).toInt64), rfl, (by simp only [kc_all]; subst e1; rfl), ht⟩) (fun q h => by cases h) dX3_all_53
  · refine lv_tableOut (tgt := 54) hx hb dX3_all_1 (sw_out_0_3 (fun q => e1 q)) (by decide) ?_
    refine lv_ldc2 hx hb hown lk4 dX3_all_54 ?_
    exact W.lret (v := (-102)) hx hb hr (fun t ht hW => ⟨(-102), rfl, (by simp only [kc_all]; rw [if_neg (fun q => e1 (by simp [q])), if_neg (fun q => e1 (by simp [q])), if_neg (fun q => e1 (by simp [q])), if_neg (fun q => e1 (by simp [q]))]), ht⟩) (fun q h => by cases h) dX3_all_57
set_option maxHeartbeats 4000000 in
set_option maxRecDepth 100000 in
/-- mt_share -/
theorem mt_share (l : Launch) (dC : Nat → ClassId) (dI : Nat → Nat → Nat) (cA : Nat → ClassId) (Q : Nat → Nat) (σ : xs_T) (n : nn_T) (co : co_T) (L : List Nat) (f : Nat → va_E) (ad : ad_T) (hR : re_A cA σ n co L f ad) (hT : n.2.2.2 < 100000) (x1 x2 : Int32) : Met l yX3_share wsX3_share ({ frames := 2, cells := 0, slots := 0, locals := 46 }) (va_Pc [.ref (Q 0), .int x1, .int x2] (ct_R (dC, dI) vwCl (ty_K cA) (xc_W Q cA σ ++ va_pl L f))) (vp_Sl (fun r => r = kc_share (σ, co) x1 x2)) 0 0 (fun _ => False) := by
  refine Met.ofW (cc := cX3_share) (maxL := 4) (ret := (some .long)) (by decide) rfl ?_
  intro p e s m args below meth c s₁ B hml hv
  obtain ⟨rfl, hP, hK⟩ := hv
  have hx := B.exec
  have hb := B.bytes
  have hr := B.returns
  have hts := atoms_spec (ws := wsX3_share) B.pre
  have hown : s.vm.findClass RX3 = some m.cls := findClass_of_methodNamed B.named
  have hlocks := B.notSynchronized
  have hl := lv_entry ([.ref (Q 0), .int x1, .int x2]) (n := 4) (Nat.le_of_ble_eq_true rfl)
  rw [lg_entry_eq]
  generalize (lg_sl ([.ref (Q 0), .int x1, .int x2]) ++ List.replicate (4 - (lg_sl ([.ref (Q 0), .int x1, .int x2])).length) Slot.unset).toArray = ls at hl ⊢
  have hl : lv_has ls 4 [(0, .ref (Q 0)), (1, .int x1), (2, .int x2)] := hl
  have lk0 := hts (.fieldLink RX3 120 "ClaimRows$Claim" "state" "I") (List.mem_cons_of_mem _ wd_129)
  have lk1 := hts (.fieldLink RX3 188 "ClaimRows$Claim" "item" "LClaimRows$Item;") (List.mem_cons_of_mem _ wd_123)
  have lk2 := hts (.fieldLink RX3 163 "ClaimRows$Claim" "paidSum" "J") (List.mem_cons_of_mem _ wd_140)
  have lk3 := hts (.constantLong RX3 186 (-102)) (List.mem_cons_of_mem _ wd_230)
  have lk4 := hts (.constantLong RX3 161 (-101)) (List.mem_cons_of_mem _ wd_197)
  have in0 : ∀ w ∈ u_ws RX0 TX0 13, w ∈ wsX3_share := fun w h => List.mem_cons_of_mem _ (wu_X0 w h)
  have hn0 : (σ.1 0).toNatClampNeg = n.1 := by rw [hR.1.1]; exact nI_clamp (by have := hR.1.2.1; omega)
  have hn1 : (σ.1 1).toNatClampNeg = n.2.1 := by rw [hR.1.2.2.1]; exact nI_clamp (by have := hR.1.2.2.2.1; omega)
  have hn2 : (σ.1 2).toNatClampNeg = n.2.2.1 := by rw [hR.1.2.2.2.2.1]; exact nI_clamp (by have := hR.1.2.2.2.2.2.1; omega)
  refine lv_aload_n hx hb dX3_share_0 rfl (lv_at hl 0 rfl) ?_
  refine lv_iload_n hx hb dX3_share_1 rfl (lv_at hl 1 rfl) ?_
  refine va_csq (va_Run.run (va_runV (As := [.int x1]) (rest := []) ⟨hx, hb, hml, hown, hts⟩ (mt_claimNumbered l dC dI cA Q σ n co L f ad hR x1) (cwV 1 hts (al_gV wd_105 wd_107 wd_106 wd_1 wd_108) rfl rfl rfl (by decide +kernel) ⟨Nat.le_of_ble_eq_true rfl, Nat.le_of_ble_eq_true rfl⟩) ⟨ct_blR, va_recv hK hP (ci := 3) (q0 := 0) rfl (xc_W_0 _ _), ct_atR hP hK⟩ rfl rfl hl.1 rfl (lv_room (Nat.le_of_ble_eq_true rfl)) dX3_share_2 ⟨Nat.le_of_ble_eq_true rfl, Nat.le_of_ble_eq_true rfl⟩)) (fun r2 hr2 => ?_)
  rcases hr2 with ⟨j2, hj2, hm2, ex2, rfl⟩ | ⟨hm2, rfl⟩
  · have hC1 := hR.2.2.1 j2 hj2
    have hC1v := hR.2.2.2.2.1.2.1 j2 hj2
    have hC1a : f (ad.2.2.1 j2) = .inr (0, [.int (nI (j2 + 1)), .int (co.2.1 6 j2), .ref (ad.1 (co.1 0 j2)), .int (co.2.1 7 j2), .int (co.2.1 8 j2), .int (co.2.1 9 j2), .int (co.2.1 10 j2), .int (co.2.1 11 j2), .int (co.2.1 12 j2), .int (co.2.1 13 j2), .int (co.2.1 14 j2), .int (co.2.1 15 j2), .long (co.2.2.1 2 j2)]) := hC1.2.2
    have hI2 := hR.2.1 (co.1 0 j2) hC1v.1
    have hI2a : f (ad.1 (co.1 0 j2)) = .inr (1, [.int (co.2.1 0 (co.1 0 j2)), .long (co.2.2.1 0 (co.1 0 j2)), .long (co.2.2.1 1 (co.1 0 j2)), .int (co.2.1 1 (co.1 0 j2)), .int (co.2.1 2 (co.1 0 j2)), .ref (ad.2.1 (co.1 0 j2)), .int (co.2.1 3 (co.1 0 j2)), .int (co.2.1 4 (co.1 0 j2)), .int (co.2.1 5 (co.1 0 j2))]) := hI2.2.2.1
    have hI2p : f (ad.2.1 (co.1 0 j2)) = .inl ((cA 0), 8, .inl (co.2.2.2 (co.1 0 j2))) := hI2.2.2.2.2
    refine lv_astore_n (lv' := [(3, .ref (ad.2.2.1 j2)), (0, .ref (Q 0)), (1, .int x1), (2, .int x2)]) hx hb dX3_share_5 rfl hl (by decide) rfl (fun ls hl => ?_)
    refine lv_aload_n hx hb dX3_share_6 rfl (lv_at hl 0 rfl) ?_
    refine lv_ifnonnull (tgt := 14) hx hb dX3_share_7 (by decide) ?_
    refine lv_iload_n hx hb dX3_share_14 rfl (lv_at hl 3 rfl) ?_
    refine lv_bipush (v := 6) hx hb dX3_share_15 (by decide) ?_
    refine vp_callSi (va_Run.run (va_runS (As := [.int x2, .int 6]) (rest := []) ⟨hx, hb, hml, hown, hts⟩ (mt_isBelow l x2 6) (va_cwS 2 hts (al_gS wd_41 wd_42 wd_1 wd_43) rfl rfl rfl (by decide +kernel) ⟨Nat.le_of_ble_eq_true rfl, Nat.le_of_ble_eq_true rfl⟩) ⟨ct_bl0, ct_at0⟩ rfl rfl hl.1 rfl (lv_room (Nat.le_of_ble_eq_true rfl)) dX3_share_17 ⟨Nat.le_of_ble_eq_true rfl, Nat.le_of_ble_eq_true rfl⟩)) (fun r17 hr17 => ?_)
    subst hr17
    refine lv_if_ne (tgt := 27) hx hb dX3_share_20 (by decide) (fun c20 => ?_) (fun c20 => ?_)
    · have c20 := of_decide_eq_true (bb_n.mp c20)
      refine lv_aload_n hx hb dX3_share_27 rfl (lv_at hl 0 rfl) ?_
      refine hp_get (D := (dC, dI)) (ci := 0) (v := .int (co.2.1 9 j2)) (C := RX0) (T := TX0) (N := 13) hx hb hts in0 hown hK hP hC1.2.1 hC1a rfl 5 (by decide) lk0 (fun _ h9 => h9) rfl dX3_share_28 ?_
      refine lv_iconst (v := 1) hx hb dX3_share_31 (by decide) ?_
      refine lv_icmp_ne (tgt := 50) hx hb dX3_share_32 (by decide) (fun c32 => ?_) (fun c32 => ?_)
      · refine lv_lconst (v := 0) hx hb dX3_share_50 (by decide) ?_
        exact W.lret (v := 0) hx hb hr (fun t ht hW => ⟨0, rfl, (by simp only [kc_share, hm2, if_pos c20, if_neg c32, Option.elim, hn1]), ht⟩) (fun q h => by cases h) dX3_share_51
      · refine lv_aload_n hx hb dX3_share_35 rfl (lv_at hl 0 rfl) ?_
        refine hp_get (D := (dC, dI)) (ci := 0) (v := .ref (ad.1 (co.1 0 j2))) (C := RX0) (T := TX0) (N := 13) hx hb hts in0 hown hK hP hC1.2.1 hC1a rfl 2 (by decide) lk1 (fun _ h9 => h9) rfl dX3_share_36 ?_
        refine lv_aload_n hx hb dX3_share_39 rfl (lv_at hl 0 rfl) ?_
        refine hp_get (D := (dC, dI)) (ci := 0) (v := .long (co.2.2.1 2 j2)) (C := RX0) (T := TX0) (N := 13) hx hb hts in0 hown hK hP hC1.2.1 hC1a rfl 12 (by decide) lk2 (fun _ h9 => h9) rfl dX3_share_40 ?_
        refine lv_iload_n hx hb dX3_share_43 rfl (lv_at hl 3 rfl) ?_
        obtain ⟨k8, w8, hk8, hw8, e38, e48⟩ := (hR.2.2.2.2.1.1 (co.1 0 j2) (hR.2.2.2.2.1.2.1 j2 hj2).1).2
        refine vp_callSl (va_Run.run (va_runV (As := [.long (co.2.2.1 2 j2), .int x2]) (rest := []) ⟨hx, hb, hml, hown, hts⟩ (mt_partOf l dC dI cA (xc_W Q cA σ) L f (ad.1 (co.1 0 j2)) (ad.2.1 (co.1 0 j2)) hI2.2.1 hI2.2.2.2.1 (co.2.1 0 (co.1 0 j2)) (co.2.2.1 0 (co.1 0 j2)) (co.2.2.1 1 (co.1 0 j2)) (co.2.1 1 (co.1 0 j2)) (co.2.1 2 (co.1 0 j2)) (co.2.1 3 (co.1 0 j2)) (co.2.1 4 (co.1 0 j2)) (co.2.1 5 (co.1 0 j2)) hI2a (co.2.2.2 (co.1 0 j2)) hI2p k8 w8 e38 e48 hk8 hw8 (co.2.2.1 2 j2) x2) (cwV 2 hts (al_gV wd_231 wd_232 wd_233 wd_3 wd_234) rfl rfl rfl (by decide +kernel) ⟨Nat.le_of_ble_eq_true rfl, Nat.le_of_ble_eq_true rfl⟩) ⟨ct_blR, hp_recv hK hP (ci := 1) rfl hI2.2.1 hI2a, ct_atR hP hK⟩ rfl rfl hl.1 rfl (lv_room (Nat.le_of_ble_eq_true rfl)) dX3_share_44 ⟨Nat.le_of_ble_eq_true rfl, Nat.le_of_ble_eq_true rfl⟩)) (fun r44 hr44 => ?_)
        subst hr44
        refine lv_goto (tgt := 51) hx hb dX3_share_47 (by decide) ?_
        exact W.lret (v := (pa_o co (co.1 0 j2) (co.2.2.1 2 j2) x2)) hx hb hr (fun t ht hW => ⟨(pa_o co (co.1 0 j2) (co.2.2.1 2 j2) x2), rfl, (by simp only [kc_share, hm2, if_pos c20, if_pos c32, Option.elim, hn1]), ht⟩) (fun q h => by cases h) dX3_share_51
    · have c20 := of_decide_eq_false (bb_0.mp c20)
      refine lv_ldc2 hx hb hown lk3 dX3_share_23 ?_
      exact W.lret (v := (-102)) hx hb hr (fun t ht hW => ⟨(-102), rfl, (by simp only [kc_share, hm2, if_neg c20, Option.elim, hn1]), ht⟩) (fun q h => by cases h) dX3_share_26
  · skip
    refine lv_astore_nN (lv' := [(3, .null), (0, .ref (Q 0)), (1, .int x1), (2, .int x2)]) hx hb dX3_share_5 rfl hl (by decide) rfl (fun ls hl => ?_)
    refine lv_aload_nN hx hb dX3_share_6 rfl (lv_at hl 0 rfl) ?_
    refine lv_ifnonnullN hx hb dX3_share_7 ?_
    refine lv_ldc2 hx hb hown lk4 dX3_share_10 ?_
    exact W.lret (v := (-101)) hx hb hr (fun t ht hW => ⟨(-101), rfl, (by simp only [kc_share, hm2, Option.elim, hn1]), ht⟩) (fun q h => by cases h) dX3_share_13
