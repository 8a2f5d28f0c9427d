set_option maxHeartbeats 4000000 in
set_option maxRecDepth 100000 in
/-- mt_standingClaim -/
theorem mt_standingClaim (l : Launch) (dC : Nat → ClassId) (dI : Nat → Nat → Nat) (cA : Nat → ClassId) (Q : Nat → Nat) (σ : xs_T) (n : nn_T) (co : co_T) (L : List Nat) (f : Nat → va_E) (ad : ad_T) (hR : re_A cA σ n co L f ad) (x kd : Int32) : Met l yX3_standingClaim wsX3_standingClaim ({ frames := 2, cells := 0, slots := 0, locals := 46 }) (va_Pc [.ref (Q 0), .int x, .int kd] (ct_R (dC, dI) vwCl (ty_K cA) (xc_W Q cA σ ++ va_pl L f))) (va_Sq (fun r => (∃ j : Nat, j < n.2.1 ∧ st_cl co x kd n.2.1 0 = some j ∧ r = some (ad.2.2.1 j)) ∨ (st_cl co x kd n.2.1 0 = none ∧ r = none))) 0 0 (fun _ => False) := by
  refine Met.ofW (cc := cX3_standingClaim) (maxL := 5) (ret := (some (.object "ClaimRows$Claim"))) (by decide) rfl ?_
  intro p e s m args below meth c s₁ B hml hv
  obtain ⟨rfl, hP, hK⟩ := hv
  have hx := B.exec
  have hb := B.bytes
  have hr := B.returns
  have hts := atoms_spec (ws := wsX3_standingClaim) B.pre
  have hown : s.vm.findClass RX3 = some m.cls := findClass_of_methodNamed B.named
  have hlocks := B.notSynchronized
  have hl := lv_entry ([.ref (Q 0), .int x, .int kd]) (n := 5) (Nat.le_of_ble_eq_true rfl)
  rw [lg_entry_eq]
  generalize (lg_sl ([.ref (Q 0), .int x, .int kd]) ++ List.replicate (5 - (lg_sl ([.ref (Q 0), .int x, .int kd])).length) Slot.unset).toArray = ls at hl ⊢
  have hl : lv_has ls 5 [(0, .ref (Q 0)), (1, .int x), (2, .int kd)] := hl
  have lk0 := hts (.fieldLink RX3 99 "ClaimRows" "claimCount" "I") (List.mem_cons_of_mem _ wd_22)
  have lk1 := hts (.fieldLink RX3 211 "ClaimRows$Claim" "itemNumber" "I") (List.mem_cons_of_mem _ wd_121)
  have lk2 := hts (.fieldLink RX3 134 "ClaimRows$Claim" "kind" "I") (List.mem_cons_of_mem _ wd_125)
  have lk3 := hts (.fieldLink RX3 120 "ClaimRows$Claim" "state" "I") (List.mem_cons_of_mem _ wd_129)
  have in0 : ∀ w ∈ u_ws RX3 TX3 16, w ∈ wsX3_standingClaim := fun w h => List.mem_cons_of_mem _ (wu_X3 w h)
  have in1 : ∀ w ∈ u_ws RX0 TX0 13, w ∈ wsX3_standingClaim := fun w h => List.mem_cons_of_mem _ (wu_X0 w h)
  refine lv_iconst (v := 1) hx hb dX3_standingClaim_0 (by decide) ?_
  refine lv_istore_n (lv' := [(3, .int 1), (0, .ref (Q 0)), (1, .int x), (2, .int kd)]) hx hb dX3_standingClaim_1 rfl hl (by decide) rfl (fun ls hl => ?_)
  refine wl_R (Inv := fun j ls => lv_has ls 5 [(0, .ref (Q 0)), (1, .int x), (2, .int kd), (3, .int (nI (j + 1)))] ∧ st_cl co x kd n.2.1 0 = st_cl co x kd (n.2.1 - j) j) (N := n.2.1) (fun j ls hj hin ih => ?_) (fun ls hin => ?_) 0 ls (Nat.zero_le _) ⟨lv_sub hl [1, 2, 3, 0] rfl, rfl⟩
  · obtain ⟨hl, hin⟩ := hin
    refine lv_iload_n hx hb dX3_standingClaim_2 rfl (lv_at hl 3 rfl) ?_
    refine lv_aload_n hx hb dX3_standingClaim_3 rfl (lv_at hl 0 rfl) ?_
    refine va_get (D := (dC, dI)) (ci := 3) (v := .int (σ.1 1)) (C := RX3) (T := TX3) (N := 16) hx hb hts in0 hown hK hP 0 (xc_W_0 _ _) rfl 3 (by decide) lk0 (fun _ h9 => h9) rfl dX3_standingClaim_4 ?_
    refine lv_icmp_gt (tgt := 58) hx hb dX3_standingClaim_7 (by decide) (fun c7 => ?_) (fun c7 => ?_)
    · exact absurd c7 (by rw [hR.1.2.2.1]; exact nI_nlt (by omega) (by have := hR.1.2.2.2.1; omega))
    · refine lv_aload_n hx hb dX3_standingClaim_10 rfl (lv_at hl 0 rfl) ?_
      refine lv_iload_n hx hb dX3_standingClaim_11 rfl (lv_at hl 3 rfl) ?_
      refine va_csq (va_Run.run (va_runV (As := [.int (nI (j + 1))]) (rest := []) ⟨hx, hb, hml, hown, hts⟩ (mt_claimNumbered l dC dI cA Q σ n co L f ad hR (nI (j + 1))) (cwV 1 hts (al_gV wd_105 wd_107 wd_106 wd_1 wd_108) rfl rfl rfl (by decide +kernel) ⟨Nat.le_of_ble_eq_true rfl, Nat.le_of_ble_eq_true rfl⟩) ⟨ct_blR, va_recv hK hP (ci := 3) (q0 := 0) rfl (xc_W_0 _ _), ct_atR hP hK⟩ rfl rfl hl.1 rfl (lv_room (Nat.le_of_ble_eq_true rfl)) dX3_standingClaim_12 ⟨Nat.le_of_ble_eq_true rfl, Nat.le_of_ble_eq_true rfl⟩)) (fun r12 hr12 => ?_)
      rcases hr12 with ⟨j12, hj12, hm12, ex12, rfl⟩ | ⟨hm12, rfl⟩
      · have ej12 : j = j12 := by rw [hR.1.2.2.1, nu_s hj (by have := hR.1.2.2.2.1; omega)] at hm12; exact Option.some.inj hm12
        subst ej12
        have hC1 := hR.2.2.1 j hj12
        have hC1v := hR.2.2.2.2.1.2.1 j hj12
        have hC1a : f (ad.2.2.1 j) = .inr (0, [.int (nI (j + 1)), .int (co.2.1 6 j), .ref (ad.1 (co.1 0 j)), .int (co.2.1 7 j), .int (co.2.1 8 j), .int (co.2.1 9 j), .int (co.2.1 10 j), .int (co.2.1 11 j), .int (co.2.1 12 j), .int (co.2.1 13 j), .int (co.2.1 14 j), .int (co.2.1 15 j), .long (co.2.2.1 2 j)]) := hC1.2.2
        have hI2 := hR.2.1 (co.1 0 j) hC1v.1
        have hI2a : f (ad.1 (co.1 0 j)) = .inr (1, [.int (co.2.1 0 (co.1 0 j)), .long (co.2.2.1 0 (co.1 0 j)), .long (co.2.2.1 1 (co.1 0 j)), .int (co.2.1 1 (co.1 0 j)), .int (co.2.1 2 (co.1 0 j)), .ref (ad.2.1 (co.1 0 j)), .int (co.2.1 3 (co.1 0 j)), .int (co.2.1 4 (co.1 0 j)), .int (co.2.1 5 (co.1 0 j))]) := hI2.2.2.1
        have hI2p : f (ad.2.1 (co.1 0 j)) = .inl ((cA 0), 8, .inl (co.2.2.2 (co.1 0 j))) := hI2.2.2.2.2
        refine lv_astore (lv' := [(4, .ref (ad.2.2.1 j)), (0, .ref (Q 0)), (1, .int x), (2, .int kd), (3, .int (nI (j + 1)))]) hx hb dX3_standingClaim_15 hl (by decide) rfl (fun ls hl => ?_)
        refine lv_aload hx hb dX3_standingClaim_17 (lv_at hl 0 rfl) ?_
        refine lv_ifnull hx hb dX3_standingClaim_19 ?_
        refine lv_aload hx hb dX3_standingClaim_22 (lv_at hl 0 rfl) ?_
        refine hp_get (D := (dC, dI)) (ci := 0) (v := .int (co.2.1 6 j)) (C := RX0) (T := TX0) (N := 13) hx hb hts in1 hown hK hP hC1.2.1 hC1a rfl 1 (by decide) lk1 (fun _ h9 => h9) rfl dX3_standingClaim_24 ?_
        refine lv_iload_n hx hb dX3_standingClaim_27 rfl (lv_at hl 2 rfl) ?_
        refine lv_icmp_ne (tgt := 52) hx hb dX3_standingClaim_28 (by decide) (fun c28 => ?_) (fun c28 => ?_)
        · refine lv_iinc (v := ((nI (j + 1)) + 1)) (lv' := [(3, .int ((nI (j + 1)) + 1)), (4, .ref (ad.2.2.1 j)), (0, .ref (Q 0)), (1, .int x), (2, .int kd)]) hx hb dX3_standingClaim_52 hl (k := 4) rfl rfl (by decide) rfl (fun ls hl => ?_)
          refine lv_goto (tgt := 2) hx hb dX3_standingClaim_55 (by decide) ?_
          exact ih _ ⟨lv_sub hl [2, 3, 4, 0] (by rw [nI_succ (j + 1)]; rfl), (by rw [hin, show n.2.1 - j = (n.2.1 - (j + 1)) + 1 by omega, st_cl, if_neg (fun q => c28 q.1)])⟩
        · refine lv_aload hx hb dX3_standingClaim_31 (lv_at hl 0 rfl) ?_
          refine hp_get (D := (dC, dI)) (ci := 0) (v := .int (co.2.1 7 j)) (C := RX0) (T := TX0) (N := 13) hx hb hts in1 hown hK hP hC1.2.1 hC1a rfl 3 (by decide) lk2 (fun _ h9 => h9) rfl dX3_standingClaim_33 ?_
          refine lv_iload_n hx hb dX3_standingClaim_36 rfl (lv_at hl 3 rfl) ?_
          refine lv_icmp_ne (tgt := 52) hx hb dX3_standingClaim_37 (by decide) (fun c37 => ?_) (fun c37 => ?_)
          · refine lv_iinc (v := ((nI (j + 1)) + 1)) (lv' := [(3, .int ((nI (j + 1)) + 1)), (4, .ref (ad.2.2.1 j)), (0, .ref (Q 0)), (1, .int x), (2, .int kd)]) hx hb dX3_standingClaim_52 hl (k := 4) rfl rfl (by decide) rfl (fun ls hl => ?_)
            refine lv_goto (tgt := 2) hx hb dX3_standingClaim_55 (by decide) ?_
            exact ih _ ⟨lv_sub hl [2, 3, 4, 0] (by rw [nI_succ (j + 1)]; rfl), (by rw [hin, show n.2.1 - j = (n.2.1 - (j + 1)) + 1 by omega, st_cl, if_neg (fun q => c37 q.2.1)])⟩
          · refine lv_aload hx hb dX3_standingClaim_40 (lv_at hl 0 rfl) ?_
            refine hp_get (D := (dC, dI)) (ci := 0) (v := .int (co.2.1 9 j)) (C := RX0) (T := TX0) (N := 13) hx hb hts in1 hown hK hP hC1.2.1 hC1a rfl 5 (by decide) lk3 (fun _ h9 => h9) rfl dX3_standingClaim_42 ?_
            refine lv_iconst (v := 2) hx hb dX3_standingClaim_45 (by decide) ?_
            refine lv_icmp_eq (tgt := 52) hx hb dX3_standingClaim_46 (by decide) (fun c46 => ?_) (fun c46 => ?_)
            · refine lv_iinc (v := ((nI (j + 1)) + 1)) (lv' := [(3, .int ((nI (j + 1)) + 1)), (4, .ref (ad.2.2.1 j)), (0, .ref (Q 0)), (1, .int x), (2, .int kd)]) hx hb dX3_standingClaim_52 hl (k := 4) rfl rfl (by decide) rfl (fun ls hl => ?_)
              refine lv_goto (tgt := 2) hx hb dX3_standingClaim_55 (by decide) ?_
              exact ih _ ⟨lv_sub hl [2, 3, 4, 0] (by rw [nI_succ (j + 1)]; rfl), (by rw [hin, show n.2.1 - j = (n.2.1 - (j + 1)) + 1 by omega, st_cl, if_neg (fun q => q.2.2 c46)])⟩
            · refine lv_aload hx hb dX3_standingClaim_49 (lv_at hl 0 rfl) ?_
              exact W.aret (v := .ref (ad.2.2.1 j)) hx hb hr (Or.inl ⟨_, rfl⟩) (Or.inr ⟨_, rfl⟩) (fun t ht hW => ⟨(some (ad.2.2.1 j)), rfl, (Or.inl ⟨j, hj, by rw [hin, show n.2.1 - j = (n.2.1 - (j + 1)) + 1 by omega, st_cl, if_pos ⟨c28, c37, c46⟩], rfl⟩), ht⟩) (fun q h => by cases h) dX3_standingClaim_51
      · rw [hR.1.2.2.1, nu_s hj (by have := hR.1.2.2.2.1; omega)] at hm12; cases hm12
  · obtain ⟨hl, hin⟩ := hin
    refine lv_iload_n hx hb dX3_standingClaim_2 rfl (lv_at hl 3 rfl) ?_
    refine lv_aload_n hx hb dX3_standingClaim_3 rfl (lv_at hl 0 rfl) ?_
    refine va_get (D := (dC, dI)) (ci := 3) (v := .int (σ.1 1)) (C := RX3) (T := TX3) (N := 16) hx hb hts in0 hown hK hP 0 (xc_W_0 _ _) rfl 3 (by decide) lk0 (fun _ h9 => h9) rfl dX3_standingClaim_4 ?_
    refine lv_icmp_gt (tgt := 58) hx hb dX3_standingClaim_7 (by decide) (fun c7 => ?_) (fun c7 => ?_)
    · refine lv_null hx hb dX3_standingClaim_58 ?_
      exact W.aret (v := .null) hx hb hr (Or.inl ⟨_, rfl⟩) (Or.inl rfl) (fun t ht hW => ⟨none, rfl, (Or.inr ⟨by rw [hin, Nat.sub_self]; rfl, rfl⟩), ht⟩) (fun q h => by cases h) dX3_standingClaim_59
    · exact absurd (by rw [hR.1.2.2.1]; exact nI_lt (by omega) (by have := hR.1.2.2.2.1; omega)) c7
set_option maxHeartbeats 4000000 in
set_option maxRecDepth 100000 in
/-- mt_claimsOfSender -/
theorem mt_claimsOfSender (l : Launch) (dC : Nat → ClassId) (dI : Nat → Nat → Nat) (cA : Nat → ClassId) (Q : Nat → Nat) (σ : xs_T) (n : nn_T) (co : co_T) (L : List Nat) (f : Nat → va_E) (ad : ad_T) (hR : re_A cA σ n co L f ad) (x : Int32) : Met l yX3_claimsOfSender wsX3_claimsOfSender ({ frames := 2, cells := 0, slots := 0, locals := 46 }) (va_Pc [.ref (Q 0), .int x] (ct_R (dC, dI) vwCl (ty_K cA) (xc_W Q cA σ ++ va_pl L f))) (vp_Si (fun r => r = se_cl co x n.2.1)) 0 0 (fun _ => False) := by
  refine Met.ofW (cc := cX3_claimsOfSender) (maxL := 5) (ret := (some .int)) (by decide) rfl ?_
  intro p e s m args below meth c s₁ B hml hv
  obtain ⟨rfl, hP, hK⟩ := hv
  have hx := B.exec
  have hb := B.bytes
  have hr := B.returns
  have hts := atoms_spec (ws := wsX3_claimsOfSender) B.pre
  have hown : s.vm.findClass RX3 = some m.cls := findClass_of_methodNamed B.named
  have hlocks := B.notSynchronized
  have hl := lv_entry ([.ref (Q 0), .int x]) (n := 5) (Nat.le_of_ble_eq_true rfl)
  rw [lg_entry_eq]
  generalize (lg_sl ([.ref (Q 0), .int x]) ++ List.replicate (5 - (lg_sl ([.ref (Q 0), .int x])).length) Slot.unset).toArray = ls at hl ⊢
  have hl : lv_has ls 5 [(0, .ref (Q 0)), (1, .int x)] := hl
  have lk0 := hts (.fieldLink RX3 99 "ClaimRows" "claimCount" "I") (List.mem_cons_of_mem _ wd_22)
  have lk1 := hts (.fieldLink RX3 188 "ClaimRows$Claim" "item" "LClaimRows$Item;") (List.mem_cons_of_mem _ wd_123)
  have lk2 := hts (.fieldLink RX3 102 "ClaimRows$Item" "sender" "I") (List.mem_cons_of_mem _ wd_66)
  have in0 : ∀ w ∈ u_ws RX3 TX3 16, w ∈ wsX3_claimsOfSender := fun w h => List.mem_cons_of_mem _ (wu_X3 w h)
  have in1 : ∀ w ∈ u_ws RX0 TX0 13, w ∈ wsX3_claimsOfSender := fun w h => List.mem_cons_of_mem _ (wu_X0 w h)
  have in2 : ∀ w ∈ u_ws RX1 TX1 9, w ∈ wsX3_claimsOfSender := fun w h => List.mem_cons_of_mem _ (wu_X1 w h)
  refine lv_iconst (v := 0) hx hb dX3_claimsOfSender_0 (by decide) ?_
  refine lv_istore_n (lv' := [(2, .int 0), (0, .ref (Q 0)), (1, .int x)]) hx hb dX3_claimsOfSender_1 rfl hl (by decide) rfl (fun ls hl => ?_)
  refine lv_iconst (v := 1) hx hb dX3_claimsOfSender_2 (by decide) ?_
  refine lv_istore_n (lv' := [(3, .int 1), (2, .int 0), (0, .ref (Q 0)), (1, .int x)]) hx hb dX3_claimsOfSender_3 rfl hl (by decide) rfl (fun ls hl => ?_)
  refine wl_R (Inv := fun j ls => lv_has ls 5 [(0, .ref (Q 0)), (1, .int x), (2, .int (se_cl co x j)), (3, .int (nI (j + 1)))] ∧ True) (N := n.2.1) (fun j ls hj hin ih => ?_) (fun ls hin => ?_) 0 ls (Nat.zero_le _) ⟨lv_sub hl [2, 3, 1, 0] rfl, trivial⟩
  · obtain ⟨hl, hin⟩ := hin
    refine lv_iload_n hx hb dX3_claimsOfSender_4 rfl (lv_at hl 3 rfl) ?_
    refine lv_aload_n hx hb dX3_claimsOfSender_5 rfl (lv_at hl 0 rfl) ?_
    refine va_get (D := (dC, dI)) (ci := 3) (v := .int (σ.1 1)) (C := RX3) (T := TX3) (N := 16) hx hb hts in0 hown hK hP 0 (xc_W_0 _ _) rfl 3 (by decide) lk0 (fun _ h9 => h9) rfl dX3_claimsOfSender_6 ?_
    refine lv_icmp_gt (tgt := 45) hx hb dX3_claimsOfSender_9 (by decide) (fun c9 => ?_) (fun c9 => ?_)
    · exact absurd c9 (by rw [hR.1.2.2.1]; exact nI_nlt (by omega) (by have := hR.1.2.2.2.1; omega))
    · refine lv_aload_n hx hb dX3_claimsOfSender_12 rfl (lv_at hl 0 rfl) ?_
      refine lv_iload_n hx hb dX3_claimsOfSender_13 rfl (lv_at hl 3 rfl) ?_
      refine va_csq (va_Run.run (va_runV (As := [.int (nI (j + 1))]) (rest := []) ⟨hx, hb, hml, hown, hts⟩ (mt_claimNumbered l dC dI cA Q σ n co L f ad hR (nI (j + 1))) (cwV 1 hts (al_gV wd_105 wd_107 wd_106 wd_1 wd_108) rfl rfl rfl (by decide +kernel) ⟨Nat.le_of_ble_eq_true rfl, Nat.le_of_ble_eq_true rfl⟩) ⟨ct_blR, va_recv hK hP (ci := 3) (q0 := 0) rfl (xc_W_0 _ _), ct_atR hP hK⟩ rfl rfl hl.1 rfl (lv_room (Nat.le_of_ble_eq_true rfl)) dX3_claimsOfSender_14 ⟨Nat.le_of_ble_eq_true rfl, Nat.le_of_ble_eq_true rfl⟩)) (fun r14 hr14 => ?_)
      rcases hr14 with ⟨j14, hj14, hm14, ex14, rfl⟩ | ⟨hm14, rfl⟩
      · have ej14 : j = j14 := by rw [hR.1.2.2.1, nu_s hj (by have := hR.1.2.2.2.1; omega)] at hm14; exact Option.some.inj hm14
        subst ej14
        have hC1 := hR.2.2.1 j hj14
        have hC1v := hR.2.2.2.2.1.2.1 j hj14
        have hC1a : f (ad.2.2.1 j) = .inr (0, [.int (nI (j + 1)), .int (co.2.1 6 j), .ref (ad.1 (co.1 0 j)), .int (co.2.1 7 j), .int (co.2.1 8 j), .int (co.2.1 9 j), .int (co.2.1 10 j), .int (co.2.1 11 j), .int (co.2.1 12 j), .int (co.2.1 13 j), .int (co.2.1 14 j), .int (co.2.1 15 j), .long (co.2.2.1 2 j)]) := hC1.2.2
        have hI2 := hR.2.1 (co.1 0 j) hC1v.1
        have hI2a : f (ad.1 (co.1 0 j)) = .inr (1, [.int (co.2.1 0 (co.1 0 j)), .long (co.2.2.1 0 (co.1 0 j)), .long (co.2.2.1 1 (co.1 0 j)), .int (co.2.1 1 (co.1 0 j)), .int (co.2.1 2 (co.1 0 j)), .ref (ad.2.1 (co.1 0 j)), .int (co.2.1 3 (co.1 0 j)), .int (co.2.1 4 (co.1 0 j)), .int (co.2.1 5 (co.1 0 j))]) := hI2.2.2.1
        have hI2p : f (ad.2.1 (co.1 0 j)) = .inl ((cA 0), 8, .inl (co.2.2.2 (co.1 0 j))) := hI2.2.2.2.2
        refine lv_astore (lv' := [(4, .ref (ad.2.2.1 j)), (0, .ref (Q 0)), (1, .int x), (2, .int (se_cl co x j)), (3, .int (nI (j + 1)))]) hx hb dX3_claimsOfSender_17 hl (by decide) rfl (fun ls hl => ?_)
        refine lv_aload hx hb dX3_claimsOfSender_19 (lv_at hl 0 rfl) ?_
        refine lv_ifnull hx hb dX3_claimsOfSender_21 ?_
        refine lv_aload hx hb dX3_claimsOfSender_24 (lv_at hl 0 rfl) ?_
        refine hp_get (D := (dC, dI)) (ci := 0) (v := .ref (ad.1 (co.1 0 j))) (C := RX0) (T := TX0) (N := 13) hx hb hts in1 hown hK hP hC1.2.1 hC1a rfl 2 (by decide) lk1 (fun _ h9 => h9) rfl dX3_claimsOfSender_26 ?_
        refine hp_get (D := (dC, dI)) (ci := 1) (v := .int (co.2.1 2 (co.1 0 j))) (C := RX1) (T := TX1) (N := 9) hx hb hts in2 hown hK hP hI2.2.1 hI2a rfl 4 (by decide) lk2 (fun _ h9 => h9) rfl dX3_claimsOfSender_29 ?_
        refine lv_iload_n hx hb dX3_claimsOfSender_32 rfl (lv_at hl 2 rfl) ?_
        refine lv_icmp_ne (tgt := 39) hx hb dX3_claimsOfSender_33 (by decide) (fun c33 => ?_) (fun c33 => ?_)
        · have E9 : (if co.2.1 2 (co.1 0 j) = x then se_cl co x j + 1 else se_cl co x j) = se_cl co x j := if_neg c33
          refine lv_iinc (v := ((nI (j + 1)) + 1)) (lv' := [(3, .int ((nI (j + 1)) + 1)), (4, .ref (ad.2.2.1 j)), (0, .ref (Q 0)), (1, .int x), (2, .int (se_cl co x j))]) hx hb dX3_claimsOfSender_39 hl (k := 4) rfl rfl (by decide) rfl (fun ls hl => ?_)
          refine lv_goto (tgt := 4) hx hb dX3_claimsOfSender_42 (by decide) ?_
          exact ih _ ⟨lv_sub hl [2, 3, 4, 0] (by rw [nI_succ (j + 1), se_cl, E9]; rfl), trivial⟩
        · have E9 : (if co.2.1 2 (co.1 0 j) = x then se_cl co x j + 1 else se_cl co x j) = se_cl co x j + 1 := if_pos c33
          refine lv_iinc (v := ((se_cl co x j) + 1)) (lv' := [(2, .int ((se_cl co x j) + 1)), (4, .ref (ad.2.2.1 j)), (0, .ref (Q 0)), (1, .int x), (3, .int (nI (j + 1)))]) hx hb dX3_claimsOfSender_36 hl (k := 3) rfl rfl (by decide) rfl (fun ls hl => ?_)
          refine lv_iinc (v := ((nI (j + 1)) + 1)) (lv' := [(3, .int ((nI (j + 1)) + 1)), (2, .int ((se_cl co x j) + 1)), (4, .ref (ad.2.2.1 j)), (0, .ref (Q 0)), (1, .int x)]) hx hb dX3_claimsOfSender_39 hl (k := 4) rfl rfl (by decide) rfl (fun ls hl => ?_)
          refine lv_goto (tgt := 4) hx hb dX3_claimsOfSender_42 (by decide) ?_
          exact ih _ ⟨lv_sub hl [3, 4, 1, 0] (by rw [nI_succ (j + 1), se_cl, E9]; rfl), trivial⟩
      · rw [hR.1.2.2.1, nu_s hj (by have := hR.1.2.2.2.1; omega)] at hm14; cases hm14
  · obtain ⟨hl, hin⟩ := hin
    refine lv_iload_n hx hb dX3_claimsOfSender_4 rfl (lv_at hl 3 rfl) ?_
    refine lv_aload_n hx hb dX3_claimsOfSender_5 rfl (lv_at hl 0 rfl) ?_
    refine va_get (D := (dC, dI)) (ci := 3) (v := .int (σ.1 1)) (C := RX3) (T := TX3) (N := 16) hx hb hts in0 hown hK hP 0 (xc_W_0 _ _) rfl 3 (by decide) lk0 (fun _ h9 => h9) rfl dX3_claimsOfSender_6 ?_
    refine lv_icmp_gt (tgt := 45) hx hb dX3_claimsOfSender_9 (by decide) (fun c9 => ?_) (fun c9 => ?_)
    · refine lv_iload_n hx hb dX3_claimsOfSender_45 rfl (lv_at hl 2 rfl) ?_
      exact W.iret (v := (se_cl co x n.2.1)) hx hb hr (fun t ht hW => ⟨(se_cl co x n.2.1), rfl, rfl, ht⟩) (fun q h => by cases h) dX3_claimsOfSender_46
    · exact absurd (by rw [hR.1.2.2.1]; exact nI_lt (by omega) (by have := hR.1.2.2.2.1; omega)) c9
set_option maxHeartbeats 4000000 in
set_option maxRecDepth 100000 in
/-- mt_sumByTable -/
theorem mt_sumByTable (l : Launch) (dC : Nat → ClassId) (dI : Nat → Nat → Nat) (cA : Nat → ClassId) (Q : Nat → Nat) (σ : xs_T) (n : nn_T) (co : co_T) (L : List Nat) (f : Nat → va_E) (ad : ad_T) (hR : re_A cA σ n co L f ad) (j : Nat) (hj : j < n.2.1) : Met l yX3_sumByTable wsX3_sumByTable ({ frames := 1, cells := 0, slots := 0, locals := 21 }) (va_Pc [.ref (Q 0), .ref (ad.2.2.1 j)] (ct_R (dC, dI) vwCl (ty_K cA) (xc_W Q cA σ ++ va_pl L f))) (vp_Sl (fun r => r = su_m σ co j)) 0 0 (fun _ => False) := by
  refine Met.ofW (cc := cX3_sumByTable) (maxL := 7) (ret := (some .long)) (by decide) rfl ?_
  intro p e s m args below meth c s₁ B hml hv
  obtain ⟨rfl, hP, hK⟩ := hv
  have hx := B.exec
  have hb := B.bytes
  have hr := B.returns
  have hts := atoms_spec (ws := wsX3_sumByTable) B.pre
  have hown : s.vm.findClass RX3 = some m.cls := findClass_of_methodNamed B.named
  have hlocks := B.notSynchronized
  have hl := lv_entry ([.ref (Q 0), .ref (ad.2.2.1 j)]) (n := 7) (Nat.le_of_ble_eq_true rfl)
  rw [lg_entry_eq]
  generalize (lg_sl ([.ref (Q 0), .ref (ad.2.2.1 j)]) ++ List.replicate (7 - (lg_sl ([.ref (Q 0), .ref (ad.2.2.1 j)])).length) Slot.unset).toArray = ls at hl ⊢
  have hl : lv_has ls 7 [(0, .ref (Q 0)), (1, .ref (ad.2.2.1 j))] := hl
  have lk0 := hts (.fieldLink RX3 188 "ClaimRows$Claim" "item" "LClaimRows$Item;") (List.mem_cons_of_mem _ wd_123)
  have lk1 := hts (.fieldLink RX3 238 "ClaimRows$Item" "insured" "J") (List.mem_cons_of_mem _ wd_62)
  have lk2 := hts (.fieldLink RX3 27 "ClaimRows" "tableMost" "[J") (List.mem_cons_of_mem _ wd_25)
  have lk3 := hts (.fieldLink RX3 92 "ClaimRows$Item" "service" "I") (List.mem_cons_of_mem _ wd_58)
  have lk4 := hts (.fieldLink RX3 134 "ClaimRows$Claim" "kind" "I") (List.mem_cons_of_mem _ wd_125)
  have lk5 := hts (.fieldLink RX3 241 "ClaimRows$Item" "value" "J") (List.mem_cons_of_mem _ wd_60)
  have lk6 := hts (.methodLink RX3 244 yJ9_min_long) (List.mem_cons_of_mem _ wd_202)
  have lk7 := hts (.static yJ9_min_long) (List.mem_cons_of_mem _ wd_203)
  have lk8 := hts (.initialized RJ9) (List.mem_cons_of_mem _ wd_7)
  have lk9 := hts (.code yJ9_min_long cJ9_min_long 4 (some .long)) (List.mem_cons_of_mem _ wd_204)
  have lk10 := hts (.constantLong RX3 247 10) (List.mem_cons_of_mem _ wd_205)
  have lk11 := hts (.constantLong RX3 82 2) (List.mem_cons_of_mem _ wd_96)
  have in0 : ∀ w ∈ u_ws RX0 TX0 13, w ∈ wsX3_sumByTable := fun w h => List.mem_cons_of_mem _ (wu_X0 w h)
  have in1 : ∀ w ∈ u_ws RX1 TX1 9, w ∈ wsX3_sumByTable := fun w h => List.mem_cons_of_mem _ (wu_X1 w h)
  have in2 : ∀ w ∈ u_ws RX3 TX3 16, w ∈ wsX3_sumByTable := fun w h => List.mem_cons_of_mem _ (wu_X3 w h)
  have hC1 := hR.2.2.1 j hj
  have hC1v := hR.2.2.2.2.1.2.1 j hj
  have hC1a : f (ad.2.2.1 j) = .inr (0, [.int (nI (j + 1)), .int (co.2.1 6 j), .ref (ad.1 (co.1 0 j)), .int (co.2.1 7 j), .int (co.2.1 8 j), .int (co.2.1 9 j), .int (co.2.1 10 j), .int (co.2.1 11 j), .int (co.2.1 12 j), .int (co.2.1 13 j), .int (co.2.1 14 j), .int (co.2.1 15 j), .long (co.2.2.1 2 j)]) := hC1.2.2
  have hI2 := hR.2.1 (co.1 0 j) hC1v.1
  have hI2a : f (ad.1 (co.1 0 j)) = .inr (1, [.int (co.2.1 0 (co.1 0 j)), .long (co.2.2.1 0 (co.1 0 j)), .long (co.2.2.1 1 (co.1 0 j)), .int (co.2.1 1 (co.1 0 j)), .int (co.2.1 2 (co.1 0 j)), .ref (ad.2.1 (co.1 0 j)), .int (co.2.1 3 (co.1 0 j)), .int (co.2.1 4 (co.1 0 j)), .int (co.2.1 5 (co.1 0 j))]) := hI2.2.2.1
  have hI2p : f (ad.2.1 (co.1 0 j)) = .inl ((cA 0), 8, .inl (co.2.2.2 (co.1 0 j))) := hI2.2.2.2.2
  refine lv_aload_n hx hb dX3_sumByTable_0 rfl (lv_at hl 1 rfl) ?_
  refine hp_get (D := (dC, dI)) (ci := 0) (v := .ref (ad.1 (co.1 0 j))) (C := RX0) (T := TX0) (N := 13) hx hb hts in0 hown hK hP hC1.2.1 hC1a rfl 2 (by decide) lk0 (fun _ h9 => h9) rfl dX3_sumByTable_1 ?_
  refine lv_astore_n (lv' := [(2, .ref (ad.1 (co.1 0 j))), (0, .ref (Q 0)), (1, .ref (ad.2.2.1 j))]) hx hb dX3_sumByTable_4 rfl hl (by decide) rfl (fun ls hl => ?_)
  refine lv_aload_n hx hb dX3_sumByTable_5 rfl (lv_at hl 0 rfl) ?_
  refine hp_get (D := (dC, dI)) (ci := 1) (v := .long (co.2.2.1 1 (co.1 0 j))) (C := RX1) (T := TX1) (N := 9) hx hb hts in1 hown hK hP hI2.2.1 hI2a rfl 2 (by decide) lk1 (fun _ h9 => h9) rfl dX3_sumByTable_6 ?_
  refine lv_lconst (v := 0) hx hb dX3_sumByTable_9 (by decide) ?_
  refine W.lcmp hx hb dX3_sumByTable_10 ?_
  refine lv_if_le (tgt := 21) hx hb dX3_sumByTable_11 (by decide) (fun c11 => ?_) (fun c11 => ?_)
  · refine lv_aload_n hx hb dX3_sumByTable_21 rfl (lv_at hl 1 rfl) ?_
    refine va_get (D := (dC, dI)) (ci := 3) (v := .ref (Q 4)) (C := RX3) (T := TX3) (N := 16) hx hb hts in2 hown hK hP 0 (xc_W_0 _ _) rfl 6 (by decide) lk2 (fun _ h9 => h9) rfl dX3_sumByTable_22 ?_
    refine lv_aload_n hx hb dX3_sumByTable_25 rfl (lv_at hl 0 rfl) ?_
    refine hp_get (D := (dC, dI)) (ci := 1) (v := .int (co.2.1 0 (co.1 0 j))) (C := RX1) (T := TX1) (N := 9) hx hb hts in1 hown hK hP hI2.2.1 hI2a rfl 0 (by decide) lk3 (fun _ h9 => h9) rfl dX3_sumByTable_26 ?_
    refine lv_aload_n hx hb dX3_sumByTable_29 rfl (lv_at hl 2 rfl) ?_
    refine hp_get (D := (dC, dI)) (ci := 0) (v := .int (co.2.1 7 j)) (C := RX0) (T := TX0) (N := 13) hx hb hts in0 hown hK hP hC1.2.1 hC1a rfl 3 (by decide) lk4 (fun _ h9 => h9) rfl dX3_sumByTable_30 ?_
    refine vp_callSi (va_Run.run (va_runS (As := [.int (co.2.1 0 (co.1 0 j)), .int (co.2.1 7 j)]) (rest := [.ref (Q 4)]) ⟨hx, hb, hml, hown, hts⟩ (mt_rowOf l (co.2.1 0 (co.1 0 j)) (co.2.1 7 j)) (va_cwS 2 hts (al_gS wd_89 wd_90 wd_1 wd_91) rfl rfl rfl (by decide +kernel) ⟨Nat.le_of_ble_eq_true rfl, Nat.le_of_ble_eq_true rfl⟩) ⟨ct_bl0, ct_at0⟩ rfl rfl hl.1 rfl (lv_room (Nat.le_of_ble_eq_true rfl)) dX3_sumByTable_33 ⟨Nat.le_of_ble_eq_true rfl, Nat.le_of_ble_eq_true rfl⟩)) (fun r33 hr33 => ?_)
    subst hr33
    refine va_lald hx hb hK hP 4 1 (xc_W_4 _ _) rfl (rw_in (hR.2.2.2.2.1.1 (co.1 0 j) (hR.2.2.2.2.1.2.1 j hj).1).1 (hR.2.2.2.2.1.2.1 j hj).2.2.1) dX3_sumByTable_36 ?_
    refine lv_lstore_n (lv' := [(3, .long ((σ.2.2.2.1 0) (((co.2.1 0 (co.1 0 j)) * 4 + (co.2.1 7 j))).toNatClampNeg)), (2, .ref (ad.1 (co.1 0 j))), (0, .ref (Q 0)), (1, .ref (ad.2.2.1 j))]) hx hb dX3_sumByTable_37 rfl hl (by decide) rfl (fun ls hl => ?_)
    refine lv_aload_n hx hb dX3_sumByTable_38 rfl (lv_at hl 1 rfl) ?_
    refine hp_get (D := (dC, dI)) (ci := 1) (v := .long (co.2.2.1 0 (co.1 0 j))) (C := RX1) (T := TX1) (N := 9) hx hb hts in1 hown hK hP hI2.2.1 hI2a rfl 1 (by decide) lk5 (fun _ h9 => h9) rfl dX3_sumByTable_39 ?_
    refine lv_lload_n hx hb dX3_sumByTable_42 rfl (lv_at hl 0 rfl) ?_
    refine va_mmin_long hx hb (hml.trans hl.1.symm) hown lk6 lk7 lk8 lk9 (Nat.le_of_ble_eq_true rfl) (Nat.le_of_ble_eq_true rfl) (Nat.le_of_ble_eq_true rfl) (Nat.le_of_ble_eq_true rfl) dX3_sumByTable_43 ?_
    refine lv_lstore (lv' := [(5, .long (if ((σ.2.2.2.1 0) (((co.2.1 0 (co.1 0 j)) * 4 + (co.2.1 7 j))).toNatClampNeg) < (co.2.2.1 0 (co.1 0 j)) then ((σ.2.2.2.1 0) (((co.2.1 0 (co.1 0 j)) * 4 + (co.2.1 7 j))).toNatClampNeg) else (co.2.2.1 0 (co.1 0 j)))), (3, .long ((σ.2.2.2.1 0) (((co.2.1 0 (co.1 0 j)) * 4 + (co.2.1 7 j))).toNatClampNeg)), (2, .ref (ad.1 (co.1 0 j))), (0, .ref (Q 0)), (1, .ref (ad.2.2.1 j))]) hx hb dX3_sumByTable_46 hl (by decide) rfl (fun ls hl => ?_)
    refine lv_aload_n hx hb dX3_sumByTable_48 rfl (lv_at hl 4 rfl) ?_
    refine hp_get (D := (dC, dI)) (ci := 0) (v := .int (co.2.1 7 j)) (C := RX0) (T := TX0) (N := 13) hx hb hts in0 hown hK hP hC1.2.1 hC1a rfl 3 (by decide) lk4 (fun _ h9 => h9) rfl dX3_sumByTable_49 ?_
    rcases Classical.em ((co.2.1 7 j) = 1 ∨ (co.2.1 7 j) = 2) with e52 | e52
    · rcases e52 with e52 | e52
      · refine lv_lookup (off := 28) (tgt := 80) hx hb dX3_sumByTable_52 (by decide) (by rw [e52]; decide) (by decide) ?_
        refine lv_lload hx hb dX3_sumByTable_80 (lv_at hl 0 rfl) ?_
        refine lv_ldc2 hx hb hown lk10 dX3_sumByTable_82 ?_
        refine lv_ldiv hx hb dX3_sumByTable_85 (by decide) ?_
        exact W.lret (v := ((if ((σ.2.2.2.1 0) (((co.2.1 0 (co.1 0 j)) * 4 + (co.2.1 7 j))).toNatClampNeg) < (co.2.2.1 0 (co.1 0 j)) then ((σ.2.2.2.1 0) (((co.2.1 0 (co.1 0 j)) * 4 + (co.2.1 7 j))).toNatClampNeg) else (co.2.2.1 0 (co.1 0 j))) / 10)) hx hb hr (fun t ht hW => ⟨((if ((σ.2.2.2.1 0) (((co.2.1 0 (co.1 0 j)) * 4 + (co.2.1 7 j))).toNatClampNeg) < (co.2.2.1 0 (co.1 0 j)) then ((σ.2.2.2.1 0) (((co.2.1 0 (co.1 0 j)) * 4 + (co.2.1 7 j))).toNatClampNeg) else (co.2.2.1 0 (co.1 0 j))) / 10), rfl, (by unfold su_m; dsimp only; rw [if_neg (fun q => absurd (lc_gt.mpr q) (Int32.not_lt.mpr c11)), if_pos e52]), ht⟩) (fun q h => by cases h) dX3_sumByTable_86
      · refine lv_lookup (off := 35) (tgt := 87) hx hb dX3_sumByTable_52 (by decide) (by rw [e52]; decide) (by decide) ?_
        refine lv_lload hx hb dX3_sumByTable_87 (lv_at hl 0 rfl) ?_
        refine lv_ldc2 hx hb hown lk11 dX3_sumByTable_89 ?_
        refine lv_ldiv hx hb dX3_sumByTable_92 (by decide) ?_
        exact W.lret (v := ((if ((σ.2.2.2.1 0) (((co.2.1 0 (co.1 0 j)) * 4 + (co.2.1 7 j))).toNatClampNeg) < (co.2.2.1 0 (co.1 0 j)) then ((σ.2.2.2.1 0) (((co.2.1 0 (co.1 0 j)) * 4 + (co.2.1 7 j))).toNatClampNeg) else (co.2.2.1 0 (co.1 0 j))) / 2)) hx hb hr (fun t ht hW => ⟨((if ((σ.2.2.2.1 0) (((co.2.1 0 (co.1 0 j)) * 4 + (co.2.1 7 j))).toNatClampNeg) < (co.2.2.1 0 (co.1 0 j)) then ((σ.2.2.2.1 0) (((co.2.1 0 (co.1 0 j)) * 4 + (co.2.1 7 j))).toNatClampNeg) else (co.2.2.1 0 (co.1 0 j))) / 2), rfl, (by unfold su_m; dsimp only; rw [if_neg (fun q => absurd (lc_gt.mpr q) (Int32.not_lt.mpr c11)), if_neg (show ¬ co.2.1 7 j = 1 by rw [e52]; decide), if_pos e52]), ht⟩) (fun q h => by cases h) dX3_sumByTable_93
    · refine lv_lookup (off := 42) (tgt := 94) hx hb dX3_sumByTable_52 (by decide) (by rw [lv_osw (fun q => e52 (by simp [q])) (k := 1) (by decide)]; rw [lv_osw (fun q => e52 (by simp [q])) (k := 2) (by decide)]; rfl) (by decide) ?_
      refine lv_lload hx hb dX3_sumByTable_94 (lv_at hl 0 rfl) ?_
      exact W.lret (v := (if ((σ.2.2.2.1 0) (((co.2.1 0 (co.1 0 j)) * 4 + (co.2.1 7 j))).toNatClampNeg) < (co.2.2.1 0 (co.1 0 j)) then ((σ.2.2.2.1 0) (((co.2.1 0 (co.1 0 j)) * 4 + (co.2.1 7 j))).toNatClampNeg) else (co.2.2.1 0 (co.1 0 j)))) hx hb hr (fun t ht hW => ⟨(if ((σ.2.2.2.1 0) (((co.2.1 0 (co.1 0 j)) * 4 + (co.2.1 7 j))).toNatClampNeg) < (co.2.2.1 0 (co.1 0 j)) then ((σ.2.2.2.1 0) (((co.2.1 0 (co.1 0 j)) * 4 + (co.2.1 7 j))).toNatClampNeg) else (co.2.2.1 0 (co.1 0 j))), rfl, (by unfold su_m; dsimp only; rw [if_neg (fun q => absurd (lc_gt.mpr q) (Int32.not_lt.mpr c11)), if_neg (fun q => e52 (Or.inl q)), if_neg (fun q => e52 (Or.inr q))]), ht⟩) (fun q h => by cases h) dX3_sumByTable_96
  · refine lv_aload_n hx hb dX3_sumByTable_14 rfl (lv_at hl 0 rfl) ?_
    refine hp_get (D := (dC, dI)) (ci := 1) (v := .long (co.2.2.1 1 (co.1 0 j))) (C := RX1) (T := TX1) (N := 9) hx hb hts in1 hown hK hP hI2.2.1 hI2a rfl 2 (by decide) lk1 (fun _ h9 => h9) rfl dX3_sumByTable_15 ?_
    refine lv_goto (tgt := 37) hx hb dX3_sumByTable_18 (by decide) ?_
    refine lv_lstore_n (lv' := [(3, .long (co.2.2.1 1 (co.1 0 j))), (2, .ref (ad.1 (co.1 0 j))), (0, .ref (Q 0)), (1, .ref (ad.2.2.1 j))]) hx hb dX3_sumByTable_37 rfl hl (by decide) rfl (fun ls hl => ?_)
    refine lv_aload_n hx hb dX3_sumByTable_38 rfl (lv_at hl 1 rfl) ?_
    refine hp_get (D := (dC, dI)) (ci := 1) (v := .long (co.2.2.1 0 (co.1 0 j))) (C := RX1) (T := TX1) (N := 9) hx hb hts in1 hown hK hP hI2.2.1 hI2a rfl 1 (by decide) lk5 (fun _ h9 => h9) rfl dX3_sumByTable_39 ?_
    refine lv_lload_n hx hb dX3_sumByTable_42 rfl (lv_at hl 0 rfl) ?_
    refine va_mmin_long hx hb (hml.trans hl.1.symm) hown lk6 lk7 lk8 lk9 (Nat.le_of_ble_eq_true rfl) (Nat.le_of_ble_eq_true rfl) (Nat.le_of_ble_eq_true rfl) (Nat.le_of_ble_eq_true rfl) dX3_sumByTable_43 ?_
    refine lv_lstore (lv' := [(5, .long (if (co.2.2.1 1 (co.1 0 j)) < (co.2.2.1 0 (co.1 0 j)) then (co.2.2.1 1 (co.1 0 j)) else (co.2.2.1 0 (co.1 0 j)))), (3, .long (co.2.2.1 1 (co.1 0 j))), (2, .ref (ad.1 (co.1 0 j))), (0, .ref (Q 0)), (1, .ref (ad.2.2.1 j))]) hx hb dX3_sumByTable_46 hl (by decide) rfl (fun ls hl => ?_)
    refine lv_aload_n hx hb dX3_sumByTable_48 rfl (lv_at hl 4 rfl) ?_
    refine hp_get (D := (dC, dI)) (ci := 0) (v := .int (co.2.1 7 j)) (C := RX0) (T := TX0) (N := 13) hx hb hts in0 hown hK hP hC1.2.1 hC1a rfl 3 (by decide) lk4 (fun _ h9 => h9) rfl dX3_sumByTable_49 ?_
    rcases Classical.em ((co.2.1 7 j) = 1 ∨ (co.2.1 7 j) = 2) with e52 | e52
    · rcases e52 with e52 | e52
      · refine lv_lookup (off := 28) (tgt := 80) hx hb dX3_sumByTable_52 (by decide) (by rw [e52]; decide) (by decide) ?_
        refine lv_lload hx hb dX3_sumByTable_80 (lv_at hl 0 rfl) ?_
        refine lv_ldc2 hx hb hown lk10 dX3_sumByTable_82 ?_
        refine lv_ldiv hx hb dX3_sumByTable_85 (by decide) ?_
        exact W.lret (v := ((if (co.2.2.1 1 (co.1 0 j)) < (co.2.2.1 0 (co.1 0 j)) then (co.2.2.1 1 (co.1 0 j)) else (co.2.2.1 0 (co.1 0 j))) / 10)) hx hb hr (fun t ht hW => ⟨((if (co.2.2.1 1 (co.1 0 j)) < (co.2.2.1 0 (co.1 0 j)) then (co.2.2.1 1 (co.1 0 j)) else (co.2.2.1 0 (co.1 0 j))) / 10), rfl, (by unfold su_m; dsimp only; rw [if_pos (lc_gt.mp (Int32.not_le.mp c11)), if_pos e52]), ht⟩) (fun q h => by cases h) dX3_sumByTable_86
      · refine lv_lookup (off := 35) (tgt := 87) hx hb dX3_sumByTable_52 (by decide) (by rw [e52]; decide) (by decide) ?_
        refine lv_lload hx hb dX3_sumByTable_87 (lv_at hl 0 rfl) ?_
        refine lv_ldc2 hx hb hown lk11 dX3_sumByTable_89 ?_
        refine lv_ldiv hx hb dX3_sumByTable_92 (by decide) ?_
        exact W.lret (v := ((if (co.2.2.1 1 (co.1 0 j)) < (co.2.2.1 0 (co.1 0 j)) then (co.2.2.1 1 (co.1 0 j)) else (co.2.2.1 0 (co.1 0 j))) / 2)) hx hb hr (fun t ht hW => ⟨((if (co.2.2.1 1 (co.1 0 j)) < (co.2.2.1 0 (co.1 0 j)) then (co.2.2.1 1 (co.1 0 j)) else (co.2.2.1 0 (co.1 0 j))) / 2), rfl, (by unfold su_m; dsimp only; rw [if_pos (lc_gt.mp (Int32.not_le.mp c11)), if_neg (show ¬ co.2.1 7 j = 1 by rw [e52]; decide), if_pos e52]), ht⟩) (fun q h => by cases h) dX3_sumByTable_93
    · refine lv_lookup (off := 42) (tgt := 94) hx hb dX3_sumByTable_52 (by decide) (by rw [lv_osw (fun q => e52 (by simp [q])) (k := 1) (by decide)]; rw [lv_osw (fun q => e52 (by simp [q])) (k := 2) (by decide)]; rfl) (by decide) ?_
      refine lv_lload hx hb dX3_sumByTable_94 (lv_at hl 0 rfl) ?_
      exact W.lret (v := (if (co.2.2.1 1 (co.1 0 j)) < (co.2.2.1 0 (co.1 0 j)) then (co.2.2.1 1 (co.1 0 j)) else (co.2.2.1 0 (co.1 0 j)))) hx hb hr (fun t ht hW => ⟨(if (co.2.2.1 1 (co.1 0 j)) < (co.2.2.1 0 (co.1 0 j)) then (co.2.2.1 1 (co.1 0 j)) else (co.2.2.1 0 (co.1 0 j))), rfl, (by unfold su_m; dsimp only; rw [if_pos (lc_gt.mp (Int32.not_le.mp c11)), if_neg (fun q => e52 (Or.inl q)), if_neg (fun q => e52 (Or.inr q))]), ht⟩) (fun q h => by cases h) dX3_sumByTable_96
set_option maxHeartbeats 4000000 in
set_option maxRecDepth 100000 in
/-- mt_refuse -/
theorem mt_refuse (l : Launch) (dC : Nat → ClassId) (dI : Nat → Nat → Nat) (cA : Nat → ClassId) (sz : Nat) (Q : Nat → Nat) (σ : xs_T) (L : List Nat) (f : Nat → va_E) (mq : Nat) (hm : σ.1 3 = nI mq) (hb9 : mq < 1000000) (cq : Nat) (hc : cq ∈ L) (v0 : Int32) (v1 : Int32) (v2 : Nat) (v3 : Int32) (v4 : Int32) (v5 : Int32) (v6 : Int32) (v7 : Int32) (v8 : Int32) (v9 : Int32) (v10 : Int32) (v11 : Int32) (v12 : Int64) (hg : f cq = .inr (0, [.int v0, .int v1, .ref v2, .int v3, .int v4, .int v5, .int v6, .int v7, .int v8, .int v9, .int v10, .int v11, .long v12]))  : Met l yX3_refuse wsX3_refuse ({ frames := 1, cells := 0, slots := 0, locals := 22 }) (va_Pc [.ref (Q 0), .ref cq] (ct_M (dC, dI) vwCl (ty_K cA) (xc_W Q cA σ ++ va_pl L f) sz)) (va_Qi (fun r u => r = 2 ∧ u = (se_nd (xs_i σ 5 ((σ.1 5) + 1)) v0 4, L, va_up f cq (.inr (0, [.int v0, .int v1, .ref v2, .int v3, .int v4, .int 2, .int v6, .int v7, .int v8, .int v9, .int v10, .int v11, .long v12])))) (fun u t => ct_B (dC, dI) vwCl (ty_K cA) (va_A (xc_W Q cA σ ++ va_pl L f) sz) (xc_W Q cA u.1 ++ va_pl u.2.1 u.2.2) t) (va_A (xc_W Q cA σ ++ va_pl L f) sz)) 0 0 (va_A (xc_W Q cA σ ++ va_pl L f) sz) := by
  refine Met.ofW (cc := cX3_refuse) (maxL := 2) (ret := (some .int)) (by decide) rfl ?_
  intro p e s m args below meth c s₁ B hml hv
  obtain ⟨rfl, hsz, hP, hK, hD0⟩ := hv
  have hx := B.exec
  have hb := B.bytes
  have hr := B.returns
  have hts := atoms_spec (ws := wsX3_refuse) B.pre
  have hown : s.vm.findClass RX3 = some m.cls := findClass_of_methodNamed B.named
  have hlocks := B.notSynchronized
  subst hsz
  have hD := hD0.self (sz := s.heap.size)
  generalize hAe : va_A (xc_W Q cA σ ++ va_pl L f) s.heap.size = A at hD ⊢
  have hA : ∀ q : Nat, s.heap.size ≤ q → A q := fun q h => by rw [← hAe]; exact Or.inr h
  clear hAe hD0
  have hS : va_S A s.heap s.heap [] := va_S.rf
  have hl := lv_entry ([.ref (Q 0), .ref cq]) (n := 2) (Nat.le_of_ble_eq_true rfl)
  rw [lg_entry_eq]
  generalize (lg_sl ([.ref (Q 0), .ref cq]) ++ List.replicate (2 - (lg_sl ([.ref (Q 0), .ref cq])).length) Slot.unset).toArray = ls at hl ⊢
  have hl : lv_has ls 2 [(0, .ref (Q 0)), (1, .ref cq)] := hl
  have lk0 := hts (.fieldLink RX3 120 "ClaimRows$Claim" "state" "I") (List.mem_cons_of_mem _ wd_129)
  have lk1 := hts (.fieldLink RX3 233 "ClaimRows" "refusedInAll" "I") (List.mem_cons_of_mem _ wd_34)
  have lk2 := hts (.fieldLink RX3 199 "ClaimRows$Claim" "number" "I") (List.mem_cons_of_mem _ wd_119)
  have in0 : ∀ w ∈ u_ws RX0 TX0 13, w ∈ wsX3_refuse := fun w h => List.mem_cons_of_mem _ (wu_X0 w h)
  have in1 : ∀ w ∈ u_ws RX3 TX3 16, w ∈ wsX3_refuse := fun w h => List.mem_cons_of_mem _ (wu_X3 w h)
  refine lv_aload_n hx hb dX3_refuse_0 rfl (lv_at hl 1 rfl) ?_
  refine lv_iconst (v := 2) hx hb dX3_refuse_1 (by decide) ?_
  refine hp_put (D := (dC, dI)) (ci := 0) (v := .int 2) (ty := .int) (C := RX0) (T := TX0) (N := 13) hx hb hts in0 tyX0 tyX0_ok nmX0 hown hK hP hD hS hc hg rfl 5 (by decide) lk0 (fun _ h9 => h9) rfl (by decide +kernel) rfl rfl (Nat.le_of_ble_eq_true rfl) dX3_refuse_2 (fs' := [.int v0, .int v1, .ref v2, .int v3, .int v4, .int 2, .int v6, .int v7, .int v8, .int v9, .int v10, .int v11, .long v12]) rfl (fun H locs hP hD hS => ?_)
  obtain ⟨f_1, ef_1⟩ : ∃ y9, y9 = va_up f cq (.inr (0, [.int v0, .int v1, .ref v2, .int v3, .int v4, .int 2, .int v6, .int v7, .int v8, .int v9, .int v10, .int v11, .long v12])) := ⟨_, rfl⟩
  rw [← ef_1] at hP hD
  have hf_1_cq : f_1 cq = .inr (0, [.int v0, .int v1, .ref v2, .int v3, .int v4, .int 2, .int v6, .int v7, .int v8, .int v9, .int v10, .int v11, .long v12]) := by rw [ef_1]; exact va_up_self _ _ _
  refine lv_aload_n hx hb dX3_refuse_5 rfl (lv_at hl 0 rfl) ?_
  refine lv_dup hx hb dX3_refuse_6 rfl ?_
  refine va_get (D := (dC, dI)) (ci := 3) (v := .int (σ.1 5)) (C := RX3) (T := TX3) (N := 16) hx hb hts in1 hown hK hP 0 (xc_W_0 _ _) rfl 15 (by decide) lk1 (fun _ h9 => h9) rfl dX3_refuse_7 ?_
  refine lv_iconst (v := 1) hx hb dX3_refuse_10 (by decide) ?_
  refine lv_iadd hx hb dX3_refuse_11 ?_
  refine va_put (D := (dC, dI)) (ci := 3) (v := .int ((σ.1 5) + 1)) (ty := .int) (C := RX3) (T := TX3) (N := 16) hx hb hts in1 tyX3 tyX3_ok nmX3 hown hK hP hD hS 0 (xc_W_0 _ _) rfl 15 (by decide) lk1 (fun _ h9 => h9) rfl (by decide +kernel) rfl rfl (Nat.le_of_ble_eq_true rfl) dX3_refuse_12 (fun H locs hP hD hS => ?_)
  have hP : va_P (dC, dI) vwCl (xc_W Q cA (xs_i σ 5 ((σ.1 5) + 1)) ++ va_pl L f_1) H := hP
  have hD : va_D A (xc_W Q cA (xs_i σ 5 ((σ.1 5) + 1)) ++ va_pl L f_1) := hD
  refine lv_aload_n hx hb dX3_refuse_15 rfl (lv_at hl 0 rfl) ?_
  refine lv_aload_n hx hb dX3_refuse_16 rfl (lv_at hl 1 rfl) ?_
  refine hp_get (D := (dC, dI)) (ci := 0) (v := .int v0) (C := RX0) (T := TX0) (N := 13) hx hb hts in0 hown hK hP hc hf_1_cq rfl 0 (by decide) lk2 (fun _ h9 => h9) rfl dX3_refuse_17 ?_
  refine lv_iconst (v := 4) hx hb dX3_refuse_20 (by decide) ?_
  have hFc := ct_free hD hS hA
  refine va_callv (va_runV (As := [.int v0, .int 4]) (rest := []) ⟨hx, hb, hml, hown, hts⟩ (mt_send l dC dI cA H.size Q (xs_i σ 5 ((σ.1 5) + 1)) L f_1 mq (show (xs_i σ 5 ((σ.1 5) + 1)).1 3 = nI mq from hm) hb9 v0 4) (cwV 2 hts (al_gV wd_141 wd_143 wd_142 wd_1 wd_144) rfl rfl rfl (by decide +kernel) ⟨Nat.le_of_ble_eq_true rfl, Nat.le_of_ble_eq_true rfl⟩) ⟨ct_blM, va_recv hK hP (ci := 3) (q0 := 0) rfl (xc_W_0 _ _), ct_atM hP hK hD⟩ rfl rfl hl.1 rfl (lv_room (Nat.le_of_ble_eq_true rfl)) dX3_refuse_21 ⟨Nat.le_of_ble_eq_true rfl, Nat.le_of_ble_eq_true rfl⟩) hS (fun q _ h => hFc q h) hFc (fun u21 t H1 locs ht hvm hr21 hB hz1 hk1 hS => ?_)
  obtain ⟨hP, -, hD1⟩ := hB
  rw [ht] at hP
  have hD := hD1.weaken (fun _ _ _ h => hFc _ h)
  clear hD1 hk1 hz1 hFc hvm
  generalize H1 = H at hP hS ht ⊢
  clear ht
  refine W.widen (k := 0) (n := 0) (by decide) (by decide) ?_
  subst hr21
  have hP : va_P (dC, dI) vwCl (xc_W Q cA (se_nd (xs_i σ 5 ((σ.1 5) + 1)) v0 4) ++ va_pl L f_1) H := hP
  have hD : va_D A (xc_W Q cA (se_nd (xs_i σ 5 ((σ.1 5) + 1)) v0 4) ++ va_pl L f_1) := hD
  refine lv_iconst (v := 2) hx hb dX3_refuse_24 (by decide) ?_
  exact W.iret (v := 2) hx hb hr (fun t ht hW => ⟨⟨2, ((se_nd (xs_i σ 5 ((σ.1 5) + 1)) v0 4), L, f_1), rfl, ⟨rfl, by rw [ef_1]⟩, by rw [ht]; exact hP, va_K.moved hW.alike hK, hD⟩, hS.F ht⟩) hS.2.2 dX3_refuse_25
set_option maxHeartbeats 4000000 in
set_option maxRecDepth 100000 in
/-- mt_pay -/
theorem mt_pay (l : Launch) (dC : Nat → ClassId) (dI : Nat → Nat → Nat) (cA : Nat → ClassId) (sz : Nat) (Q : Nat → Nat) (σ : xs_T) (L : List Nat) (f : Nat → va_E) (mq : Nat) (hm : σ.1 3 = nI mq) (hb9 : mq < 1000000) (cq : Nat) (hc : cq ∈ L) (v0 : Int32) (v1 : Int32) (v2 : Nat) (v3 : Int32) (v4 : Int32) (v5 : Int32) (v6 : Int32) (v7 : Int32) (v8 : Int32) (v9 : Int32) (v10 : Int32) (v11 : Int32) (v12 : Int64) (hg : f cq = .inr (0, [.int v0, .int v1, .ref v2, .int v3, .int v4, .int v5, .int v6, .int v7, .int v8, .int v9, .int v10, .int v11, .long v12])) (z : Int64) : Met l yX3_pay wsX3_pay ({ frames := 1, cells := 0, slots := 0, locals := 22 }) (va_Pc [.ref (Q 0), .ref cq, .long z] (ct_M (dC, dI) vwCl (ty_K cA) (xc_W Q cA σ ++ va_pl L f) sz)) (va_Qi (fun r u => r = 1 ∧ u = (se_nd (xs_l σ 0 ((σ.2.1 0) + z)) v0 3, L, va_up f cq (.inr (0, [.int v0, .int v1, .ref v2, .int v3, .int v4, .int 1, .int v6, .int v7, .int v8, .int v9, .int v10, .int v11, .long z])))) (fun u t => ct_B (dC, dI) vwCl (ty_K cA) (va_A (xc_W Q cA σ ++ va_pl L f) sz) (xc_W Q cA u.1 ++ va_pl u.2.1 u.2.2) t) (va_A (xc_W Q cA σ ++ va_pl L f) sz)) 0 0 (va_A (xc_W Q cA σ ++ va_pl L f) sz) := by
  refine Met.ofW (cc := cX3_pay) (maxL := 4) (ret := (some .int)) (by decide) rfl ?_
  intro p e s m args below meth c s₁ B hml hv
  obtain ⟨rfl, hsz, hP, hK, hD0⟩ := hv
  have hx := B.exec
  have hb := B.bytes
  have hr := B.returns
  have hts := atoms_spec (ws := wsX3_pay) B.pre
  have hown : s.vm.findClass RX3 = some m.cls := findClass_of_methodNamed B.named
  have hlocks := B.notSynchronized
  subst hsz
  have hD := hD0.self (sz := s.heap.size)
  generalize hAe : va_A (xc_W Q cA σ ++ va_pl L f) s.heap.size = A at hD ⊢
  have hA : ∀ q : Nat, s.heap.size ≤ q → A q := fun q h => by rw [← hAe]; exact Or.inr h
  clear hAe hD0
  have hS : va_S A s.heap s.heap [] := va_S.rf
  have hl := lv_entry ([.ref (Q 0), .ref cq, .long z]) (n := 4) (Nat.le_of_ble_eq_true rfl)
  rw [lg_entry_eq]
  generalize (lg_sl ([.ref (Q 0), .ref cq, .long z]) ++ List.replicate (4 - (lg_sl ([.ref (Q 0), .ref cq, .long z])).length) Slot.unset).toArray = ls at hl ⊢
  have hl : lv_has ls 4 [(0, .ref (Q 0)), (1, .ref cq), (2, .long z)] := hl
  have lk0 := hts (.fieldLink RX3 120 "ClaimRows$Claim" "state" "I") (List.mem_cons_of_mem _ wd_129)
  have lk1 := hts (.fieldLink RX3 163 "ClaimRows$Claim" "paidSum" "J") (List.mem_cons_of_mem _ wd_140)
  have lk2 := hts (.fieldLink RX3 230 "ClaimRows" "paidInAll" "J") (List.mem_cons_of_mem _ wd_32)
  have lk3 := hts (.fieldLink RX3 199 "ClaimRows$Claim" "number" "I") (List.mem_cons_of_mem _ wd_119)
  have in0 : ∀ w ∈ u_ws RX0 TX0 13, w ∈ wsX3_pay := fun w h => List.mem_cons_of_mem _ (wu_X0 w h)
  have in1 : ∀ w ∈ u_ws RX3 TX3 16, w ∈ wsX3_pay := fun w h => List.mem_cons_of_mem _ (wu_X3 w h)
  refine lv_aload_n hx hb dX3_pay_0 rfl (lv_at hl 1 rfl) ?_
  refine lv_iconst (v := 1) hx hb dX3_pay_1 (by decide) ?_
  refine hp_put (D := (dC, dI)) (ci := 0) (v := .int 1) (ty := .int) (C := RX0) (T := TX0) (N := 13) hx hb hts in0 tyX0 tyX0_ok nmX0 hown hK hP hD hS hc hg rfl 5 (by decide) lk0 (fun _ h9 => h9) rfl (by decide +kernel) rfl rfl (Nat.le_of_ble_eq_true rfl) dX3_pay_2 (fs' := [.int v0, .int v1, .ref v2, .int v3, .int v4, .int 1, .int v6, .int v7, .int v8, .int v9, .int v10, .int v11, .long v12]) rfl (fun H locs hP hD hS => ?_)
  obtain ⟨f_1, ef_1⟩ : ∃ y9, y9 = va_up f cq (.inr (0, [.int v0, .int v1, .ref v2, .int v3, .int v4, .int 1, .int v6, .int v7, .int v8, .int v9, .int v10, .int v11, .long v12])) := ⟨_, rfl⟩
  rw [← ef_1] at hP hD
  have hf_1_cq : f_1 cq = .inr (0, [.int v0, .int v1, .ref v2, .int v3, .int v4, .int 1, .int v6, .int v7, .int v8, .int v9, .int v10, .int v11, .long v12]) := by rw [ef_1]; exact va_up_self _ _ _
  refine lv_aload_n hx hb dX3_pay_5 rfl (lv_at hl 1 rfl) ?_
  refine lv_lload_n hx hb dX3_pay_6 rfl (lv_at hl 2 rfl) ?_
  refine hp_put (D := (dC, dI)) (ci := 0) (v := .long z) (ty := .long) (C := RX0) (T := TX0) (N := 13) hx hb hts in0 tyX0 tyX0_ok nmX0 hown hK hP hD hS hc hf_1_cq rfl 12 (by decide) lk1 (fun _ h9 => h9) rfl (by decide +kernel) rfl rfl (Nat.le_of_ble_eq_true rfl) dX3_pay_7 (fs' := [.int v0, .int v1, .ref v2, .int v3, .int v4, .int 1, .int v6, .int v7, .int v8, .int v9, .int v10, .int v11, .long z]) rfl (fun H locs hP hD hS => ?_)
  obtain ⟨f_2, ef_2⟩ : ∃ y9, y9 = va_up f_1 cq (.inr (0, [.int v0, .int v1, .ref v2, .int v3, .int v4, .int 1, .int v6, .int v7, .int v8, .int v9, .int v10, .int v11, .long z])) := ⟨_, rfl⟩
  rw [← ef_2] at hP hD
  have hf_2_cq : f_2 cq = .inr (0, [.int v0, .int v1, .ref v2, .int v3, .int v4, .int 1, .int v6, .int v7, .int v8, .int v9, .int v10, .int v11, .long z]) := by rw [ef_2]; exact va_up_self _ _ _
  refine lv_aload_n hx hb dX3_pay_10 rfl (lv_at hl 0 rfl) ?_
  refine lv_dup hx hb dX3_pay_11 rfl ?_
  refine va_get (D := (dC, dI)) (ci := 3) (v := .long (σ.2.1 0)) (C := RX3) (T := TX3) (N := 16) hx hb hts in1 hown hK hP 0 (xc_W_0 _ _) rfl 13 (by decide) lk2 (fun _ h9 => h9) rfl dX3_pay_12 ?_
  refine lv_lload_n hx hb dX3_pay_15 rfl (lv_at hl 2 rfl) ?_
  refine lv_ladd hx hb dX3_pay_16 ?_
  refine va_put (D := (dC, dI)) (ci := 3) (v := .long ((σ.2.1 0) + z)) (ty := .long) (C := RX3) (T := TX3) (N := 16) hx hb hts in1 tyX3 tyX3_ok nmX3 hown hK hP hD hS 0 (xc_W_0 _ _) rfl 13 (by decide) lk2 (fun _ h9 => h9) rfl (by decide +kernel) rfl rfl (Nat.le_of_ble_eq_true rfl) dX3_pay_17 (fun H locs hP hD hS => ?_)
  have hP : va_P (dC, dI) vwCl (xc_W Q cA (xs_l σ 0 ((σ.2.1 0) + z)) ++ va_pl L f_2) H := hP
  have hD : va_D A (xc_W Q cA (xs_l σ 0 ((σ.2.1 0) + z)) ++ va_pl L f_2) := hD
  refine lv_aload_n hx hb dX3_pay_20 rfl (lv_at hl 0 rfl) ?_
  refine lv_aload_n hx hb dX3_pay_21 rfl (lv_at hl 1 rfl) ?_
  refine hp_get (D := (dC, dI)) (ci := 0) (v := .int v0) (C := RX0) (T := TX0) (N := 13) hx hb hts in0 hown hK hP hc hf_2_cq rfl 0 (by decide) lk3 (fun _ h9 => h9) rfl dX3_pay_22 ?_
  refine lv_iconst (v := 3) hx hb dX3_pay_25 (by decide) ?_
  have hFc := ct_free hD hS hA
  refine va_callv (va_runV (As := [.int v0, .int 3]) (rest := []) ⟨hx, hb, hml, hown, hts⟩ (mt_send l dC dI cA H.size Q (xs_l σ 0 ((σ.2.1 0) + z)) L f_2 mq (show (xs_l σ 0 ((σ.2.1 0) + z)).1 3 = nI mq from hm) hb9 v0 3) (cwV 2 hts (al_gV wd_141 wd_143 wd_142 wd_1 wd_144) rfl rfl rfl (by decide +kernel) ⟨Nat.le_of_ble_eq_true rfl, Nat.le_of_ble_eq_true rfl⟩) ⟨ct_blM, va_recv hK hP (ci := 3) (q0 := 0) rfl (xc_W_0 _ _), ct_atM hP hK hD⟩ rfl rfl hl.1 rfl (lv_room (Nat.le_of_ble_eq_true rfl)) dX3_pay_26 ⟨Nat.le_of_ble_eq_true rfl, Nat.le_of_ble_eq_true rfl⟩) hS (fun q _ h => hFc q h) hFc (fun u26 t H1 locs ht hvm hr26 hB hz1 hk1 hS => ?_)
  obtain ⟨hP, -, hD1⟩ := hB
  rw [ht] at hP
  have hD := hD1.weaken (fun _ _ _ h => hFc _ h)
  clear hD1 hk1 hz1 hFc hvm
  generalize H1 = H at hP hS ht ⊢
  clear ht
  refine W.widen (k := 0) (n := 0) (by decide) (by decide) ?_
  subst hr26
  have hP : va_P (dC, dI) vwCl (xc_W Q cA (se_nd (xs_l σ 0 ((σ.2.1 0) + z)) v0 3) ++ va_pl L f_2) H := hP
  have hD : va_D A (xc_W Q cA (se_nd (xs_l σ 0 ((σ.2.1 0) + z)) v0 3) ++ va_pl L f_2) := hD
  refine lv_iconst (v := 1) hx hb dX3_pay_29 (by decide) ?_
  exact W.iret (v := 1) hx hb hr (fun t ht hW => ⟨⟨1, ((se_nd (xs_l σ 0 ((σ.2.1 0) + z)) v0 3), L, f_2), rfl, ⟨rfl, by rw [ef_2, ef_1]; simp only [bx_uu]⟩, by rw [ht]; exact hP, va_K.moved hW.alike hK, hD⟩, hS.F ht⟩) hS.2.2 dX3_pay_30
