set_option maxHeartbeats 4000000 in
set_option maxRecDepth 100000 in
/-- mt_decide -/
theorem mt_decide (l : Launch) (dC : Nat → ClassId) (dI : Nat → Nat → Nat) (cA : Nat → ClassId) (sz : Nat) (Q : Nat → Nat) (σ : xs_T) (n : nn_T) (co : co_T) (L : List Nat) (f : Nat → va_E) (ad : ad_T) (hR : re_A cA σ n co L f ad) (hT : n.2.2.2 < 100000) (x1 x2 : Int32) : Met l yX3_decide wsX3_decide ({ frames := 2, cells := 0, slots := 0, locals := 47 }) (va_Pc [.ref (Q 0), .int x1, .int x2] (ct_M (dC, dI) vwCl (ty_K cA) (xc_W Q cA σ ++ va_pl L f) sz)) (va_Qi (fun r u => (r, u) = kc_decide (σ, co) x1 x2) (fun u t => ∃ (ra : Nat → Nat → Option Nat) (n' : nn_T) (L' : List Nat) (f' : Nat → va_E) (ad' : ad_T), n'.2.2.2 ≤ n.2.2.2 + 1 ∧ re_A cA (xs_r u.1 ra) n' u.2 L' f' ad' ∧ ct_B (dC, dI) vwCl (ty_K cA) (va_A (xc_W Q cA σ ++ va_pl L f) sz) (xc_W Q cA (xs_r u.1 ra) ++ va_pl L' f') t) (va_A (xc_W Q cA σ ++ va_pl L f) sz)) 0 0 (va_A (xc_W Q cA σ ++ va_pl L f) sz) := by
  refine Met.ofW (cc := cX3_decide) (maxL := 6) (ret := (some .int)) (by decide) rfl ?_
  intro p e s m args below meth c s₁ B hml hv
  obtain ⟨rfl, hsz, hP, hK, hD0⟩ := hv
  have hx := B.exec
  have hb := B.bytes
  have hr := B.returns
  have hts := atoms_spec (ws := wsX3_decide) B.pre
  have hown : s.vm.findClass RX3 = some m.cls := findClass_of_methodNamed B.named
  have hlocks := B.notSynchronized
  subst hsz
  have hD := hD0.self (sz := s.heap.size)
  generalize hAe : va_A (xc_W Q cA σ ++ va_pl L f) s.heap.size = A at hD ⊢
  have hA : ∀ q : Nat, s.heap.size ≤ q → A q := fun q h => by rw [← hAe]; exact Or.inr h
  clear hAe hD0
  have hS : va_S A s.heap s.heap [] := va_S.rf
  have hl := lv_entry ([.ref (Q 0), .int x1, .int x2]) (n := 6) (Nat.le_of_ble_eq_true rfl)
  rw [lg_entry_eq]
  generalize (lg_sl ([.ref (Q 0), .int x1, .int x2]) ++ List.replicate (6 - (lg_sl ([.ref (Q 0), .int x1, .int x2])).length) Slot.unset).toArray = ls at hl ⊢
  have hl : lv_has ls 6 [(0, .ref (Q 0)), (1, .int x1), (2, .int x2)] := hl
  have lk0 := hts (.fieldLink RX3 175 "ClaimRows$Claim" "seenWhole" "Z") (List.mem_cons_of_mem _ wd_136)
  have lk1 := hts (.fieldLink RX3 35 "ClaimRows" "limits" "[J") (List.mem_cons_of_mem _ wd_27)
  have in0 : ∀ w ∈ u_ws RX0 TX0 13, w ∈ wsX3_decide := fun w h => List.mem_cons_of_mem _ (wu_X0 w h)
  have in1 : ∀ w ∈ u_ws RX3 TX3 16, w ∈ wsX3_decide := fun w h => List.mem_cons_of_mem _ (wu_X3 w h)
  have hn0 : (σ.1 0).toNatClampNeg = n.1 := by rw [hR.1.1]; exact nI_clamp (by have := hR.1.2.1; omega)
  have hn1 : (σ.1 1).toNatClampNeg = n.2.1 := by rw [hR.1.2.2.1]; exact nI_clamp (by have := hR.1.2.2.2.1; omega)
  have hn2 : (σ.1 2).toNatClampNeg = n.2.2.1 := by rw [hR.1.2.2.2.2.1]; exact nI_clamp (by have := hR.1.2.2.2.2.2.1; omega)
  refine lv_aload_n hx hb dX3_decide_0 rfl (lv_at hl 0 rfl) ?_
  refine lv_iload_n hx hb dX3_decide_1 rfl (lv_at hl 1 rfl) ?_
  refine va_csq (va_Run.run (va_runV (As := [.int x1]) (rest := []) ⟨hx, hb, hml, hown, hts⟩ (mt_claimNumbered l dC dI cA Q σ n co L f ad hR x1) (cwV 1 hts (al_gV wd_105 wd_107 wd_106 wd_1 wd_108) rfl rfl rfl (by decide +kernel) ⟨Nat.le_of_ble_eq_true rfl, Nat.le_of_ble_eq_true rfl⟩) ⟨ct_blR, va_recv hK hP (ci := 3) (q0 := 0) rfl (xc_W_0 _ _), ct_atR hP hK⟩ rfl rfl hl.1 rfl (lv_room (Nat.le_of_ble_eq_true rfl)) dX3_decide_2 ⟨Nat.le_of_ble_eq_true rfl, Nat.le_of_ble_eq_true rfl⟩)) (fun r2 hr2 => ?_)
  rcases hr2 with ⟨j2, hj2, hm2, ex2, rfl⟩ | ⟨hm2, rfl⟩
  · have hC1 := hR.2.2.1 j2 hj2
    have hC1v := hR.2.2.2.2.1.2.1 j2 hj2
    have hC1a : f (ad.2.2.1 j2) = .inr (0, [.int (nI (j2 + 1)), .int (co.2.1 6 j2), .ref (ad.1 (co.1 0 j2)), .int (co.2.1 7 j2), .int (co.2.1 8 j2), .int (co.2.1 9 j2), .int (co.2.1 10 j2), .int (co.2.1 11 j2), .int (co.2.1 12 j2), .int (co.2.1 13 j2), .int (co.2.1 14 j2), .int (co.2.1 15 j2), .long (co.2.2.1 2 j2)]) := hC1.2.2
    have hI2 := hR.2.1 (co.1 0 j2) hC1v.1
    have hI2a : f (ad.1 (co.1 0 j2)) = .inr (1, [.int (co.2.1 0 (co.1 0 j2)), .long (co.2.2.1 0 (co.1 0 j2)), .long (co.2.2.1 1 (co.1 0 j2)), .int (co.2.1 1 (co.1 0 j2)), .int (co.2.1 2 (co.1 0 j2)), .ref (ad.2.1 (co.1 0 j2)), .int (co.2.1 3 (co.1 0 j2)), .int (co.2.1 4 (co.1 0 j2)), .int (co.2.1 5 (co.1 0 j2))]) := hI2.2.2.1
    have hI2p : f (ad.2.1 (co.1 0 j2)) = .inl ((cA 0), 8, .inl (co.2.2.2 (co.1 0 j2))) := hI2.2.2.2.2
    refine lv_astore_n (lv' := [(3, .ref (ad.2.2.1 j2)), (0, .ref (Q 0)), (1, .int x1), (2, .int x2)]) hx hb dX3_decide_5 rfl hl (by decide) rfl (fun ls hl => ?_)
    refine lv_aload_n hx hb dX3_decide_6 rfl (lv_at hl 0 rfl) ?_
    refine lv_ifnonnull (tgt := 13) hx hb dX3_decide_7 (by decide) ?_
    refine lv_iload_n hx hb dX3_decide_13 rfl (lv_at hl 3 rfl) ?_
    refine lv_bipush (v := 10) hx hb dX3_decide_14 (by decide) ?_
    refine vp_callSi (va_Run.run (va_runS (As := [.int x2, .int 10]) (rest := []) ⟨hx, hb, hml, hown, hts⟩ (mt_isBelow l x2 10) (va_cwS 2 hts (al_gS wd_41 wd_42 wd_1 wd_43) rfl rfl rfl (by decide +kernel) ⟨Nat.le_of_ble_eq_true rfl, Nat.le_of_ble_eq_true rfl⟩) ⟨ct_bl0, ct_at0⟩ rfl rfl hl.1 rfl (lv_room (Nat.le_of_ble_eq_true rfl)) dX3_decide_16 ⟨Nat.le_of_ble_eq_true rfl, Nat.le_of_ble_eq_true rfl⟩)) (fun r16 hr16 => ?_)
    subst hr16
    refine lv_if_ne (tgt := 25) hx hb dX3_decide_19 (by decide) (fun c19 => ?_) (fun c19 => ?_)
    · have c19 := of_decide_eq_true (bb_n.mp c19)
      refine lv_aload_n hx hb dX3_decide_25 rfl (lv_at hl 0 rfl) ?_
      refine vp_callSi (va_Run.run (va_runV (As := []) (rest := []) ⟨hx, hb, hml, hown, hts⟩ (mt_isReady l dC dI cA (xc_W Q cA σ) L f (ad.2.2.1 j2) hC1.2.1 (nI (j2 + 1)) (co.2.1 6 j2) (ad.1 (co.1 0 j2)) (co.2.1 7 j2) (co.2.1 8 j2) (co.2.1 9 j2) (co.2.1 10 j2) (co.2.1 11 j2) (co.2.1 12 j2) (co.2.1 13 j2) (co.2.1 14 j2) (co.2.1 15 j2) (co.2.2.1 2 j2) hC1a) (cwV 0 hts (al_gV wd_214 wd_215 wd_216 wd_4 wd_217) rfl rfl rfl (by decide +kernel) ⟨Nat.le_of_ble_eq_true rfl, Nat.le_of_ble_eq_true rfl⟩) ⟨ct_blR, hp_recv hK hP (ci := 0) rfl hC1.2.1 hC1a, ct_atR hP hK⟩ rfl rfl hl.1 rfl (lv_room (Nat.le_of_ble_eq_true rfl)) dX3_decide_26 ⟨Nat.le_of_ble_eq_true rfl, Nat.le_of_ble_eq_true rfl⟩)) (fun r26 hr26 => ?_)
      subst hr26
      refine lv_if_ne (tgt := 35) hx hb dX3_decide_29 (by decide) (fun c29 => ?_) (fun c29 => ?_)
      · have c29 := of_decide_eq_true (bb_n.mp c29)
        refine lv_aload_n hx hb dX3_decide_35 rfl (lv_at hl 0 rfl) ?_
        refine hp_get (D := (dC, dI)) (ci := 0) (v := .int (co.2.1 13 j2)) (C := RX0) (T := TX0) (N := 13) hx hb hts in0 hown hK hP hC1.2.1 hC1a rfl 9 (by decide) lk0 (fun _ h9 => h9) rfl dX3_decide_36 ?_
        refine lv_if_eq (tgt := 48) hx hb dX3_decide_39 (by decide) (fun c39 => ?_) (fun c39 => ?_)
        · refine lv_aload_n hx hb dX3_decide_48 rfl (lv_at hl 1 rfl) ?_
          refine lv_aload_n hx hb dX3_decide_49 rfl (lv_at hl 0 rfl) ?_
          refine vp_callSl (va_Run.run (va_runV (As := [.ref (ad.2.2.1 j2)]) (rest := []) ⟨hx, hb, hml, hown, hts⟩ (mt_sumByTable l dC dI cA Q σ n co L f ad hR j2 hj2) (cwV 1 hts (al_gV wd_198 wd_200 wd_199 wd_1 wd_201) rfl rfl rfl (by decide +kernel) ⟨Nat.le_of_ble_eq_true rfl, Nat.le_of_ble_eq_true rfl⟩) ⟨ct_blR, va_recv hK hP (ci := 3) (q0 := 0) rfl (xc_W_0 _ _), ct_atR hP hK⟩ rfl rfl hl.1 rfl (lv_room (Nat.le_of_ble_eq_true rfl)) dX3_decide_50 ⟨Nat.le_of_ble_eq_true rfl, Nat.le_of_ble_eq_true rfl⟩)) (fun r50 hr50 => ?_)
          subst hr50
          refine lv_lstore (lv' := [(4, .long (su_m σ co j2)), (3, .ref (ad.2.2.1 j2)), (0, .ref (Q 0)), (1, .int x1), (2, .int x2)]) hx hb dX3_decide_53 hl (by decide) rfl (fun ls hl => ?_)
          refine lv_lload hx hb dX3_decide_55 (lv_at hl 0 rfl) ?_
          refine lv_aload_n hx hb dX3_decide_57 rfl (lv_at hl 2 rfl) ?_
          refine va_get (D := (dC, dI)) (ci := 3) (v := .ref (Q 6)) (C := RX3) (T := TX3) (N := 16) hx hb hts in1 hown hK hP 0 (xc_W_0 _ _) rfl 8 (by decide) lk1 (fun _ h9 => h9) rfl dX3_decide_58 ?_
          refine lv_iload_n hx hb dX3_decide_61 rfl (lv_at hl 4 rfl) ?_
          refine va_lald hx hb hK hP 6 1 (xc_W_6 _ _) rfl (nu_b (b := 10) c19) dX3_decide_62 ?_
          refine W.lcmp hx hb dX3_decide_63 ?_
          refine lv_if_le (tgt := 70) hx hb dX3_decide_64 (by decide) (fun c64 => ?_) (fun c64 => ?_)
          · refine lv_aload_n hx hb dX3_decide_70 rfl (lv_at hl 2 rfl) ?_
            refine lv_aload_n hx hb dX3_decide_71 rfl (lv_at hl 1 rfl) ?_
            refine lv_lload hx hb dX3_decide_72 (lv_at hl 0 rfl) ?_
            have hFc := ct_free hD hS hA
            refine va_calli (va_runV (As := [.ref (ad.2.2.1 j2), .long (su_m σ co j2)]) (rest := []) ⟨hx, hb, hml, hown, hts⟩ (mt_pay l dC dI cA s.heap.size Q σ L f n.2.2.2 (show (σ).1 3 = nI n.2.2.2 from hR.1.2.2.2.2.2.2) (by omega) (ad.2.2.1 j2) hC1.2.1 (nI (j2 + 1)) (co.2.1 6 j2) (ad.1 (co.1 0 j2)) (co.2.1 7 j2) (co.2.1 8 j2) (co.2.1 9 j2) (co.2.1 10 j2) (co.2.1 11 j2) (co.2.1 12 j2) (co.2.1 13 j2) (co.2.1 14 j2) (co.2.1 15 j2) (co.2.2.1 2 j2) hC1a (su_m σ co j2)) (cwV 2 hts (al_gV wd_222 wd_224 wd_223 wd_1 wd_225) rfl rfl rfl (by decide +kernel) ⟨Nat.le_of_ble_eq_true rfl, Nat.le_of_ble_eq_true rfl⟩) ⟨ct_blM, va_recv hK hP (ci := 3) (q0 := 0) rfl (xc_W_0 _ _), ct_atM hP hK hD⟩ rfl rfl hl.1 rfl (lv_room (Nat.le_of_ble_eq_true rfl)) dX3_decide_74 ⟨Nat.le_of_ble_eq_true rfl, Nat.le_of_ble_eq_true rfl⟩) hS (fun q _ h => hFc q h) hFc (fun r74 u74 t H1 locs ht hvm hr74 hB hz1 hk1 hS => ?_)
            obtain ⟨hP, -, hD1⟩ := hB
            rw [ht] at hP
            have hD := hD1.weaken (fun _ _ _ h => hFc _ h)
            clear hD1 hk1 hz1 hFc hvm
            generalize H1 = H at hP hS ht ⊢
            clear ht
            refine W.widen (k := 0) (n := 0) (by decide) (by decide) ?_
            obtain ⟨rfl, rfl⟩ := hr74
            have hP : va_P (dC, dI) vwCl (xc_W Q cA (se_nd (xs_l σ 0 ((σ.2.1 0) + (su_m σ co j2))) (nI (j2 + 1)) 3) ++ va_pl L (va_up f (ad.2.2.1 j2) (.inr (0, [.int (nI (j2 + 1)), .int (co.2.1 6 j2), .ref (ad.1 (co.1 0 j2)), .int (co.2.1 7 j2), .int (co.2.1 8 j2), .int 1, .int (co.2.1 10 j2), .int (co.2.1 11 j2), .int (co.2.1 12 j2), .int (co.2.1 13 j2), .int (co.2.1 14 j2), .int (co.2.1 15 j2), .long (su_m σ co j2)])))) H := hP
            have hD : va_D A (xc_W Q cA (se_nd (xs_l σ 0 ((σ.2.1 0) + (su_m σ co j2))) (nI (j2 + 1)) 3) ++ va_pl L (va_up f (ad.2.2.1 j2) (.inr (0, [.int (nI (j2 + 1)), .int (co.2.1 6 j2), .ref (ad.1 (co.1 0 j2)), .int (co.2.1 7 j2), .int (co.2.1 8 j2), .int 1, .int (co.2.1 10 j2), .int (co.2.1 11 j2), .int (co.2.1 12 j2), .int (co.2.1 13 j2), .int (co.2.1 14 j2), .int (co.2.1 15 j2), .long (su_m σ co j2)])))) := hD
            obtain ⟨f_1, ef_1⟩ : ∃ y9, y9 = va_up f (ad.2.2.1 j2) (.inr (0, [.int (nI (j2 + 1)), .int (co.2.1 6 j2), .ref (ad.1 (co.1 0 j2)), .int (co.2.1 7 j2), .int (co.2.1 8 j2), .int 1, .int (co.2.1 10 j2), .int (co.2.1 11 j2), .int (co.2.1 12 j2), .int (co.2.1 13 j2), .int (co.2.1 14 j2), .int (co.2.1 15 j2), .long (su_m σ co j2)])) := ⟨_, rfl⟩
            rw [← ef_1] at hP hD
            have hf_1_ad1co10j2 : f_1 (ad.1 (co.1 0 j2)) = .inr (1, [.int (co.2.1 0 (co.1 0 j2)), .long (co.2.2.1 0 (co.1 0 j2)), .long (co.2.2.1 1 (co.1 0 j2)), .int (co.2.1 1 (co.1 0 j2)), .int (co.2.1 2 (co.1 0 j2)), .ref (ad.2.1 (co.1 0 j2)), .int (co.2.1 3 (co.1 0 j2)), .int (co.2.1 4 (co.1 0 j2)), .int (co.2.1 5 (co.1 0 j2))]) := by rw [ef_1, va_up_ne _ _ (ct_ne hI2a hC1a (by simp))]; exact hI2a
            have hf_1_ad21co10j2 : f_1 (ad.2.1 (co.1 0 j2)) = .inl ((cA 0), 8, .inl (co.2.2.2 (co.1 0 j2))) := by rw [ef_1, va_up_ne _ _ (ct_ne hI2p hC1a (by simp))]; exact hI2p
            have hf_1_ad221j2 : f_1 (ad.2.2.1 j2) = .inr (0, [.int (nI (j2 + 1)), .int (co.2.1 6 j2), .ref (ad.1 (co.1 0 j2)), .int (co.2.1 7 j2), .int (co.2.1 8 j2), .int 1, .int (co.2.1 10 j2), .int (co.2.1 11 j2), .int (co.2.1 12 j2), .int (co.2.1 13 j2), .int (co.2.1 14 j2), .int (co.2.1 15 j2), .long (su_m σ co j2)]) := by rw [ef_1]; exact va_up_self _ _ _
            exact W.iret (v := 1) hx hb hr (fun t ht hW => ⟨⟨1, ((se_nd (xs_l σ 0 ((σ.2.1 0) + (su_m σ co j2))) (nI (j2 + 1)) 3), (co.1, up_2 co.2.1 9 j2 1, up_2 co.2.2.1 2 j2 (su_m σ co j2), co.2.2.2)), rfl, (by simp only [kc_decide, hm2, if_pos c19, if_pos c29, if_pos c39, if_neg (fun q => absurd (lc_gt.mpr q) (Int32.not_lt.mpr c64)), Option.elim]), ((se_nd (xs_l σ 0 ((σ.2.1 0) + (su_m σ co j2))) (nI (j2 + 1)) 3)).2.2.2.2, (n.1, n.2.1, n.2.2.1, n.2.2.2 + 1), L, f_1, ad, Nat.le_refl _, by rw [ef_1]; exact re_x (re_setC hR hj2 (py_ag (hR.2.2.2.2.1.2.1 j2 hj2).2.2.2 _) (py_ce _ _ _ _)) (n.2.2.2 + 1) (sn_0 _ _ _ 0 (by decide)) (sn_0 _ _ _ 1 (by decide)) (sn_0 _ _ _ 2 (by decide)) (sn_3 (σ := (xs_l σ 0 ((σ.2.1 0) + (su_m σ co j2)))) (show ((xs_l σ 0 ((σ.2.1 0) + (su_m σ co j2)))).1 3 = nI n.2.2.2 from hR.1.2.2.2.2.2.2) _ _) (sn_r _ _ _), by rw [ht]; exact hP, va_K.moved hW.alike hK, hD⟩, hS.F ht⟩) hS.2.2 dX3_decide_77
          · refine lv_bipush (v := (-107)) hx hb dX3_decide_67 (by decide) ?_
            exact W.iret (v := (-107)) hx hb hr (fun t ht hW => ⟨⟨(-107), (σ, co), rfl, (by simp only [kc_decide, hm2, if_pos c19, if_pos c29, if_pos c39, if_pos (lc_gt.mp (Int32.not_le.mp c64)), Option.elim, hn0, hn1, hn2]), σ.2.2.2.2, n, L, f, ad, Nat.le_succ _, hR, by rw [ht]; exact hP, va_K.moved hW.alike hK, hD⟩, hS.F ht⟩) hS.2.2 dX3_decide_69
        · refine lv_aload_n hx hb dX3_decide_42 rfl (lv_at hl 1 rfl) ?_
          refine lv_aload_n hx hb dX3_decide_43 rfl (lv_at hl 0 rfl) ?_
          have hFc := ct_free hD hS hA
          refine va_calli (va_runV (As := [.ref (ad.2.2.1 j2)]) (rest := []) ⟨hx, hb, hml, hown, hts⟩ (mt_refuse l dC dI cA s.heap.size Q σ L f n.2.2.2 (show (σ).1 3 = nI n.2.2.2 from hR.1.2.2.2.2.2.2) (by omega) (ad.2.2.1 j2) hC1.2.1 (nI (j2 + 1)) (co.2.1 6 j2) (ad.1 (co.1 0 j2)) (co.2.1 7 j2) (co.2.1 8 j2) (co.2.1 9 j2) (co.2.1 10 j2) (co.2.1 11 j2) (co.2.1 12 j2) (co.2.1 13 j2) (co.2.1 14 j2) (co.2.1 15 j2) (co.2.2.1 2 j2) hC1a ) (cwV 1 hts (al_gV wd_218 wd_220 wd_219 wd_1 wd_221) rfl rfl rfl (by decide +kernel) ⟨Nat.le_of_ble_eq_true rfl, Nat.le_of_ble_eq_true rfl⟩) ⟨ct_blM, va_recv hK hP (ci := 3) (q0 := 0) rfl (xc_W_0 _ _), ct_atM hP hK hD⟩ rfl rfl hl.1 rfl (lv_room (Nat.le_of_ble_eq_true rfl)) dX3_decide_44 ⟨Nat.le_of_ble_eq_true rfl, Nat.le_of_ble_eq_true rfl⟩) hS (fun q _ h => hFc q h) hFc (fun r44 u44 t H1 locs ht hvm hr44 hB hz1 hk1 hS => ?_)
          obtain ⟨hP, -, hD1⟩ := hB
          rw [ht] at hP
          have hD := hD1.weaken (fun _ _ _ h => hFc _ h)
          clear hD1 hk1 hz1 hFc hvm
          generalize H1 = H at hP hS ht ⊢
          clear ht
          refine W.widen (k := 0) (n := 0) (by decide) (by decide) ?_
          obtain ⟨rfl, rfl⟩ := hr44
          have hP : va_P (dC, dI) vwCl (xc_W Q cA (se_nd (xs_i σ 5 ((σ.1 5) + 1)) (nI (j2 + 1)) 4) ++ va_pl L (va_up f (ad.2.2.1 j2) (.inr (0, [.int (nI (j2 + 1)), .int (co.2.1 6 j2), .ref (ad.1 (co.1 0 j2)), .int (co.2.1 7 j2), .int (co.2.1 8 j2), .int 2, .int (co.2.1 10 j2), .int (co.2.1 11 j2), .int (co.2.1 12 j2), .int (co.2.1 13 j2), .int (co.2.1 14 j2), .int (co.2.1 15 j2), .long (co.2.2.1 2 j2)])))) H := hP
          have hD : va_D A (xc_W Q cA (se_nd (xs_i σ 5 ((σ.1 5) + 1)) (nI (j2 + 1)) 4) ++ va_pl L (va_up f (ad.2.2.1 j2) (.inr (0, [.int (nI (j2 + 1)), .int (co.2.1 6 j2), .ref (ad.1 (co.1 0 j2)), .int (co.2.1 7 j2), .int (co.2.1 8 j2), .int 2, .int (co.2.1 10 j2), .int (co.2.1 11 j2), .int (co.2.1 12 j2), .int (co.2.1 13 j2), .int (co.2.1 14 j2), .int (co.2.1 15 j2), .long (co.2.2.1 2 j2)])))) := hD
          obtain ⟨f_2, ef_2⟩ : ∃ y9, y9 = va_up f (ad.2.2.1 j2) (.inr (0, [.int (nI (j2 + 1)), .int (co.2.1 6 j2), .ref (ad.1 (co.1 0 j2)), .int (co.2.1 7 j2), .int (co.2.1 8 j2), .int 2, .int (co.2.1 10 j2), .int (co.2.1 11 j2), .int (co.2.1 12 j2), .int (co.2.1 13 j2), .int (co.2.1 14 j2), .int (co.2.1 15 j2), .long (co.2.2.1 2 j2)])) := ⟨_, rfl⟩
          rw [← ef_2] at hP hD
          have hf_2_ad1co10j2 : f_2 (ad.1 (co.1 0 j2)) = .inr (1, [.int (co.2.1 0 (co.1 0 j2)), .long (co.2.2.1 0 (co.1 0 j2)), .long (co.2.2.1 1 (co.1 0 j2)), .int (co.2.1 1 (co.1 0 j2)), .int (co.2.1 2 (co.1 0 j2)), .ref (ad.2.1 (co.1 0 j2)), .int (co.2.1 3 (co.1 0 j2)), .int (co.2.1 4 (co.1 0 j2)), .int (co.2.1 5 (co.1 0 j2))]) := by rw [ef_2, va_up_ne _ _ (ct_ne hI2a hC1a (by simp))]; exact hI2a
          have hf_2_ad21co10j2 : f_2 (ad.2.1 (co.1 0 j2)) = .inl ((cA 0), 8, .inl (co.2.2.2 (co.1 0 j2))) := by rw [ef_2, va_up_ne _ _ (ct_ne hI2p hC1a (by simp))]; exact hI2p
          have hf_2_ad221j2 : f_2 (ad.2.2.1 j2) = .inr (0, [.int (nI (j2 + 1)), .int (co.2.1 6 j2), .ref (ad.1 (co.1 0 j2)), .int (co.2.1 7 j2), .int (co.2.1 8 j2), .int 2, .int (co.2.1 10 j2), .int (co.2.1 11 j2), .int (co.2.1 12 j2), .int (co.2.1 13 j2), .int (co.2.1 14 j2), .int (co.2.1 15 j2), .long (co.2.2.1 2 j2)]) := by rw [ef_2]; exact va_up_self _ _ _
          exact W.iret (v := 2) hx hb hr (fun t ht hW => ⟨⟨2, ((se_nd (xs_i σ 5 ((σ.1 5) + 1)) (nI (j2 + 1)) 4), co_g co (up_2 co.2.1 9 j2 2)), rfl, (by simp only [kc_decide, hm2, if_pos c19, if_pos c29, if_neg c39, Option.elim]), ((se_nd (xs_i σ 5 ((σ.1 5) + 1)) (nI (j2 + 1)) 4)).2.2.2.2, (n.1, n.2.1, n.2.2.1, n.2.2.2 + 1), L, f_2, ad, Nat.le_refl _, by rw [ef_2]; exact re_x (re_setC hR hj2 (st_ag (hR.2.2.2.2.1.2.1 j2 hj2).2.2.2 _) (st_ce _ _ _ _)) (n.2.2.2 + 1) (sn_0 _ _ _ 0 (by decide)) (sn_0 _ _ _ 1 (by decide)) (sn_0 _ _ _ 2 (by decide)) (sn_3 (σ := (xs_i σ 5 ((σ.1 5) + 1))) (show ((xs_i σ 5 ((σ.1 5) + 1))).1 3 = nI n.2.2.2 from hR.1.2.2.2.2.2.2) _ _) (sn_r _ _ _), by rw [ht]; exact hP, va_K.moved hW.alike hK, hD⟩, hS.F ht⟩) hS.2.2 dX3_decide_47
      · have c29 := of_decide_eq_false (bb_0.mp c29)
        refine lv_bipush (v := (-103)) hx hb dX3_decide_32 (by decide) ?_
        exact W.iret (v := (-103)) hx hb hr (fun t ht hW => ⟨⟨(-103), (σ, co), rfl, (by simp only [kc_decide, hm2, if_pos c19, if_neg c29, Option.elim, hn0, hn1, hn2]), σ.2.2.2.2, n, L, f, ad, Nat.le_succ _, hR, by rw [ht]; exact hP, va_K.moved hW.alike hK, hD⟩, hS.F ht⟩) hS.2.2 dX3_decide_34
    · have c19 := of_decide_eq_false (bb_0.mp c19)
      refine lv_bipush (v := (-102)) hx hb dX3_decide_22 (by decide) ?_
      exact W.iret (v := (-102)) hx hb hr (fun t ht hW => ⟨⟨(-102), (σ, co), rfl, (by simp only [kc_decide, hm2, if_neg c19, Option.elim, hn0, hn1, hn2]), σ.2.2.2.2, n, L, f, ad, Nat.le_succ _, hR, by rw [ht]; exact hP, va_K.moved hW.alike hK, hD⟩, hS.F ht⟩) hS.2.2 dX3_decide_24
  · skip
    refine lv_astore_nN (lv' := [(3, .null), (0, .ref (Q 0)), (1, .int x1), (2, .int x2)]) hx hb dX3_decide_5 rfl hl (by decide) rfl (fun ls hl => ?_)
    refine lv_aload_nN hx hb dX3_decide_6 rfl (lv_at hl 0 rfl) ?_
    refine lv_ifnonnullN hx hb dX3_decide_7 ?_
    refine lv_bipush (v := (-101)) hx hb dX3_decide_10 (by decide) ?_
    exact W.iret (v := (-101)) hx hb hr (fun t ht hW => ⟨⟨(-101), (σ, co), rfl, (by simp only [kc_decide, hm2, Option.elim, hn0, hn1, hn2]), σ.2.2.2.2, n, L, f, ad, Nat.le_succ _, hR, by rw [ht]; exact hP, va_K.moved hW.alike hK, hD⟩, hS.F ht⟩) hS.2.2 dX3_decide_12
set_option maxHeartbeats 4000000 in
set_option maxRecDepth 100000 in
/-- mt_back -/
theorem mt_back (l : Launch) (dC : Nat → ClassId) (dI : Nat → Nat → Nat) (cA : Nat → ClassId) (sz : Nat) (Q : Nat → Nat) (σ : xs_T) (n : nn_T) (co : co_T) (L : List Nat) (f : Nat → va_E) (ad : ad_T) (hR : re_A cA σ n co L f ad) (hT : n.2.2.2 < 100000) (x1 : Int32) (b : Bool) : Met l yX3_back wsX3_back ({ frames := 2, cells := 0, slots := 0, locals := 46 }) (va_Pc [.ref (Q 0), .int x1, .int (bb_v b)] (ct_M (dC, dI) vwCl (ty_K cA) (xc_W Q cA σ ++ va_pl L f) sz)) (va_Qi (fun r u => (r, u) = kc_back (σ, co) x1 b) (fun u t => ∃ (ra : Nat → Nat → Option Nat) (n' : nn_T) (L' : List Nat) (f' : Nat → va_E) (ad' : ad_T), n'.2.2.2 ≤ n.2.2.2 + 1 ∧ re_A cA (xs_r u.1 ra) n' u.2 L' f' ad' ∧ ct_B (dC, dI) vwCl (ty_K cA) (va_A (xc_W Q cA σ ++ va_pl L f) sz) (xc_W Q cA (xs_r u.1 ra) ++ va_pl L' f') t) (va_A (xc_W Q cA σ ++ va_pl L f) sz)) 0 0 (va_A (xc_W Q cA σ ++ va_pl L f) sz) := by
  refine Met.ofW (cc := cX3_back) (maxL := 4) (ret := (some .int)) (by decide) rfl ?_
  intro p e s m args below meth c s₁ B hml hv
  obtain ⟨rfl, hsz, hP, hK, hD0⟩ := hv
  have hx := B.exec
  have hb := B.bytes
  have hr := B.returns
  have hts := atoms_spec (ws := wsX3_back) B.pre
  have hown : s.vm.findClass RX3 = some m.cls := findClass_of_methodNamed B.named
  have hlocks := B.notSynchronized
  subst hsz
  have hD := hD0.self (sz := s.heap.size)
  generalize hAe : va_A (xc_W Q cA σ ++ va_pl L f) s.heap.size = A at hD ⊢
  have hA : ∀ q : Nat, s.heap.size ≤ q → A q := fun q h => by rw [← hAe]; exact Or.inr h
  clear hAe hD0
  have hS : va_S A s.heap s.heap [] := va_S.rf
  have hl := lv_entry ([.ref (Q 0), .int x1, .int (bb_v b)]) (n := 4) (Nat.le_of_ble_eq_true rfl)
  rw [lg_entry_eq]
  generalize (lg_sl ([.ref (Q 0), .int x1, .int (bb_v b)]) ++ List.replicate (4 - (lg_sl ([.ref (Q 0), .int x1, .int (bb_v b)])).length) Slot.unset).toArray = ls at hl ⊢
  have hl : lv_has ls 4 [(0, .ref (Q 0)), (1, .int x1), (2, .int (bb_v b))] := hl
  have lk0 := hts (.fieldLink RX3 134 "ClaimRows$Claim" "kind" "I") (List.mem_cons_of_mem _ wd_125)
  have lk1 := hts (.fieldLink RX3 120 "ClaimRows$Claim" "state" "I") (List.mem_cons_of_mem _ wd_129)
  have lk2 := hts (.fieldLink RX3 188 "ClaimRows$Claim" "item" "LClaimRows$Item;") (List.mem_cons_of_mem _ wd_123)
  have lk3 := hts (.fieldLink RX3 196 "ClaimRows$Item" "isFound" "Z") (List.mem_cons_of_mem _ wd_71)
  have lk4 := hts (.fieldLink RX3 202 "ClaimRows$Claim" "backSaid" "Z") (List.mem_cons_of_mem _ wd_139)
  have lk5 := hts (.fieldLink RX3 205 "ClaimRows" "recoveredInAll" "J") (List.mem_cons_of_mem _ wd_33)
  have lk6 := hts (.fieldLink RX3 163 "ClaimRows$Claim" "paidSum" "J") (List.mem_cons_of_mem _ wd_140)
  have in0 : ∀ w ∈ u_ws RX0 TX0 13, w ∈ wsX3_back := fun w h => List.mem_cons_of_mem _ (wu_X0 w h)
  have in1 : ∀ w ∈ u_ws RX1 TX1 9, w ∈ wsX3_back := fun w h => List.mem_cons_of_mem _ (wu_X1 w h)
  have in2 : ∀ w ∈ u_ws RX3 TX3 16, w ∈ wsX3_back := fun w h => List.mem_cons_of_mem _ (wu_X3 w h)
  have hn0 : (σ.1 0).toNatClampNeg = n.1 := by rw [hR.1.1]; exact nI_clamp (by have := hR.1.2.1; omega)
  have hn1 : (σ.1 1).toNatClampNeg = n.2.1 := by rw [hR.1.2.2.1]; exact nI_clamp (by have := hR.1.2.2.2.1; omega)
  have hn2 : (σ.1 2).toNatClampNeg = n.2.2.1 := by rw [hR.1.2.2.2.2.1]; exact nI_clamp (by have := hR.1.2.2.2.2.2.1; omega)
  refine lv_aload_n hx hb dX3_back_0 rfl (lv_at hl 0 rfl) ?_
  refine lv_iload_n hx hb dX3_back_1 rfl (lv_at hl 1 rfl) ?_
  refine va_csq (va_Run.run (va_runV (As := [.int x1]) (rest := []) ⟨hx, hb, hml, hown, hts⟩ (mt_claimNumbered l dC dI cA Q σ n co L f ad hR x1) (cwV 1 hts (al_gV wd_105 wd_107 wd_106 wd_1 wd_108) rfl rfl rfl (by decide +kernel) ⟨Nat.le_of_ble_eq_true rfl, Nat.le_of_ble_eq_true rfl⟩) ⟨ct_blR, va_recv hK hP (ci := 3) (q0 := 0) rfl (xc_W_0 _ _), ct_atR hP hK⟩ rfl rfl hl.1 rfl (lv_room (Nat.le_of_ble_eq_true rfl)) dX3_back_2 ⟨Nat.le_of_ble_eq_true rfl, Nat.le_of_ble_eq_true rfl⟩)) (fun r2 hr2 => ?_)
  rcases hr2 with ⟨j2, hj2, hm2, ex2, rfl⟩ | ⟨hm2, rfl⟩
  · have hC1 := hR.2.2.1 j2 hj2
    have hC1v := hR.2.2.2.2.1.2.1 j2 hj2
    have hC1a : f (ad.2.2.1 j2) = .inr (0, [.int (nI (j2 + 1)), .int (co.2.1 6 j2), .ref (ad.1 (co.1 0 j2)), .int (co.2.1 7 j2), .int (co.2.1 8 j2), .int (co.2.1 9 j2), .int (co.2.1 10 j2), .int (co.2.1 11 j2), .int (co.2.1 12 j2), .int (co.2.1 13 j2), .int (co.2.1 14 j2), .int (co.2.1 15 j2), .long (co.2.2.1 2 j2)]) := hC1.2.2
    have hI2 := hR.2.1 (co.1 0 j2) hC1v.1
    have hI2a : f (ad.1 (co.1 0 j2)) = .inr (1, [.int (co.2.1 0 (co.1 0 j2)), .long (co.2.2.1 0 (co.1 0 j2)), .long (co.2.2.1 1 (co.1 0 j2)), .int (co.2.1 1 (co.1 0 j2)), .int (co.2.1 2 (co.1 0 j2)), .ref (ad.2.1 (co.1 0 j2)), .int (co.2.1 3 (co.1 0 j2)), .int (co.2.1 4 (co.1 0 j2)), .int (co.2.1 5 (co.1 0 j2))]) := hI2.2.2.1
    have hI2p : f (ad.2.1 (co.1 0 j2)) = .inl ((cA 0), 8, .inl (co.2.2.2 (co.1 0 j2))) := hI2.2.2.2.2
    refine lv_astore_n (lv' := [(3, .ref (ad.2.2.1 j2)), (0, .ref (Q 0)), (1, .int x1), (2, .int (bb_v b))]) hx hb dX3_back_5 rfl hl (by decide) rfl (fun ls hl => ?_)
    refine lv_aload_n hx hb dX3_back_6 rfl (lv_at hl 0 rfl) ?_
    refine lv_ifnonnull (tgt := 13) hx hb dX3_back_7 (by decide) ?_
    refine lv_aload_n hx hb dX3_back_13 rfl (lv_at hl 0 rfl) ?_
    refine hp_get (D := (dC, dI)) (ci := 0) (v := .int (co.2.1 7 j2)) (C := RX0) (T := TX0) (N := 13) hx hb hts in0 hown hK hP hC1.2.1 hC1a rfl 3 (by decide) lk0 (fun _ h9 => h9) rfl dX3_back_14 ?_
    refine lv_if_ne (tgt := 45) hx hb dX3_back_17 (by decide) (fun c17 => ?_) (fun c17 => ?_)
    · refine lv_bipush (v := (-103)) hx hb dX3_back_45 (by decide) ?_
      exact W.iret (v := (-103)) hx hb hr (fun t ht hW => ⟨⟨(-103), (σ, co), rfl, (by simp only [kc_back, hm2, if_neg c17, Option.elim, hn0, hn1, hn2]), σ.2.2.2.2, n, L, f, ad, Nat.le_succ _, hR, by rw [ht]; exact hP, va_K.moved hW.alike hK, hD⟩, hS.F ht⟩) hS.2.2 dX3_back_47
    · refine lv_aload_n hx hb dX3_back_20 rfl (lv_at hl 0 rfl) ?_
      refine hp_get (D := (dC, dI)) (ci := 0) (v := .int (co.2.1 9 j2)) (C := RX0) (T := TX0) (N := 13) hx hb hts in0 hown hK hP hC1.2.1 hC1a rfl 5 (by decide) lk1 (fun _ h9 => h9) rfl dX3_back_21 ?_
      refine lv_iconst (v := 1) hx hb dX3_back_24 (by decide) ?_
      refine lv_icmp_ne (tgt := 45) hx hb dX3_back_25 (by decide) (fun c25 => ?_) (fun c25 => ?_)
      · refine lv_bipush (v := (-103)) hx hb dX3_back_45 (by decide) ?_
        exact W.iret (v := (-103)) hx hb hr (fun t ht hW => ⟨⟨(-103), (σ, co), rfl, (by simp only [kc_back, hm2, if_pos c17, if_neg c25, Option.elim, hn0, hn1, hn2]), σ.2.2.2.2, n, L, f, ad, Nat.le_succ _, hR, by rw [ht]; exact hP, va_K.moved hW.alike hK, hD⟩, hS.F ht⟩) hS.2.2 dX3_back_47
      · refine lv_aload_n hx hb dX3_back_28 rfl (lv_at hl 0 rfl) ?_
        refine hp_get (D := (dC, dI)) (ci := 0) (v := .ref (ad.1 (co.1 0 j2))) (C := RX0) (T := TX0) (N := 13) hx hb hts in0 hown hK hP hC1.2.1 hC1a rfl 2 (by decide) lk2 (fun _ h9 => h9) rfl dX3_back_29 ?_
        refine hp_get (D := (dC, dI)) (ci := 1) (v := .int (co.2.1 5 (co.1 0 j2))) (C := RX1) (T := TX1) (N := 9) hx hb hts in1 hown hK hP hI2.2.1 hI2a rfl 8 (by decide) lk3 (fun _ h9 => h9) rfl dX3_back_32 ?_
        refine lv_if_eq (tgt := 45) hx hb dX3_back_35 (by decide) (fun c35 => ?_) (fun c35 => ?_)
        · refine lv_bipush (v := (-103)) hx hb dX3_back_45 (by decide) ?_
          exact W.iret (v := (-103)) hx hb hr (fun t ht hW => ⟨⟨(-103), (σ, co), rfl, (by simp only [kc_back, hm2, if_pos c17, if_pos c25, if_pos c35, Option.elim, hn0, hn1, hn2]), σ.2.2.2.2, n, L, f, ad, Nat.le_succ _, hR, by rw [ht]; exact hP, va_K.moved hW.alike hK, hD⟩, hS.F ht⟩) hS.2.2 dX3_back_47
        · refine lv_aload_n hx hb dX3_back_38 rfl (lv_at hl 0 rfl) ?_
          refine hp_get (D := (dC, dI)) (ci := 0) (v := .int (co.2.1 15 j2)) (C := RX0) (T := TX0) (N := 13) hx hb hts in0 hown hK hP hC1.2.1 hC1a rfl 11 (by decide) lk4 (fun _ h9 => h9) rfl dX3_back_39 ?_
          refine lv_if_eq (tgt := 48) hx hb dX3_back_42 (by decide) (fun c42 => ?_) (fun c42 => ?_)
          · refine lv_aload_n hx hb dX3_back_48 rfl (lv_at hl 0 rfl) ?_
            refine lv_iconst (v := 1) hx hb dX3_back_49 (by decide) ?_
            refine hp_put (D := (dC, dI)) (ci := 0) (v := .int 1) (ty := .boolean) (C := RX0) (T := TX0) (N := 13) hx hb hts in0 tyX0 tyX0_ok nmX0 hown hK hP hD hS hC1.2.1 hC1a rfl 11 (by decide) lk4 (fun _ h9 => h9) rfl (by decide +kernel) (by decide) rfl (Nat.le_of_ble_eq_true rfl) dX3_back_50 (fs' := [.int (nI (j2 + 1)), .int (co.2.1 6 j2), .ref (ad.1 (co.1 0 j2)), .int (co.2.1 7 j2), .int (co.2.1 8 j2), .int (co.2.1 9 j2), .int (co.2.1 10 j2), .int (co.2.1 11 j2), .int (co.2.1 12 j2), .int (co.2.1 13 j2), .int (co.2.1 14 j2), .int 1, .long (co.2.2.1 2 j2)]) rfl (fun H locs hP hD hS => ?_)
            obtain ⟨f_1, ef_1⟩ : ∃ y9, y9 = va_up f (ad.2.2.1 j2) (.inr (0, [.int (nI (j2 + 1)), .int (co.2.1 6 j2), .ref (ad.1 (co.1 0 j2)), .int (co.2.1 7 j2), .int (co.2.1 8 j2), .int (co.2.1 9 j2), .int (co.2.1 10 j2), .int (co.2.1 11 j2), .int (co.2.1 12 j2), .int (co.2.1 13 j2), .int (co.2.1 14 j2), .int 1, .long (co.2.2.1 2 j2)])) := ⟨_, rfl⟩
            rw [← ef_1] at hP hD
            have hf_1_ad1co10j2 : f_1 (ad.1 (co.1 0 j2)) = .inr (1, [.int (co.2.1 0 (co.1 0 j2)), .long (co.2.2.1 0 (co.1 0 j2)), .long (co.2.2.1 1 (co.1 0 j2)), .int (co.2.1 1 (co.1 0 j2)), .int (co.2.1 2 (co.1 0 j2)), .ref (ad.2.1 (co.1 0 j2)), .int (co.2.1 3 (co.1 0 j2)), .int (co.2.1 4 (co.1 0 j2)), .int (co.2.1 5 (co.1 0 j2))]) := by rw [ef_1, va_up_ne _ _ (ct_ne hI2a hC1a (by simp))]; exact hI2a
            have hf_1_ad21co10j2 : f_1 (ad.2.1 (co.1 0 j2)) = .inl ((cA 0), 8, .inl (co.2.2.2 (co.1 0 j2))) := by rw [ef_1, va_up_ne _ _ (ct_ne hI2p hC1a (by simp))]; exact hI2p
            have hf_1_ad221j2 : f_1 (ad.2.2.1 j2) = .inr (0, [.int (nI (j2 + 1)), .int (co.2.1 6 j2), .ref (ad.1 (co.1 0 j2)), .int (co.2.1 7 j2), .int (co.2.1 8 j2), .int (co.2.1 9 j2), .int (co.2.1 10 j2), .int (co.2.1 11 j2), .int (co.2.1 12 j2), .int (co.2.1 13 j2), .int (co.2.1 14 j2), .int 1, .long (co.2.2.1 2 j2)]) := by rw [ef_1]; exact va_up_self _ _ _
            refine lv_iload_n hx hb dX3_back_53 rfl (lv_at hl 3 rfl) ?_
            refine lv_if_eq (tgt := 76) hx hb dX3_back_54 (by decide) (fun c54 => ?_) (fun c54 => ?_)
            · have c54 := bb_0.mp c54
              refine lv_iconst (v := 1) hx hb dX3_back_76 (by decide) ?_
              exact W.iret (v := 1) hx hb hr (fun t ht hW => ⟨⟨1, (σ, co_g co (up_2 co.2.1 15 j2 1)), rfl, (by simp only [kc_back, hm2, if_pos c17, if_pos c25, if_neg c35, if_pos c42, Option.elim, c54]; rfl), σ.2.2.2.2, n, L, f_1, ad, Nat.le_succ _, by rw [ef_1]; exact re_setC hR hj2 (bk_ag (hR.2.2.2.2.1.2.1 j2 hj2).2.2.2 _) (bk_ce _ _ _ _), by rw [ht]; exact hP, va_K.moved hW.alike hK, hD⟩, hS.F ht⟩) hS.2.2 dX3_back_77
            · have c54 := bb_n.mp c54
              refine lv_aload_n hx hb dX3_back_57 rfl (lv_at hl 1 rfl) ?_
              refine lv_dup hx hb dX3_back_58 rfl ?_
              refine va_get (D := (dC, dI)) (ci := 3) (v := .long (σ.2.1 1)) (C := RX3) (T := TX3) (N := 16) hx hb hts in2 hown hK hP 0 (xc_W_0 _ _) rfl 14 (by decide) lk5 (fun _ h9 => h9) rfl dX3_back_59 ?_
              refine lv_aload_n hx hb dX3_back_62 rfl (lv_at hl 0 rfl) ?_
              refine hp_get (D := (dC, dI)) (ci := 0) (v := .long (co.2.2.1 2 j2)) (C := RX0) (T := TX0) (N := 13) hx hb hts in0 hown hK hP hC1.2.1 hf_1_ad221j2 rfl 12 (by decide) lk6 (fun _ h9 => h9) rfl dX3_back_63 ?_
              refine lv_ladd hx hb dX3_back_66 ?_
              refine va_put (D := (dC, dI)) (ci := 3) (v := .long ((σ.2.1 1) + (co.2.2.1 2 j2))) (ty := .long) (C := RX3) (T := TX3) (N := 16) hx hb hts in2 tyX3 tyX3_ok nmX3 hown hK hP hD hS 0 (xc_W_0 _ _) rfl 14 (by decide) lk5 (fun _ h9 => h9) rfl (by decide +kernel) rfl rfl (Nat.le_of_ble_eq_true rfl) dX3_back_67 (fun H locs hP hD hS => ?_)
              have hP : va_P (dC, dI) vwCl (xc_W Q cA (xs_l σ 1 ((σ.2.1 1) + (co.2.2.1 2 j2))) ++ va_pl L f_1) H := hP
              have hD : va_D A (xc_W Q cA (xs_l σ 1 ((σ.2.1 1) + (co.2.2.1 2 j2))) ++ va_pl L f_1) := hD
              refine lv_aload_n hx hb dX3_back_70 rfl (lv_at hl 1 rfl) ?_
              refine lv_iload_n hx hb dX3_back_71 rfl (lv_at hl 2 rfl) ?_
              refine lv_iconst (v := 5) hx hb dX3_back_72 (by decide) ?_
              have hFc := ct_free hD hS hA
              refine va_callv (va_runV (As := [.int x1, .int 5]) (rest := []) ⟨hx, hb, hml, hown, hts⟩ (mt_send l dC dI cA H.size Q (xs_l σ 1 ((σ.2.1 1) + (co.2.2.1 2 j2))) L f_1 n.2.2.2 (show (xs_l σ 1 ((σ.2.1 1) + (co.2.2.1 2 j2))).1 3 = nI n.2.2.2 from hR.1.2.2.2.2.2.2) (by omega) x1 5) (cwV 2 hts (al_gV wd_141 wd_143 wd_142 wd_1 wd_144) rfl rfl rfl (by decide +kernel) ⟨Nat.le_of_ble_eq_true rfl, Nat.le_of_ble_eq_true rfl⟩) ⟨ct_blM, va_recv hK hP (ci := 3) (q0 := 0) rfl (xc_W_0 _ _), ct_atM hP hK hD⟩ rfl rfl hl.1 rfl (lv_room (Nat.le_of_ble_eq_true rfl)) dX3_back_73 ⟨Nat.le_of_ble_eq_true rfl, Nat.le_of_ble_eq_true rfl⟩) hS (fun q _ h => hFc q h) hFc (fun u73 t H1 locs ht hvm hr73 hB hz1 hk1 hS => ?_)
              obtain ⟨hP, -, hD1⟩ := hB
              rw [ht] at hP
              have hD := hD1.weaken (fun _ _ _ h => hFc _ h)
              clear hD1 hk1 hz1 hFc hvm
              generalize H1 = H at hP hS ht ⊢
              clear ht
              refine W.widen (k := 0) (n := 0) (by decide) (by decide) ?_
              subst hr73
              have hP : va_P (dC, dI) vwCl (xc_W Q cA (se_nd (xs_l σ 1 ((σ.2.1 1) + (co.2.2.1 2 j2))) x1 5) ++ va_pl L f_1) H := hP
              have hD : va_D A (xc_W Q cA (se_nd (xs_l σ 1 ((σ.2.1 1) + (co.2.2.1 2 j2))) x1 5) ++ va_pl L f_1) := hD
              refine lv_iconst (v := 1) hx hb dX3_back_76 (by decide) ?_
              exact W.iret (v := 1) hx hb hr (fun t ht hW => ⟨⟨1, ((se_nd (xs_l σ 1 ((σ.2.1 1) + (co.2.2.1 2 j2))) x1 5), co_g co (up_2 co.2.1 15 j2 1)), rfl, (by simp only [kc_back, hm2, if_pos c17, if_pos c25, if_neg c35, if_pos c42, Option.elim, c54]; rfl), ((se_nd (xs_l σ 1 ((σ.2.1 1) + (co.2.2.1 2 j2))) x1 5)).2.2.2.2, (n.1, n.2.1, n.2.2.1, n.2.2.2 + 1), L, f_1, ad, Nat.le_refl _, by rw [ef_1]; exact re_x (re_setC hR hj2 (bk_ag (hR.2.2.2.2.1.2.1 j2 hj2).2.2.2 _) (bk_ce _ _ _ _)) (n.2.2.2 + 1) (sn_0 _ _ _ 0 (by decide)) (sn_0 _ _ _ 1 (by decide)) (sn_0 _ _ _ 2 (by decide)) (sn_3 (σ := (xs_l σ 1 ((σ.2.1 1) + (co.2.2.1 2 j2)))) (show ((xs_l σ 1 ((σ.2.1 1) + (co.2.2.1 2 j2)))).1 3 = nI n.2.2.2 from hR.1.2.2.2.2.2.2) _ _) (sn_r _ _ _), by rw [ht]; exact hP, va_K.moved hW.alike hK, hD⟩, hS.F ht⟩) hS.2.2 dX3_back_77
          · refine lv_bipush (v := (-103)) hx hb dX3_back_45 (by decide) ?_
            exact W.iret (v := (-103)) hx hb hr (fun t ht hW => ⟨⟨(-103), (σ, co), rfl, (by simp only [kc_back, hm2, if_pos c17, if_pos c25, if_neg c35, if_neg c42, Option.elim, hn0, hn1, hn2]), σ.2.2.2.2, n, L, f, ad, Nat.le_succ _, hR, by rw [ht]; exact hP, va_K.moved hW.alike hK, hD⟩, hS.F ht⟩) hS.2.2 dX3_back_47
  · skip
    refine lv_astore_nN (lv' := [(3, .null), (0, .ref (Q 0)), (1, .int x1), (2, .int (bb_v b))]) hx hb dX3_back_5 rfl hl (by decide) rfl (fun ls hl => ?_)
    refine lv_aload_nN hx hb dX3_back_6 rfl (lv_at hl 0 rfl) ?_
    refine lv_ifnonnullN hx hb dX3_back_7 ?_
    refine lv_bipush (v := (-101)) hx hb dX3_back_10 (by decide) ?_
    exact W.iret (v := (-101)) hx hb hr (fun t ht hW => ⟨⟨(-101), (σ, co), rfl, (by simp only [kc_back, hm2, Option.elim, hn0, hn1, hn2]), σ.2.2.2.2, n, L, f, ad, Nat.le_succ _, hR, by rw [ht]; exact hP, va_K.moved hW.alike hK, hD⟩, hS.F ht⟩) hS.2.2 dX3_back_12
set_option maxHeartbeats 4000000 in
set_option maxRecDepth 100000 in
/-- mt_appeal -/
theorem mt_appeal (l : Launch) (dC : Nat → ClassId) (dI : Nat → Nat → Nat) (cA : Nat → ClassId) (sz : Nat) (Q : Nat → Nat) (σ : xs_T) (n : nn_T) (co : co_T) (L : List Nat) (f : Nat → va_E) (ad : ad_T) (hR : re_A cA σ n co L f ad) (hT : n.2.2.2 < 100000) (x1 : Int32) : Met l yX3_appeal wsX3_appeal ({ frames := 3, cells := 0, slots := 0, locals := 70 }) (va_Pc [.ref (Q 0), .int x1] (ct_M (dC, dI) vwCl (ty_K cA) (xc_W Q cA σ ++ va_pl L f) sz)) (va_Qi (fun r u => (r, u) = kc_appeal (σ, co) x1) (fun u t => ∃ (ra : Nat → Nat → Option Nat) (n' : nn_T) (L' : List Nat) (f' : Nat → va_E) (ad' : ad_T), n'.2.2.2 ≤ n.2.2.2 + 1 ∧ re_A cA (xs_r u.1 ra) n' u.2 L' f' ad' ∧ ct_B (dC, dI) vwCl (ty_K cA) (va_A (xc_W Q cA σ ++ va_pl L f) sz) (xc_W Q cA (xs_r u.1 ra) ++ va_pl L' f') t) (va_A (xc_W Q cA σ ++ va_pl L f) sz)) 0 0 (va_A (xc_W Q cA σ ++ va_pl L f) sz) := by
  refine Met.ofW (cc := cX3_appeal) (maxL := 3) (ret := (some .int)) (by decide) rfl ?_
  intro p e s m args below meth c s₁ B hml hv
  obtain ⟨rfl, hsz, hP, hK, hD0⟩ := hv
  have hx := B.exec
  have hb := B.bytes
  have hr := B.returns
  have hts := atoms_spec (ws := wsX3_appeal) B.pre
  have hown : s.vm.findClass RX3 = some m.cls := findClass_of_methodNamed B.named
  have hlocks := B.notSynchronized
  subst hsz
  have hD := hD0.self (sz := s.heap.size)
  generalize hAe : va_A (xc_W Q cA σ ++ va_pl L f) s.heap.size = A at hD ⊢
  have hA : ∀ q : Nat, s.heap.size ≤ q → A q := fun q h => by rw [← hAe]; exact Or.inr h
  clear hAe hD0
  have hS : va_S A s.heap s.heap [] := va_S.rf
  have hl := lv_entry ([.ref (Q 0), .int x1]) (n := 3) (Nat.le_of_ble_eq_true rfl)
  rw [lg_entry_eq]
  generalize (lg_sl ([.ref (Q 0), .int x1]) ++ List.replicate (3 - (lg_sl ([.ref (Q 0), .int x1])).length) Slot.unset).toArray = ls at hl ⊢
  have hl : lv_has ls 3 [(0, .ref (Q 0)), (1, .int x1)] := hl
  have lk0 := hts (.fieldLink RX3 120 "ClaimRows$Claim" "state" "I") (List.mem_cons_of_mem _ wd_129)
  have lk1 := hts (.fieldLink RX3 208 "ClaimRows$Claim" "appealed" "Z") (List.mem_cons_of_mem _ wd_138)
  have lk2 := hts (.fieldLink RX3 211 "ClaimRows$Claim" "itemNumber" "I") (List.mem_cons_of_mem _ wd_121)
  have lk3 := hts (.fieldLink RX3 134 "ClaimRows$Claim" "kind" "I") (List.mem_cons_of_mem _ wd_125)
  have in0 : ∀ w ∈ u_ws RX0 TX0 13, w ∈ wsX3_appeal := fun w h => List.mem_cons_of_mem _ (wu_X0 w h)
  have hn0 : (σ.1 0).toNatClampNeg = n.1 := by rw [hR.1.1]; exact nI_clamp (by have := hR.1.2.1; omega)
  have hn1 : (σ.1 1).toNatClampNeg = n.2.1 := by rw [hR.1.2.2.1]; exact nI_clamp (by have := hR.1.2.2.2.1; omega)
  have hn2 : (σ.1 2).toNatClampNeg = n.2.2.1 := by rw [hR.1.2.2.2.2.1]; exact nI_clamp (by have := hR.1.2.2.2.2.2.1; omega)
  refine lv_aload_n hx hb dX3_appeal_0 rfl (lv_at hl 0 rfl) ?_
  refine lv_iload_n hx hb dX3_appeal_1 rfl (lv_at hl 1 rfl) ?_
  refine va_csq (va_Run.run (va_runV (As := [.int x1]) (rest := []) ⟨hx, hb, hml, hown, hts⟩ (mt_claimNumbered l dC dI cA Q σ n co L f ad hR x1) (cwV 1 hts (al_gV wd_105 wd_107 wd_106 wd_1 wd_108) rfl rfl rfl (by decide +kernel) ⟨Nat.le_of_ble_eq_true rfl, Nat.le_of_ble_eq_true rfl⟩) ⟨ct_blR, va_recv hK hP (ci := 3) (q0 := 0) rfl (xc_W_0 _ _), ct_atR hP hK⟩ rfl rfl hl.1 rfl (lv_room (Nat.le_of_ble_eq_true rfl)) dX3_appeal_2 ⟨Nat.le_of_ble_eq_true rfl, Nat.le_of_ble_eq_true rfl⟩)) (fun r2 hr2 => ?_)
  rcases hr2 with ⟨j2, hj2, hm2, ex2, rfl⟩ | ⟨hm2, rfl⟩
  · have hC1 := hR.2.2.1 j2 hj2
    have hC1v := hR.2.2.2.2.1.2.1 j2 hj2
    have hC1a : f (ad.2.2.1 j2) = .inr (0, [.int (nI (j2 + 1)), .int (co.2.1 6 j2), .ref (ad.1 (co.1 0 j2)), .int (co.2.1 7 j2), .int (co.2.1 8 j2), .int (co.2.1 9 j2), .int (co.2.1 10 j2), .int (co.2.1 11 j2), .int (co.2.1 12 j2), .int (co.2.1 13 j2), .int (co.2.1 14 j2), .int (co.2.1 15 j2), .long (co.2.2.1 2 j2)]) := hC1.2.2
    have hI2 := hR.2.1 (co.1 0 j2) hC1v.1
    have hI2a : f (ad.1 (co.1 0 j2)) = .inr (1, [.int (co.2.1 0 (co.1 0 j2)), .long (co.2.2.1 0 (co.1 0 j2)), .long (co.2.2.1 1 (co.1 0 j2)), .int (co.2.1 1 (co.1 0 j2)), .int (co.2.1 2 (co.1 0 j2)), .ref (ad.2.1 (co.1 0 j2)), .int (co.2.1 3 (co.1 0 j2)), .int (co.2.1 4 (co.1 0 j2)), .int (co.2.1 5 (co.1 0 j2))]) := hI2.2.2.1
    have hI2p : f (ad.2.1 (co.1 0 j2)) = .inl ((cA 0), 8, .inl (co.2.2.2 (co.1 0 j2))) := hI2.2.2.2.2
    refine lv_astore_n (lv' := [(2, .ref (ad.2.2.1 j2)), (0, .ref (Q 0)), (1, .int x1)]) hx hb dX3_appeal_5 rfl hl (by decide) rfl (fun ls hl => ?_)
    refine lv_aload_n hx hb dX3_appeal_6 rfl (lv_at hl 0 rfl) ?_
    refine lv_ifnonnull (tgt := 13) hx hb dX3_appeal_7 (by decide) ?_
    refine lv_aload_n hx hb dX3_appeal_13 rfl (lv_at hl 0 rfl) ?_
    refine hp_get (D := (dC, dI)) (ci := 0) (v := .int (co.2.1 9 j2)) (C := RX0) (T := TX0) (N := 13) hx hb hts in0 hown hK hP hC1.2.1 hC1a rfl 5 (by decide) lk0 (fun _ h9 => h9) rfl dX3_appeal_14 ?_
    refine lv_iconst (v := 2) hx hb dX3_appeal_17 (by decide) ?_
    refine lv_icmp_ne (tgt := 43) hx hb dX3_appeal_18 (by decide) (fun c18 => ?_) (fun c18 => ?_)
    · refine lv_bipush (v := (-103)) hx hb dX3_appeal_43 (by decide) ?_
      exact W.iret (v := (-103)) hx hb hr (fun t ht hW => ⟨⟨(-103), (σ, co), rfl, (by simp only [kc_appeal, hm2, if_neg c18, Option.elim, hn0, hn1, hn2]), σ.2.2.2.2, n, L, f, ad, Nat.le_succ _, hR, by rw [ht]; exact hP, va_K.moved hW.alike hK, hD⟩, hS.F ht⟩) hS.2.2 dX3_appeal_45
    · refine lv_aload_n hx hb dX3_appeal_21 rfl (lv_at hl 0 rfl) ?_
      refine hp_get (D := (dC, dI)) (ci := 0) (v := .int (co.2.1 14 j2)) (C := RX0) (T := TX0) (N := 13) hx hb hts in0 hown hK hP hC1.2.1 hC1a rfl 10 (by decide) lk1 (fun _ h9 => h9) rfl dX3_appeal_22 ?_
      refine lv_if_ne (tgt := 43) hx hb dX3_appeal_25 (by decide) (fun c25 => ?_) (fun c25 => ?_)
      · refine lv_bipush (v := (-103)) hx hb dX3_appeal_43 (by decide) ?_
        exact W.iret (v := (-103)) hx hb hr (fun t ht hW => ⟨⟨(-103), (σ, co), rfl, (by simp only [kc_appeal, hm2, if_pos c18, if_neg c25, Option.elim, hn0, hn1, hn2]), σ.2.2.2.2, n, L, f, ad, Nat.le_succ _, hR, by rw [ht]; exact hP, va_K.moved hW.alike hK, hD⟩, hS.F ht⟩) hS.2.2 dX3_appeal_45
      · refine lv_aload_n hx hb dX3_appeal_28 rfl (lv_at hl 1 rfl) ?_
        refine lv_aload_n hx hb dX3_appeal_29 rfl (lv_at hl 0 rfl) ?_
        refine hp_get (D := (dC, dI)) (ci := 0) (v := .int (co.2.1 6 j2)) (C := RX0) (T := TX0) (N := 13) hx hb hts in0 hown hK hP hC1.2.1 hC1a rfl 1 (by decide) lk2 (fun _ h9 => h9) rfl dX3_appeal_30 ?_
        refine lv_aload_n hx hb dX3_appeal_33 rfl (lv_at hl 0 rfl) ?_
        refine hp_get (D := (dC, dI)) (ci := 0) (v := .int (co.2.1 7 j2)) (C := RX0) (T := TX0) (N := 13) hx hb hts in0 hown hK hP hC1.2.1 hC1a rfl 3 (by decide) lk3 (fun _ h9 => h9) rfl dX3_appeal_34 ?_
        refine va_csq (va_Run.run (va_runV (As := [.int (co.2.1 6 j2), .int (co.2.1 7 j2)]) (rest := []) ⟨hx, hb, hml, hown, hts⟩ (mt_standingClaim l dC dI cA Q σ n co L f ad hR (co.2.1 6 j2) (co.2.1 7 j2)) (cwV 2 hts (al_gV wd_101 wd_103 wd_102 wd_1 wd_104) rfl rfl rfl (by decide +kernel) ⟨Nat.le_of_ble_eq_true rfl, Nat.le_of_ble_eq_true rfl⟩) ⟨ct_blR, va_recv hK hP (ci := 3) (q0 := 0) rfl (xc_W_0 _ _), ct_atR hP hK⟩ rfl rfl hl.1 rfl (lv_room (Nat.le_of_ble_eq_true rfl)) dX3_appeal_37 ⟨Nat.le_of_ble_eq_true rfl, Nat.le_of_ble_eq_true rfl⟩)) (fun r37 hr37 => ?_)
        rcases hr37 with ⟨j37, hj37, hm37, rfl⟩ | ⟨hm37, rfl⟩
        · have hC3 := hR.2.2.1 j37 hj37
          have hC3v := hR.2.2.2.2.1.2.1 j37 hj37
          have hC3a : f (ad.2.2.1 j37) = .inr (0, [.int (nI (j37 + 1)), .int (co.2.1 6 j37), .ref (ad.1 (co.1 0 j37)), .int (co.2.1 7 j37), .int (co.2.1 8 j37), .int (co.2.1 9 j37), .int (co.2.1 10 j37), .int (co.2.1 11 j37), .int (co.2.1 12 j37), .int (co.2.1 13 j37), .int (co.2.1 14 j37), .int (co.2.1 15 j37), .long (co.2.2.1 2 j37)]) := hC3.2.2
          have hI4 := hR.2.1 (co.1 0 j37) hC3v.1
          have hI4a : f (ad.1 (co.1 0 j37)) = .inr (1, [.int (co.2.1 0 (co.1 0 j37)), .long (co.2.2.1 0 (co.1 0 j37)), .long (co.2.2.1 1 (co.1 0 j37)), .int (co.2.1 1 (co.1 0 j37)), .int (co.2.1 2 (co.1 0 j37)), .ref (ad.2.1 (co.1 0 j37)), .int (co.2.1 3 (co.1 0 j37)), .int (co.2.1 4 (co.1 0 j37)), .int (co.2.1 5 (co.1 0 j37))]) := hI4.2.2.1
          have hI4p : f (ad.2.1 (co.1 0 j37)) = .inl ((cA 0), 8, .inl (co.2.2.2 (co.1 0 j37))) := hI4.2.2.2.2
          refine lv_ifnull hx hb dX3_appeal_40 ?_
          refine lv_bipush (v := (-103)) hx hb dX3_appeal_43 (by decide) ?_
          exact W.iret (v := (-103)) hx hb hr (fun t ht hW => ⟨⟨(-103), (σ, co), rfl, (by simp only [kc_appeal, hm2, if_pos c18, if_pos c25, hm37, Option.elim, hn0, hn1, hn2]), σ.2.2.2.2, n, L, f, ad, Nat.le_succ _, hR, by rw [ht]; exact hP, va_K.moved hW.alike hK, hD⟩, hS.F ht⟩) hS.2.2 dX3_appeal_45
        · skip
          refine lv_ifnullN (tgt := 46) hx hb dX3_appeal_40 (by decide) ?_
          refine lv_aload_n hx hb dX3_appeal_46 rfl (lv_at hl 0 rfl) ?_
          have hFc := ct_free hD hS hA
          refine va_callv (va_runV (As := []) (rest := []) ⟨hx, hb, hml, hown, hts⟩ (mt_reopen l dC dI cA s.heap.size (xc_W Q cA σ) L f (ad.2.2.1 j2) hC1.2.1 (nI (j2 + 1)) (co.2.1 6 j2) (ad.1 (co.1 0 j2)) (co.2.1 7 j2) (co.2.1 8 j2) (co.2.1 9 j2) (co.2.1 10 j2) (co.2.1 11 j2) (co.2.1 12 j2) (co.2.1 13 j2) (co.2.1 14 j2) (co.2.1 15 j2) (co.2.2.1 2 j2) hC1a ) (cwV 0 hts (al_gV wd_247 wd_248 wd_249 wd_4 wd_250) rfl rfl rfl (by decide +kernel) ⟨Nat.le_of_ble_eq_true rfl, Nat.le_of_ble_eq_true rfl⟩) ⟨ct_blM, hp_recv hK hP (ci := 0) rfl hC1.2.1 hC1a, ct_atM hP hK hD⟩ rfl rfl hl.1 rfl (lv_room (Nat.le_of_ble_eq_true rfl)) dX3_appeal_47 ⟨Nat.le_of_ble_eq_true rfl, Nat.le_of_ble_eq_true rfl⟩) hS (fun q _ h => hFc q h) hFc (fun u47 t H1 locs ht hvm hr47 hB hz1 hk1 hS => ?_)
          obtain ⟨hP, -, hD1⟩ := hB
          rw [ht] at hP
          have hD := hD1.weaken (fun _ _ _ h => hFc _ h)
          clear hD1 hk1 hz1 hFc hvm
          generalize H1 = H at hP hS ht ⊢
          clear ht
          refine W.widen (k := 0) (n := 0) (by decide) (by decide) ?_
          subst hr47
          have hP : va_P (dC, dI) vwCl (xc_W Q cA σ ++ va_pl L (va_up f (ad.2.2.1 j2) (.inr (0, [.int (nI (j2 + 1)), .int (co.2.1 6 j2), .ref (ad.1 (co.1 0 j2)), .int (co.2.1 7 j2), .int (co.2.1 8 j2), .int 0, .int (co.2.1 10 j2), .int 0, .int (co.2.1 12 j2), .int 0, .int 1, .int (co.2.1 15 j2), .long (co.2.2.1 2 j2)])))) H := hP
          have hD : va_D A (xc_W Q cA σ ++ va_pl L (va_up f (ad.2.2.1 j2) (.inr (0, [.int (nI (j2 + 1)), .int (co.2.1 6 j2), .ref (ad.1 (co.1 0 j2)), .int (co.2.1 7 j2), .int (co.2.1 8 j2), .int 0, .int (co.2.1 10 j2), .int 0, .int (co.2.1 12 j2), .int 0, .int 1, .int (co.2.1 15 j2), .long (co.2.2.1 2 j2)])))) := hD
          obtain ⟨f_1, ef_1⟩ : ∃ y9, y9 = va_up f (ad.2.2.1 j2) (.inr (0, [.int (nI (j2 + 1)), .int (co.2.1 6 j2), .ref (ad.1 (co.1 0 j2)), .int (co.2.1 7 j2), .int (co.2.1 8 j2), .int 0, .int (co.2.1 10 j2), .int 0, .int (co.2.1 12 j2), .int 0, .int 1, .int (co.2.1 15 j2), .long (co.2.2.1 2 j2)])) := ⟨_, rfl⟩
          rw [← ef_1] at hP hD
          have hf_1_ad1co10j2 : f_1 (ad.1 (co.1 0 j2)) = .inr (1, [.int (co.2.1 0 (co.1 0 j2)), .long (co.2.2.1 0 (co.1 0 j2)), .long (co.2.2.1 1 (co.1 0 j2)), .int (co.2.1 1 (co.1 0 j2)), .int (co.2.1 2 (co.1 0 j2)), .ref (ad.2.1 (co.1 0 j2)), .int (co.2.1 3 (co.1 0 j2)), .int (co.2.1 4 (co.1 0 j2)), .int (co.2.1 5 (co.1 0 j2))]) := by rw [ef_1, va_up_ne _ _ (ct_ne hI2a hC1a (by simp))]; exact hI2a
          have hf_1_ad21co10j2 : f_1 (ad.2.1 (co.1 0 j2)) = .inl ((cA 0), 8, .inl (co.2.2.2 (co.1 0 j2))) := by rw [ef_1, va_up_ne _ _ (ct_ne hI2p hC1a (by simp))]; exact hI2p
          have hf_1_ad221j2 : f_1 (ad.2.2.1 j2) = .inr (0, [.int (nI (j2 + 1)), .int (co.2.1 6 j2), .ref (ad.1 (co.1 0 j2)), .int (co.2.1 7 j2), .int (co.2.1 8 j2), .int 0, .int (co.2.1 10 j2), .int 0, .int (co.2.1 12 j2), .int 0, .int 1, .int (co.2.1 15 j2), .long (co.2.2.1 2 j2)]) := by rw [ef_1]; exact va_up_self _ _ _
          refine lv_aload_n hx hb dX3_appeal_50 rfl (lv_at hl 1 rfl) ?_
          refine lv_iload_n hx hb dX3_appeal_51 rfl (lv_at hl 2 rfl) ?_
          refine lv_bipush (v := 6) hx hb dX3_appeal_52 (by decide) ?_
          have hFc := ct_free hD hS hA
          refine va_callv (va_runV (As := [.int x1, .int 6]) (rest := []) ⟨hx, hb, hml, hown, hts⟩ (mt_send l dC dI cA H.size Q σ L f_1 n.2.2.2 (show (σ).1 3 = nI n.2.2.2 from hR.1.2.2.2.2.2.2) (by omega) x1 6) (cwV 2 hts (al_gV wd_141 wd_143 wd_142 wd_1 wd_144) rfl rfl rfl (by decide +kernel) ⟨Nat.le_of_ble_eq_true rfl, Nat.le_of_ble_eq_true rfl⟩) ⟨ct_blM, va_recv hK hP (ci := 3) (q0 := 0) rfl (xc_W_0 _ _), ct_atM hP hK hD⟩ rfl rfl hl.1 rfl (lv_room (Nat.le_of_ble_eq_true rfl)) dX3_appeal_54 ⟨Nat.le_of_ble_eq_true rfl, Nat.le_of_ble_eq_true rfl⟩) hS (fun q _ h => hFc q h) hFc (fun u54 t H1 locs ht hvm hr54 hB hz1 hk1 hS => ?_)
          obtain ⟨hP, -, hD1⟩ := hB
          rw [ht] at hP
          have hD := hD1.weaken (fun _ _ _ h => hFc _ h)
          clear hD1 hk1 hz1 hFc hvm
          generalize H1 = H at hP hS ht ⊢
          clear ht
          refine W.widen (k := 0) (n := 0) (by decide) (by decide) ?_
          subst hr54
          have hP : va_P (dC, dI) vwCl (xc_W Q cA (se_nd σ x1 6) ++ va_pl L f_1) H := hP
          have hD : va_D A (xc_W Q cA (se_nd σ x1 6) ++ va_pl L f_1) := hD
          refine lv_iconst (v := 1) hx hb dX3_appeal_57 (by decide) ?_
          exact W.iret (v := 1) hx hb hr (fun t ht hW => ⟨⟨1, (se_nd σ x1 6, ap_co co j2), rfl, (by simp only [kc_appeal, hm2, if_pos c18, if_pos c25, hm37, Option.elim, hn1]), (se_nd σ x1 6).2.2.2.2, (n.1, n.2.1, n.2.2.1, n.2.2.2 + 1), L, f_1, ad, Nat.le_refl _, by rw [ef_1]; exact re_x (re_setC hR hj2 (ap_ag (hR.2.2.2.2.1.2.1 j2 hj2).2.2.2) (ap_ce _ _ _)) (n.2.2.2 + 1) (sn_0 _ _ _ 0 (by decide)) (sn_0 _ _ _ 1 (by decide)) (sn_0 _ _ _ 2 (by decide)) (sn_3 (σ := σ) (show (σ).1 3 = nI n.2.2.2 from hR.1.2.2.2.2.2.2) _ _) (sn_r _ _ _), by rw [ht]; exact hP, va_K.moved hW.alike hK, hD⟩, hS.F ht⟩) hS.2.2 dX3_appeal_58
  · skip
    refine lv_astore_nN (lv' := [(2, .null), (0, .ref (Q 0)), (1, .int x1)]) hx hb dX3_appeal_5 rfl hl (by decide) rfl (fun ls hl => ?_)
    refine lv_aload_nN hx hb dX3_appeal_6 rfl (lv_at hl 0 rfl) ?_
    refine lv_ifnonnullN hx hb dX3_appeal_7 ?_
    refine lv_bipush (v := (-101)) hx hb dX3_appeal_10 (by decide) ?_
    exact W.iret (v := (-101)) hx hb hr (fun t ht hW => ⟨⟨(-101), (σ, co), rfl, (by simp only [kc_appeal, hm2, Option.elim, hn0, hn1, hn2]), σ.2.2.2.2, n, L, f, ad, Nat.le_succ _, hR, by rw [ht]; exact hP, va_K.moved hW.alike hK, hD⟩, hS.F ht⟩) hS.2.2 dX3_appeal_12
