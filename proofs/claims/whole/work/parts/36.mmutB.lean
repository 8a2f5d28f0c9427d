set_option maxHeartbeats 4000000 in
set_option maxRecDepth 100000 in
/-- mr_proof -/
theorem mr_proof (l : Launch) (dC : Nat → ClassId) (dI : Nat → Nat → Nat) (cA : Nat → ClassId) (sz : Nat) (Q : Nat → Nat) (σ : xs_T) (n : nn_T) (L : List Nat) (f : Nat → va_E) (hV : rm_V σ n) (x1 x2 : Int32) : Met l yX4_proof wsX4_proof ({ frames := 2, cells := 0, slots := 0, locals := 44 }) (va_Pc [.ref (Q 0), .int x1, .int x2] (ct_M (dC, dI) vwCl (ty_K cA) (xm_W Q cA σ ++ va_pl L f) sz)) (va_Qi (fun r u => (r, u) = kr_proof σ x1 x2) (fun u t => ct_B (dC, dI) vwCl (ty_K cA) (va_A (xm_W Q cA σ ++ va_pl L f) sz) (xm_W Q cA u ++ va_pl L f) t) (va_A (xm_W Q cA σ ++ va_pl L f) sz)) 0 0 (va_A (xm_W Q cA σ ++ va_pl L f) sz) := by
  refine Met.ofW (cc := cX4_proof) (maxL := 4) (ret := (some .int)) (by decide) rfl ?_
  intro p e s m args below meth c s₁ B hml hv
  obtain ⟨rfl, hsz, hP, hK, hD0⟩ := hv
  have hx := B.exec
  have hb := B.bytes
  have hr := B.returns
  have hts := atoms_spec (ws := wsX4_proof) B.pre
  have hown : s.vm.findClass RX4 = some m.cls := findClass_of_methodNamed B.named
  have hlocks := B.notSynchronized
  subst hsz
  have hD := hD0.self (sz := s.heap.size)
  generalize hAe : va_A (xm_W Q cA σ ++ va_pl L f) s.heap.size = A at hD ⊢
  have hA : ∀ q : Nat, s.heap.size ≤ q → A q := fun q h => by rw [← hAe]; exact Or.inr h
  clear hAe hD0
  have hS : va_S A s.heap s.heap [] := va_S.rf
  have hl := lv_entry ([.ref (Q 0), .int x1, .int x2]) (n := 4) (Nat.le_of_ble_eq_true rfl)
  rw [lg_entry_eq]
  generalize (lg_sl ([.ref (Q 0), .int x1, .int x2]) ++ List.replicate (4 - (lg_sl ([.ref (Q 0), .int x1, .int x2])).length) Slot.unset).toArray = ls at hl ⊢
  have hl : lv_has ls 4 [(0, .ref (Q 0)), (1, .int x1), (2, .int x2)] := hl
  have lk0 := hts (.constantLong RX4 97 3) (List.mem_cons_of_mem _ wd_314)
  have lk1 := hts (.fieldLink RX4 51 "ClaimRowsModel" "state" "[I") (List.mem_cons_of_mem _ wd_291)
  have lk2 := hts (.fieldLink RX4 48 "ClaimRowsModel" "kindOf" "[I") (List.mem_cons_of_mem _ wd_290)
  have lk3 := hts (.fieldLink RX4 54 "ClaimRowsModel" "proofs" "[Z") (List.mem_cons_of_mem _ wd_292)
  have in0 : ∀ w ∈ u_ws RX4 TX4 33, w ∈ wsX4_proof := fun w h => List.mem_cons_of_mem _ (wu_X4 w h)
  have hn0 : (σ.1 0).toNatClampNeg = n.1 := by rw [hV.1.1]; exact nI_clamp (by have := hV.1.2.1; omega)
  have hn1 : (σ.1 1).toNatClampNeg = n.2.1 := by rw [hV.1.2.2.1]; exact nI_clamp (by have := hV.1.2.2.2.1; omega)
  have hn2 : (σ.1 2).toNatClampNeg = n.2.2.1 := by rw [hV.1.2.2.2.2.1]; exact nI_clamp (by have := hV.1.2.2.2.2.2.1; omega)
  refine lv_aload_n hx hb dX4_proof_0 rfl (lv_at hl 0 rfl) ?_
  refine lv_iload_n hx hb dX4_proof_1 rfl (lv_at hl 1 rfl) ?_
  refine vp_callSi (va_Run.run (va_runV (As := [.int x1]) (rest := []) ⟨hx, hb, hml, hown, hts⟩ (mr_isClaim l dC dI cA Q σ L f x1) (cwV 1 hts (al_gV wd_353 wd_355 wd_354 wd_2 wd_356) rfl rfl rfl (by decide +kernel) ⟨Nat.le_of_ble_eq_true rfl, Nat.le_of_ble_eq_true rfl⟩) ⟨ct_blR, va_recv hK hP (ci := 4) (q0 := 0) rfl (xm_W_0 _ _), ct_atR hP hK⟩ rfl rfl hl.1 rfl (lv_room (Nat.le_of_ble_eq_true rfl)) dX4_proof_2 ⟨Nat.le_of_ble_eq_true rfl, Nat.le_of_ble_eq_true rfl⟩)) (fun r2 hr2 => ?_)
  subst hr2
  refine lv_if_ne (tgt := 11) hx hb dX4_proof_5 (by decide) (fun c5 => ?_) (fun c5 => ?_)
  · have c5 := of_decide_eq_true (bb_n.mp c5)
    refine lv_iload_n hx hb dX4_proof_11 rfl (lv_at hl 2 rfl) ?_
    refine lv_i2l (v := (x2 : Int32).toInt64) hx hb dX4_proof_12 rfl ?_
    refine lv_lconst (v := 0) hx hb dX4_proof_13 (by decide) ?_
    refine lv_ldc2 hx hb hown lk0 dX4_proof_14 ?_
    refine vp_callSi (va_Run.run (va_runS (As := [.long ((x2 : Int32).toInt64), .long 0, .long 3]) (rest := []) ⟨hx, hb, hml, hown, hts⟩ (mr_isIn l ((x2 : Int32).toInt64) 0 3) (va_cwS 3 hts (al_gS wd_315 wd_316 wd_2 wd_317) rfl rfl rfl (by decide +kernel) ⟨Nat.le_of_ble_eq_true rfl, Nat.le_of_ble_eq_true rfl⟩) ⟨ct_bl0, ct_at0⟩ rfl rfl hl.1 rfl (lv_room (Nat.le_of_ble_eq_true rfl)) dX4_proof_17 ⟨Nat.le_of_ble_eq_true rfl, Nat.le_of_ble_eq_true rfl⟩)) (fun r17 hr17 => ?_)
    subst hr17
    refine lv_if_ne (tgt := 26) hx hb dX4_proof_20 (by decide) (fun c20 => ?_) (fun c20 => ?_)
    · have c20 := of_decide_eq_true (bb_n.mp c20)
      refine lv_aload_n hx hb dX4_proof_26 rfl (lv_at hl 0 rfl) ?_
      refine va_get (D := (dC, dI)) (ci := 4) (v := .ref (Q 14)) (C := RX4) (T := TX4) (N := 33) hx hb hts in0 hown hK hP 0 (xm_W_0 _ _) rfl 15 (by decide) lk1 (fun _ h9 => h9) rfl dX4_proof_27 ?_
      refine lv_iload_n hx hb dX4_proof_30 rfl (lv_at hl 1 rfl) ?_
      refine va_iald hx hb hK hP 14 0 (xm_W_14 _ _) rfl (rm_c hV c5) dX4_proof_31 ?_
      refine lv_if_ne (tgt := 63) hx hb dX4_proof_32 (by decide) (fun c32 => ?_) (fun c32 => ?_)
      · refine lv_bipush (v := (-103)) hx hb dX4_proof_63 (by decide) ?_
        exact W.iret (v := (-103)) hx hb hr (fun t ht hW => ⟨⟨(-103), σ, rfl, (by simp only [kr_proof, if_pos c5, if_pos c20, if_neg c32]), by rw [ht]; exact hP, va_K.moved hW.alike hK, hD⟩, hS.F ht⟩) hS.2.2 dX4_proof_65
      · refine lv_aload_n hx hb dX4_proof_35 rfl (lv_at hl 0 rfl) ?_
        refine va_get (D := (dC, dI)) (ci := 4) (v := .ref (Q 13)) (C := RX4) (T := TX4) (N := 33) hx hb hts in0 hown hK hP 0 (xm_W_0 _ _) rfl 14 (by decide) lk2 (fun _ h9 => h9) rfl dX4_proof_36 ?_
        refine lv_iload_n hx hb dX4_proof_39 rfl (lv_at hl 1 rfl) ?_
        refine va_iald hx hb hK hP 13 0 (xm_W_13 _ _) rfl (rm_c hV c5) dX4_proof_40 ?_
        refine lv_iload_n hx hb dX4_proof_41 rfl (lv_at hl 2 rfl) ?_
        refine vp_callSi (va_Run.run (va_runS (As := [.int ((σ.2.2.1 9) (x1).toNatClampNeg), .int x2]) (rest := []) ⟨hx, hb, hml, hown, hts⟩ (mr_needs l ((σ.2.2.1 9) (x1).toNatClampNeg) x2) (va_cwS 2 hts (al_gS wd_357 wd_358 wd_2 wd_359) rfl rfl rfl (by decide +kernel) ⟨Nat.le_of_ble_eq_true rfl, Nat.le_of_ble_eq_true rfl⟩) ⟨ct_bl0, ct_at0⟩ rfl rfl hl.1 rfl (lv_room (Nat.le_of_ble_eq_true rfl)) dX4_proof_42 ⟨Nat.le_of_ble_eq_true rfl, Nat.le_of_ble_eq_true rfl⟩)) (fun r42 hr42 => ?_)
        subst hr42
        refine lv_if_eq (tgt := 63) hx hb dX4_proof_45 (by decide) (fun c45 => ?_) (fun c45 => ?_)
        · have c45 := of_decide_eq_false (bb_0.mp c45)
          refine lv_bipush (v := (-103)) hx hb dX4_proof_63 (by decide) ?_
          exact W.iret (v := (-103)) hx hb hr (fun t ht hW => ⟨⟨(-103), σ, rfl, (by simp only [kr_proof, if_pos c5, if_pos c20, if_pos c32, if_neg c45]), by rw [ht]; exact hP, va_K.moved hW.alike hK, hD⟩, hS.F ht⟩) hS.2.2 dX4_proof_65
        · have c45 := of_decide_eq_true (bb_n.mp c45)
          refine lv_aload_n hx hb dX4_proof_48 rfl (lv_at hl 0 rfl) ?_
          refine va_get (D := (dC, dI)) (ci := 4) (v := .ref (Q 15)) (C := RX4) (T := TX4) (N := 33) hx hb hts in0 hown hK hP 0 (xm_W_0 _ _) rfl 16 (by decide) lk3 (fun _ h9 => h9) rfl dX4_proof_49 ?_
          refine lv_iconst (v := 4) hx hb dX4_proof_52 (by decide) ?_
          refine lv_iload_n hx hb dX4_proof_53 rfl (lv_at hl 1 rfl) ?_
          refine lv_imul hx hb dX4_proof_54 ?_
          refine lv_iconst (v := 4) hx hb dX4_proof_55 (by decide) ?_
          refine lv_isub hx hb dX4_proof_56 ?_
          refine lv_iload_n hx hb dX4_proof_57 rfl (lv_at hl 2 rfl) ?_
          refine lv_iadd hx hb dX4_proof_58 ?_
          refine va_zald hx hb hK hP 15 2 (xm_W_15 _ _) rfl (rm_qp hV c5 c20) dX4_proof_59 ?_
          refine lv_if_eq (tgt := 66) hx hb dX4_proof_60 (by decide) (fun c60 => ?_) (fun c60 => ?_)
          · refine lv_aload_n hx hb dX4_proof_66 rfl (lv_at hl 0 rfl) ?_
            refine va_get (D := (dC, dI)) (ci := 4) (v := .ref (Q 15)) (C := RX4) (T := TX4) (N := 33) hx hb hts in0 hown hK hP 0 (xm_W_0 _ _) rfl 16 (by decide) lk3 (fun _ h9 => h9) rfl dX4_proof_67 ?_
            refine lv_iconst (v := 4) hx hb dX4_proof_70 (by decide) ?_
            refine lv_iload_n hx hb dX4_proof_71 rfl (lv_at hl 1 rfl) ?_
            refine lv_imul hx hb dX4_proof_72 ?_
            refine lv_iconst (v := 4) hx hb dX4_proof_73 (by decide) ?_
            refine lv_isub hx hb dX4_proof_74 ?_
            refine lv_iload_n hx hb dX4_proof_75 rfl (lv_at hl 2 rfl) ?_
            refine lv_iadd hx hb dX4_proof_76 ?_
            refine lv_iconst (v := 1) hx hb dX4_proof_77 (by decide) ?_
            refine va_zast hx hb hK hP hD hS 15 2 (xm_W_15 _ _) rfl (rm_qp hV c5 c20) dX4_proof_78 (fun H locs hP hD hS => ?_)
            rw [vp_b1] at hP hD
            have hP : va_P (dC, dI) vwCl (xm_W Q cA (xs_ai σ 11 (upd (σ.2.2.1 11) ((((4 * x1) - 4) + x2)).toNatClampNeg 1)) ++ va_pl L f) H := hP
            have hD : va_D A (xm_W Q cA (xs_ai σ 11 (upd (σ.2.2.1 11) ((((4 * x1) - 4) + x2)).toNatClampNeg 1)) ++ va_pl L f) := hD
            refine lv_aload_n hx hb dX4_proof_79 rfl (lv_at hl 0 rfl) ?_
            refine lv_iload_n hx hb dX4_proof_80 rfl (lv_at hl 1 rfl) ?_
            refine vp_callSi (va_Run.run (va_runV (As := [.int x1]) (rest := []) ⟨hx, hb, hml, hown, hts⟩ (mr_lacks l dC dI cA Q (xs_ai σ 11 (upd (σ.2.2.1 11) ((((4 * x1) - 4) + x2)).toNatClampNeg 1)) n L f (show rm_V (xs_ai σ 11 (upd (σ.2.2.1 11) ((((4 * x1) - 4) + x2)).toNatClampNeg 1)) n from hV) x1 (show 1 ≤ x1 ∧ x1 ≤ (xs_ai σ 11 (upd (σ.2.2.1 11) ((((4 * x1) - 4) + x2)).toNatClampNeg 1)).1 1 from c5)) (cwV 1 hts (al_gV wd_360 wd_362 wd_361 wd_2 wd_363) rfl rfl rfl (by decide +kernel) ⟨Nat.le_of_ble_eq_true rfl, Nat.le_of_ble_eq_true rfl⟩) ⟨ct_blR, va_recv hK hP (ci := 4) (q0 := 0) rfl (xm_W_0 _ _), ct_atR hP hK⟩ rfl rfl hl.1 rfl (lv_room (Nat.le_of_ble_eq_true rfl)) dX4_proof_81 ⟨Nat.le_of_ble_eq_true rfl, Nat.le_of_ble_eq_true rfl⟩)) (fun r81 hr81 => ?_)
            subst hr81
            refine lv_istore_n (lv' := [(3, .int (la_r (xs_ai σ 11 (upd (σ.2.2.1 11) ((((4 * x1) - 4) + x2)).toNatClampNeg 1)) x1 4)), (0, .ref (Q 0)), (1, .int x1), (2, .int x2)]) hx hb dX4_proof_84 rfl hl (by decide) rfl (fun ls hl => ?_)
            refine lv_iload_n hx hb dX4_proof_85 rfl (lv_at hl 0 rfl) ?_
            refine lv_if_le (tgt := 95) hx hb dX4_proof_86 (by decide) (fun c86 => ?_) (fun c86 => ?_)
            · refine lv_iload_n hx hb dX4_proof_95 rfl (lv_at hl 0 rfl) ?_
              exact W.iret (v := (la_r (xs_ai σ 11 (upd (σ.2.2.1 11) ((((4 * x1) - 4) + x2)).toNatClampNeg 1)) x1 4)) hx hb hr (fun t ht hW => ⟨⟨(la_r (xs_ai σ 11 (upd (σ.2.2.1 11) ((((4 * x1) - 4) + x2)).toNatClampNeg 1)) x1 4), xs_ai σ 11 (upd (σ.2.2.1 11) ((((4 * x1) - 4) + x2)).toNatClampNeg 1), rfl, (by have c86 : la_r (pr_m σ x1 x2) x1 4 ≤ 0 := (c86); show (la_r (pr_m σ x1 x2) x1 4, pr_m σ x1 x2) = _; simp only [kr_proof, if_pos c5, if_pos c20, if_pos c32, if_pos c45, if_pos c60, if_neg (Int32.not_lt.mpr c86)]), by rw [ht]; exact hP, va_K.moved hW.alike hK, hD⟩, hS.F ht⟩) hS.2.2 dX4_proof_96
            · refine lv_aload_n hx hb dX4_proof_89 rfl (lv_at hl 1 rfl) ?_
              refine lv_iload_n hx hb dX4_proof_90 rfl (lv_at hl 2 rfl) ?_
              refine lv_iconst (v := 2) hx hb dX4_proof_91 (by decide) ?_
              have hFc := ct_free hD hS hA
              refine va_callv (va_runV (As := [.int x1, .int 2]) (rest := []) ⟨hx, hb, hml, hown, hts⟩ (mr_send l dC dI cA H.size Q (xs_ai σ 11 (upd (σ.2.2.1 11) ((((4 * x1) - 4) + x2)).toNatClampNeg 1)) L f n.2.2.2 (show (xs_ai σ 11 (upd (σ.2.2.1 11) ((((4 * x1) - 4) + x2)).toNatClampNeg 1)).1 4 = nI n.2.2.2 from hV.1.2.2.2.2.2.2.1) (by have := hV.1.2.2.2.2.2.2.2; omega) x1 2) (cwV 2 hts (al_gV wd_345 wd_347 wd_346 wd_2 wd_348) rfl rfl rfl (by decide +kernel) ⟨Nat.le_of_ble_eq_true rfl, Nat.le_of_ble_eq_true rfl⟩) ⟨ct_blM, va_recv hK hP (ci := 4) (q0 := 0) rfl (xm_W_0 _ _), ct_atM hP hK hD⟩ rfl rfl hl.1 rfl (lv_room (Nat.le_of_ble_eq_true rfl)) dX4_proof_92 ⟨Nat.le_of_ble_eq_true rfl, Nat.le_of_ble_eq_true rfl⟩) hS (fun q _ h => hFc q h) hFc (fun u92 t H1 locs ht hvm hr92 hB hz1 hk1 hS => ?_)
              obtain ⟨hP, -, hD1⟩ := hB
              rw [ht] at hP
              have hD := hD1.weaken (fun _ _ _ h => hFc _ h)
              clear hD1 hk1 hz1 hFc hvm
              generalize H1 = H at hP hS ht ⊢
              clear ht
              refine W.widen (k := 0) (n := 0) (by decide) (by decide) ?_
              subst hr92
              have hP : va_P (dC, dI) vwCl (xm_W Q cA (sm_nd (xs_ai σ 11 (upd (σ.2.2.1 11) ((((4 * x1) - 4) + x2)).toNatClampNeg 1)) x1 2) ++ va_pl L f) H := hP
              have hD : va_D A (xm_W Q cA (sm_nd (xs_ai σ 11 (upd (σ.2.2.1 11) ((((4 * x1) - 4) + x2)).toNatClampNeg 1)) x1 2) ++ va_pl L f) := hD
              refine lv_iload_n hx hb dX4_proof_95 rfl (lv_at hl 0 rfl) ?_
              exact W.iret (v := (la_r (xs_ai σ 11 (upd (σ.2.2.1 11) ((((4 * x1) - 4) + x2)).toNatClampNeg 1)) x1 4)) hx hb hr (fun t ht hW => ⟨⟨(la_r (xs_ai σ 11 (upd (σ.2.2.1 11) ((((4 * x1) - 4) + x2)).toNatClampNeg 1)) x1 4), (sm_nd (xs_ai σ 11 (upd (σ.2.2.1 11) ((((4 * x1) - 4) + x2)).toNatClampNeg 1)) x1 2), rfl, (by have c86 : ¬ la_r (pr_m σ x1 x2) x1 4 ≤ 0 := c86; show (la_r (pr_m σ x1 x2) x1 4, sm_nd (pr_m σ x1 x2) x1 2) = _; simp only [kr_proof, if_pos c5, if_pos c20, if_pos c32, if_pos c45, if_pos c60, if_pos (Int32.not_le.mp c86)]), by rw [ht]; exact hP, va_K.moved hW.alike hK, hD⟩, hS.F ht⟩) hS.2.2 dX4_proof_96
          · refine lv_bipush (v := (-103)) hx hb dX4_proof_63 (by decide) ?_
            exact W.iret (v := (-103)) hx hb hr (fun t ht hW => ⟨⟨(-103), σ, rfl, (by simp only [kr_proof, if_pos c5, if_pos c20, if_pos c32, if_pos c45, if_neg c60]), by rw [ht]; exact hP, va_K.moved hW.alike hK, hD⟩, hS.F ht⟩) hS.2.2 dX4_proof_65
    · have c20 := of_decide_eq_false (bb_0.mp c20)
      refine lv_bipush (v := (-102)) hx hb dX4_proof_23 (by decide) ?_
      exact W.iret (v := (-102)) hx hb hr (fun t ht hW => ⟨⟨(-102), σ, rfl, (by simp only [kr_proof, if_pos c5, if_neg c20]), by rw [ht]; exact hP, va_K.moved hW.alike hK, hD⟩, hS.F ht⟩) hS.2.2 dX4_proof_25
  · have c5 := of_decide_eq_false (bb_0.mp c5)
    refine lv_bipush (v := (-101)) hx hb dX4_proof_8 (by decide) ?_
    exact W.iret (v := (-101)) hx hb hr (fun t ht hW => ⟨⟨(-101), σ, rfl, (by simp only [kr_proof, if_neg c5]), by rw [ht]; exact hP, va_K.moved hW.alike hK, hD⟩, hS.F ht⟩) hS.2.2 dX4_proof_10
set_option maxHeartbeats 4000000 in
set_option maxRecDepth 100000 in
/-- mr_search -/
theorem mr_search (l : Launch) (dC : Nat → ClassId) (dI : Nat → Nat → Nat) (cA : Nat → ClassId) (sz : Nat) (Q : Nat → Nat) (σ : xs_T) (n : nn_T) (L : List Nat) (f : Nat → va_E) (hV : rm_V σ n) (x1 x2 x3 : Int32) : Met l yX4_search wsX4_search ({ frames := 1, cells := 0, slots := 0, locals := 25 }) (va_Pc [.ref (Q 0), .int x1, .int x2, .int x3] (ct_M (dC, dI) vwCl (ty_K cA) (xm_W Q cA σ ++ va_pl L f) sz)) (va_Qi (fun r u => (r, u) = kr_search σ x1 x2 x3) (fun u t => ct_B (dC, dI) vwCl (ty_K cA) (va_A (xm_W Q cA σ ++ va_pl L f) sz) (xm_W Q cA u ++ va_pl L f) t) (va_A (xm_W Q cA σ ++ va_pl L f) sz)) 0 0 (va_A (xm_W Q cA σ ++ va_pl L f) sz) := by
  refine Met.ofW (cc := cX4_search) (maxL := 4) (ret := (some .int)) (by decide) rfl ?_
  intro p e s m args below meth c s₁ B hml hv
  obtain ⟨rfl, hsz, hP, hK, hD0⟩ := hv
  have hx := B.exec
  have hb := B.bytes
  have hr := B.returns
  have hts := atoms_spec (ws := wsX4_search) B.pre
  have hown : s.vm.findClass RX4 = some m.cls := findClass_of_methodNamed B.named
  have hlocks := B.notSynchronized
  subst hsz
  have hD := hD0.self (sz := s.heap.size)
  generalize hAe : va_A (xm_W Q cA σ ++ va_pl L f) s.heap.size = A at hD ⊢
  have hA : ∀ q : Nat, s.heap.size ≤ q → A q := fun q h => by rw [← hAe]; exact Or.inr h
  clear hAe hD0
  have hS : va_S A s.heap s.heap [] := va_S.rf
  have hl := lv_entry ([.ref (Q 0), .int x1, .int x2, .int x3]) (n := 4) (Nat.le_of_ble_eq_true rfl)
  rw [lg_entry_eq]
  generalize (lg_sl ([.ref (Q 0), .int x1, .int x2, .int x3]) ++ List.replicate (4 - (lg_sl ([.ref (Q 0), .int x1, .int x2, .int x3])).length) Slot.unset).toArray = ls at hl ⊢
  have hl : lv_has ls 4 [(0, .ref (Q 0)), (1, .int x1), (2, .int x2), (3, .int x3)] := hl
  have lk0 := hts (.constantLong RX4 140 49) (List.mem_cons_of_mem _ wd_368)
  have lk1 := hts (.fieldLink RX4 142 "ClaimRowsModel" "clock" "I") (List.mem_cons_of_mem _ wd_301)
  have lk2 := hts (.constantLong RX4 119 200000) (List.mem_cons_of_mem _ wd_340)
  have lk3 := hts (.fieldLink RX4 51 "ClaimRowsModel" "state" "[I") (List.mem_cons_of_mem _ wd_291)
  have lk4 := hts (.fieldLink RX4 48 "ClaimRowsModel" "kindOf" "[I") (List.mem_cons_of_mem _ wd_290)
  have lk5 := hts (.fieldLink RX4 145 "ClaimRowsModel" "searches" "I") (List.mem_cons_of_mem _ wd_296)
  have lk6 := hts (.fieldLink RX4 66 "ClaimRowsModel" "claimOf" "[I") (List.mem_cons_of_mem _ wd_297)
  have lk7 := hts (.fieldLink RX4 69 "ClaimRowsModel" "due" "[I") (List.mem_cons_of_mem _ wd_298)
  have lk8 := hts (.fieldLink RX4 72 "ClaimRowsModel" "found" "[I") (List.mem_cons_of_mem _ wd_299)
  have lk9 := hts (.fieldLink RX4 75 "ClaimRowsModel" "counts" "[Z") (List.mem_cons_of_mem _ wd_300)
  have in0 : ∀ w ∈ u_ws RX4 TX4 33, w ∈ wsX4_search := fun w h => List.mem_cons_of_mem _ (wu_X4 w h)
  have hn0 : (σ.1 0).toNatClampNeg = n.1 := by rw [hV.1.1]; exact nI_clamp (by have := hV.1.2.1; omega)
  have hn1 : (σ.1 1).toNatClampNeg = n.2.1 := by rw [hV.1.2.2.1]; exact nI_clamp (by have := hV.1.2.2.2.1; omega)
  have hn2 : (σ.1 2).toNatClampNeg = n.2.2.1 := by rw [hV.1.2.2.2.2.1]; exact nI_clamp (by have := hV.1.2.2.2.2.2.1; omega)
  refine lv_aload_n hx hb dX4_search_0 rfl (lv_at hl 0 rfl) ?_
  refine lv_iload_n hx hb dX4_search_1 rfl (lv_at hl 1 rfl) ?_
  refine vp_callSi (va_Run.run (va_runV (As := [.int x1]) (rest := []) ⟨hx, hb, hml, hown, hts⟩ (mr_isClaim l dC dI cA Q σ L f x1) (cwV 1 hts (al_gV wd_353 wd_355 wd_354 wd_2 wd_356) rfl rfl rfl (by decide +kernel) ⟨Nat.le_of_ble_eq_true rfl, Nat.le_of_ble_eq_true rfl⟩) ⟨ct_blR, va_recv hK hP (ci := 4) (q0 := 0) rfl (xm_W_0 _ _), ct_atR hP hK⟩ rfl rfl hl.1 rfl (lv_room (Nat.le_of_ble_eq_true rfl)) dX4_search_2 ⟨Nat.le_of_ble_eq_true rfl, Nat.le_of_ble_eq_true rfl⟩)) (fun r2 hr2 => ?_)
  subst hr2
  refine lv_if_ne (tgt := 11) hx hb dX4_search_5 (by decide) (fun c5 => ?_) (fun c5 => ?_)
  · have c5 := of_decide_eq_true (bb_n.mp c5)
    refine lv_iload_n hx hb dX4_search_11 rfl (lv_at hl 2 rfl) ?_
    refine lv_i2l (v := (x2 : Int32).toInt64) hx hb dX4_search_12 rfl ?_
    refine lv_lconst (v := 0) hx hb dX4_search_13 (by decide) ?_
    refine lv_ldc2 hx hb hown lk0 dX4_search_14 ?_
    refine vp_callSi (va_Run.run (va_runS (As := [.long ((x2 : Int32).toInt64), .long 0, .long 49]) (rest := []) ⟨hx, hb, hml, hown, hts⟩ (mr_isIn l ((x2 : Int32).toInt64) 0 49) (va_cwS 3 hts (al_gS wd_315 wd_316 wd_2 wd_317) rfl rfl rfl (by decide +kernel) ⟨Nat.le_of_ble_eq_true rfl, Nat.le_of_ble_eq_true rfl⟩) ⟨ct_bl0, ct_at0⟩ rfl rfl hl.1 rfl (lv_room (Nat.le_of_ble_eq_true rfl)) dX4_search_17 ⟨Nat.le_of_ble_eq_true rfl, Nat.le_of_ble_eq_true rfl⟩)) (fun r17 hr17 => ?_)
    subst hr17
    refine lv_if_eq (tgt := 39) hx hb dX4_search_20 (by decide) (fun c20 => ?_) (fun c20 => ?_)
    · have c20 := of_decide_eq_false (bb_0.mp c20)
      refine lv_bipush (v := (-102)) hx hb dX4_search_39 (by decide) ?_
      exact W.iret (v := (-102)) hx hb hr (fun t ht hW => ⟨⟨(-102), σ, rfl, (by simp only [kr_search, if_pos c5, if_neg c20]), by rw [ht]; exact hP, va_K.moved hW.alike hK, hD⟩, hS.F ht⟩) hS.2.2 dX4_search_41
    · have c20 := of_decide_eq_true (bb_n.mp c20)
      refine lv_iload_n hx hb dX4_search_23 rfl (lv_at hl 3 rfl) ?_
      refine lv_i2l (v := (x3 : Int32).toInt64) hx hb dX4_search_24 rfl ?_
      refine lv_aload_n hx hb dX4_search_25 rfl (lv_at hl 0 rfl) ?_
      refine va_get (D := (dC, dI)) (ci := 4) (v := .int (σ.1 3)) (C := RX4) (T := TX4) (N := 33) hx hb hts in0 hown hK hP 0 (xm_W_0 _ _) rfl 25 (by decide) lk1 (fun _ h9 => h9) rfl dX4_search_26 ?_
      refine lv_i2l (v := ((σ.1 3) : Int32).toInt64) hx hb dX4_search_29 rfl ?_
      refine lv_ldc2 hx hb hown lk2 dX4_search_30 ?_
      refine vp_callSi (va_Run.run (va_runS (As := [.long ((x3 : Int32).toInt64), .long (((σ.1 3) : Int32).toInt64), .long 200000]) (rest := []) ⟨hx, hb, hml, hown, hts⟩ (mr_isIn l ((x3 : Int32).toInt64) (((σ.1 3) : Int32).toInt64) 200000) (va_cwS 3 hts (al_gS wd_315 wd_316 wd_2 wd_317) rfl rfl rfl (by decide +kernel) ⟨Nat.le_of_ble_eq_true rfl, Nat.le_of_ble_eq_true rfl⟩) ⟨ct_bl0, ct_at0⟩ rfl rfl hl.1 rfl (lv_room (Nat.le_of_ble_eq_true rfl)) dX4_search_33 ⟨Nat.le_of_ble_eq_true rfl, Nat.le_of_ble_eq_true rfl⟩)) (fun r33 hr33 => ?_)
      subst hr33
      refine lv_if_ne (tgt := 42) hx hb dX4_search_36 (by decide) (fun c36 => ?_) (fun c36 => ?_)
      · have c36 := of_decide_eq_true (bb_n.mp c36)
        refine lv_aload_n hx hb dX4_search_42 rfl (lv_at hl 0 rfl) ?_
        refine va_get (D := (dC, dI)) (ci := 4) (v := .ref (Q 14)) (C := RX4) (T := TX4) (N := 33) hx hb hts in0 hown hK hP 0 (xm_W_0 _ _) rfl 15 (by decide) lk3 (fun _ h9 => h9) rfl dX4_search_43 ?_
        refine lv_iload_n hx hb dX4_search_46 rfl (lv_at hl 1 rfl) ?_
        refine va_iald hx hb hK hP 14 0 (xm_W_14 _ _) rfl (rm_c hV c5) dX4_search_47 ?_
        refine lv_if_ne (tgt := 60) hx hb dX4_search_48 (by decide) (fun c48 => ?_) (fun c48 => ?_)
        · refine lv_bipush (v := (-103)) hx hb dX4_search_60 (by decide) ?_
          exact W.iret (v := (-103)) hx hb hr (fun t ht hW => ⟨⟨(-103), σ, rfl, (by simp only [kr_search, if_pos c5, if_pos c20, if_pos c36, if_neg c48]), by rw [ht]; exact hP, va_K.moved hW.alike hK, hD⟩, hS.F ht⟩) hS.2.2 dX4_search_62
        · refine lv_aload_n hx hb dX4_search_51 rfl (lv_at hl 0 rfl) ?_
          refine va_get (D := (dC, dI)) (ci := 4) (v := .ref (Q 13)) (C := RX4) (T := TX4) (N := 33) hx hb hts in0 hown hK hP 0 (xm_W_0 _ _) rfl 14 (by decide) lk4 (fun _ h9 => h9) rfl dX4_search_52 ?_
          refine lv_iload_n hx hb dX4_search_55 rfl (lv_at hl 1 rfl) ?_
          refine va_iald hx hb hK hP 13 0 (xm_W_13 _ _) rfl (rm_c hV c5) dX4_search_56 ?_
          refine lv_if_eq (tgt := 63) hx hb dX4_search_57 (by decide) (fun c57 => ?_) (fun c57 => ?_)
          · refine lv_aload_n hx hb dX4_search_63 rfl (lv_at hl 0 rfl) ?_
            refine va_get (D := (dC, dI)) (ci := 4) (v := .int (σ.1 2)) (C := RX4) (T := TX4) (N := 33) hx hb hts in0 hown hK hP 0 (xm_W_0 _ _) rfl 20 (by decide) lk5 (fun _ h9 => h9) rfl dX4_search_64 ?_
            refine lv_bipush (v := 100) hx hb dX4_search_67 (by decide) ?_
            refine lv_icmp_ne (tgt := 75) hx hb dX4_search_69 (by decide) (fun c69 => ?_) (fun c69 => ?_)
            · refine lv_aload_n hx hb dX4_search_75 rfl (lv_at hl 0 rfl) ?_
              refine lv_dup hx hb dX4_search_76 rfl ?_
              refine va_get (D := (dC, dI)) (ci := 4) (v := .int (σ.1 2)) (C := RX4) (T := TX4) (N := 33) hx hb hts in0 hown hK hP 0 (xm_W_0 _ _) rfl 20 (by decide) lk5 (fun _ h9 => h9) rfl dX4_search_77 ?_
              refine lv_iconst (v := 1) hx hb dX4_search_80 (by decide) ?_
              refine lv_iadd hx hb dX4_search_81 ?_
              refine va_put (D := (dC, dI)) (ci := 4) (v := .int ((σ.1 2) + 1)) (ty := .int) (C := RX4) (T := TX4) (N := 33) hx hb hts in0 tyX4 tyX4_ok nmX4 hown hK hP hD hS 0 (xm_W_0 _ _) rfl 20 (by decide) lk5 (fun _ h9 => h9) rfl (by decide +kernel) rfl rfl (Nat.le_of_ble_eq_true rfl) dX4_search_82 (fun H locs hP hD hS => ?_)
              have hP : va_P (dC, dI) vwCl (xm_W Q cA (xs_i σ 2 ((σ.1 2) + 1)) ++ va_pl L f) H := hP
              have hD : va_D A (xm_W Q cA (xs_i σ 2 ((σ.1 2) + 1)) ++ va_pl L f) := hD
              refine lv_aload_n hx hb dX4_search_85 rfl (lv_at hl 0 rfl) ?_
              refine va_get (D := (dC, dI)) (ci := 4) (v := .ref (Q 19)) (C := RX4) (T := TX4) (N := 33) hx hb hts in0 hown hK hP 0 (xm_W_0 _ _) rfl 21 (by decide) lk6 (fun _ h9 => h9) rfl dX4_search_86 ?_
              refine lv_aload_n hx hb dX4_search_89 rfl (lv_at hl 0 rfl) ?_
              refine va_get (D := (dC, dI)) (ci := 4) (v := .int ((σ.1 2) + 1)) (C := RX4) (T := TX4) (N := 33) hx hb hts in0 hown hK hP 0 (xm_W_0 _ _) rfl 20 (by decide) lk5 (fun _ h9 => h9) rfl dX4_search_90 ?_
              refine lv_iload_n hx hb dX4_search_93 rfl (lv_at hl 1 rfl) ?_
              refine va_iast hx hb hK hP hD hS 19 0 (xm_W_19 _ _) rfl (rm_nw hV.1.2.2.2.2.1 hV.1.2.2.2.2.2.1 c69 (by decide)) dX4_search_94 (fun H locs hP hD hS => ?_)
              have hP : va_P (dC, dI) vwCl (xm_W Q cA (xs_ai (xs_i σ 2 ((σ.1 2) + 1)) 14 (upd (σ.2.2.1 14) (((σ.1 2) + 1)).toNatClampNeg x1)) ++ va_pl L f) H := hP
              have hD : va_D A (xm_W Q cA (xs_ai (xs_i σ 2 ((σ.1 2) + 1)) 14 (upd (σ.2.2.1 14) (((σ.1 2) + 1)).toNatClampNeg x1)) ++ va_pl L f) := hD
              refine lv_aload_n hx hb dX4_search_95 rfl (lv_at hl 0 rfl) ?_
              refine va_get (D := (dC, dI)) (ci := 4) (v := .ref (Q 20)) (C := RX4) (T := TX4) (N := 33) hx hb hts in0 hown hK hP 0 (xm_W_0 _ _) rfl 22 (by decide) lk7 (fun _ h9 => h9) rfl dX4_search_96 ?_
              refine lv_aload_n hx hb dX4_search_99 rfl (lv_at hl 0 rfl) ?_
              refine va_get (D := (dC, dI)) (ci := 4) (v := .int ((σ.1 2) + 1)) (C := RX4) (T := TX4) (N := 33) hx hb hts in0 hown hK hP 0 (xm_W_0 _ _) rfl 20 (by decide) lk5 (fun _ h9 => h9) rfl dX4_search_100 ?_
              refine lv_iload_n hx hb dX4_search_103 rfl (lv_at hl 3 rfl) ?_
              refine va_iast hx hb hK hP hD hS 20 0 (xm_W_20 _ _) rfl (rm_nw hV.1.2.2.2.2.1 hV.1.2.2.2.2.2.1 c69 (by decide)) dX4_search_104 (fun H locs hP hD hS => ?_)
              have hP : va_P (dC, dI) vwCl (xm_W Q cA (xs_ai (xs_ai (xs_i σ 2 ((σ.1 2) + 1)) 14 (upd (σ.2.2.1 14) (((σ.1 2) + 1)).toNatClampNeg x1)) 15 (upd (σ.2.2.1 15) (((σ.1 2) + 1)).toNatClampNeg x3)) ++ va_pl L f) H := hP
              have hD : va_D A (xm_W Q cA (xs_ai (xs_ai (xs_i σ 2 ((σ.1 2) + 1)) 14 (upd (σ.2.2.1 14) (((σ.1 2) + 1)).toNatClampNeg x1)) 15 (upd (σ.2.2.1 15) (((σ.1 2) + 1)).toNatClampNeg x3)) ++ va_pl L f) := hD
              refine lv_aload_n hx hb dX4_search_105 rfl (lv_at hl 0 rfl) ?_
              refine va_get (D := (dC, dI)) (ci := 4) (v := .ref (Q 21)) (C := RX4) (T := TX4) (N := 33) hx hb hts in0 hown hK hP 0 (xm_W_0 _ _) rfl 23 (by decide) lk8 (fun _ h9 => h9) rfl dX4_search_106 ?_
              refine lv_aload_n hx hb dX4_search_109 rfl (lv_at hl 0 rfl) ?_
              refine va_get (D := (dC, dI)) (ci := 4) (v := .int ((σ.1 2) + 1)) (C := RX4) (T := TX4) (N := 33) hx hb hts in0 hown hK hP 0 (xm_W_0 _ _) rfl 20 (by decide) lk5 (fun _ h9 => h9) rfl dX4_search_110 ?_
              refine lv_iconst (v := 0) hx hb dX4_search_113 (by decide) ?_
              refine va_iast hx hb hK hP hD hS 21 0 (xm_W_21 _ _) rfl (rm_nw hV.1.2.2.2.2.1 hV.1.2.2.2.2.2.1 c69 (by decide)) dX4_search_114 (fun H locs hP hD hS => ?_)
              have hP : va_P (dC, dI) vwCl (xm_W Q cA (xs_ai (xs_ai (xs_ai (xs_i σ 2 ((σ.1 2) + 1)) 14 (upd (σ.2.2.1 14) (((σ.1 2) + 1)).toNatClampNeg x1)) 15 (upd (σ.2.2.1 15) (((σ.1 2) + 1)).toNatClampNeg x3)) 16 (upd (σ.2.2.1 16) (((σ.1 2) + 1)).toNatClampNeg 0)) ++ va_pl L f) H := hP
              have hD : va_D A (xm_W Q cA (xs_ai (xs_ai (xs_ai (xs_i σ 2 ((σ.1 2) + 1)) 14 (upd (σ.2.2.1 14) (((σ.1 2) + 1)).toNatClampNeg x1)) 15 (upd (σ.2.2.1 15) (((σ.1 2) + 1)).toNatClampNeg x3)) 16 (upd (σ.2.2.1 16) (((σ.1 2) + 1)).toNatClampNeg 0)) ++ va_pl L f) := hD
              refine lv_aload_n hx hb dX4_search_115 rfl (lv_at hl 0 rfl) ?_
              refine va_get (D := (dC, dI)) (ci := 4) (v := .ref (Q 22)) (C := RX4) (T := TX4) (N := 33) hx hb hts in0 hown hK hP 0 (xm_W_0 _ _) rfl 24 (by decide) lk9 (fun _ h9 => h9) rfl dX4_search_116 ?_
              refine lv_aload_n hx hb dX4_search_119 rfl (lv_at hl 0 rfl) ?_
              refine va_get (D := (dC, dI)) (ci := 4) (v := .int ((σ.1 2) + 1)) (C := RX4) (T := TX4) (N := 33) hx hb hts in0 hown hK hP 0 (xm_W_0 _ _) rfl 20 (by decide) lk5 (fun _ h9 => h9) rfl dX4_search_120 ?_
              refine lv_iconst (v := 1) hx hb dX4_search_123 (by decide) ?_
              refine va_zast hx hb hK hP hD hS 22 2 (xm_W_22 _ _) rfl (rm_nw hV.1.2.2.2.2.1 hV.1.2.2.2.2.2.1 c69 (by decide)) dX4_search_124 (fun H locs hP hD hS => ?_)
              rw [vp_b1] at hP hD
              have hP : va_P (dC, dI) vwCl (xm_W Q cA (xs_ai (xs_ai (xs_ai (xs_ai (xs_i σ 2 ((σ.1 2) + 1)) 14 (upd (σ.2.2.1 14) (((σ.1 2) + 1)).toNatClampNeg x1)) 15 (upd (σ.2.2.1 15) (((σ.1 2) + 1)).toNatClampNeg x3)) 16 (upd (σ.2.2.1 16) (((σ.1 2) + 1)).toNatClampNeg 0)) 17 (upd (σ.2.2.1 17) (((σ.1 2) + 1)).toNatClampNeg 1)) ++ va_pl L f) H := hP
              have hD : va_D A (xm_W Q cA (xs_ai (xs_ai (xs_ai (xs_ai (xs_i σ 2 ((σ.1 2) + 1)) 14 (upd (σ.2.2.1 14) (((σ.1 2) + 1)).toNatClampNeg x1)) 15 (upd (σ.2.2.1 15) (((σ.1 2) + 1)).toNatClampNeg x3)) 16 (upd (σ.2.2.1 16) (((σ.1 2) + 1)).toNatClampNeg 0)) 17 (upd (σ.2.2.1 17) (((σ.1 2) + 1)).toNatClampNeg 1)) ++ va_pl L f) := hD
              refine lv_aload_n hx hb dX4_search_125 rfl (lv_at hl 0 rfl) ?_
              refine va_get (D := (dC, dI)) (ci := 4) (v := .int ((σ.1 2) + 1)) (C := RX4) (T := TX4) (N := 33) hx hb hts in0 hown hK hP 0 (xm_W_0 _ _) rfl 20 (by decide) lk5 (fun _ h9 => h9) rfl dX4_search_126 ?_
              exact W.iret (v := ((σ.1 2) + 1)) hx hb hr (fun t ht hW => ⟨⟨((σ.1 2) + 1), xs_ai (xs_ai (xs_ai (xs_ai (xs_i σ 2 ((σ.1 2) + 1)) 14 (upd (σ.2.2.1 14) (((σ.1 2) + 1)).toNatClampNeg x1)) 15 (upd (σ.2.2.1 15) (((σ.1 2) + 1)).toNatClampNeg x3)) 16 (upd (σ.2.2.1 16) (((σ.1 2) + 1)).toNatClampNeg 0)) 17 (upd (σ.2.2.1 17) (((σ.1 2) + 1)).toNatClampNeg 1), rfl, (by simp only [kr_search, if_pos c5, if_pos c20, if_pos c36, if_pos c48, if_pos c57, if_neg c69]; all_goals (first | done | rfl)), by rw [ht]; exact hP, va_K.moved hW.alike hK, hD⟩, hS.F ht⟩) hS.2.2 dX4_search_129
            · refine lv_bipush (v := (-104)) hx hb dX4_search_72 (by decide) ?_
              exact W.iret (v := (-104)) hx hb hr (fun t ht hW => ⟨⟨(-104), σ, rfl, (by simp only [kr_search, if_pos c5, if_pos c20, if_pos c36, if_pos c48, if_pos c57, if_pos c69]), by rw [ht]; exact hP, va_K.moved hW.alike hK, hD⟩, hS.F ht⟩) hS.2.2 dX4_search_74
          · refine lv_bipush (v := (-103)) hx hb dX4_search_60 (by decide) ?_
            exact W.iret (v := (-103)) hx hb hr (fun t ht hW => ⟨⟨(-103), σ, rfl, (by simp only [kr_search, if_pos c5, if_pos c20, if_pos c36, if_pos c48, if_neg c57]), by rw [ht]; exact hP, va_K.moved hW.alike hK, hD⟩, hS.F ht⟩) hS.2.2 dX4_search_62
      · have c36 := of_decide_eq_false (bb_0.mp c36)
        refine lv_bipush (v := (-102)) hx hb dX4_search_39 (by decide) ?_
        exact W.iret (v := (-102)) hx hb hr (fun t ht hW => ⟨⟨(-102), σ, rfl, (by simp only [kr_search, if_pos c5, if_pos c20, if_neg c36]), by rw [ht]; exact hP, va_K.moved hW.alike hK, hD⟩, hS.F ht⟩) hS.2.2 dX4_search_41
  · have c5 := of_decide_eq_false (bb_0.mp c5)
    refine lv_bipush (v := (-101)) hx hb dX4_search_8 (by decide) ?_
    exact W.iret (v := (-101)) hx hb hr (fun t ht hW => ⟨⟨(-101), σ, rfl, (by simp only [kr_search, if_neg c5]), by rw [ht]; exact hP, va_K.moved hW.alike hK, hD⟩, hS.F ht⟩) hS.2.2 dX4_search_10
set_option maxHeartbeats 4000000 in
set_option maxRecDepth 100000 in
/-- mr_answer -/
theorem mr_answer (l : Launch) (dC : Nat → ClassId) (dI : Nat → Nat → Nat) (cA : Nat → ClassId) (sz : Nat) (Q : Nat → Nat) (σ : xs_T) (n : nn_T) (L : List Nat) (f : Nat → va_E) (hV : rm_V σ n) (x1 : Int32) (b : Bool) : Met l yX4_answer wsX4_answer ({ frames := 0, cells := 0, slots := 0, locals := 0 }) (va_Pc [.ref (Q 0), .int x1, .int (bb_v b)] (ct_M (dC, dI) vwCl (ty_K cA) (xm_W Q cA σ ++ va_pl L f) sz)) (va_Qi (fun r u => (r, u) = kr_answer σ x1 b) (fun u t => ct_B (dC, dI) vwCl (ty_K cA) (va_A (xm_W Q cA σ ++ va_pl L f) sz) (xm_W Q cA u ++ va_pl L f) t) (va_A (xm_W Q cA σ ++ va_pl L f) sz)) 0 0 (va_A (xm_W Q cA σ ++ va_pl L f) sz) := by
  refine Met.ofW (cc := cX4_answer) (maxL := 3) (ret := (some .int)) (by decide) rfl ?_
  intro p e s m args below meth c s₁ B hml hv
  obtain ⟨rfl, hsz, hP, hK, hD0⟩ := hv
  have hx := B.exec
  have hb := B.bytes
  have hr := B.returns
  have hts := atoms_spec (ws := wsX4_answer) B.pre
  have hown : s.vm.findClass RX4 = some m.cls := findClass_of_methodNamed B.named
  have hlocks := B.notSynchronized
  subst hsz
  have hD := hD0.self (sz := s.heap.size)
  generalize hAe : va_A (xm_W Q cA σ ++ va_pl L f) s.heap.size = A at hD ⊢
  have hA : ∀ q : Nat, s.heap.size ≤ q → A q := fun q h => by rw [← hAe]; exact Or.inr h
  clear hAe hD0
  have hS : va_S A s.heap s.heap [] := va_S.rf
  have hl := lv_entry ([.ref (Q 0), .int x1, .int (bb_v b)]) (n := 3) (Nat.le_of_ble_eq_true rfl)
  rw [lg_entry_eq]
  generalize (lg_sl ([.ref (Q 0), .int x1, .int (bb_v b)]) ++ List.replicate (3 - (lg_sl ([.ref (Q 0), .int x1, .int (bb_v b)])).length) Slot.unset).toArray = ls at hl ⊢
  have hl : lv_has ls 3 [(0, .ref (Q 0)), (1, .int x1), (2, .int (bb_v b))] := hl
  have lk0 := hts (.fieldLink RX4 145 "ClaimRowsModel" "searches" "I") (List.mem_cons_of_mem _ wd_296)
  have lk1 := hts (.fieldLink RX4 72 "ClaimRowsModel" "found" "[I") (List.mem_cons_of_mem _ wd_299)
  have in0 : ∀ w ∈ u_ws RX4 TX4 33, w ∈ wsX4_answer := fun w h => List.mem_cons_of_mem _ (wu_X4 w h)
  have hn0 : (σ.1 0).toNatClampNeg = n.1 := by rw [hV.1.1]; exact nI_clamp (by have := hV.1.2.1; omega)
  have hn1 : (σ.1 1).toNatClampNeg = n.2.1 := by rw [hV.1.2.2.1]; exact nI_clamp (by have := hV.1.2.2.2.1; omega)
  have hn2 : (σ.1 2).toNatClampNeg = n.2.2.1 := by rw [hV.1.2.2.2.2.1]; exact nI_clamp (by have := hV.1.2.2.2.2.2.1; omega)
  refine lv_iload_n hx hb dX4_answer_0 rfl (lv_at hl 1 rfl) ?_
  refine lv_iconst (v := 1) hx hb dX4_answer_1 (by decide) ?_
  refine lv_icmp_lt (tgt := 13) hx hb dX4_answer_2 (by decide) (fun c2 => ?_) (fun c2 => ?_)
  · refine lv_bipush (v := (-101)) hx hb dX4_answer_13 (by decide) ?_
    exact W.iret (v := (-101)) hx hb hr (fun t ht hW => ⟨⟨(-101), σ, rfl, (by simp only [kr_answer, if_pos c2]), by rw [ht]; exact hP, va_K.moved hW.alike hK, hD⟩, hS.F ht⟩) hS.2.2 dX4_answer_15
  · refine lv_iload_n hx hb dX4_answer_5 rfl (lv_at hl 1 rfl) ?_
    refine lv_aload_n hx hb dX4_answer_6 rfl (lv_at hl 0 rfl) ?_
    refine va_get (D := (dC, dI)) (ci := 4) (v := .int (σ.1 2)) (C := RX4) (T := TX4) (N := 33) hx hb hts in0 hown hK hP 0 (xm_W_0 _ _) rfl 20 (by decide) lk0 (fun _ h9 => h9) rfl dX4_answer_7 ?_
    refine lv_icmp_le (tgt := 16) hx hb dX4_answer_10 (by decide) (fun c10 => ?_) (fun c10 => ?_)
    · refine lv_aload_n hx hb dX4_answer_16 rfl (lv_at hl 0 rfl) ?_
      refine va_get (D := (dC, dI)) (ci := 4) (v := .ref (Q 21)) (C := RX4) (T := TX4) (N := 33) hx hb hts in0 hown hK hP 0 (xm_W_0 _ _) rfl 23 (by decide) lk1 (fun _ h9 => h9) rfl dX4_answer_17 ?_
      refine lv_iload_n hx hb dX4_answer_20 rfl (lv_at hl 1 rfl) ?_
      refine va_iald hx hb hK hP 21 0 (xm_W_21 _ _) rfl (rm_s hV c2 c10) dX4_answer_21 ?_
      refine lv_if_eq (tgt := 28) hx hb dX4_answer_22 (by decide) (fun c22 => ?_) (fun c22 => ?_)
      · refine lv_aload_n hx hb dX4_answer_28 rfl (lv_at hl 0 rfl) ?_
        refine va_get (D := (dC, dI)) (ci := 4) (v := .ref (Q 21)) (C := RX4) (T := TX4) (N := 33) hx hb hts in0 hown hK hP 0 (xm_W_0 _ _) rfl 23 (by decide) lk1 (fun _ h9 => h9) rfl dX4_answer_29 ?_
        refine lv_iload_n hx hb dX4_answer_32 rfl (lv_at hl 1 rfl) ?_
        refine lv_iload_n hx hb dX4_answer_33 rfl (lv_at hl 2 rfl) ?_
        refine lv_if_eq (tgt := 41) hx hb dX4_answer_34 (by decide) (fun c34 => ?_) (fun c34 => ?_)
        · have c34 := bb_0.mp c34
          refine lv_iconst (v := 2) hx hb dX4_answer_41 (by decide) ?_
          refine va_iast hx hb hK hP hD hS 21 0 (xm_W_21 _ _) rfl (rm_s hV c2 c10) dX4_answer_42 (fun H locs hP hD hS => ?_)
          have hP : va_P (dC, dI) vwCl (xm_W Q cA (xs_ai σ 16 (upd (σ.2.2.1 16) (x1).toNatClampNeg 2)) ++ va_pl L f) H := hP
          have hD : va_D A (xm_W Q cA (xs_ai σ 16 (upd (σ.2.2.1 16) (x1).toNatClampNeg 2)) ++ va_pl L f) := hD
          refine lv_iconst (v := 1) hx hb dX4_answer_43 (by decide) ?_
          exact W.iret (v := 1) hx hb hr (fun t ht hW => ⟨⟨1, xs_ai σ 16 (upd (σ.2.2.1 16) (x1).toNatClampNeg 2), rfl, (by simp only [kr_answer, if_neg c2, if_neg (Int32.not_lt.mpr c10), if_pos c22, c34]; all_goals (first | done | rfl)), by rw [ht]; exact hP, va_K.moved hW.alike hK, hD⟩, hS.F ht⟩) hS.2.2 dX4_answer_44
        · have c34 := bb_n.mp c34
          refine lv_iconst (v := 1) hx hb dX4_answer_37 (by decide) ?_
          refine lv_goto (tgt := 42) hx hb dX4_answer_38 (by decide) ?_
          refine va_iast hx hb hK hP hD hS 21 0 (xm_W_21 _ _) rfl (rm_s hV c2 c10) dX4_answer_42 (fun H locs hP hD hS => ?_)
          have hP : va_P (dC, dI) vwCl (xm_W Q cA (xs_ai σ 16 (upd (σ.2.2.1 16) (x1).toNatClampNeg 1)) ++ va_pl L f) H := hP
          have hD : va_D A (xm_W Q cA (xs_ai σ 16 (upd (σ.2.2.1 16) (x1).toNatClampNeg 1)) ++ va_pl L f) := hD
          refine lv_iconst (v := 1) hx hb dX4_answer_43 (by decide) ?_
          exact W.iret (v := 1) hx hb hr (fun t ht hW => ⟨⟨1, xs_ai σ 16 (upd (σ.2.2.1 16) (x1).toNatClampNeg 1), rfl, (by simp only [kr_answer, if_neg c2, if_neg (Int32.not_lt.mpr c10), if_pos c22, c34]; all_goals (first | done | rfl)), by rw [ht]; exact hP, va_K.moved hW.alike hK, hD⟩, hS.F ht⟩) hS.2.2 dX4_answer_44
      · refine lv_bipush (v := (-103)) hx hb dX4_answer_25 (by decide) ?_
        exact W.iret (v := (-103)) hx hb hr (fun t ht hW => ⟨⟨(-103), σ, rfl, (by simp only [kr_answer, if_neg c2, if_neg (Int32.not_lt.mpr c10), if_neg c22]), by rw [ht]; exact hP, va_K.moved hW.alike hK, hD⟩, hS.F ht⟩) hS.2.2 dX4_answer_27
    · refine lv_bipush (v := (-101)) hx hb dX4_answer_13 (by decide) ?_
      exact W.iret (v := (-101)) hx hb hr (fun t ht hW => ⟨⟨(-101), σ, rfl, (by simp only [kr_answer, if_neg c2, if_pos (Int32.not_le.mp c10)]), by rw [ht]; exact hP, va_K.moved hW.alike hK, hD⟩, hS.F ht⟩) hS.2.2 dX4_answer_15
set_option maxHeartbeats 4000000 in
set_option maxRecDepth 100000 in
/-- mr_decide -/
theorem mr_decide (l : Launch) (dC : Nat → ClassId) (dI : Nat → Nat → Nat) (cA : Nat → ClassId) (sz : Nat) (Q : Nat → Nat) (σ : xs_T) (n : nn_T) (L : List Nat) (f : Nat → va_E) (hV : rm_V σ n) (x1 x2 : Int32) : Met l yX4_decide wsX4_decide ({ frames := 2, cells := 0, slots := 0, locals := 44 }) (va_Pc [.ref (Q 0), .int x1, .int x2] (ct_M (dC, dI) vwCl (ty_K cA) (xm_W Q cA σ ++ va_pl L f) sz)) (va_Qi (fun r u => (r, u) = kr_decide σ x1 x2) (fun u t => ct_B (dC, dI) vwCl (ty_K cA) (va_A (xm_W Q cA σ ++ va_pl L f) sz) (xm_W Q cA u ++ va_pl L f) t) (va_A (xm_W Q cA σ ++ va_pl L f) sz)) 0 0 (va_A (xm_W Q cA σ ++ va_pl L f) sz) := by
  refine Met.ofW (cc := cX4_decide) (maxL := 6) (ret := (some .int)) (by decide) rfl ?_
  intro p e s m args below meth c s₁ B hml hv
  obtain ⟨rfl, hsz, hP, hK, hD0⟩ := hv
  have hx := B.exec
  have hb := B.bytes
  have hr := B.returns
  have hts := atoms_spec (ws := wsX4_decide) B.pre
  have hown : s.vm.findClass RX4 = some m.cls := findClass_of_methodNamed B.named
  have hlocks := B.notSynchronized
  subst hsz
  have hD := hD0.self (sz := s.heap.size)
  generalize hAe : va_A (xm_W Q cA σ ++ va_pl L f) s.heap.size = A at hD ⊢
  have hA : ∀ q : Nat, s.heap.size ≤ q → A q := fun q h => by rw [← hAe]; exact Or.inr h
  clear hAe hD0
  have hS : va_S A s.heap s.heap [] := va_S.rf
  have hl := lv_entry ([.ref (Q 0), .int x1, .int x2]) (n := 6) (Nat.le_of_ble_eq_true rfl)
  rw [lg_entry_eq]
  generalize (lg_sl ([.ref (Q 0), .int x1, .int x2]) ++ List.replicate (6 - (lg_sl ([.ref (Q 0), .int x1, .int x2])).length) Slot.unset).toArray = ls at hl ⊢
  have hl : lv_has ls 6 [(0, .ref (Q 0)), (1, .int x1), (2, .int x2)] := hl
  have lk0 := hts (.constantLong RX4 156 9) (List.mem_cons_of_mem _ wd_391)
  have lk1 := hts (.fieldLink RX4 51 "ClaimRowsModel" "state" "[I") (List.mem_cons_of_mem _ wd_291)
  have lk2 := hts (.fieldLink RX4 48 "ClaimRowsModel" "kindOf" "[I") (List.mem_cons_of_mem _ wd_290)
  have lk3 := hts (.fieldLink RX4 78 "ClaimRowsModel" "limits" "[J") (List.mem_cons_of_mem _ wd_302)
  have lk4 := hts (.fieldLink RX4 63 "ClaimRowsModel" "paidSum" "[J") (List.mem_cons_of_mem _ wd_295)
  have lk5 := hts (.fieldLink RX4 165 "ClaimRowsModel" "paidAll" "J") (List.mem_cons_of_mem _ wd_306)
  have lk6 := hts (.fieldLink RX4 162 "ClaimRowsModel" "refused" "I") (List.mem_cons_of_mem _ wd_308)
  have in0 : ∀ w ∈ u_ws RX4 TX4 33, w ∈ wsX4_decide := fun w h => List.mem_cons_of_mem _ (wu_X4 w h)
  have hn0 : (σ.1 0).toNatClampNeg = n.1 := by rw [hV.1.1]; exact nI_clamp (by have := hV.1.2.1; omega)
  have hn1 : (σ.1 1).toNatClampNeg = n.2.1 := by rw [hV.1.2.2.1]; exact nI_clamp (by have := hV.1.2.2.2.1; omega)
  have hn2 : (σ.1 2).toNatClampNeg = n.2.2.1 := by rw [hV.1.2.2.2.2.1]; exact nI_clamp (by have := hV.1.2.2.2.2.2.1; omega)
  refine lv_aload_n hx hb dX4_decide_0 rfl (lv_at hl 0 rfl) ?_
  refine lv_iload_n hx hb dX4_decide_1 rfl (lv_at hl 1 rfl) ?_
  refine vp_callSi (va_Run.run (va_runV (As := [.int x1]) (rest := []) ⟨hx, hb, hml, hown, hts⟩ (mr_isClaim l dC dI cA Q σ L f x1) (cwV 1 hts (al_gV wd_353 wd_355 wd_354 wd_2 wd_356) rfl rfl rfl (by decide +kernel) ⟨Nat.le_of_ble_eq_true rfl, Nat.le_of_ble_eq_true rfl⟩) ⟨ct_blR, va_recv hK hP (ci := 4) (q0 := 0) rfl (xm_W_0 _ _), ct_atR hP hK⟩ rfl rfl hl.1 rfl (lv_room (Nat.le_of_ble_eq_true rfl)) dX4_decide_2 ⟨Nat.le_of_ble_eq_true rfl, Nat.le_of_ble_eq_true rfl⟩)) (fun r2 hr2 => ?_)
  subst hr2
  refine lv_if_ne (tgt := 11) hx hb dX4_decide_5 (by decide) (fun c5 => ?_) (fun c5 => ?_)
  · have c5 := of_decide_eq_true (bb_n.mp c5)
    refine lv_iload_n hx hb dX4_decide_11 rfl (lv_at hl 2 rfl) ?_
    refine lv_i2l (v := (x2 : Int32).toInt64) hx hb dX4_decide_12 rfl ?_
    refine lv_lconst (v := 0) hx hb dX4_decide_13 (by decide) ?_
    refine lv_ldc2 hx hb hown lk0 dX4_decide_14 ?_
    refine vp_callSi (va_Run.run (va_runS (As := [.long ((x2 : Int32).toInt64), .long 0, .long 9]) (rest := []) ⟨hx, hb, hml, hown, hts⟩ (mr_isIn l ((x2 : Int32).toInt64) 0 9) (va_cwS 3 hts (al_gS wd_315 wd_316 wd_2 wd_317) rfl rfl rfl (by decide +kernel) ⟨Nat.le_of_ble_eq_true rfl, Nat.le_of_ble_eq_true rfl⟩) ⟨ct_bl0, ct_at0⟩ rfl rfl hl.1 rfl (lv_room (Nat.le_of_ble_eq_true rfl)) dX4_decide_17 ⟨Nat.le_of_ble_eq_true rfl, Nat.le_of_ble_eq_true rfl⟩)) (fun r17 hr17 => ?_)
    subst hr17
    refine lv_if_ne (tgt := 26) hx hb dX4_decide_20 (by decide) (fun c20 => ?_) (fun c20 => ?_)
    · have c20 := of_decide_eq_true (bb_n.mp c20)
      refine lv_aload_n hx hb dX4_decide_26 rfl (lv_at hl 0 rfl) ?_
      refine va_get (D := (dC, dI)) (ci := 4) (v := .ref (Q 14)) (C := RX4) (T := TX4) (N := 33) hx hb hts in0 hown hK hP 0 (xm_W_0 _ _) rfl 15 (by decide) lk1 (fun _ h9 => h9) rfl dX4_decide_27 ?_
      refine lv_iload_n hx hb dX4_decide_30 rfl (lv_at hl 1 rfl) ?_
      refine va_iald hx hb hK hP 14 0 (xm_W_14 _ _) rfl (rm_c hV c5) dX4_decide_31 ?_
      refine lv_if_ne (tgt := 43) hx hb dX4_decide_32 (by decide) (fun c32 => ?_) (fun c32 => ?_)
      · refine lv_bipush (v := (-103)) hx hb dX4_decide_43 (by decide) ?_
        exact W.iret (v := (-103)) hx hb hr (fun t ht hW => ⟨⟨(-103), σ, rfl, (by simp only [kr_decide, if_pos c5, if_pos c20, if_neg c32, rf_m, py_m]), by rw [ht]; exact hP, va_K.moved hW.alike hK, hD⟩, hS.F ht⟩) hS.2.2 dX4_decide_45
      · refine lv_aload_n hx hb dX4_decide_35 rfl (lv_at hl 0 rfl) ?_
        refine lv_iload_n hx hb dX4_decide_36 rfl (lv_at hl 1 rfl) ?_
        refine vp_callSi (va_Run.run (va_runV (As := [.int x1]) (rest := []) ⟨hx, hb, hml, hown, hts⟩ (mr_lacks l dC dI cA Q σ n L f (show rm_V σ n from hV) x1 (show 1 ≤ x1 ∧ x1 ≤ (σ).1 1 from c5)) (cwV 1 hts (al_gV wd_360 wd_362 wd_361 wd_2 wd_363) rfl rfl rfl (by decide +kernel) ⟨Nat.le_of_ble_eq_true rfl, Nat.le_of_ble_eq_true rfl⟩) ⟨ct_blR, va_recv hK hP (ci := 4) (q0 := 0) rfl (xm_W_0 _ _), ct_atR hP hK⟩ rfl rfl hl.1 rfl (lv_room (Nat.le_of_ble_eq_true rfl)) dX4_decide_37 ⟨Nat.le_of_ble_eq_true rfl, Nat.le_of_ble_eq_true rfl⟩)) (fun r37 hr37 => ?_)
        subst hr37
        refine lv_if_le (tgt := 46) hx hb dX4_decide_40 (by decide) (fun c40 => ?_) (fun c40 => ?_)
        · refine lv_aload_n hx hb dX4_decide_46 rfl (lv_at hl 0 rfl) ?_
          refine va_get (D := (dC, dI)) (ci := 4) (v := .ref (Q 13)) (C := RX4) (T := TX4) (N := 33) hx hb hts in0 hown hK hP 0 (xm_W_0 _ _) rfl 14 (by decide) lk2 (fun _ h9 => h9) rfl dX4_decide_47 ?_
          refine lv_iload_n hx hb dX4_decide_50 rfl (lv_at hl 1 rfl) ?_
          refine va_iald hx hb hK hP 13 0 (xm_W_13 _ _) rfl (rm_c hV c5) dX4_decide_51 ?_
          refine lv_if_ne (tgt := 59) hx hb dX4_decide_52 (by decide) (fun c52 => ?_) (fun c52 => ?_)
          · refine lv_iconst (v := 0) hx hb dX4_decide_59 (by decide) ?_
            refine lv_istore_n (lv' := [(3, .int 0), (0, .ref (Q 0)), (1, .int x1), (2, .int x2)]) hx hb dX4_decide_60 rfl hl (by decide) rfl (fun ls hl => ?_)
            refine lv_iload_n hx hb dX4_decide_61 rfl (lv_at hl 0 rfl) ?_
            refine lv_if_eq (tgt := 93) hx hb dX4_decide_62 (by decide) (fun c62 => ?_) (fun c62 => ?_)
            · refine lv_iload_n hx hb dX4_decide_93 rfl (lv_at hl 0 rfl) ?_
              refine lv_if_eq (tgt := 131) hx hb dX4_decide_94 (by decide) (fun c94 => ?_) (fun c94 => ?_)
              · refine lv_aload_n hx hb dX4_decide_131 rfl (lv_at hl 1 rfl) ?_
                refine lv_iload_n hx hb dX4_decide_132 rfl (lv_at hl 2 rfl) ?_
                refine vp_callSl (va_Run.run (va_runV (As := [.int x1]) (rest := []) ⟨hx, hb, hml, hown, hts⟩ (mr_sumNow l dC dI cA Q σ n L f (show rm_V σ n from hV) x1 (show 1 ≤ x1 ∧ x1 ≤ (σ).1 1 from c5)) (cwV 1 hts (al_gV wd_382 wd_384 wd_383 wd_2 wd_385) rfl rfl rfl (by decide +kernel) ⟨Nat.le_of_ble_eq_true rfl, Nat.le_of_ble_eq_true rfl⟩) ⟨ct_blR, va_recv hK hP (ci := 4) (q0 := 0) rfl (xm_W_0 _ _), ct_atR hP hK⟩ rfl rfl hl.1 rfl (lv_room (Nat.le_of_ble_eq_true rfl)) dX4_decide_133 ⟨Nat.le_of_ble_eq_true rfl, Nat.le_of_ble_eq_true rfl⟩)) (fun r133 hr133 => ?_)
                subst hr133
                refine lv_lstore (lv' := [(4, .long (sm_n σ x1)), (3, .int 0), (0, .ref (Q 0)), (1, .int x1), (2, .int x2)]) hx hb dX4_decide_136 hl (by decide) rfl (fun ls hl => ?_)
                refine lv_lload hx hb dX4_decide_138 (lv_at hl 0 rfl) ?_
                refine lv_aload_n hx hb dX4_decide_140 rfl (lv_at hl 2 rfl) ?_
                refine va_get (D := (dC, dI)) (ci := 4) (v := .ref (Q 23)) (C := RX4) (T := TX4) (N := 33) hx hb hts in0 hown hK hP 0 (xm_W_0 _ _) rfl 26 (by decide) lk3 (fun _ h9 => h9) rfl dX4_decide_141 ?_
                refine lv_iload_n hx hb dX4_decide_144 rfl (lv_at hl 4 rfl) ?_
                refine va_lald hx hb hK hP 23 1 (xm_W_23 _ _) rfl (rm_9 c20) dX4_decide_145 ?_
                refine W.lcmp hx hb dX4_decide_146 ?_
                refine lv_if_le (tgt := 153) hx hb dX4_decide_147 (by decide) (fun c147 => ?_) (fun c147 => ?_)
                · refine lv_aload_n hx hb dX4_decide_153 rfl (lv_at hl 2 rfl) ?_
                  refine va_get (D := (dC, dI)) (ci := 4) (v := .ref (Q 14)) (C := RX4) (T := TX4) (N := 33) hx hb hts in0 hown hK hP 0 (xm_W_0 _ _) rfl 15 (by decide) lk1 (fun _ h9 => h9) rfl dX4_decide_154 ?_
                  refine lv_iload_n hx hb dX4_decide_157 rfl (lv_at hl 3 rfl) ?_
                  refine lv_iconst (v := 1) hx hb dX4_decide_158 (by decide) ?_
                  refine va_iast hx hb hK hP hD hS 14 0 (xm_W_14 _ _) rfl (rm_c hV c5) dX4_decide_159 (fun H locs hP hD hS => ?_)
                  have hP : va_P (dC, dI) vwCl (xm_W Q cA (xs_ai σ 10 (upd (σ.2.2.1 10) (x1).toNatClampNeg 1)) ++ va_pl L f) H := hP
                  have hD : va_D A (xm_W Q cA (xs_ai σ 10 (upd (σ.2.2.1 10) (x1).toNatClampNeg 1)) ++ va_pl L f) := hD
                  refine lv_aload_n hx hb dX4_decide_160 rfl (lv_at hl 2 rfl) ?_
                  refine va_get (D := (dC, dI)) (ci := 4) (v := .ref (Q 18)) (C := RX4) (T := TX4) (N := 33) hx hb hts in0 hown hK hP 0 (xm_W_0 _ _) rfl 19 (by decide) lk4 (fun _ h9 => h9) rfl dX4_decide_161 ?_
                  refine lv_iload_n hx hb dX4_decide_164 rfl (lv_at hl 3 rfl) ?_
                  refine lv_lload hx hb dX4_decide_165 (lv_at hl 0 rfl) ?_
                  refine va_last hx hb hK hP hD hS 18 1 (xm_W_18 _ _) rfl (rm_c hV c5) dX4_decide_167 (fun H locs hP hD hS => ?_)
                  have hP : va_P (dC, dI) vwCl (xm_W Q cA (xs_al (xs_ai σ 10 (upd (σ.2.2.1 10) (x1).toNatClampNeg 1)) 3 (vp_updL (σ.2.2.2.1 3) (x1).toNatClampNeg (sm_n σ x1))) ++ va_pl L f) H := hP
                  have hD : va_D A (xm_W Q cA (xs_al (xs_ai σ 10 (upd (σ.2.2.1 10) (x1).toNatClampNeg 1)) 3 (vp_updL (σ.2.2.2.1 3) (x1).toNatClampNeg (sm_n σ x1))) ++ va_pl L f) := hD
                  refine lv_aload_n hx hb dX4_decide_168 rfl (lv_at hl 2 rfl) ?_
                  refine lv_dup hx hb dX4_decide_169 rfl ?_
                  refine va_get (D := (dC, dI)) (ci := 4) (v := .long (σ.2.1 0)) (C := RX4) (T := TX4) (N := 33) hx hb hts in0 hown hK hP 0 (xm_W_0 _ _) rfl 30 (by decide) lk5 (fun _ h9 => h9) rfl dX4_decide_170 ?_
                  refine lv_lload hx hb dX4_decide_173 (lv_at hl 0 rfl) ?_
                  refine lv_ladd hx hb dX4_decide_175 ?_
                  refine va_put (D := (dC, dI)) (ci := 4) (v := .long ((σ.2.1 0) + (sm_n σ x1))) (ty := .long) (C := RX4) (T := TX4) (N := 33) hx hb hts in0 tyX4 tyX4_ok nmX4 hown hK hP hD hS 0 (xm_W_0 _ _) rfl 30 (by decide) lk5 (fun _ h9 => h9) rfl (by decide +kernel) rfl rfl (Nat.le_of_ble_eq_true rfl) dX4_decide_176 (fun H locs hP hD hS => ?_)
                  have hP : va_P (dC, dI) vwCl (xm_W Q cA (xs_l (xs_al (xs_ai σ 10 (upd (σ.2.2.1 10) (x1).toNatClampNeg 1)) 3 (vp_updL (σ.2.2.2.1 3) (x1).toNatClampNeg (sm_n σ x1))) 0 ((σ.2.1 0) + (sm_n σ x1))) ++ va_pl L f) H := hP
                  have hD : va_D A (xm_W Q cA (xs_l (xs_al (xs_ai σ 10 (upd (σ.2.2.1 10) (x1).toNatClampNeg 1)) 3 (vp_updL (σ.2.2.2.1 3) (x1).toNatClampNeg (sm_n σ x1))) 0 ((σ.2.1 0) + (sm_n σ x1))) ++ va_pl L f) := hD
                  refine lv_aload_n hx hb dX4_decide_179 rfl (lv_at hl 2 rfl) ?_
                  refine lv_iload_n hx hb dX4_decide_180 rfl (lv_at hl 3 rfl) ?_
                  refine lv_iconst (v := 3) hx hb dX4_decide_181 (by decide) ?_
                  have hFc := ct_free hD hS hA
                  refine va_callv (va_runV (As := [.int x1, .int 3]) (rest := []) ⟨hx, hb, hml, hown, hts⟩ (mr_send l dC dI cA H.size Q (xs_l (xs_al (xs_ai σ 10 (upd (σ.2.2.1 10) (x1).toNatClampNeg 1)) 3 (vp_updL (σ.2.2.2.1 3) (x1).toNatClampNeg (sm_n σ x1))) 0 ((σ.2.1 0) + (sm_n σ x1))) L f n.2.2.2 (show (xs_l (xs_al (xs_ai σ 10 (upd (σ.2.2.1 10) (x1).toNatClampNeg 1)) 3 (vp_updL (σ.2.2.2.1 3) (x1).toNatClampNeg (sm_n σ x1))) 0 ((σ.2.1 0) + (sm_n σ x1))).1 4 = nI n.2.2.2 from hV.1.2.2.2.2.2.2.1) (by have := hV.1.2.2.2.2.2.2.2; omega) x1 3) (cwV 2 hts (al_gV wd_345 wd_347 wd_346 wd_2 wd_348) rfl rfl rfl (by decide +kernel) ⟨Nat.le_of_ble_eq_true rfl, Nat.le_of_ble_eq_true rfl⟩) ⟨ct_blM, va_recv hK hP (ci := 4) (q0 := 0) rfl (xm_W_0 _ _), ct_atM hP hK hD⟩ rfl rfl hl.1 rfl (lv_room (Nat.le_of_ble_eq_true rfl)) dX4_decide_182 ⟨Nat.le_of_ble_eq_true rfl, Nat.le_of_ble_eq_true rfl⟩) hS (fun q _ h => hFc q h) hFc (fun u182 t H1 locs ht hvm hr182 hB hz1 hk1 hS => ?_)
                  obtain ⟨hP, -, hD1⟩ := hB
                  rw [ht] at hP
                  have hD := hD1.weaken (fun _ _ _ h => hFc _ h)
                  clear hD1 hk1 hz1 hFc hvm
                  generalize H1 = H at hP hS ht ⊢
                  clear ht
                  refine W.widen (k := 0) (n := 0) (by decide) (by decide) ?_
                  subst hr182
                  have hP : va_P (dC, dI) vwCl (xm_W Q cA (sm_nd (xs_l (xs_al (xs_ai σ 10 (upd (σ.2.2.1 10) (x1).toNatClampNeg 1)) 3 (vp_updL (σ.2.2.2.1 3) (x1).toNatClampNeg (sm_n σ x1))) 0 ((σ.2.1 0) + (sm_n σ x1))) x1 3) ++ va_pl L f) H := hP
                  have hD : va_D A (xm_W Q cA (sm_nd (xs_l (xs_al (xs_ai σ 10 (upd (σ.2.2.1 10) (x1).toNatClampNeg 1)) 3 (vp_updL (σ.2.2.2.1 3) (x1).toNatClampNeg (sm_n σ x1))) 0 ((σ.2.1 0) + (sm_n σ x1))) x1 3) ++ va_pl L f) := hD
                  refine lv_iconst (v := 1) hx hb dX4_decide_185 (by decide) ?_
                  exact W.iret (v := 1) hx hb hr (fun t ht hW => ⟨⟨1, (sm_nd (xs_l (xs_al (xs_ai σ 10 (upd (σ.2.2.1 10) (x1).toNatClampNeg 1)) 3 (vp_updL (σ.2.2.2.1 3) (x1).toNatClampNeg (sm_n σ x1))) 0 ((σ.2.1 0) + (sm_n σ x1))) x1 3), rfl, (by simp only [kr_decide, if_pos c5, if_pos c20, if_pos c32, if_pos c40, if_neg c52, dp_m, if_neg (fun q => absurd (lc_gt.mpr q) (Int32.not_lt.mpr c147)), rf_m, py_m]; all_goals (first | done | rfl)), by rw [ht]; exact hP, va_K.moved hW.alike hK, hD⟩, hS.F ht⟩) hS.2.2 dX4_decide_186
                · refine lv_bipush (v := (-107)) hx hb dX4_decide_150 (by decide) ?_
                  exact W.iret (v := (-107)) hx hb hr (fun t ht hW => ⟨⟨(-107), σ, rfl, (by simp only [kr_decide, if_pos c5, if_pos c20, if_pos c32, if_pos c40, if_neg c52, dp_m, if_pos (lc_gt.mp (Int32.not_le.mp c147)), rf_m, py_m]), by rw [ht]; exact hP, va_K.moved hW.alike hK, hD⟩, hS.F ht⟩) hS.2.2 dX4_decide_152
              · exact absurd c94 (by decide)
            · exact absurd c62 (by decide)
          · refine lv_iconst (v := 1) hx hb dX4_decide_55 (by decide) ?_
            refine lv_goto (tgt := 60) hx hb dX4_decide_56 (by decide) ?_
            refine lv_istore_n (lv' := [(3, .int 1), (0, .ref (Q 0)), (1, .int x1), (2, .int x2)]) hx hb dX4_decide_60 rfl hl (by decide) rfl (fun ls hl => ?_)
            refine lv_iload_n hx hb dX4_decide_61 rfl (lv_at hl 0 rfl) ?_
            refine lv_if_eq (tgt := 93) hx hb dX4_decide_62 (by decide) (fun c62 => ?_) (fun c62 => ?_)
            · exact absurd c62 (by decide)
            · refine lv_aload_n hx hb dX4_decide_65 rfl (lv_at hl 1 rfl) ?_
              refine lv_iload_n hx hb dX4_decide_66 rfl (lv_at hl 2 rfl) ?_
              refine lv_iconst (v := 0) hx hb dX4_decide_67 (by decide) ?_
              refine vp_callSi (va_Run.run (va_runV (As := [.int x1, .int 0]) (rest := []) ⟨hx, hb, hml, hown, hts⟩ (mr_many l dC dI cA Q σ n L f (show rm_V σ n from hV) x1 0 ) (cwV 2 hts (al_gV wd_396 wd_398 wd_397 wd_2 wd_399) rfl rfl rfl (by decide +kernel) ⟨Nat.le_of_ble_eq_true rfl, Nat.le_of_ble_eq_true rfl⟩) ⟨ct_blR, va_recv hK hP (ci := 4) (q0 := 0) rfl (xm_W_0 _ _), ct_atR hP hK⟩ rfl rfl hl.1 rfl (lv_room (Nat.le_of_ble_eq_true rfl)) dX4_decide_68 ⟨Nat.le_of_ble_eq_true rfl, Nat.le_of_ble_eq_true rfl⟩)) (fun r68 hr68 => ?_)
              subst hr68
              refine lv_if_gt (tgt := 90) hx hb dX4_decide_71 (by decide) (fun c71 => ?_) (fun c71 => ?_)
              · refine lv_bipush (v := (-103)) hx hb dX4_decide_90 (by decide) ?_
                exact W.iret (v := (-103)) hx hb hr (fun t ht hW => ⟨⟨(-103), σ, rfl, (by simp only [kr_decide, if_pos c5, if_pos c20, if_pos c32, if_pos c40, if_pos c52, hn2, if_neg (Int32.not_le.mpr c71), rf_m, py_m]), by rw [ht]; exact hP, va_K.moved hW.alike hK, hD⟩, hS.F ht⟩) hS.2.2 dX4_decide_92
              · refine lv_aload_n hx hb dX4_decide_74 rfl (lv_at hl 1 rfl) ?_
                refine lv_iload_n hx hb dX4_decide_75 rfl (lv_at hl 2 rfl) ?_
                refine lv_iconst (v := 1) hx hb dX4_decide_76 (by decide) ?_
                refine vp_callSi (va_Run.run (va_runV (As := [.int x1, .int 1]) (rest := []) ⟨hx, hb, hml, hown, hts⟩ (mr_many l dC dI cA Q σ n L f (show rm_V σ n from hV) x1 1 ) (cwV 2 hts (al_gV wd_396 wd_398 wd_397 wd_2 wd_399) rfl rfl rfl (by decide +kernel) ⟨Nat.le_of_ble_eq_true rfl, Nat.le_of_ble_eq_true rfl⟩) ⟨ct_blR, va_recv hK hP (ci := 4) (q0 := 0) rfl (xm_W_0 _ _), ct_atR hP hK⟩ rfl rfl hl.1 rfl (lv_room (Nat.le_of_ble_eq_true rfl)) dX4_decide_77 ⟨Nat.le_of_ble_eq_true rfl, Nat.le_of_ble_eq_true rfl⟩)) (fun r77 hr77 => ?_)
                subst hr77
                refine lv_aload_n hx hb dX4_decide_80 rfl (lv_at hl 1 rfl) ?_
                refine lv_iload_n hx hb dX4_decide_81 rfl (lv_at hl 2 rfl) ?_
                refine lv_iconst (v := 2) hx hb dX4_decide_82 (by decide) ?_
                refine vp_callSi (va_Run.run (va_runV (As := [.int x1, .int 2]) (rest := [.int (ma_r σ x1 1 n.2.2.1)]) ⟨hx, hb, hml, hown, hts⟩ (mr_many l dC dI cA Q σ n L f (show rm_V σ n from hV) x1 2 ) (cwV 2 hts (al_gV wd_396 wd_398 wd_397 wd_2 wd_399) rfl rfl rfl (by decide +kernel) ⟨Nat.le_of_ble_eq_true rfl, Nat.le_of_ble_eq_true rfl⟩) ⟨ct_blR, va_recv hK hP (ci := 4) (q0 := 0) rfl (xm_W_0 _ _), ct_atR hP hK⟩ rfl rfl hl.1 rfl (lv_room (Nat.le_of_ble_eq_true rfl)) dX4_decide_83 ⟨Nat.le_of_ble_eq_true rfl, Nat.le_of_ble_eq_true rfl⟩)) (fun r83 hr83 => ?_)
                subst hr83
                refine lv_iadd hx hb dX4_decide_86 ?_
                refine lv_if_ne (tgt := 93) hx hb dX4_decide_87 (by decide) (fun c87 => ?_) (fun c87 => ?_)
                · refine lv_iload_n hx hb dX4_decide_93 rfl (lv_at hl 0 rfl) ?_
                  refine lv_if_eq (tgt := 131) hx hb dX4_decide_94 (by decide) (fun c94 => ?_) (fun c94 => ?_)
                  · exact absurd c94 (by decide)
                  · refine lv_aload_n hx hb dX4_decide_97 rfl (lv_at hl 1 rfl) ?_
                    refine lv_iload_n hx hb dX4_decide_98 rfl (lv_at hl 2 rfl) ?_
                    refine lv_iconst (v := 1) hx hb dX4_decide_99 (by decide) ?_
                    refine vp_callSi (va_Run.run (va_runV (As := [.int x1, .int 1]) (rest := []) ⟨hx, hb, hml, hown, hts⟩ (mr_many l dC dI cA Q σ n L f (show rm_V σ n from hV) x1 1 ) (cwV 2 hts (al_gV wd_396 wd_398 wd_397 wd_2 wd_399) rfl rfl rfl (by decide +kernel) ⟨Nat.le_of_ble_eq_true rfl, Nat.le_of_ble_eq_true rfl⟩) ⟨ct_blR, va_recv hK hP (ci := 4) (q0 := 0) rfl (xm_W_0 _ _), ct_atR hP hK⟩ rfl rfl hl.1 rfl (lv_room (Nat.le_of_ble_eq_true rfl)) dX4_decide_100 ⟨Nat.le_of_ble_eq_true rfl, Nat.le_of_ble_eq_true rfl⟩)) (fun r100 hr100 => ?_)
                    subst hr100
                    refine lv_if_le (tgt := 131) hx hb dX4_decide_103 (by decide) (fun c103 => ?_) (fun c103 => ?_)
                    · refine lv_aload_n hx hb dX4_decide_131 rfl (lv_at hl 1 rfl) ?_
                      refine lv_iload_n hx hb dX4_decide_132 rfl (lv_at hl 2 rfl) ?_
                      refine vp_callSl (va_Run.run (va_runV (As := [.int x1]) (rest := []) ⟨hx, hb, hml, hown, hts⟩ (mr_sumNow l dC dI cA Q σ n L f (show rm_V σ n from hV) x1 (show 1 ≤ x1 ∧ x1 ≤ (σ).1 1 from c5)) (cwV 1 hts (al_gV wd_382 wd_384 wd_383 wd_2 wd_385) rfl rfl rfl (by decide +kernel) ⟨Nat.le_of_ble_eq_true rfl, Nat.le_of_ble_eq_true rfl⟩) ⟨ct_blR, va_recv hK hP (ci := 4) (q0 := 0) rfl (xm_W_0 _ _), ct_atR hP hK⟩ rfl rfl hl.1 rfl (lv_room (Nat.le_of_ble_eq_true rfl)) dX4_decide_133 ⟨Nat.le_of_ble_eq_true rfl, Nat.le_of_ble_eq_true rfl⟩)) (fun r133 hr133 => ?_)
                      subst hr133
                      refine lv_lstore (lv' := [(4, .long (sm_n σ x1)), (3, .int 1), (0, .ref (Q 0)), (1, .int x1), (2, .int x2)]) hx hb dX4_decide_136 hl (by decide) rfl (fun ls hl => ?_)
                      refine lv_lload hx hb dX4_decide_138 (lv_at hl 0 rfl) ?_
                      refine lv_aload_n hx hb dX4_decide_140 rfl (lv_at hl 2 rfl) ?_
                      refine va_get (D := (dC, dI)) (ci := 4) (v := .ref (Q 23)) (C := RX4) (T := TX4) (N := 33) hx hb hts in0 hown hK hP 0 (xm_W_0 _ _) rfl 26 (by decide) lk3 (fun _ h9 => h9) rfl dX4_decide_141 ?_
                      refine lv_iload_n hx hb dX4_decide_144 rfl (lv_at hl 4 rfl) ?_
                      refine va_lald hx hb hK hP 23 1 (xm_W_23 _ _) rfl (rm_9 c20) dX4_decide_145 ?_
                      refine W.lcmp hx hb dX4_decide_146 ?_
                      refine lv_if_le (tgt := 153) hx hb dX4_decide_147 (by decide) (fun c147 => ?_) (fun c147 => ?_)
                      · refine lv_aload_n hx hb dX4_decide_153 rfl (lv_at hl 2 rfl) ?_
                        refine va_get (D := (dC, dI)) (ci := 4) (v := .ref (Q 14)) (C := RX4) (T := TX4) (N := 33) hx hb hts in0 hown hK hP 0 (xm_W_0 _ _) rfl 15 (by decide) lk1 (fun _ h9 => h9) rfl dX4_decide_154 ?_
                        refine lv_iload_n hx hb dX4_decide_157 rfl (lv_at hl 3 rfl) ?_
                        refine lv_iconst (v := 1) hx hb dX4_decide_158 (by decide) ?_
                        refine va_iast hx hb hK hP hD hS 14 0 (xm_W_14 _ _) rfl (rm_c hV c5) dX4_decide_159 (fun H locs hP hD hS => ?_)
                        have hP : va_P (dC, dI) vwCl (xm_W Q cA (xs_ai σ 10 (upd (σ.2.2.1 10) (x1).toNatClampNeg 1)) ++ va_pl L f) H := hP
                        have hD : va_D A (xm_W Q cA (xs_ai σ 10 (upd (σ.2.2.1 10) (x1).toNatClampNeg 1)) ++ va_pl L f) := hD
                        refine lv_aload_n hx hb dX4_decide_160 rfl (lv_at hl 2 rfl) ?_
                        refine va_get (D := (dC, dI)) (ci := 4) (v := .ref (Q 18)) (C := RX4) (T := TX4) (N := 33) hx hb hts in0 hown hK hP 0 (xm_W_0 _ _) rfl 19 (by decide) lk4 (fun _ h9 => h9) rfl dX4_decide_161 ?_
                        refine lv_iload_n hx hb dX4_decide_164 rfl (lv_at hl 3 rfl) ?_
                        refine lv_lload hx hb dX4_decide_165 (lv_at hl 0 rfl) ?_
                        refine va_last hx hb hK hP hD hS 18 1 (xm_W_18 _ _) rfl (rm_c hV c5) dX4_decide_167 (fun H locs hP hD hS => ?_)
                        have hP : va_P (dC, dI) vwCl (xm_W Q cA (xs_al (xs_ai σ 10 (upd (σ.2.2.1 10) (x1).toNatClampNeg 1)) 3 (vp_updL (σ.2.2.2.1 3) (x1).toNatClampNeg (sm_n σ x1))) ++ va_pl L f) H := hP
                        have hD : va_D A (xm_W Q cA (xs_al (xs_ai σ 10 (upd (σ.2.2.1 10) (x1).toNatClampNeg 1)) 3 (vp_updL (σ.2.2.2.1 3) (x1).toNatClampNeg (sm_n σ x1))) ++ va_pl L f) := hD
                        refine lv_aload_n hx hb dX4_decide_168 rfl (lv_at hl 2 rfl) ?_
                        refine lv_dup hx hb dX4_decide_169 rfl ?_
                        refine va_get (D := (dC, dI)) (ci := 4) (v := .long (σ.2.1 0)) (C := RX4) (T := TX4) (N := 33) hx hb hts in0 hown hK hP 0 (xm_W_0 _ _) rfl 30 (by decide) lk5 (fun _ h9 => h9) rfl dX4_decide_170 ?_
                        refine lv_lload hx hb dX4_decide_173 (lv_at hl 0 rfl) ?_
                        refine lv_ladd hx hb dX4_decide_175 ?_
                        refine va_put (D := (dC, dI)) (ci := 4) (v := .long ((σ.2.1 0) + (sm_n σ x1))) (ty := .long) (C := RX4) (T := TX4) (N := 33) hx hb hts in0 tyX4 tyX4_ok nmX4 hown hK hP hD hS 0 (xm_W_0 _ _) rfl 30 (by decide) lk5 (fun _ h9 => h9) rfl (by decide +kernel) rfl rfl (Nat.le_of_ble_eq_true rfl) dX4_decide_176 (fun H locs hP hD hS => ?_)
                        have hP : va_P (dC, dI) vwCl (xm_W Q cA (xs_l (xs_al (xs_ai σ 10 (upd (σ.2.2.1 10) (x1).toNatClampNeg 1)) 3 (vp_updL (σ.2.2.2.1 3) (x1).toNatClampNeg (sm_n σ x1))) 0 ((σ.2.1 0) + (sm_n σ x1))) ++ va_pl L f) H := hP
                        have hD : va_D A (xm_W Q cA (xs_l (xs_al (xs_ai σ 10 (upd (σ.2.2.1 10) (x1).toNatClampNeg 1)) 3 (vp_updL (σ.2.2.2.1 3) (x1).toNatClampNeg (sm_n σ x1))) 0 ((σ.2.1 0) + (sm_n σ x1))) ++ va_pl L f) := hD
                        refine lv_aload_n hx hb dX4_decide_179 rfl (lv_at hl 2 rfl) ?_
                        refine lv_iload_n hx hb dX4_decide_180 rfl (lv_at hl 3 rfl) ?_
                        refine lv_iconst (v := 3) hx hb dX4_decide_181 (by decide) ?_
                        have hFc := ct_free hD hS hA
                        refine va_callv (va_runV (As := [.int x1, .int 3]) (rest := []) ⟨hx, hb, hml, hown, hts⟩ (mr_send l dC dI cA H.size Q (xs_l (xs_al (xs_ai σ 10 (upd (σ.2.2.1 10) (x1).toNatClampNeg 1)) 3 (vp_updL (σ.2.2.2.1 3) (x1).toNatClampNeg (sm_n σ x1))) 0 ((σ.2.1 0) + (sm_n σ x1))) L f n.2.2.2 (show (xs_l (xs_al (xs_ai σ 10 (upd (σ.2.2.1 10) (x1).toNatClampNeg 1)) 3 (vp_updL (σ.2.2.2.1 3) (x1).toNatClampNeg (sm_n σ x1))) 0 ((σ.2.1 0) + (sm_n σ x1))).1 4 = nI n.2.2.2 from hV.1.2.2.2.2.2.2.1) (by have := hV.1.2.2.2.2.2.2.2; omega) x1 3) (cwV 2 hts (al_gV wd_345 wd_347 wd_346 wd_2 wd_348) rfl rfl rfl (by decide +kernel) ⟨Nat.le_of_ble_eq_true rfl, Nat.le_of_ble_eq_true rfl⟩) ⟨ct_blM, va_recv hK hP (ci := 4) (q0 := 0) rfl (xm_W_0 _ _), ct_atM hP hK hD⟩ rfl rfl hl.1 rfl (lv_room (Nat.le_of_ble_eq_true rfl)) dX4_decide_182 ⟨Nat.le_of_ble_eq_true rfl, Nat.le_of_ble_eq_true rfl⟩) hS (fun q _ h => hFc q h) hFc (fun u182 t H1 locs ht hvm hr182 hB hz1 hk1 hS => ?_)
                        obtain ⟨hP, -, hD1⟩ := hB
                        rw [ht] at hP
                        have hD := hD1.weaken (fun _ _ _ h => hFc _ h)
                        clear hD1 hk1 hz1 hFc hvm
                        generalize H1 = H at hP hS ht ⊢
                        clear ht
                        refine W.widen (k := 0) (n := 0) (by decide) (by decide) ?_
                        subst hr182
                        have hP : va_P (dC, dI) vwCl (xm_W Q cA (sm_nd (xs_l (xs_al (xs_ai σ 10 (upd (σ.2.2.1 10) (x1).toNatClampNeg 1)) 3 (vp_updL (σ.2.2.2.1 3) (x1).toNatClampNeg (sm_n σ x1))) 0 ((σ.2.1 0) + (sm_n σ x1))) x1 3) ++ va_pl L f) H := hP
                        have hD : va_D A (xm_W Q cA (sm_nd (xs_l (xs_al (xs_ai σ 10 (upd (σ.2.2.1 10) (x1).toNatClampNeg 1)) 3 (vp_updL (σ.2.2.2.1 3) (x1).toNatClampNeg (sm_n σ x1))) 0 ((σ.2.1 0) + (sm_n σ x1))) x1 3) ++ va_pl L f) := hD
                        refine lv_iconst (v := 1) hx hb dX4_decide_185 (by decide) ?_
                        exact W.iret (v := 1) hx hb hr (fun t ht hW => ⟨⟨1, (sm_nd (xs_l (xs_al (xs_ai σ 10 (upd (σ.2.2.1 10) (x1).toNatClampNeg 1)) 3 (vp_updL (σ.2.2.2.1 3) (x1).toNatClampNeg (sm_n σ x1))) 0 ((σ.2.1 0) + (sm_n σ x1))) x1 3), rfl, (by simp only [kr_decide, if_pos c5, if_pos c20, if_pos c32, if_pos c40, if_pos c52, hn2, if_pos (Int32.not_lt.mp c71), if_neg c87, if_pos c103, dp_m, if_neg (fun q => absurd (lc_gt.mpr q) (Int32.not_lt.mpr c147)), rf_m, py_m]; all_goals (first | done | rfl)), by rw [ht]; exact hP, va_K.moved hW.alike hK, hD⟩, hS.F ht⟩) hS.2.2 dX4_decide_186
                      · refine lv_bipush (v := (-107)) hx hb dX4_decide_150 (by decide) ?_
                        exact W.iret (v := (-107)) hx hb hr (fun t ht hW => ⟨⟨(-107), σ, rfl, (by simp only [kr_decide, if_pos c5, if_pos c20, if_pos c32, if_pos c40, if_pos c52, hn2, if_pos (Int32.not_lt.mp c71), if_neg c87, if_pos c103, dp_m, if_pos (lc_gt.mp (Int32.not_le.mp c147)), rf_m, py_m]), by rw [ht]; exact hP, va_K.moved hW.alike hK, hD⟩, hS.F ht⟩) hS.2.2 dX4_decide_152
                    · refine lv_aload_n hx hb dX4_decide_106 rfl (lv_at hl 1 rfl) ?_
                      refine va_get (D := (dC, dI)) (ci := 4) (v := .ref (Q 14)) (C := RX4) (T := TX4) (N := 33) hx hb hts in0 hown hK hP 0 (xm_W_0 _ _) rfl 15 (by decide) lk1 (fun _ h9 => h9) rfl dX4_decide_107 ?_
                      refine lv_iload_n hx hb dX4_decide_110 rfl (lv_at hl 2 rfl) ?_
                      refine lv_iconst (v := 2) hx hb dX4_decide_111 (by decide) ?_
                      refine va_iast hx hb hK hP hD hS 14 0 (xm_W_14 _ _) rfl (rm_c hV c5) dX4_decide_112 (fun H locs hP hD hS => ?_)
                      have hP : va_P (dC, dI) vwCl (xm_W Q cA (xs_ai σ 10 (upd (σ.2.2.1 10) (x1).toNatClampNeg 2)) ++ va_pl L f) H := hP
                      have hD : va_D A (xm_W Q cA (xs_ai σ 10 (upd (σ.2.2.1 10) (x1).toNatClampNeg 2)) ++ va_pl L f) := hD
                      refine lv_aload_n hx hb dX4_decide_113 rfl (lv_at hl 1 rfl) ?_
                      refine lv_dup hx hb dX4_decide_114 rfl ?_
                      refine va_get (D := (dC, dI)) (ci := 4) (v := .int (σ.1 5)) (C := RX4) (T := TX4) (N := 33) hx hb hts in0 hown hK hP 0 (xm_W_0 _ _) rfl 32 (by decide) lk6 (fun _ h9 => h9) rfl dX4_decide_115 ?_
                      refine lv_iconst (v := 1) hx hb dX4_decide_118 (by decide) ?_
                      refine lv_iadd hx hb dX4_decide_119 ?_
                      refine va_put (D := (dC, dI)) (ci := 4) (v := .int ((σ.1 5) + 1)) (ty := .int) (C := RX4) (T := TX4) (N := 33) hx hb hts in0 tyX4 tyX4_ok nmX4 hown hK hP hD hS 0 (xm_W_0 _ _) rfl 32 (by decide) lk6 (fun _ h9 => h9) rfl (by decide +kernel) rfl rfl (Nat.le_of_ble_eq_true rfl) dX4_decide_120 (fun H locs hP hD hS => ?_)
                      have hP : va_P (dC, dI) vwCl (xm_W Q cA (xs_i (xs_ai σ 10 (upd (σ.2.2.1 10) (x1).toNatClampNeg 2)) 5 ((σ.1 5) + 1)) ++ va_pl L f) H := hP
                      have hD : va_D A (xm_W Q cA (xs_i (xs_ai σ 10 (upd (σ.2.2.1 10) (x1).toNatClampNeg 2)) 5 ((σ.1 5) + 1)) ++ va_pl L f) := hD
                      refine lv_aload_n hx hb dX4_decide_123 rfl (lv_at hl 1 rfl) ?_
                      refine lv_iload_n hx hb dX4_decide_124 rfl (lv_at hl 2 rfl) ?_
                      refine lv_iconst (v := 4) hx hb dX4_decide_125 (by decide) ?_
                      have hFc := ct_free hD hS hA
                      refine va_callv (va_runV (As := [.int x1, .int 4]) (rest := []) ⟨hx, hb, hml, hown, hts⟩ (mr_send l dC dI cA H.size Q (xs_i (xs_ai σ 10 (upd (σ.2.2.1 10) (x1).toNatClampNeg 2)) 5 ((σ.1 5) + 1)) L f n.2.2.2 (show (xs_i (xs_ai σ 10 (upd (σ.2.2.1 10) (x1).toNatClampNeg 2)) 5 ((σ.1 5) + 1)).1 4 = nI n.2.2.2 from hV.1.2.2.2.2.2.2.1) (by have := hV.1.2.2.2.2.2.2.2; omega) x1 4) (cwV 2 hts (al_gV wd_345 wd_347 wd_346 wd_2 wd_348) rfl rfl rfl (by decide +kernel) ⟨Nat.le_of_ble_eq_true rfl, Nat.le_of_ble_eq_true rfl⟩) ⟨ct_blM, va_recv hK hP (ci := 4) (q0 := 0) rfl (xm_W_0 _ _), ct_atM hP hK hD⟩ rfl rfl hl.1 rfl (lv_room (Nat.le_of_ble_eq_true rfl)) dX4_decide_126 ⟨Nat.le_of_ble_eq_true rfl, Nat.le_of_ble_eq_true rfl⟩) hS (fun q _ h => hFc q h) hFc (fun u126 t H1 locs ht hvm hr126 hB hz1 hk1 hS => ?_)
                      obtain ⟨hP, -, hD1⟩ := hB
                      rw [ht] at hP
                      have hD := hD1.weaken (fun _ _ _ h => hFc _ h)
                      clear hD1 hk1 hz1 hFc hvm
                      generalize H1 = H at hP hS ht ⊢
                      clear ht
                      refine W.widen (k := 0) (n := 0) (by decide) (by decide) ?_
                      subst hr126
                      have hP : va_P (dC, dI) vwCl (xm_W Q cA (sm_nd (xs_i (xs_ai σ 10 (upd (σ.2.2.1 10) (x1).toNatClampNeg 2)) 5 ((σ.1 5) + 1)) x1 4) ++ va_pl L f) H := hP
                      have hD : va_D A (xm_W Q cA (sm_nd (xs_i (xs_ai σ 10 (upd (σ.2.2.1 10) (x1).toNatClampNeg 2)) 5 ((σ.1 5) + 1)) x1 4) ++ va_pl L f) := hD
                      refine lv_iconst (v := 2) hx hb dX4_decide_129 (by decide) ?_
                      exact W.iret (v := 2) hx hb hr (fun t ht hW => ⟨⟨2, (sm_nd (xs_i (xs_ai σ 10 (upd (σ.2.2.1 10) (x1).toNatClampNeg 2)) 5 ((σ.1 5) + 1)) x1 4), rfl, (by simp only [kr_decide, if_pos c5, if_pos c20, if_pos c32, if_pos c40, if_pos c52, hn2, if_pos (Int32.not_lt.mp c71), if_neg c87, if_neg c103, rf_m, py_m]; all_goals (first | done | rfl)), by rw [ht]; exact hP, va_K.moved hW.alike hK, hD⟩, hS.F ht⟩) hS.2.2 dX4_decide_130
                · refine lv_bipush (v := (-103)) hx hb dX4_decide_90 (by decide) ?_
                  exact W.iret (v := (-103)) hx hb hr (fun t ht hW => ⟨⟨(-103), σ, rfl, (by simp only [kr_decide, if_pos c5, if_pos c20, if_pos c32, if_pos c40, if_pos c52, hn2, if_pos (Int32.not_lt.mp c71), if_pos c87, rf_m, py_m]), by rw [ht]; exact hP, va_K.moved hW.alike hK, hD⟩, hS.F ht⟩) hS.2.2 dX4_decide_92
        · refine lv_bipush (v := (-103)) hx hb dX4_decide_43 (by decide) ?_
          exact W.iret (v := (-103)) hx hb hr (fun t ht hW => ⟨⟨(-103), σ, rfl, (by simp only [kr_decide, if_pos c5, if_pos c20, if_pos c32, if_neg c40, rf_m, py_m]), by rw [ht]; exact hP, va_K.moved hW.alike hK, hD⟩, hS.F ht⟩) hS.2.2 dX4_decide_45
    · have c20 := of_decide_eq_false (bb_0.mp c20)
      refine lv_bipush (v := (-102)) hx hb dX4_decide_23 (by decide) ?_
      exact W.iret (v := (-102)) hx hb hr (fun t ht hW => ⟨⟨(-102), σ, rfl, (by simp only [kr_decide, if_pos c5, if_neg c20, rf_m, py_m]), by rw [ht]; exact hP, va_K.moved hW.alike hK, hD⟩, hS.F ht⟩) hS.2.2 dX4_decide_25
  · have c5 := of_decide_eq_false (bb_0.mp c5)
    refine lv_bipush (v := (-101)) hx hb dX4_decide_8 (by decide) ?_
    exact W.iret (v := (-101)) hx hb hr (fun t ht hW => ⟨⟨(-101), σ, rfl, (by simp only [kr_decide, if_neg c5, rf_m, py_m]), by rw [ht]; exact hP, va_K.moved hW.alike hK, hD⟩, hS.F ht⟩) hS.2.2 dX4_decide_10
set_option maxHeartbeats 4000000 in
set_option maxRecDepth 100000 in
/-- mr_found -/
theorem mr_found (l : Launch) (dC : Nat → ClassId) (dI : Nat → Nat → Nat) (cA : Nat → ClassId) (sz : Nat) (Q : Nat → Nat) (σ : xs_T) (n : nn_T) (L : List Nat) (f : Nat → va_E) (hV : rm_V σ n) (x1 : Int32) : Met l yX4_found wsX4_found ({ frames := 1, cells := 0, slots := 0, locals := 25 }) (va_Pc [.ref (Q 0), .int x1] (ct_M (dC, dI) vwCl (ty_K cA) (xm_W Q cA σ ++ va_pl L f) sz)) (va_Qi (fun r u => (r, u) = kr_found σ x1) (fun u t => ct_B (dC, dI) vwCl (ty_K cA) (va_A (xm_W Q cA σ ++ va_pl L f) sz) (xm_W Q cA u ++ va_pl L f) t) (va_A (xm_W Q cA σ ++ va_pl L f) sz)) 0 0 (va_A (xm_W Q cA σ ++ va_pl L f) sz) := by
  refine Met.ofW (cc := cX4_found) (maxL := 3) (ret := (some .int)) (by decide) rfl ?_
  intro p e s m args below meth c s₁ B hml hv
  obtain ⟨rfl, hsz, hP, hK, hD0⟩ := hv
  have hx := B.exec
  have hb := B.bytes
  have hr := B.returns
  have hts := atoms_spec (ws := wsX4_found) B.pre
  have hown : s.vm.findClass RX4 = some m.cls := findClass_of_methodNamed B.named
  have hlocks := B.notSynchronized
  subst hsz
  have hD := hD0.self (sz := s.heap.size)
  generalize hAe : va_A (xm_W Q cA σ ++ va_pl L f) s.heap.size = A at hD ⊢
  have hA : ∀ q : Nat, s.heap.size ≤ q → A q := fun q h => by rw [← hAe]; exact Or.inr h
  clear hAe hD0
  have hS : va_S A s.heap s.heap [] := va_S.rf
  have hl := lv_entry ([.ref (Q 0), .int x1]) (n := 3) (Nat.le_of_ble_eq_true rfl)
  rw [lg_entry_eq]
  generalize (lg_sl ([.ref (Q 0), .int x1]) ++ List.replicate (3 - (lg_sl ([.ref (Q 0), .int x1])).length) Slot.unset).toArray = ls at hl ⊢
  have hl : lv_has ls 3 [(0, .ref (Q 0)), (1, .int x1)] := hl
  have lk0 := hts (.fieldLink RX4 51 "ClaimRowsModel" "state" "[I") (List.mem_cons_of_mem _ wd_291)
  have lk1 := hts (.fieldLink RX4 36 "ClaimRowsModel" "isFound" "[Z") (List.mem_cons_of_mem _ wd_285)
  have in0 : ∀ w ∈ u_ws RX4 TX4 33, w ∈ wsX4_found := fun w h => List.mem_cons_of_mem _ (wu_X4 w h)
  have hn0 : (σ.1 0).toNatClampNeg = n.1 := by rw [hV.1.1]; exact nI_clamp (by have := hV.1.2.1; omega)
  have hn1 : (σ.1 1).toNatClampNeg = n.2.1 := by rw [hV.1.2.2.1]; exact nI_clamp (by have := hV.1.2.2.2.1; omega)
  have hn2 : (σ.1 2).toNatClampNeg = n.2.2.1 := by rw [hV.1.2.2.2.2.1]; exact nI_clamp (by have := hV.1.2.2.2.2.2.1; omega)
  refine lv_aload_n hx hb dX4_found_0 rfl (lv_at hl 0 rfl) ?_
  refine lv_iload_n hx hb dX4_found_1 rfl (lv_at hl 1 rfl) ?_
  refine vp_callSi (va_Run.run (va_runV (As := [.int x1]) (rest := []) ⟨hx, hb, hml, hown, hts⟩ (mr_isItem l dC dI cA Q σ L f x1) (cwV 1 hts (al_gV wd_325 wd_327 wd_326 wd_2 wd_328) rfl rfl rfl (by decide +kernel) ⟨Nat.le_of_ble_eq_true rfl, Nat.le_of_ble_eq_true rfl⟩) ⟨ct_blR, va_recv hK hP (ci := 4) (q0 := 0) rfl (xm_W_0 _ _), ct_atR hP hK⟩ rfl rfl hl.1 rfl (lv_room (Nat.le_of_ble_eq_true rfl)) dX4_found_2 ⟨Nat.le_of_ble_eq_true rfl, Nat.le_of_ble_eq_true rfl⟩)) (fun r2 hr2 => ?_)
  subst hr2
  refine lv_if_ne (tgt := 11) hx hb dX4_found_5 (by decide) (fun c5 => ?_) (fun c5 => ?_)
  · have c5 := of_decide_eq_true (bb_n.mp c5)
    refine lv_aload_n hx hb dX4_found_11 rfl (lv_at hl 0 rfl) ?_
    refine lv_iload_n hx hb dX4_found_12 rfl (lv_at hl 1 rfl) ?_
    refine lv_iconst (v := 0) hx hb dX4_found_13 (by decide) ?_
    refine lv_iconst (v := 0) hx hb dX4_found_14 (by decide) ?_
    refine vp_callSi (va_Run.run (va_runV (As := [.int x1, .int 0, .int 0]) (rest := []) ⟨hx, hb, hml, hown, hts⟩ (mr_other l dC dI cA Q σ n L f (show rm_V σ n from hV) x1 0 0 ) (cwV 3 hts (al_gV wd_341 wd_343 wd_342 wd_2 wd_344) rfl rfl rfl (by decide +kernel) ⟨Nat.le_of_ble_eq_true rfl, Nat.le_of_ble_eq_true rfl⟩) ⟨ct_blR, va_recv hK hP (ci := 4) (q0 := 0) rfl (xm_W_0 _ _), ct_atR hP hK⟩ rfl rfl hl.1 rfl (lv_room (Nat.le_of_ble_eq_true rfl)) dX4_found_15 ⟨Nat.le_of_ble_eq_true rfl, Nat.le_of_ble_eq_true rfl⟩)) (fun r15 hr15 => ?_)
    subst hr15
    refine lv_istore_n (lv' := [(2, .int (ot_r σ x1 0 0 n.2.1)), (0, .ref (Q 0)), (1, .int x1)]) hx hb dX4_found_18 rfl hl (by decide) rfl (fun ls hl => ?_)
    refine lv_iload_n hx hb dX4_found_19 rfl (lv_at hl 0 rfl) ?_
    refine lv_if_eq (tgt := 42) hx hb dX4_found_20 (by decide) (fun c20 => ?_) (fun c20 => ?_)
    · refine lv_bipush (v := (-103)) hx hb dX4_found_42 (by decide) ?_
      exact W.iret (v := (-103)) hx hb hr (fun t ht hW => ⟨⟨(-103), σ, rfl, (by simp only [kr_found, if_pos c5, hn1, if_pos c20]), by rw [ht]; exact hP, va_K.moved hW.alike hK, hD⟩, hS.F ht⟩) hS.2.2 dX4_found_44
    · refine lv_aload_n hx hb dX4_found_23 rfl (lv_at hl 1 rfl) ?_
      refine va_get (D := (dC, dI)) (ci := 4) (v := .ref (Q 14)) (C := RX4) (T := TX4) (N := 33) hx hb hts in0 hown hK hP 0 (xm_W_0 _ _) rfl 15 (by decide) lk0 (fun _ h9 => h9) rfl dX4_found_24 ?_
      refine lv_iload_n hx hb dX4_found_27 rfl (lv_at hl 0 rfl) ?_
      refine va_iald hx hb hK hP 14 0 (xm_W_14 _ _) rfl (ot_in hV) dX4_found_28 ?_
      refine lv_iconst (v := 1) hx hb dX4_found_29 (by decide) ?_
      refine lv_icmp_ne (tgt := 42) hx hb dX4_found_30 (by decide) (fun c30 => ?_) (fun c30 => ?_)
      · refine lv_bipush (v := (-103)) hx hb dX4_found_42 (by decide) ?_
        exact W.iret (v := (-103)) hx hb hr (fun t ht hW => ⟨⟨(-103), σ, rfl, (by simp only [kr_found, if_pos c5, hn1, if_neg c20, if_neg c30]), by rw [ht]; exact hP, va_K.moved hW.alike hK, hD⟩, hS.F ht⟩) hS.2.2 dX4_found_44
      · refine lv_aload_n hx hb dX4_found_33 rfl (lv_at hl 1 rfl) ?_
        refine va_get (D := (dC, dI)) (ci := 4) (v := .ref (Q 9)) (C := RX4) (T := TX4) (N := 33) hx hb hts in0 hown hK hP 0 (xm_W_0 _ _) rfl 9 (by decide) lk1 (fun _ h9 => h9) rfl dX4_found_34 ?_
        refine lv_iload_n hx hb dX4_found_37 rfl (lv_at hl 2 rfl) ?_
        refine va_zald hx hb hK hP 9 2 (xm_W_9 _ _) rfl (rm_i hV c5) dX4_found_38 ?_
        refine lv_if_eq (tgt := 45) hx hb dX4_found_39 (by decide) (fun c39 => ?_) (fun c39 => ?_)
        · refine lv_aload_n hx hb dX4_found_45 rfl (lv_at hl 1 rfl) ?_
          refine va_get (D := (dC, dI)) (ci := 4) (v := .ref (Q 9)) (C := RX4) (T := TX4) (N := 33) hx hb hts in0 hown hK hP 0 (xm_W_0 _ _) rfl 9 (by decide) lk1 (fun _ h9 => h9) rfl dX4_found_46 ?_
          refine lv_iload_n hx hb dX4_found_49 rfl (lv_at hl 2 rfl) ?_
          refine lv_iconst (v := 1) hx hb dX4_found_50 (by decide) ?_
          refine va_zast hx hb hK hP hD hS 9 2 (xm_W_9 _ _) rfl (rm_i hV c5) dX4_found_51 (fun H locs hP hD hS => ?_)
          rw [vp_b1] at hP hD
          have hP : va_P (dC, dI) vwCl (xm_W Q cA (xs_ai σ 6 (upd (σ.2.2.1 6) (x1).toNatClampNeg 1)) ++ va_pl L f) H := hP
          have hD : va_D A (xm_W Q cA (xs_ai σ 6 (upd (σ.2.2.1 6) (x1).toNatClampNeg 1)) ++ va_pl L f) := hD
          refine lv_iload_n hx hb dX4_found_52 rfl (lv_at hl 0 rfl) ?_
          exact W.iret (v := (ot_r σ x1 0 0 n.2.1)) hx hb hr (fun t ht hW => ⟨⟨(ot_r σ x1 0 0 n.2.1), xs_ai σ 6 (upd (σ.2.2.1 6) (x1).toNatClampNeg 1), rfl, (by simp only [kr_found, if_pos c5, hn1, if_neg c20, if_pos c30, if_pos c39]; all_goals (first | done | rfl)), by rw [ht]; exact hP, va_K.moved hW.alike hK, hD⟩, hS.F ht⟩) hS.2.2 dX4_found_53
        · refine lv_bipush (v := (-103)) hx hb dX4_found_42 (by decide) ?_
          exact W.iret (v := (-103)) hx hb hr (fun t ht hW => ⟨⟨(-103), σ, rfl, (by simp only [kr_found, if_pos c5, hn1, if_neg c20, if_pos c30, if_neg c39]), by rw [ht]; exact hP, va_K.moved hW.alike hK, hD⟩, hS.F ht⟩) hS.2.2 dX4_found_44
  · have c5 := of_decide_eq_false (bb_0.mp c5)
    refine lv_bipush (v := (-101)) hx hb dX4_found_8 (by decide) ?_
    exact W.iret (v := (-101)) hx hb hr (fun t ht hW => ⟨⟨(-101), σ, rfl, (by simp only [kr_found, if_neg c5]), by rw [ht]; exact hP, va_K.moved hW.alike hK, hD⟩, hS.F ht⟩) hS.2.2 dX4_found_10
set_option maxHeartbeats 4000000 in
set_option maxRecDepth 100000 in
/-- mr_back -/
theorem mr_back (l : Launch) (dC : Nat → ClassId) (dI : Nat → Nat → Nat) (cA : Nat → ClassId) (sz : Nat) (Q : Nat → Nat) (σ : xs_T) (n : nn_T) (L : List Nat) (f : Nat → va_E) (hV : rm_V σ n) (x1 : Int32) (b : Bool) : Met l yX4_back wsX4_back ({ frames := 1, cells := 0, slots := 0, locals := 22 }) (va_Pc [.ref (Q 0), .int x1, .int (bb_v b)] (ct_M (dC, dI) vwCl (ty_K cA) (xm_W Q cA σ ++ va_pl L f) sz)) (va_Qi (fun r u => (r, u) = kr_back σ x1 b) (fun u t => ct_B (dC, dI) vwCl (ty_K cA) (va_A (xm_W Q cA σ ++ va_pl L f) sz) (xm_W Q cA u ++ va_pl L f) t) (va_A (xm_W Q cA σ ++ va_pl L f) sz)) 0 0 (va_A (xm_W Q cA σ ++ va_pl L f) sz) := by
  refine Met.ofW (cc := cX4_back) (maxL := 3) (ret := (some .int)) (by decide) rfl ?_
  intro p e s m args below meth c s₁ B hml hv
  obtain ⟨rfl, hsz, hP, hK, hD0⟩ := hv
  have hx := B.exec
  have hb := B.bytes
  have hr := B.returns
  have hts := atoms_spec (ws := wsX4_back) B.pre
  have hown : s.vm.findClass RX4 = some m.cls := findClass_of_methodNamed B.named
  have hlocks := B.notSynchronized
  subst hsz
  have hD := hD0.self (sz := s.heap.size)
  generalize hAe : va_A (xm_W Q cA σ ++ va_pl L f) s.heap.size = A at hD ⊢
  have hA : ∀ q : Nat, s.heap.size ≤ q → A q := fun q h => by rw [← hAe]; exact Or.inr h
  clear hAe hD0
  have hS : va_S A s.heap s.heap [] := va_S.rf
  have hl := lv_entry ([.ref (Q 0), .int x1, .int (bb_v b)]) (n := 3) (Nat.le_of_ble_eq_true rfl)
  rw [lg_entry_eq]
  generalize (lg_sl ([.ref (Q 0), .int x1, .int (bb_v b)]) ++ List.replicate (3 - (lg_sl ([.ref (Q 0), .int x1, .int (bb_v b)])).length) Slot.unset).toArray = ls at hl ⊢
  have hl : lv_has ls 3 [(0, .ref (Q 0)), (1, .int x1), (2, .int (bb_v b))] := hl
  have lk0 := hts (.fieldLink RX4 51 "ClaimRowsModel" "state" "[I") (List.mem_cons_of_mem _ wd_291)
  have lk1 := hts (.fieldLink RX4 48 "ClaimRowsModel" "kindOf" "[I") (List.mem_cons_of_mem _ wd_290)
  have lk2 := hts (.fieldLink RX4 36 "ClaimRowsModel" "isFound" "[Z") (List.mem_cons_of_mem _ wd_285)
  have lk3 := hts (.fieldLink RX4 45 "ClaimRowsModel" "itemOf" "[I") (List.mem_cons_of_mem _ wd_289)
  have lk4 := hts (.fieldLink RX4 60 "ClaimRowsModel" "isSaid" "[Z") (List.mem_cons_of_mem _ wd_294)
  have lk5 := hts (.fieldLink RX4 171 "ClaimRowsModel" "recovered" "J") (List.mem_cons_of_mem _ wd_307)
  have lk6 := hts (.fieldLink RX4 63 "ClaimRowsModel" "paidSum" "[J") (List.mem_cons_of_mem _ wd_295)
  have in0 : ∀ w ∈ u_ws RX4 TX4 33, w ∈ wsX4_back := fun w h => List.mem_cons_of_mem _ (wu_X4 w h)
  have hn0 : (σ.1 0).toNatClampNeg = n.1 := by rw [hV.1.1]; exact nI_clamp (by have := hV.1.2.1; omega)
  have hn1 : (σ.1 1).toNatClampNeg = n.2.1 := by rw [hV.1.2.2.1]; exact nI_clamp (by have := hV.1.2.2.2.1; omega)
  have hn2 : (σ.1 2).toNatClampNeg = n.2.2.1 := by rw [hV.1.2.2.2.2.1]; exact nI_clamp (by have := hV.1.2.2.2.2.2.1; omega)
  refine lv_aload_n hx hb dX4_back_0 rfl (lv_at hl 0 rfl) ?_
  refine lv_iload_n hx hb dX4_back_1 rfl (lv_at hl 1 rfl) ?_
  refine vp_callSi (va_Run.run (va_runV (As := [.int x1]) (rest := []) ⟨hx, hb, hml, hown, hts⟩ (mr_isClaim l dC dI cA Q σ L f x1) (cwV 1 hts (al_gV wd_353 wd_355 wd_354 wd_2 wd_356) rfl rfl rfl (by decide +kernel) ⟨Nat.le_of_ble_eq_true rfl, Nat.le_of_ble_eq_true rfl⟩) ⟨ct_blR, va_recv hK hP (ci := 4) (q0 := 0) rfl (xm_W_0 _ _), ct_atR hP hK⟩ rfl rfl hl.1 rfl (lv_room (Nat.le_of_ble_eq_true rfl)) dX4_back_2 ⟨Nat.le_of_ble_eq_true rfl, Nat.le_of_ble_eq_true rfl⟩)) (fun r2 hr2 => ?_)
  subst hr2
  refine lv_if_ne (tgt := 11) hx hb dX4_back_5 (by decide) (fun c5 => ?_) (fun c5 => ?_)
  · have c5 := of_decide_eq_true (bb_n.mp c5)
    refine lv_aload_n hx hb dX4_back_11 rfl (lv_at hl 0 rfl) ?_
    refine va_get (D := (dC, dI)) (ci := 4) (v := .ref (Q 14)) (C := RX4) (T := TX4) (N := 33) hx hb hts in0 hown hK hP 0 (xm_W_0 _ _) rfl 15 (by decide) lk0 (fun _ h9 => h9) rfl dX4_back_12 ?_
    refine lv_iload_n hx hb dX4_back_15 rfl (lv_at hl 1 rfl) ?_
    refine va_iald hx hb hK hP 14 0 (xm_W_14 _ _) rfl (rm_c hV c5) dX4_back_16 ?_
    refine lv_iconst (v := 1) hx hb dX4_back_17 (by decide) ?_
    refine lv_icmp_ne (tgt := 53) hx hb dX4_back_18 (by decide) (fun c18 => ?_) (fun c18 => ?_)
    · refine lv_bipush (v := (-103)) hx hb dX4_back_53 (by decide) ?_
      exact W.iret (v := (-103)) hx hb hr (fun t ht hW => ⟨⟨(-103), σ, rfl, (by simp only [kr_back, if_pos c5, if_neg c18]), by rw [ht]; exact hP, va_K.moved hW.alike hK, hD⟩, hS.F ht⟩) hS.2.2 dX4_back_55
    · refine lv_aload_n hx hb dX4_back_21 rfl (lv_at hl 0 rfl) ?_
      refine va_get (D := (dC, dI)) (ci := 4) (v := .ref (Q 13)) (C := RX4) (T := TX4) (N := 33) hx hb hts in0 hown hK hP 0 (xm_W_0 _ _) rfl 14 (by decide) lk1 (fun _ h9 => h9) rfl dX4_back_22 ?_
      refine lv_iload_n hx hb dX4_back_25 rfl (lv_at hl 1 rfl) ?_
      refine va_iald hx hb hK hP 13 0 (xm_W_13 _ _) rfl (rm_c hV c5) dX4_back_26 ?_
      refine lv_if_ne (tgt := 53) hx hb dX4_back_27 (by decide) (fun c27 => ?_) (fun c27 => ?_)
      · refine lv_bipush (v := (-103)) hx hb dX4_back_53 (by decide) ?_
        exact W.iret (v := (-103)) hx hb hr (fun t ht hW => ⟨⟨(-103), σ, rfl, (by simp only [kr_back, if_pos c5, if_pos c18, if_neg c27]), by rw [ht]; exact hP, va_K.moved hW.alike hK, hD⟩, hS.F ht⟩) hS.2.2 dX4_back_55
      · refine lv_aload_n hx hb dX4_back_30 rfl (lv_at hl 0 rfl) ?_
        refine va_get (D := (dC, dI)) (ci := 4) (v := .ref (Q 9)) (C := RX4) (T := TX4) (N := 33) hx hb hts in0 hown hK hP 0 (xm_W_0 _ _) rfl 9 (by decide) lk2 (fun _ h9 => h9) rfl dX4_back_31 ?_
        refine lv_aload_n hx hb dX4_back_34 rfl (lv_at hl 0 rfl) ?_
        refine va_get (D := (dC, dI)) (ci := 4) (v := .ref (Q 12)) (C := RX4) (T := TX4) (N := 33) hx hb hts in0 hown hK hP 0 (xm_W_0 _ _) rfl 13 (by decide) lk3 (fun _ h9 => h9) rfl dX4_back_35 ?_
        refine lv_iload_n hx hb dX4_back_38 rfl (lv_at hl 1 rfl) ?_
        refine va_iald hx hb hK hP 12 0 (xm_W_12 _ _) rfl (rm_c hV c5) dX4_back_39 ?_
        refine va_zald hx hb hK hP 9 2 (xm_W_9 _ _) rfl (rm_io hV c5) dX4_back_40 ?_
        refine lv_if_eq (tgt := 53) hx hb dX4_back_41 (by decide) (fun c41 => ?_) (fun c41 => ?_)
        · refine lv_bipush (v := (-103)) hx hb dX4_back_53 (by decide) ?_
          exact W.iret (v := (-103)) hx hb hr (fun t ht hW => ⟨⟨(-103), σ, rfl, (by simp only [kr_back, if_pos c5, if_pos c18, if_pos c27, if_pos c41]), by rw [ht]; exact hP, va_K.moved hW.alike hK, hD⟩, hS.F ht⟩) hS.2.2 dX4_back_55
        · refine lv_aload_n hx hb dX4_back_44 rfl (lv_at hl 0 rfl) ?_
          refine va_get (D := (dC, dI)) (ci := 4) (v := .ref (Q 17)) (C := RX4) (T := TX4) (N := 33) hx hb hts in0 hown hK hP 0 (xm_W_0 _ _) rfl 18 (by decide) lk4 (fun _ h9 => h9) rfl dX4_back_45 ?_
          refine lv_iload_n hx hb dX4_back_48 rfl (lv_at hl 1 rfl) ?_
          refine va_zald hx hb hK hP 17 2 (xm_W_17 _ _) rfl (rm_c hV c5) dX4_back_49 ?_
          refine lv_if_eq (tgt := 56) hx hb dX4_back_50 (by decide) (fun c50 => ?_) (fun c50 => ?_)
          · refine lv_aload_n hx hb dX4_back_56 rfl (lv_at hl 0 rfl) ?_
            refine va_get (D := (dC, dI)) (ci := 4) (v := .ref (Q 17)) (C := RX4) (T := TX4) (N := 33) hx hb hts in0 hown hK hP 0 (xm_W_0 _ _) rfl 18 (by decide) lk4 (fun _ h9 => h9) rfl dX4_back_57 ?_
            refine lv_iload_n hx hb dX4_back_60 rfl (lv_at hl 1 rfl) ?_
            refine lv_iconst (v := 1) hx hb dX4_back_61 (by decide) ?_
            refine va_zast hx hb hK hP hD hS 17 2 (xm_W_17 _ _) rfl (rm_c hV c5) dX4_back_62 (fun H locs hP hD hS => ?_)
            rw [vp_b1] at hP hD
            have hP : va_P (dC, dI) vwCl (xm_W Q cA (xs_ai σ 13 (upd (σ.2.2.1 13) (x1).toNatClampNeg 1)) ++ va_pl L f) H := hP
            have hD : va_D A (xm_W Q cA (xs_ai σ 13 (upd (σ.2.2.1 13) (x1).toNatClampNeg 1)) ++ va_pl L f) := hD
            refine lv_iload_n hx hb dX4_back_63 rfl (lv_at hl 2 rfl) ?_
            refine lv_if_eq (tgt := 88) hx hb dX4_back_64 (by decide) (fun c64 => ?_) (fun c64 => ?_)
            · have c64 := bb_0.mp c64
              refine lv_iconst (v := 1) hx hb dX4_back_88 (by decide) ?_
              exact W.iret (v := 1) hx hb hr (fun t ht hW => ⟨⟨1, xs_ai σ 13 (upd (σ.2.2.1 13) (x1).toNatClampNeg 1), rfl, (by simp only [kr_back, if_pos c5, if_pos c18, if_pos c27, if_neg c41, if_pos c50, c64]; all_goals (first | done | rfl)), by rw [ht]; exact hP, va_K.moved hW.alike hK, hD⟩, hS.F ht⟩) hS.2.2 dX4_back_89
            · have c64 := bb_n.mp c64
              refine lv_aload_n hx hb dX4_back_67 rfl (lv_at hl 0 rfl) ?_
              refine lv_dup hx hb dX4_back_68 rfl ?_
              refine va_get (D := (dC, dI)) (ci := 4) (v := .long (σ.2.1 1)) (C := RX4) (T := TX4) (N := 33) hx hb hts in0 hown hK hP 0 (xm_W_0 _ _) rfl 31 (by decide) lk5 (fun _ h9 => h9) rfl dX4_back_69 ?_
              refine lv_aload_n hx hb dX4_back_72 rfl (lv_at hl 0 rfl) ?_
              refine va_get (D := (dC, dI)) (ci := 4) (v := .ref (Q 18)) (C := RX4) (T := TX4) (N := 33) hx hb hts in0 hown hK hP 0 (xm_W_0 _ _) rfl 19 (by decide) lk6 (fun _ h9 => h9) rfl dX4_back_73 ?_
              refine lv_iload_n hx hb dX4_back_76 rfl (lv_at hl 1 rfl) ?_
              refine va_lald hx hb hK hP 18 1 (xm_W_18 _ _) rfl (rm_c hV c5) dX4_back_77 ?_
              refine lv_ladd hx hb dX4_back_78 ?_
              refine va_put (D := (dC, dI)) (ci := 4) (v := .long ((σ.2.1 1) + ((σ.2.2.2.1 3) (x1).toNatClampNeg))) (ty := .long) (C := RX4) (T := TX4) (N := 33) hx hb hts in0 tyX4 tyX4_ok nmX4 hown hK hP hD hS 0 (xm_W_0 _ _) rfl 31 (by decide) lk5 (fun _ h9 => h9) rfl (by decide +kernel) rfl rfl (Nat.le_of_ble_eq_true rfl) dX4_back_79 (fun H locs hP hD hS => ?_)
              have hP : va_P (dC, dI) vwCl (xm_W Q cA (xs_l (xs_ai σ 13 (upd (σ.2.2.1 13) (x1).toNatClampNeg 1)) 1 ((σ.2.1 1) + ((σ.2.2.2.1 3) (x1).toNatClampNeg))) ++ va_pl L f) H := hP
              have hD : va_D A (xm_W Q cA (xs_l (xs_ai σ 13 (upd (σ.2.2.1 13) (x1).toNatClampNeg 1)) 1 ((σ.2.1 1) + ((σ.2.2.2.1 3) (x1).toNatClampNeg))) ++ va_pl L f) := hD
              refine lv_aload_n hx hb dX4_back_82 rfl (lv_at hl 0 rfl) ?_
              refine lv_iload_n hx hb dX4_back_83 rfl (lv_at hl 1 rfl) ?_
              refine lv_iconst (v := 5) hx hb dX4_back_84 (by decide) ?_
              have hFc := ct_free hD hS hA
              refine va_callv (va_runV (As := [.int x1, .int 5]) (rest := []) ⟨hx, hb, hml, hown, hts⟩ (mr_send l dC dI cA H.size Q (xs_l (xs_ai σ 13 (upd (σ.2.2.1 13) (x1).toNatClampNeg 1)) 1 ((σ.2.1 1) + ((σ.2.2.2.1 3) (x1).toNatClampNeg))) L f n.2.2.2 (show (xs_l (xs_ai σ 13 (upd (σ.2.2.1 13) (x1).toNatClampNeg 1)) 1 ((σ.2.1 1) + ((σ.2.2.2.1 3) (x1).toNatClampNeg))).1 4 = nI n.2.2.2 from hV.1.2.2.2.2.2.2.1) (by have := hV.1.2.2.2.2.2.2.2; omega) x1 5) (cwV 2 hts (al_gV wd_345 wd_347 wd_346 wd_2 wd_348) rfl rfl rfl (by decide +kernel) ⟨Nat.le_of_ble_eq_true rfl, Nat.le_of_ble_eq_true rfl⟩) ⟨ct_blM, va_recv hK hP (ci := 4) (q0 := 0) rfl (xm_W_0 _ _), ct_atM hP hK hD⟩ rfl rfl hl.1 rfl (lv_room (Nat.le_of_ble_eq_true rfl)) dX4_back_85 ⟨Nat.le_of_ble_eq_true rfl, Nat.le_of_ble_eq_true rfl⟩) hS (fun q _ h => hFc q h) hFc (fun u85 t H1 locs ht hvm hr85 hB hz1 hk1 hS => ?_)
              obtain ⟨hP, -, hD1⟩ := hB
              rw [ht] at hP
              have hD := hD1.weaken (fun _ _ _ h => hFc _ h)
              clear hD1 hk1 hz1 hFc hvm
              generalize H1 = H at hP hS ht ⊢
              clear ht
              refine W.widen (k := 0) (n := 0) (by decide) (by decide) ?_
              subst hr85
              have hP : va_P (dC, dI) vwCl (xm_W Q cA (sm_nd (xs_l (xs_ai σ 13 (upd (σ.2.2.1 13) (x1).toNatClampNeg 1)) 1 ((σ.2.1 1) + ((σ.2.2.2.1 3) (x1).toNatClampNeg))) x1 5) ++ va_pl L f) H := hP
              have hD : va_D A (xm_W Q cA (sm_nd (xs_l (xs_ai σ 13 (upd (σ.2.2.1 13) (x1).toNatClampNeg 1)) 1 ((σ.2.1 1) + ((σ.2.2.2.1 3) (x1).toNatClampNeg))) x1 5) ++ va_pl L f) := hD
              refine lv_iconst (v := 1) hx hb dX4_back_88 (by decide) ?_
              exact W.iret (v := 1) hx hb hr (fun t ht hW => ⟨⟨1, (sm_nd (xs_l (xs_ai σ 13 (upd (σ.2.2.1 13) (x1).toNatClampNeg 1)) 1 ((σ.2.1 1) + ((σ.2.2.2.1 3) (x1).toNatClampNeg))) x1 5), rfl, (by simp only [kr_back, if_pos c5, if_pos c18, if_pos c27, if_neg c41, if_pos c50, c64]; all_goals (first | done | rfl)), by rw [ht]; exact hP, va_K.moved hW.alike hK, hD⟩, hS.F ht⟩) hS.2.2 dX4_back_89
          · refine lv_bipush (v := (-103)) hx hb dX4_back_53 (by decide) ?_
            exact W.iret (v := (-103)) hx hb hr (fun t ht hW => ⟨⟨(-103), σ, rfl, (by simp only [kr_back, if_pos c5, if_pos c18, if_pos c27, if_neg c41, if_neg c50]), by rw [ht]; exact hP, va_K.moved hW.alike hK, hD⟩, hS.F ht⟩) hS.2.2 dX4_back_55
  · have c5 := of_decide_eq_false (bb_0.mp c5)
    refine lv_bipush (v := (-101)) hx hb dX4_back_8 (by decide) ?_
    exact W.iret (v := (-101)) hx hb hr (fun t ht hW => ⟨⟨(-101), σ, rfl, (by simp only [kr_back, if_neg c5]), by rw [ht]; exact hP, va_K.moved hW.alike hK, hD⟩, hS.F ht⟩) hS.2.2 dX4_back_10
