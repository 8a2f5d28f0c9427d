set_option maxHeartbeats 4000000 in
set_option maxRecDepth 100000 in
/-- mr_sum -/
theorem mr_sum (l : Launch) (dC : Nat → ClassId) (dI : Nat → Nat → Nat) (cA : Nat → ClassId) (Q : Nat → Nat) (σ : xs_T) (n : nn_T) (L : List Nat) (f : Nat → va_E) (hV : rm_V σ n) (x1 : Int32) : Met l yX4_sum wsX4_sum ({ frames := 1, cells := 0, slots := 0, locals := 27 }) (va_Pc [.ref (Q 0), .int x1] (ct_R (dC, dI) vwCl (ty_K cA) (xm_W Q cA σ ++ va_pl L f))) (vp_Sl (fun r => r = kr_sum σ x1)) 0 0 (fun _ => False) := by
  refine Met.ofW (cc := cX4_sum) (maxL := 2) (ret := (some .long)) (by decide) rfl ?_
  intro p e s m args below meth c s₁ B hml hv
  obtain ⟨rfl, hP, hK⟩ := hv
  have hx := B.exec
  have hb := B.bytes
  have hr := B.returns
  have hts := atoms_spec (ws := wsX4_sum) B.pre
  have hown : s.vm.findClass RX4 = some m.cls := findClass_of_methodNamed B.named
  have hlocks := B.notSynchronized
  have hl := lv_entry ([.ref (Q 0), .int x1]) (n := 2) (Nat.le_of_ble_eq_true rfl)
  rw [lg_entry_eq]
  generalize (lg_sl ([.ref (Q 0), .int x1]) ++ List.replicate (2 - (lg_sl ([.ref (Q 0), .int x1])).length) Slot.unset).toArray = ls at hl ⊢
  have hl : lv_has ls 2 [(0, .ref (Q 0)), (1, .int x1)] := hl
  have lk0 := hts (.fieldLink RX4 51 "ClaimRowsModel" "state" "[I") (List.mem_cons_of_mem _ wd_291)
  have lk1 := hts (.fieldLink RX4 63 "ClaimRowsModel" "paidSum" "[J") (List.mem_cons_of_mem _ wd_295)
  have lk2 := hts (.constantLong RX4 150 (-101)) (List.mem_cons_of_mem _ wd_381)
  have in0 : ∀ w ∈ u_ws RX4 TX4 33, w ∈ wsX4_sum := fun w h => List.mem_cons_of_mem _ (wu_X4 w h)
  have hn0 : (σ.1 0).toNatClampNeg = n.1 := by rw [hV.1.1]; exact nI_clamp (by have := hV.1.2.1; omega)
  have hn1 : (σ.1 1).toNatClampNeg = n.2.1 := by rw [hV.1.2.2.1]; exact nI_clamp (by have := hV.1.2.2.2.1; omega)
  have hn2 : (σ.1 2).toNatClampNeg = n.2.2.1 := by rw [hV.1.2.2.2.2.1]; exact nI_clamp (by have := hV.1.2.2.2.2.2.1; omega)
  refine lv_aload_n hx hb dX4_sum_0 rfl (lv_at hl 0 rfl) ?_
  refine lv_iload_n hx hb dX4_sum_1 rfl (lv_at hl 1 rfl) ?_
  refine vp_callSi (va_Run.run (va_runV (As := [.int x1]) (rest := []) ⟨hx, hb, hml, hown, hts⟩ (mr_isClaim l dC dI cA Q σ L f x1) (cwV 1 hts (al_gV wd_353 wd_355 wd_354 wd_2 wd_356) rfl rfl rfl (by decide +kernel) ⟨Nat.le_of_ble_eq_true rfl, Nat.le_of_ble_eq_true rfl⟩) ⟨ct_blR, va_recv hK hP (ci := 4) (q0 := 0) rfl (xm_W_0 _ _), ct_atR hP hK⟩ rfl rfl hl.1 rfl (lv_room (Nat.le_of_ble_eq_true rfl)) dX4_sum_2 ⟨Nat.le_of_ble_eq_true rfl, Nat.le_of_ble_eq_true rfl⟩)) (fun r2 hr2 => ?_)
  subst hr2
  refine lv_if_ne (tgt := 12) hx hb dX4_sum_5 (by decide) (fun c5 => ?_) (fun c5 => ?_)
  · have c5 := of_decide_eq_true (bb_n.mp c5)
    refine lv_aload_n hx hb dX4_sum_12 rfl (lv_at hl 0 rfl) ?_
    refine va_get (D := (dC, dI)) (ci := 4) (v := .ref (Q 14)) (C := RX4) (T := TX4) (N := 33) hx hb hts in0 hown hK hP 0 (xm_W_0 _ _) rfl 15 (by decide) lk0 (fun _ h9 => h9) rfl dX4_sum_13 ?_
    refine lv_iload_n hx hb dX4_sum_16 rfl (lv_at hl 1 rfl) ?_
    refine va_iald hx hb hK hP 14 0 (xm_W_14 _ _) rfl (rm_c hV c5) dX4_sum_17 ?_
    refine lv_iconst (v := 1) hx hb dX4_sum_18 (by decide) ?_
    refine lv_icmp_ne (tgt := 31) hx hb dX4_sum_19 (by decide) (fun c19 => ?_) (fun c19 => ?_)
    · refine lv_aload_n hx hb dX4_sum_31 rfl (lv_at hl 0 rfl) ?_
      refine lv_iload_n hx hb dX4_sum_32 rfl (lv_at hl 1 rfl) ?_
      refine vp_callSl (va_Run.run (va_runV (As := [.int x1]) (rest := []) ⟨hx, hb, hml, hown, hts⟩ (mr_sumNow l dC dI cA Q σ n L f (show rm_V σ n from hV) x1 c5) (cwV 1 hts (al_gV wd_382 wd_384 wd_383 wd_2 wd_385) rfl rfl rfl (by decide +kernel) ⟨Nat.le_of_ble_eq_true rfl, Nat.le_of_ble_eq_true rfl⟩) ⟨ct_blR, va_recv hK hP (ci := 4) (q0 := 0) rfl (xm_W_0 _ _), ct_atR hP hK⟩ rfl rfl hl.1 rfl (lv_room (Nat.le_of_ble_eq_true rfl)) dX4_sum_33 ⟨Nat.le_of_ble_eq_true rfl, Nat.le_of_ble_eq_true rfl⟩)) (fun r33 hr33 => ?_)
      subst hr33
      exact W.lret (v := (sm_n σ x1)) hx hb hr (fun t ht hW => ⟨(sm_n σ x1), rfl, (by simp only [kr_sum, if_pos c5, if_neg c19]), ht⟩) (fun q h => by cases h) dX4_sum_36
    · refine lv_aload_n hx hb dX4_sum_22 rfl (lv_at hl 0 rfl) ?_
      refine va_get (D := (dC, dI)) (ci := 4) (v := .ref (Q 18)) (C := RX4) (T := TX4) (N := 33) hx hb hts in0 hown hK hP 0 (xm_W_0 _ _) rfl 19 (by decide) lk1 (fun _ h9 => h9) rfl dX4_sum_23 ?_
      refine lv_iload_n hx hb dX4_sum_26 rfl (lv_at hl 1 rfl) ?_
      refine va_lald hx hb hK hP 18 1 (xm_W_18 _ _) rfl (rm_c hV c5) dX4_sum_27 ?_
      refine lv_goto (tgt := 36) hx hb dX4_sum_28 (by decide) ?_
      exact W.lret (v := ((σ.2.2.2.1 3) (x1).toNatClampNeg)) hx hb hr (fun t ht hW => ⟨((σ.2.2.2.1 3) (x1).toNatClampNeg), rfl, (by simp only [kr_sum, if_pos c5, if_pos c19]), ht⟩) (fun q h => by cases h) dX4_sum_36
  · have c5 := of_decide_eq_false (bb_0.mp c5)
    refine lv_ldc2 hx hb hown lk2 dX4_sum_8 ?_
    exact W.lret (v := (-101)) hx hb hr (fun t ht hW => ⟨(-101), rfl, (by simp only [kr_sum, if_neg c5]), ht⟩) (fun q h => by cases h) dX4_sum_11
set_option maxHeartbeats 4000000 in
set_option maxRecDepth 100000 in
/-- mr_about -/
theorem mr_about (l : Launch) (dC : Nat → ClassId) (dI : Nat → Nat → Nat) (cA : Nat → ClassId) (Q : Nat → Nat) (σ : xs_T) (n : nn_T) (L : List Nat) (f : Nat → va_E) (hV : rm_V σ n) (x1 x2 : Int32) : Met l yX4_about wsX4_about ({ frames := 2, cells := 0, slots := 0, locals := 44 }) (va_Pc [.ref (Q 0), .int x1, .int x2] (ct_R (dC, dI) vwCl (ty_K cA) (xm_W Q cA σ ++ va_pl L f))) (vp_Si (fun r => r = kr_about σ x1 x2)) 0 0 (fun _ => False) := by
  refine Met.ofW (cc := cX4_about) (maxL := 3) (ret := (some .int)) (by decide) rfl ?_
  intro p e s m args below meth c s₁ B hml hv
  obtain ⟨rfl, hP, hK⟩ := hv
  have hx := B.exec
  have hb := B.bytes
  have hr := B.returns
  have hts := atoms_spec (ws := wsX4_about) B.pre
  have hown : s.vm.findClass RX4 = some m.cls := findClass_of_methodNamed B.named
  have hlocks := B.notSynchronized
  have hl := lv_entry ([.ref (Q 0), .int x1, .int x2]) (n := 3) (Nat.le_of_ble_eq_true rfl)
  rw [lg_entry_eq]
  generalize (lg_sl ([.ref (Q 0), .int x1, .int x2]) ++ List.replicate (3 - (lg_sl ([.ref (Q 0), .int x1, .int x2])).length) Slot.unset).toArray = ls at hl ⊢
  have hl : lv_has ls 3 [(0, .ref (Q 0)), (1, .int x1), (2, .int x2)] := hl
  have lk0 := hts (.fieldLink RX4 51 "ClaimRowsModel" "state" "[I") (List.mem_cons_of_mem _ wd_291)
  have lk1 := hts (.fieldLink RX4 45 "ClaimRowsModel" "itemOf" "[I") (List.mem_cons_of_mem _ wd_289)
  have lk2 := hts (.fieldLink RX4 48 "ClaimRowsModel" "kindOf" "[I") (List.mem_cons_of_mem _ wd_290)
  have in0 : ∀ w ∈ u_ws RX4 TX4 33, w ∈ wsX4_about := fun w h => List.mem_cons_of_mem _ (wu_X4 w h)
  have hn0 : (σ.1 0).toNatClampNeg = n.1 := by rw [hV.1.1]; exact nI_clamp (by have := hV.1.2.1; omega)
  have hn1 : (σ.1 1).toNatClampNeg = n.2.1 := by rw [hV.1.2.2.1]; exact nI_clamp (by have := hV.1.2.2.2.1; omega)
  have hn2 : (σ.1 2).toNatClampNeg = n.2.2.1 := by rw [hV.1.2.2.2.2.1]; exact nI_clamp (by have := hV.1.2.2.2.2.2.1; omega)
  refine lv_aload_n hx hb dX4_about_0 rfl (lv_at hl 0 rfl) ?_
  refine lv_iload_n hx hb dX4_about_1 rfl (lv_at hl 1 rfl) ?_
  refine vp_callSi (va_Run.run (va_runV (As := [.int x1]) (rest := []) ⟨hx, hb, hml, hown, hts⟩ (mr_isClaim l dC dI cA Q σ L f x1) (cwV 1 hts (al_gV wd_353 wd_355 wd_354 wd_2 wd_356) rfl rfl rfl (by decide +kernel) ⟨Nat.le_of_ble_eq_true rfl, Nat.le_of_ble_eq_true rfl⟩) ⟨ct_blR, va_recv hK hP (ci := 4) (q0 := 0) rfl (xm_W_0 _ _), ct_atR hP hK⟩ rfl rfl hl.1 rfl (lv_room (Nat.le_of_ble_eq_true rfl)) dX4_about_2 ⟨Nat.le_of_ble_eq_true rfl, Nat.le_of_ble_eq_true rfl⟩)) (fun r2 hr2 => ?_)
  subst hr2
  refine lv_if_ne (tgt := 11) hx hb dX4_about_5 (by decide) (fun c5 => ?_) (fun c5 => ?_)
  · have c5 := of_decide_eq_true (bb_n.mp c5)
    refine lv_iload_n hx hb dX4_about_11 rfl (lv_at hl 2 rfl) ?_
    rcases Classical.em (x2 = 0 ∨ x2 = 1 ∨ x2 = 2 ∨ x2 = 3 ∨ x2 = 4 ∨ x2 = 5) with e12 | e12
    · rcases e12 with e12 | e12 | e12 | e12 | e12 | e12
      · refine lv_tableIn (off := 40) (tgt := 52) hx hb dX4_about_12 (by rw [e12]; decide) (by rw [e12]; decide) (by rw [e12]; decide) (by decide) ?_
        refine lv_aload_n hx hb dX4_about_52 rfl (lv_at hl 0 rfl) ?_
        refine va_get (D := (dC, dI)) (ci := 4) (v := .ref (Q 14)) (C := RX4) (T := TX4) (N := 33) hx hb hts in0 hown hK hP 0 (xm_W_0 _ _) rfl 15 (by decide) lk0 (fun _ h9 => h9) rfl dX4_about_53 ?_
        refine lv_iload_n hx hb dX4_about_56 rfl (lv_at hl 1 rfl) ?_
        refine va_iald hx hb hK hP 14 0 (xm_W_14 _ _) rfl (rm_c hV c5) dX4_about_57 ?_
        exact W.iret (v := ((σ.2.2.1 10) (x1).toNatClampNeg)) hx hb hr (fun t ht hW => ⟨((σ.2.2.1 10) (x1).toNatClampNeg), rfl, (by simp only [kr_about, if_pos c5, hn2]; subst e12; rfl), ht⟩) (fun q h => by cases h) dX4_about_58
      · refine lv_tableIn (off := 47) (tgt := 59) hx hb dX4_about_12 (by rw [e12]; decide) (by rw [e12]; decide) (by rw [e12]; decide) (by decide) ?_
        refine lv_aload_n hx hb dX4_about_59 rfl (lv_at hl 0 rfl) ?_
        refine va_get (D := (dC, dI)) (ci := 4) (v := .ref (Q 12)) (C := RX4) (T := TX4) (N := 33) hx hb hts in0 hown hK hP 0 (xm_W_0 _ _) rfl 13 (by decide) lk1 (fun _ h9 => h9) rfl dX4_about_60 ?_
        refine lv_iload_n hx hb dX4_about_63 rfl (lv_at hl 1 rfl) ?_
        refine va_iald hx hb hK hP 12 0 (xm_W_12 _ _) rfl (rm_c hV c5) dX4_about_64 ?_
        exact W.iret (v := ((σ.2.2.1 8) (x1).toNatClampNeg)) hx hb hr (fun t ht hW => ⟨((σ.2.2.1 8) (x1).toNatClampNeg), rfl, (by simp only [kr_about, if_pos c5, hn2]; subst e12; rfl), ht⟩) (fun q h => by cases h) dX4_about_65
      · refine lv_tableIn (off := 54) (tgt := 66) hx hb dX4_about_12 (by rw [e12]; decide) (by rw [e12]; decide) (by rw [e12]; decide) (by decide) ?_
        refine lv_aload_n hx hb dX4_about_66 rfl (lv_at hl 0 rfl) ?_
        refine va_get (D := (dC, dI)) (ci := 4) (v := .ref (Q 13)) (C := RX4) (T := TX4) (N := 33) hx hb hts in0 hown hK hP 0 (xm_W_0 _ _) rfl 14 (by decide) lk2 (fun _ h9 => h9) rfl dX4_about_67 ?_
        refine lv_iload_n hx hb dX4_about_70 rfl (lv_at hl 1 rfl) ?_
        refine va_iald hx hb hK hP 13 0 (xm_W_13 _ _) rfl (rm_c hV c5) dX4_about_71 ?_
        exact W.iret (v := ((σ.2.2.1 9) (x1).toNatClampNeg)) hx hb hr (fun t ht hW => ⟨((σ.2.2.1 9) (x1).toNatClampNeg), rfl, (by simp only [kr_about, if_pos c5, hn2]; subst e12; rfl), ht⟩) (fun q h => by cases h) dX4_about_72
      · refine lv_tableIn (off := 61) (tgt := 73) hx hb dX4_about_12 (by rw [e12]; decide) (by rw [e12]; decide) (by rw [e12]; decide) (by decide) ?_
        refine lv_aload_n hx hb dX4_about_73 rfl (lv_at hl 0 rfl) ?_
        refine lv_iload_n hx hb dX4_about_74 rfl (lv_at hl 1 rfl) ?_
        refine vp_callSi (va_Run.run (va_runV (As := [.int x1]) (rest := []) ⟨hx, hb, hml, hown, hts⟩ (mr_lacks l dC dI cA Q σ n L f (show rm_V σ n from hV) x1 c5) (cwV 1 hts (al_gV wd_360 wd_362 wd_361 wd_2 wd_363) rfl rfl rfl (by decide +kernel) ⟨Nat.le_of_ble_eq_true rfl, Nat.le_of_ble_eq_true rfl⟩) ⟨ct_blR, va_recv hK hP (ci := 4) (q0 := 0) rfl (xm_W_0 _ _), ct_atR hP hK⟩ rfl rfl hl.1 rfl (lv_room (Nat.le_of_ble_eq_true rfl)) dX4_about_75 ⟨Nat.le_of_ble_eq_true rfl, Nat.le_of_ble_eq_true rfl⟩)) (fun r75 hr75 => ?_)
        subst hr75
        exact W.iret (v := (la_r σ x1 4)) hx hb hr (fun t ht hW => ⟨(la_r σ x1 4), rfl, (by simp only [kr_about, if_pos c5, hn2]; subst e12; rfl), ht⟩) (fun q h => by cases h) dX4_about_78
      · refine lv_tableIn (off := 67) (tgt := 79) hx hb dX4_about_12 (by rw [e12]; decide) (by rw [e12]; decide) (by rw [e12]; decide) (by decide) ?_
        refine lv_aload_n hx hb dX4_about_79 rfl (lv_at hl 0 rfl) ?_
        refine lv_iload_n hx hb dX4_about_80 rfl (lv_at hl 1 rfl) ?_
        refine lv_iconst (v := 0) hx hb dX4_about_81 (by decide) ?_
        refine vp_callSi (va_Run.run (va_runV (As := [.int x1, .int 0]) (rest := []) ⟨hx, hb, hml, hown, hts⟩ (mr_many l dC dI cA Q σ n L f (show rm_V σ n from hV) x1 0 ) (cwV 2 hts (al_gV wd_396 wd_398 wd_397 wd_2 wd_399) rfl rfl rfl (by decide +kernel) ⟨Nat.le_of_ble_eq_true rfl, Nat.le_of_ble_eq_true rfl⟩) ⟨ct_blR, va_recv hK hP (ci := 4) (q0 := 0) rfl (xm_W_0 _ _), ct_atR hP hK⟩ rfl rfl hl.1 rfl (lv_room (Nat.le_of_ble_eq_true rfl)) dX4_about_82 ⟨Nat.le_of_ble_eq_true rfl, Nat.le_of_ble_eq_true rfl⟩)) (fun r82 hr82 => ?_)
        subst hr82
        exact W.iret (v := (ma_r σ x1 0 n.2.2.1)) hx hb hr (fun t ht hW => ⟨(ma_r σ x1 0 n.2.2.1), rfl, (by simp only [kr_about, if_pos c5, hn2]; subst e12; rfl), ht⟩) (fun q h => by cases h) dX4_about_85
      · refine lv_tableIn (off := 74) (tgt := 86) hx hb dX4_about_12 (by rw [e12]; decide) (by rw [e12]; decide) (by rw [e12]; decide) (by decide) ?_
        refine lv_aload_n hx hb dX4_about_86 rfl (lv_at hl 0 rfl) ?_
        refine lv_iload_n hx hb dX4_about_87 rfl (lv_at hl 1 rfl) ?_
        refine vp_callSi (va_Run.run (va_runV (As := [.int x1]) (rest := []) ⟨hx, hb, hml, hown, hts⟩ (mr_before l dC dI cA Q σ n L f (show rm_V σ n from hV) x1 c5) (cwV 1 hts (al_gV wd_425 wd_427 wd_426 wd_2 wd_428) rfl rfl rfl (by decide +kernel) ⟨Nat.le_of_ble_eq_true rfl, Nat.le_of_ble_eq_true rfl⟩) ⟨ct_blR, va_recv hK hP (ci := 4) (q0 := 0) rfl (xm_W_0 _ _), ct_atR hP hK⟩ rfl rfl hl.1 rfl (lv_room (Nat.le_of_ble_eq_true rfl)) dX4_about_88 ⟨Nat.le_of_ble_eq_true rfl, Nat.le_of_ble_eq_true rfl⟩)) (fun r88 hr88 => ?_)
        subst hr88
        exact W.iret (v := (be_r σ x1 (x1 - 1).toNatClampNeg)) hx hb hr (fun t ht hW => ⟨(be_r σ x1 (x1 - 1).toNatClampNeg), rfl, (by simp only [kr_about, if_pos c5, hn2]; subst e12; rfl), ht⟩) (fun q h => by cases h) dX4_about_91
    · refine lv_tableOut (tgt := 92) hx hb dX4_about_12 (sw_out_0_5 (fun q => e12 q)) (by decide) ?_
      refine lv_bipush (v := (-102)) hx hb dX4_about_92 (by decide) ?_
      exact W.iret (v := (-102)) hx hb hr (fun t ht hW => ⟨(-102), rfl, (by simp only [kr_about, if_pos c5]; rw [if_neg (fun q => e12 (by simp [q])), if_neg (fun q => e12 (by simp [q])), if_neg (fun q => e12 (by simp [q])), if_neg (fun q => e12 (by simp [q])), if_neg (fun q => e12 (by simp [q])), if_neg (fun q => e12 (by simp [q]))]), ht⟩) (fun q h => by cases h) dX4_about_94
  · have c5 := of_decide_eq_false (bb_0.mp c5)
    refine lv_bipush (v := (-101)) hx hb dX4_about_8 (by decide) ?_
    exact W.iret (v := (-101)) hx hb hr (fun t ht hW => ⟨(-101), rfl, (by simp only [kr_about, if_neg c5]), ht⟩) (fun q h => by cases h) dX4_about_10
set_option maxHeartbeats 4000000 in
set_option maxRecDepth 100000 in
/-- mr_letter -/
theorem mr_letter (l : Launch) (dC : Nat → ClassId) (dI : Nat → Nat → Nat) (cA : Nat → ClassId) (Q : Nat → Nat) (σ : xs_T) (n : nn_T) (L : List Nat) (f : Nat → va_E) (hV : rm_V σ n) (x1 x2 : Int32) : Met l yX4_letter wsX4_letter ({ frames := 0, cells := 0, slots := 0, locals := 0 }) (va_Pc [.ref (Q 0), .int x1, .int x2] (ct_R (dC, dI) vwCl (ty_K cA) (xm_W Q cA σ ++ va_pl L f))) (vp_Si (fun r => r = kr_letter σ x1 x2)) 0 0 (fun _ => False) := by
  refine Met.ofW (cc := cX4_letter) (maxL := 3) (ret := (some .int)) (by decide) rfl ?_
  intro p e s m args below meth c s₁ B hml hv
  obtain ⟨rfl, hP, hK⟩ := hv
  have hx := B.exec
  have hb := B.bytes
  have hr := B.returns
  have hts := atoms_spec (ws := wsX4_letter) B.pre
  have hown : s.vm.findClass RX4 = some m.cls := findClass_of_methodNamed B.named
  have hlocks := B.notSynchronized
  have hl := lv_entry ([.ref (Q 0), .int x1, .int x2]) (n := 3) (Nat.le_of_ble_eq_true rfl)
  rw [lg_entry_eq]
  generalize (lg_sl ([.ref (Q 0), .int x1, .int x2]) ++ List.replicate (3 - (lg_sl ([.ref (Q 0), .int x1, .int x2])).length) Slot.unset).toArray = ls at hl ⊢
  have hl : lv_has ls 3 [(0, .ref (Q 0)), (1, .int x1), (2, .int x2)] := hl
  have lk0 := hts (.fieldLink RX4 94 "ClaimRowsModel" "letters" "I") (List.mem_cons_of_mem _ wd_303)
  have lk1 := hts (.fieldLink RX4 84 "ClaimRowsModel" "letterKinds" "[I") (List.mem_cons_of_mem _ wd_305)
  have lk2 := hts (.fieldLink RX4 81 "ClaimRowsModel" "letterClaims" "[I") (List.mem_cons_of_mem _ wd_304)
  have in0 : ∀ w ∈ u_ws RX4 TX4 33, w ∈ wsX4_letter := fun w h => List.mem_cons_of_mem _ (wu_X4 w h)
  have hn0 : (σ.1 0).toNatClampNeg = n.1 := by rw [hV.1.1]; exact nI_clamp (by have := hV.1.2.1; omega)
  have hn1 : (σ.1 1).toNatClampNeg = n.2.1 := by rw [hV.1.2.2.1]; exact nI_clamp (by have := hV.1.2.2.2.1; omega)
  have hn2 : (σ.1 2).toNatClampNeg = n.2.2.1 := by rw [hV.1.2.2.2.2.1]; exact nI_clamp (by have := hV.1.2.2.2.2.2.1; omega)
  refine lv_iload_n hx hb dX4_letter_0 rfl (lv_at hl 1 rfl) ?_
  refine lv_if_lt (tgt := 19) hx hb dX4_letter_1 (by decide) (fun c1 => ?_) (fun c1 => ?_)
  · refine lv_iconst (v := (-1)) hx hb dX4_letter_19 (by decide) ?_
    exact W.iret (v := (-1)) hx hb hr (fun t ht hW => ⟨(-1), rfl, (by simp only [kr_letter, if_pos c1]), ht⟩) (fun q h => by cases h) dX4_letter_20
  · refine lv_iload_n hx hb dX4_letter_4 rfl (lv_at hl 1 rfl) ?_
    refine lv_aload_n hx hb dX4_letter_5 rfl (lv_at hl 0 rfl) ?_
    refine va_get (D := (dC, dI)) (ci := 4) (v := .int (σ.1 4)) (C := RX4) (T := TX4) (N := 33) hx hb hts in0 hown hK hP 0 (xm_W_0 _ _) rfl 27 (by decide) lk0 (fun _ h9 => h9) rfl dX4_letter_6 ?_
    refine lv_icmp_ge (tgt := 19) hx hb dX4_letter_9 (by decide) (fun c9 => ?_) (fun c9 => ?_)
    · refine lv_iconst (v := (-1)) hx hb dX4_letter_19 (by decide) ?_
      exact W.iret (v := (-1)) hx hb hr (fun t ht hW => ⟨(-1), rfl, (by simp only [kr_letter, if_neg c1, if_pos c9]), ht⟩) (fun q h => by cases h) dX4_letter_20
    · refine lv_iload_n hx hb dX4_letter_12 rfl (lv_at hl 1 rfl) ?_
      refine lv_sipush (v := 200) hx hb dX4_letter_13 (by decide) ?_
      refine lv_icmp_lt (tgt := 21) hx hb dX4_letter_16 (by decide) (fun c16 => ?_) (fun c16 => ?_)
      · refine lv_iload_n hx hb dX4_letter_21 rfl (lv_at hl 2 rfl) ?_
        refine lv_if_ne (tgt := 34) hx hb dX4_letter_22 (by decide) (fun c22 => ?_) (fun c22 => ?_)
        · refine lv_iload_n hx hb dX4_letter_34 rfl (lv_at hl 2 rfl) ?_
          refine lv_iconst (v := 1) hx hb dX4_letter_35 (by decide) ?_
          refine lv_icmp_ne (tgt := 48) hx hb dX4_letter_36 (by decide) (fun c36 => ?_) (fun c36 => ?_)
          · refine lv_iconst (v := (-1)) hx hb dX4_letter_48 (by decide) ?_
            exact W.iret (v := (-1)) hx hb hr (fun t ht hW => ⟨(-1), rfl, (by simp only [kr_letter, if_neg c1, if_neg c9, if_neg (Int32.not_le.mpr c16), if_neg c22, if_neg c36]), ht⟩) (fun q h => by cases h) dX4_letter_49
          · refine lv_aload_n hx hb dX4_letter_39 rfl (lv_at hl 0 rfl) ?_
            refine va_get (D := (dC, dI)) (ci := 4) (v := .ref (Q 25)) (C := RX4) (T := TX4) (N := 33) hx hb hts in0 hown hK hP 0 (xm_W_0 _ _) rfl 29 (by decide) lk1 (fun _ h9 => h9) rfl dX4_letter_40 ?_
            refine lv_iload_n hx hb dX4_letter_43 rfl (lv_at hl 1 rfl) ?_
            refine va_iald hx hb hK hP 25 0 (xm_W_25 _ _) rfl (rm_2 c1 c16) dX4_letter_44 ?_
            refine lv_goto (tgt := 49) hx hb dX4_letter_45 (by decide) ?_
            exact W.iret (v := ((σ.2.2.1 19) (x1).toNatClampNeg)) hx hb hr (fun t ht hW => ⟨((σ.2.2.1 19) (x1).toNatClampNeg), rfl, (by simp only [kr_letter, if_neg c1, if_neg c9, if_neg (Int32.not_le.mpr c16), if_neg c22, if_pos c36]), ht⟩) (fun q h => by cases h) dX4_letter_49
        · refine lv_aload_n hx hb dX4_letter_25 rfl (lv_at hl 0 rfl) ?_
          refine va_get (D := (dC, dI)) (ci := 4) (v := .ref (Q 24)) (C := RX4) (T := TX4) (N := 33) hx hb hts in0 hown hK hP 0 (xm_W_0 _ _) rfl 28 (by decide) lk2 (fun _ h9 => h9) rfl dX4_letter_26 ?_
          refine lv_iload_n hx hb dX4_letter_29 rfl (lv_at hl 1 rfl) ?_
          refine va_iald hx hb hK hP 24 0 (xm_W_24 _ _) rfl (rm_2 c1 c16) dX4_letter_30 ?_
          refine lv_goto (tgt := 49) hx hb dX4_letter_31 (by decide) ?_
          exact W.iret (v := ((σ.2.2.1 18) (x1).toNatClampNeg)) hx hb hr (fun t ht hW => ⟨((σ.2.2.1 18) (x1).toNatClampNeg), rfl, (by simp only [kr_letter, if_neg c1, if_neg c9, if_neg (Int32.not_le.mpr c16), if_pos c22]), ht⟩) (fun q h => by cases h) dX4_letter_49
      · refine lv_iconst (v := (-1)) hx hb dX4_letter_19 (by decide) ?_
        exact W.iret (v := (-1)) hx hb hr (fun t ht hW => ⟨(-1), rfl, (by simp only [kr_letter, if_neg c1, if_neg c9, if_pos (Int32.not_lt.mp c16)]), ht⟩) (fun q h => by cases h) dX4_letter_20
set_option maxHeartbeats 4000000 in
set_option maxRecDepth 100000 in
/-- mr_all -/
theorem mr_all (l : Launch) (dC : Nat → ClassId) (dI : Nat → Nat → Nat) (cA : Nat → ClassId) (Q : Nat → Nat) (σ : xs_T) (n : nn_T) (L : List Nat) (f : Nat → va_E) (hV : rm_V σ n) (x1 : Int32) : Met l yX4_all wsX4_all ({ frames := 0, cells := 0, slots := 0, locals := 0 }) (va_Pc [.ref (Q 0), .int x1] (ct_R (dC, dI) vwCl (ty_K cA) (xm_W Q cA σ ++ va_pl L f))) (vp_Sl (fun r => r = kr_all σ x1)) 0 0 (fun _ => False) := by
  refine Met.ofW (cc := cX4_all) (maxL := 2) (ret := (some .long)) (by decide) rfl ?_
  intro p e s m args below meth c s₁ B hml hv
  obtain ⟨rfl, hP, hK⟩ := hv
  have hx := B.exec
  have hb := B.bytes
  have hr := B.returns
  have hts := atoms_spec (ws := wsX4_all) B.pre
  have hown : s.vm.findClass RX4 = some m.cls := findClass_of_methodNamed B.named
  have hlocks := B.notSynchronized
  have hl := lv_entry ([.ref (Q 0), .int x1]) (n := 2) (Nat.le_of_ble_eq_true rfl)
  rw [lg_entry_eq]
  generalize (lg_sl ([.ref (Q 0), .int x1]) ++ List.replicate (2 - (lg_sl ([.ref (Q 0), .int x1])).length) Slot.unset).toArray = ls at hl ⊢
  have hl : lv_has ls 2 [(0, .ref (Q 0)), (1, .int x1)] := hl
  have lk0 := hts (.fieldLink RX4 165 "ClaimRowsModel" "paidAll" "J") (List.mem_cons_of_mem _ wd_306)
  have lk1 := hts (.fieldLink RX4 171 "ClaimRowsModel" "recovered" "J") (List.mem_cons_of_mem _ wd_307)
  have lk2 := hts (.fieldLink RX4 162 "ClaimRowsModel" "refused" "I") (List.mem_cons_of_mem _ wd_308)
  have lk3 := hts (.fieldLink RX4 94 "ClaimRowsModel" "letters" "I") (List.mem_cons_of_mem _ wd_303)
  have lk4 := hts (.constantLong RX4 169 (-102)) (List.mem_cons_of_mem _ wd_404)
  have in0 : ∀ w ∈ u_ws RX4 TX4 33, w ∈ wsX4_all := fun w h => List.mem_cons_of_mem _ (wu_X4 w h)
  have hn0 : (σ.1 0).toNatClampNeg = n.1 := by rw [hV.1.1]; exact nI_clamp (by have := hV.1.2.1; omega)
  have hn1 : (σ.1 1).toNatClampNeg = n.2.1 := by rw [hV.1.2.2.1]; exact nI_clamp (by have := hV.1.2.2.2.1; omega)
  have hn2 : (σ.1 2).toNatClampNeg = n.2.2.1 := by rw [hV.1.2.2.2.2.1]; exact nI_clamp (by have := hV.1.2.2.2.2.2.1; omega)
  refine lv_iload_n hx hb dX4_all_0 rfl (lv_at hl 1 rfl) ?_
  rcases Classical.em (x1 = 0 ∨ x1 = 1 ∨ x1 = 2 ∨ x1 = 3) with e1 | e1
  · rcases e1 with e1 | e1 | e1 | e1
    · refine lv_tableIn (off := 31) (tgt := 32) hx hb dX4_all_1 (by rw [e1]; decide) (by rw [e1]; decide) (by rw [e1]; decide) (by decide) ?_
      refine lv_aload_n hx hb dX4_all_32 rfl (lv_at hl 0 rfl) ?_
      refine va_get (D := (dC, dI)) (ci := 4) (v := .long (σ.2.1 0)) (C := RX4) (T := TX4) (N := 33) hx hb hts in0 hown hK hP 0 (xm_W_0 _ _) rfl 30 (by decide) lk0 (fun _ h9 => h9) rfl dX4_all_33 ?_
      exact W.lret (v := (σ.2.1 0)) hx hb hr (fun t ht hW => ⟨(σ.2.1 0), rfl, (by simp only [kr_all]; subst e1; rfl), ht⟩) (fun q h => by cases h) dX4_all_36
    · refine lv_tableIn (off := 36) (tgt := 37) hx hb dX4_all_1 (by rw [e1]; decide) (by rw [e1]; decide) (by rw [e1]; decide) (by decide) ?_
      refine lv_aload_n hx hb dX4_all_37 rfl (lv_at hl 0 rfl) ?_
      refine va_get (D := (dC, dI)) (ci := 4) (v := .long (σ.2.1 1)) (C := RX4) (T := TX4) (N := 33) hx hb hts in0 hown hK hP 0 (xm_W_0 _ _) rfl 31 (by decide) lk1 (fun _ h9 => h9) rfl dX4_all_38 ?_
      exact W.lret (v := (σ.2.1 1)) hx hb hr (fun t ht hW => ⟨(σ.2.1 1), rfl, (by simp only [kr_all]; subst e1; rfl), ht⟩) (fun q h => by cases h) dX4_all_41
    · refine lv_tableIn (off := 41) (tgt := 42) hx hb dX4_all_1 (by rw [e1]; decide) (by rw [e1]; decide) (by rw [e1]; decide) (by decide) ?_
      refine lv_aload_n hx hb dX4_all_42 rfl (lv_at hl 0 rfl) ?_
      refine va_get (D := (dC, dI)) (ci := 4) (v := .int (σ.1 5)) (C := RX4) (T := TX4) (N := 33) hx hb hts in0 hown hK hP 0 (xm_W_0 _ _) rfl 32 (by decide) lk2 (fun _ h9 => h9) rfl dX4_all_43 ?_
      refine lv_i2l (v := ((σ.1 5) : Int32).toInt64) hx hb dX4_all_46 rfl ?_
      exact W.lret (v := (((σ.1 5) : Int32).toInt64)) hx hb hr (fun t ht hW => ⟨(((σ.1 5) : Int32).toInt64), rfl, (by simp only [kr_all]; subst e1; rfl), ht⟩) (fun q h => by cases h) dX4_all_47
    · refine lv_tableIn (off := 47) (tgt := 48) hx hb dX4_all_1 (by rw [e1]; decide) (by rw [e1]; decide) (by rw [e1]; decide) (by decide) ?_
      refine lv_aload_n hx hb dX4_all_48 rfl (lv_at hl 0 rfl) ?_
      refine va_get (D := (dC, dI)) (ci := 4) (v := .int (σ.1 4)) (C := RX4) (T := TX4) (N := 33) hx hb hts in0 hown hK hP 0 (xm_W_0 _ _) rfl 27 (by decide) lk3 (fun _ h9 => h9) rfl dX4_all_49 ?_
      refine lv_i2l (v := ((σ.1 4) : Int32).toInt64) hx hb dX4_all_52 rfl ?_
      exact W.lret (v := (((σ.1 4) : Int32).toInt64)) hx hb hr (fun t ht hW => ⟨(((σ.1 4) : Int32).toInt64), rfl, (by simp only [kr_all]; subst e1; rfl), ht⟩) (fun q h => by cases h) dX4_all_53
  · refine lv_tableOut (tgt := 54) hx hb dX4_all_1 (sw_out_0_3 (fun q => e1 q)) (by decide) ?_
    refine lv_ldc2 hx hb hown lk4 dX4_all_54 ?_
    exact W.lret (v := (-102)) hx hb hr (fun t ht hW => ⟨(-102), rfl, (by simp only [kr_all]; rw [if_neg (fun q => e1 (by simp [q])), if_neg (fun q => e1 (by simp [q])), if_neg (fun q => e1 (by simp [q])), if_neg (fun q => e1 (by simp [q]))]), ht⟩) (fun q h => by cases h) dX4_all_57
