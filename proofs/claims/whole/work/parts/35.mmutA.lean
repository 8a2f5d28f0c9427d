set_option maxHeartbeats 4000000 in
set_option maxRecDepth 100000 in
/-- mr_item -/
theorem mr_item (l : Launch) (dC : Nat → ClassId) (dI : Nat → Nat → Nat) (cA : Nat → ClassId) (sz : Nat) (Q : Nat → Nat) (σ : xs_T) (n : nn_T) (L : List Nat) (f : Nat → va_E) (hV : rm_V σ n) (x1 : Int32) (x2 x3 : Int64) (x4 x5 : Int32) : Met l yX4_item wsX4_item ({ frames := 1, cells := 0, slots := 0, locals := 25 }) (va_Pc [.ref (Q 0), .int x1, .long x2, .long x3, .int x4, .int x5] (ct_M (dC, dI) vwCl (ty_K cA) (xm_W Q cA σ ++ va_pl L f) sz)) (va_Qi (fun r u => (r, u) = kr_item σ x1 x2 x3 x4 x5) (fun u t => ct_B (dC, dI) vwCl (ty_K cA) (va_A (xm_W Q cA σ ++ va_pl L f) sz) (xm_W Q cA u ++ va_pl L f) t) (va_A (xm_W Q cA σ ++ va_pl L f) sz)) 0 0 (va_A (xm_W Q cA σ ++ va_pl L f) sz) := by
  refine Met.ofW (cc := cX4_item) (maxL := 8) (ret := (some .int)) (by decide) rfl ?_
  intro p e s m args below meth c s₁ B hml hv
  obtain ⟨rfl, hsz, hP, hK, hD0⟩ := hv
  have hx := B.exec
  have hb := B.bytes
  have hr := B.returns
  have hts := atoms_spec (ws := wsX4_item) B.pre
  have hown : s.vm.findClass RX4 = some m.cls := findClass_of_methodNamed B.named
  have hlocks := B.notSynchronized
  subst hsz
  have hD := hD0.self (sz := s.heap.size)
  generalize hAe : va_A (xm_W Q cA σ ++ va_pl L f) s.heap.size = A at hD ⊢
  have hA : ∀ q : Nat, s.heap.size ≤ q → A q := fun q h => by rw [← hAe]; exact Or.inr h
  clear hAe hD0
  have hS : va_S A s.heap s.heap [] := va_S.rf
  have hl := lv_entry ([.ref (Q 0), .int x1, .long x2, .long x3, .int x4, .int x5]) (n := 8) (Nat.le_of_ble_eq_true rfl)
  rw [lg_entry_eq]
  generalize (lg_sl ([.ref (Q 0), .int x1, .long x2, .long x3, .int x4, .int x5]) ++ List.replicate (8 - (lg_sl ([.ref (Q 0), .int x1, .long x2, .long x3, .int x4, .int x5])).length) Slot.unset).toArray = ls at hl ⊢
  have hl : lv_has ls 8 [(0, .ref (Q 0)), (1, .int x1), (2, .long x2), (4, .long x3), (6, .int x4), (7, .int x5)] := hl
  have lk0 := hts (.constantLong RX4 97 3) (List.mem_cons_of_mem _ wd_314)
  have lk1 := hts (.constantLong RX4 103 10000000) (List.mem_cons_of_mem _ wd_318)
  have lk2 := hts (.constantLong RX4 105 100000) (List.mem_cons_of_mem _ wd_319)
  have lk3 := hts (.constantLong RX4 107 19) (List.mem_cons_of_mem _ wd_320)
  have lk4 := hts (.fieldLink RX4 87 "ClaimRowsModel" "items" "I") (List.mem_cons_of_mem _ wd_276)
  have lk5 := hts (.fieldLink RX4 7 "ClaimRowsModel" "service" "[I") (List.mem_cons_of_mem _ wd_277)
  have lk6 := hts (.fieldLink RX4 13 "ClaimRowsModel" "value" "[J") (List.mem_cons_of_mem _ wd_278)
  have lk7 := hts (.fieldLink RX4 17 "ClaimRowsModel" "insured" "[J") (List.mem_cons_of_mem _ wd_279)
  have lk8 := hts (.fieldLink RX4 20 "ClaimRowsModel" "handed" "[I") (List.mem_cons_of_mem _ wd_280)
  have lk9 := hts (.fieldLink RX4 23 "ClaimRowsModel" "sender" "[I") (List.mem_cons_of_mem _ wd_281)
  have in0 : ∀ w ∈ u_ws RX4 TX4 33, w ∈ wsX4_item := fun w h => List.mem_cons_of_mem _ (wu_X4 w h)
  have hn0 : (σ.1 0).toNatClampNeg = n.1 := by rw [hV.1.1]; exact nI_clamp (by have := hV.1.2.1; omega)
  have hn1 : (σ.1 1).toNatClampNeg = n.2.1 := by rw [hV.1.2.2.1]; exact nI_clamp (by have := hV.1.2.2.2.1; omega)
  have hn2 : (σ.1 2).toNatClampNeg = n.2.2.1 := by rw [hV.1.2.2.2.2.1]; exact nI_clamp (by have := hV.1.2.2.2.2.2.1; omega)
  refine lv_iload_n hx hb dX4_item_0 rfl (lv_at hl 1 rfl) ?_
  refine lv_i2l (v := (x1 : Int32).toInt64) hx hb dX4_item_1 rfl ?_
  refine lv_lconst (v := 0) hx hb dX4_item_2 (by decide) ?_
  refine lv_ldc2 hx hb hown lk0 dX4_item_3 ?_
  refine vp_callSi (va_Run.run (va_runS (As := [.long ((x1 : Int32).toInt64), .long 0, .long 3]) (rest := []) ⟨hx, hb, hml, hown, hts⟩ (mr_isIn l ((x1 : Int32).toInt64) 0 3) (va_cwS 3 hts (al_gS wd_315 wd_316 wd_2 wd_317) rfl rfl rfl (by decide +kernel) ⟨Nat.le_of_ble_eq_true rfl, Nat.le_of_ble_eq_true rfl⟩) ⟨ct_bl0, ct_at0⟩ rfl rfl hl.1 rfl (lv_room (Nat.le_of_ble_eq_true rfl)) dX4_item_6 ⟨Nat.le_of_ble_eq_true rfl, Nat.le_of_ble_eq_true rfl⟩)) (fun r6 hr6 => ?_)
  subst hr6
  refine lv_if_eq (tgt := 61) hx hb dX4_item_9 (by decide) (fun c9 => ?_) (fun c9 => ?_)
  · have c9 := of_decide_eq_false (bb_0.mp c9)
    refine lv_bipush (v := (-102)) hx hb dX4_item_61 (by decide) ?_
    exact W.iret (v := (-102)) hx hb hr (fun t ht hW => ⟨⟨(-102), σ, rfl, (by simp only [kr_item, if_neg c9]), by rw [ht]; exact hP, va_K.moved hW.alike hK, hD⟩, hS.F ht⟩) hS.2.2 dX4_item_63
  · have c9 := of_decide_eq_true (bb_n.mp c9)
    refine lv_lload_n hx hb dX4_item_12 rfl (lv_at hl 2 rfl) ?_
    refine lv_lconst (v := 0) hx hb dX4_item_13 (by decide) ?_
    refine lv_ldc2 hx hb hown lk1 dX4_item_14 ?_
    refine vp_callSi (va_Run.run (va_runS (As := [.long x2, .long 0, .long 10000000]) (rest := []) ⟨hx, hb, hml, hown, hts⟩ (mr_isIn l x2 0 10000000) (va_cwS 3 hts (al_gS wd_315 wd_316 wd_2 wd_317) rfl rfl rfl (by decide +kernel) ⟨Nat.le_of_ble_eq_true rfl, Nat.le_of_ble_eq_true rfl⟩) ⟨ct_bl0, ct_at0⟩ rfl rfl hl.1 rfl (lv_room (Nat.le_of_ble_eq_true rfl)) dX4_item_17 ⟨Nat.le_of_ble_eq_true rfl, Nat.le_of_ble_eq_true rfl⟩)) (fun r17 hr17 => ?_)
    subst hr17
    refine lv_if_eq (tgt := 61) hx hb dX4_item_20 (by decide) (fun c20 => ?_) (fun c20 => ?_)
    · have c20 := of_decide_eq_false (bb_0.mp c20)
      refine lv_bipush (v := (-102)) hx hb dX4_item_61 (by decide) ?_
      exact W.iret (v := (-102)) hx hb hr (fun t ht hW => ⟨⟨(-102), σ, rfl, (by simp only [kr_item, if_pos c9, if_neg c20]), by rw [ht]; exact hP, va_K.moved hW.alike hK, hD⟩, hS.F ht⟩) hS.2.2 dX4_item_63
    · have c20 := of_decide_eq_true (bb_n.mp c20)
      refine lv_lload hx hb dX4_item_23 (lv_at hl 3 rfl) ?_
      refine lv_lconst (v := 0) hx hb dX4_item_25 (by decide) ?_
      refine lv_ldc2 hx hb hown lk1 dX4_item_26 ?_
      refine vp_callSi (va_Run.run (va_runS (As := [.long x3, .long 0, .long 10000000]) (rest := []) ⟨hx, hb, hml, hown, hts⟩ (mr_isIn l x3 0 10000000) (va_cwS 3 hts (al_gS wd_315 wd_316 wd_2 wd_317) rfl rfl rfl (by decide +kernel) ⟨Nat.le_of_ble_eq_true rfl, Nat.le_of_ble_eq_true rfl⟩) ⟨ct_bl0, ct_at0⟩ rfl rfl hl.1 rfl (lv_room (Nat.le_of_ble_eq_true rfl)) dX4_item_29 ⟨Nat.le_of_ble_eq_true rfl, Nat.le_of_ble_eq_true rfl⟩)) (fun r29 hr29 => ?_)
      subst hr29
      refine lv_if_eq (tgt := 61) hx hb dX4_item_32 (by decide) (fun c32 => ?_) (fun c32 => ?_)
      · have c32 := of_decide_eq_false (bb_0.mp c32)
        refine lv_bipush (v := (-102)) hx hb dX4_item_61 (by decide) ?_
        exact W.iret (v := (-102)) hx hb hr (fun t ht hW => ⟨⟨(-102), σ, rfl, (by simp only [kr_item, if_pos c9, if_pos c20, if_neg c32]), by rw [ht]; exact hP, va_K.moved hW.alike hK, hD⟩, hS.F ht⟩) hS.2.2 dX4_item_63
      · have c32 := of_decide_eq_true (bb_n.mp c32)
        refine lv_iload hx hb dX4_item_35 (lv_at hl 4 rfl) ?_
        refine lv_i2l (v := (x4 : Int32).toInt64) hx hb dX4_item_37 rfl ?_
        refine lv_lconst (v := 0) hx hb dX4_item_38 (by decide) ?_
        refine lv_ldc2 hx hb hown lk2 dX4_item_39 ?_
        refine vp_callSi (va_Run.run (va_runS (As := [.long ((x4 : Int32).toInt64), .long 0, .long 100000]) (rest := []) ⟨hx, hb, hml, hown, hts⟩ (mr_isIn l ((x4 : Int32).toInt64) 0 100000) (va_cwS 3 hts (al_gS wd_315 wd_316 wd_2 wd_317) rfl rfl rfl (by decide +kernel) ⟨Nat.le_of_ble_eq_true rfl, Nat.le_of_ble_eq_true rfl⟩) ⟨ct_bl0, ct_at0⟩ rfl rfl hl.1 rfl (lv_room (Nat.le_of_ble_eq_true rfl)) dX4_item_42 ⟨Nat.le_of_ble_eq_true rfl, Nat.le_of_ble_eq_true rfl⟩)) (fun r42 hr42 => ?_)
        subst hr42
        refine lv_if_eq (tgt := 61) hx hb dX4_item_45 (by decide) (fun c45 => ?_) (fun c45 => ?_)
        · have c45 := of_decide_eq_false (bb_0.mp c45)
          refine lv_bipush (v := (-102)) hx hb dX4_item_61 (by decide) ?_
          exact W.iret (v := (-102)) hx hb hr (fun t ht hW => ⟨⟨(-102), σ, rfl, (by simp only [kr_item, if_pos c9, if_pos c20, if_pos c32, if_neg c45]), by rw [ht]; exact hP, va_K.moved hW.alike hK, hD⟩, hS.F ht⟩) hS.2.2 dX4_item_63
        · have c45 := of_decide_eq_true (bb_n.mp c45)
          refine lv_iload hx hb dX4_item_48 (lv_at hl 5 rfl) ?_
          refine lv_i2l (v := (x5 : Int32).toInt64) hx hb dX4_item_50 rfl ?_
          refine lv_lconst (v := 0) hx hb dX4_item_51 (by decide) ?_
          refine lv_ldc2 hx hb hown lk3 dX4_item_52 ?_
          refine vp_callSi (va_Run.run (va_runS (As := [.long ((x5 : Int32).toInt64), .long 0, .long 19]) (rest := []) ⟨hx, hb, hml, hown, hts⟩ (mr_isIn l ((x5 : Int32).toInt64) 0 19) (va_cwS 3 hts (al_gS wd_315 wd_316 wd_2 wd_317) rfl rfl rfl (by decide +kernel) ⟨Nat.le_of_ble_eq_true rfl, Nat.le_of_ble_eq_true rfl⟩) ⟨ct_bl0, ct_at0⟩ rfl rfl hl.1 rfl (lv_room (Nat.le_of_ble_eq_true rfl)) dX4_item_55 ⟨Nat.le_of_ble_eq_true rfl, Nat.le_of_ble_eq_true rfl⟩)) (fun r55 hr55 => ?_)
          subst hr55
          refine lv_if_ne (tgt := 64) hx hb dX4_item_58 (by decide) (fun c58 => ?_) (fun c58 => ?_)
          · have c58 := of_decide_eq_true (bb_n.mp c58)
            refine lv_aload_n hx hb dX4_item_64 rfl (lv_at hl 0 rfl) ?_
            refine va_get (D := (dC, dI)) (ci := 4) (v := .int (σ.1 0)) (C := RX4) (T := TX4) (N := 33) hx hb hts in0 hown hK hP 0 (xm_W_0 _ _) rfl 0 (by decide) lk4 (fun _ h9 => h9) rfl dX4_item_65 ?_
            refine lv_bipush (v := 100) hx hb dX4_item_68 (by decide) ?_
            refine lv_icmp_ne (tgt := 76) hx hb dX4_item_70 (by decide) (fun c70 => ?_) (fun c70 => ?_)
            · refine lv_aload_n hx hb dX4_item_76 rfl (lv_at hl 0 rfl) ?_
              refine lv_dup hx hb dX4_item_77 rfl ?_
              refine va_get (D := (dC, dI)) (ci := 4) (v := .int (σ.1 0)) (C := RX4) (T := TX4) (N := 33) hx hb hts in0 hown hK hP 0 (xm_W_0 _ _) rfl 0 (by decide) lk4 (fun _ h9 => h9) rfl dX4_item_78 ?_
              refine lv_iconst (v := 1) hx hb dX4_item_81 (by decide) ?_
              refine lv_iadd hx hb dX4_item_82 ?_
              refine va_put (D := (dC, dI)) (ci := 4) (v := .int ((σ.1 0) + 1)) (ty := .int) (C := RX4) (T := TX4) (N := 33) hx hb hts in0 tyX4 tyX4_ok nmX4 hown hK hP hD hS 0 (xm_W_0 _ _) rfl 0 (by decide) lk4 (fun _ h9 => h9) rfl (by decide +kernel) rfl rfl (Nat.le_of_ble_eq_true rfl) dX4_item_83 (fun H locs hP hD hS => ?_)
              have hP : va_P (dC, dI) vwCl (xm_W Q cA (xs_i σ 0 ((σ.1 0) + 1)) ++ va_pl L f) H := hP
              have hD : va_D A (xm_W Q cA (xs_i σ 0 ((σ.1 0) + 1)) ++ va_pl L f) := hD
              refine lv_aload_n hx hb dX4_item_86 rfl (lv_at hl 0 rfl) ?_
              refine va_get (D := (dC, dI)) (ci := 4) (v := .ref (Q 1)) (C := RX4) (T := TX4) (N := 33) hx hb hts in0 hown hK hP 0 (xm_W_0 _ _) rfl 1 (by decide) lk5 (fun _ h9 => h9) rfl dX4_item_87 ?_
              refine lv_aload_n hx hb dX4_item_90 rfl (lv_at hl 0 rfl) ?_
              refine va_get (D := (dC, dI)) (ci := 4) (v := .int ((σ.1 0) + 1)) (C := RX4) (T := TX4) (N := 33) hx hb hts in0 hown hK hP 0 (xm_W_0 _ _) rfl 0 (by decide) lk4 (fun _ h9 => h9) rfl dX4_item_91 ?_
              refine lv_iload_n hx hb dX4_item_94 rfl (lv_at hl 1 rfl) ?_
              refine va_iast hx hb hK hP hD hS 1 0 (xm_W_1 _ _) rfl (rm_nw hV.1.1 hV.1.2.1 c70 (by decide)) dX4_item_95 (fun H locs hP hD hS => ?_)
              have hP : va_P (dC, dI) vwCl (xm_W Q cA (xs_ai (xs_i σ 0 ((σ.1 0) + 1)) 0 (upd (σ.2.2.1 0) (((σ.1 0) + 1)).toNatClampNeg x1)) ++ va_pl L f) H := hP
              have hD : va_D A (xm_W Q cA (xs_ai (xs_i σ 0 ((σ.1 0) + 1)) 0 (upd (σ.2.2.1 0) (((σ.1 0) + 1)).toNatClampNeg x1)) ++ va_pl L f) := hD
              refine lv_aload_n hx hb dX4_item_96 rfl (lv_at hl 0 rfl) ?_
              refine va_get (D := (dC, dI)) (ci := 4) (v := .ref (Q 2)) (C := RX4) (T := TX4) (N := 33) hx hb hts in0 hown hK hP 0 (xm_W_0 _ _) rfl 2 (by decide) lk6 (fun _ h9 => h9) rfl dX4_item_97 ?_
              refine lv_aload_n hx hb dX4_item_100 rfl (lv_at hl 0 rfl) ?_
              refine va_get (D := (dC, dI)) (ci := 4) (v := .int ((σ.1 0) + 1)) (C := RX4) (T := TX4) (N := 33) hx hb hts in0 hown hK hP 0 (xm_W_0 _ _) rfl 0 (by decide) lk4 (fun _ h9 => h9) rfl dX4_item_101 ?_
              refine lv_lload_n hx hb dX4_item_104 rfl (lv_at hl 2 rfl) ?_
              refine va_last hx hb hK hP hD hS 2 1 (xm_W_2 _ _) rfl (rm_nw hV.1.1 hV.1.2.1 c70 (by decide)) dX4_item_105 (fun H locs hP hD hS => ?_)
              have hP : va_P (dC, dI) vwCl (xm_W Q cA (xs_al (xs_ai (xs_i σ 0 ((σ.1 0) + 1)) 0 (upd (σ.2.2.1 0) (((σ.1 0) + 1)).toNatClampNeg x1)) 0 (vp_updL (σ.2.2.2.1 0) (((σ.1 0) + 1)).toNatClampNeg x2)) ++ va_pl L f) H := hP
              have hD : va_D A (xm_W Q cA (xs_al (xs_ai (xs_i σ 0 ((σ.1 0) + 1)) 0 (upd (σ.2.2.1 0) (((σ.1 0) + 1)).toNatClampNeg x1)) 0 (vp_updL (σ.2.2.2.1 0) (((σ.1 0) + 1)).toNatClampNeg x2)) ++ va_pl L f) := hD
              refine lv_aload_n hx hb dX4_item_106 rfl (lv_at hl 0 rfl) ?_
              refine va_get (D := (dC, dI)) (ci := 4) (v := .ref (Q 3)) (C := RX4) (T := TX4) (N := 33) hx hb hts in0 hown hK hP 0 (xm_W_0 _ _) rfl 3 (by decide) lk7 (fun _ h9 => h9) rfl dX4_item_107 ?_
              refine lv_aload_n hx hb dX4_item_110 rfl (lv_at hl 0 rfl) ?_
              refine va_get (D := (dC, dI)) (ci := 4) (v := .int ((σ.1 0) + 1)) (C := RX4) (T := TX4) (N := 33) hx hb hts in0 hown hK hP 0 (xm_W_0 _ _) rfl 0 (by decide) lk4 (fun _ h9 => h9) rfl dX4_item_111 ?_
              refine lv_lload hx hb dX4_item_114 (lv_at hl 3 rfl) ?_
              refine va_last hx hb hK hP hD hS 3 1 (xm_W_3 _ _) rfl (rm_nw hV.1.1 hV.1.2.1 c70 (by decide)) dX4_item_116 (fun H locs hP hD hS => ?_)
              have hP : va_P (dC, dI) vwCl (xm_W Q cA (xs_al (xs_al (xs_ai (xs_i σ 0 ((σ.1 0) + 1)) 0 (upd (σ.2.2.1 0) (((σ.1 0) + 1)).toNatClampNeg x1)) 0 (vp_updL (σ.2.2.2.1 0) (((σ.1 0) + 1)).toNatClampNeg x2)) 1 (vp_updL (σ.2.2.2.1 1) (((σ.1 0) + 1)).toNatClampNeg x3)) ++ va_pl L f) H := hP
              have hD : va_D A (xm_W Q cA (xs_al (xs_al (xs_ai (xs_i σ 0 ((σ.1 0) + 1)) 0 (upd (σ.2.2.1 0) (((σ.1 0) + 1)).toNatClampNeg x1)) 0 (vp_updL (σ.2.2.2.1 0) (((σ.1 0) + 1)).toNatClampNeg x2)) 1 (vp_updL (σ.2.2.2.1 1) (((σ.1 0) + 1)).toNatClampNeg x3)) ++ va_pl L f) := hD
              refine lv_aload_n hx hb dX4_item_117 rfl (lv_at hl 0 rfl) ?_
              refine va_get (D := (dC, dI)) (ci := 4) (v := .ref (Q 4)) (C := RX4) (T := TX4) (N := 33) hx hb hts in0 hown hK hP 0 (xm_W_0 _ _) rfl 4 (by decide) lk8 (fun _ h9 => h9) rfl dX4_item_118 ?_
              refine lv_aload_n hx hb dX4_item_121 rfl (lv_at hl 0 rfl) ?_
              refine va_get (D := (dC, dI)) (ci := 4) (v := .int ((σ.1 0) + 1)) (C := RX4) (T := TX4) (N := 33) hx hb hts in0 hown hK hP 0 (xm_W_0 _ _) rfl 0 (by decide) lk4 (fun _ h9 => h9) rfl dX4_item_122 ?_
              refine lv_iload hx hb dX4_item_125 (lv_at hl 4 rfl) ?_
              refine va_iast hx hb hK hP hD hS 4 0 (xm_W_4 _ _) rfl (rm_nw hV.1.1 hV.1.2.1 c70 (by decide)) dX4_item_127 (fun H locs hP hD hS => ?_)
              have hP : va_P (dC, dI) vwCl (xm_W Q cA (xs_ai (xs_al (xs_al (xs_ai (xs_i σ 0 ((σ.1 0) + 1)) 0 (upd (σ.2.2.1 0) (((σ.1 0) + 1)).toNatClampNeg x1)) 0 (vp_updL (σ.2.2.2.1 0) (((σ.1 0) + 1)).toNatClampNeg x2)) 1 (vp_updL (σ.2.2.2.1 1) (((σ.1 0) + 1)).toNatClampNeg x3)) 1 (upd (σ.2.2.1 1) (((σ.1 0) + 1)).toNatClampNeg x4)) ++ va_pl L f) H := hP
              have hD : va_D A (xm_W Q cA (xs_ai (xs_al (xs_al (xs_ai (xs_i σ 0 ((σ.1 0) + 1)) 0 (upd (σ.2.2.1 0) (((σ.1 0) + 1)).toNatClampNeg x1)) 0 (vp_updL (σ.2.2.2.1 0) (((σ.1 0) + 1)).toNatClampNeg x2)) 1 (vp_updL (σ.2.2.2.1 1) (((σ.1 0) + 1)).toNatClampNeg x3)) 1 (upd (σ.2.2.1 1) (((σ.1 0) + 1)).toNatClampNeg x4)) ++ va_pl L f) := hD
              refine lv_aload_n hx hb dX4_item_128 rfl (lv_at hl 0 rfl) ?_
              refine va_get (D := (dC, dI)) (ci := 4) (v := .ref (Q 5)) (C := RX4) (T := TX4) (N := 33) hx hb hts in0 hown hK hP 0 (xm_W_0 _ _) rfl 5 (by decide) lk9 (fun _ h9 => h9) rfl dX4_item_129 ?_
              refine lv_aload_n hx hb dX4_item_132 rfl (lv_at hl 0 rfl) ?_
              refine va_get (D := (dC, dI)) (ci := 4) (v := .int ((σ.1 0) + 1)) (C := RX4) (T := TX4) (N := 33) hx hb hts in0 hown hK hP 0 (xm_W_0 _ _) rfl 0 (by decide) lk4 (fun _ h9 => h9) rfl dX4_item_133 ?_
              refine lv_iload hx hb dX4_item_136 (lv_at hl 5 rfl) ?_
              refine va_iast hx hb hK hP hD hS 5 0 (xm_W_5 _ _) rfl (rm_nw hV.1.1 hV.1.2.1 c70 (by decide)) dX4_item_138 (fun H locs hP hD hS => ?_)
              have hP : va_P (dC, dI) vwCl (xm_W Q cA (xs_ai (xs_ai (xs_al (xs_al (xs_ai (xs_i σ 0 ((σ.1 0) + 1)) 0 (upd (σ.2.2.1 0) (((σ.1 0) + 1)).toNatClampNeg x1)) 0 (vp_updL (σ.2.2.2.1 0) (((σ.1 0) + 1)).toNatClampNeg x2)) 1 (vp_updL (σ.2.2.2.1 1) (((σ.1 0) + 1)).toNatClampNeg x3)) 1 (upd (σ.2.2.1 1) (((σ.1 0) + 1)).toNatClampNeg x4)) 2 (upd (σ.2.2.1 2) (((σ.1 0) + 1)).toNatClampNeg x5)) ++ va_pl L f) H := hP
              have hD : va_D A (xm_W Q cA (xs_ai (xs_ai (xs_al (xs_al (xs_ai (xs_i σ 0 ((σ.1 0) + 1)) 0 (upd (σ.2.2.1 0) (((σ.1 0) + 1)).toNatClampNeg x1)) 0 (vp_updL (σ.2.2.2.1 0) (((σ.1 0) + 1)).toNatClampNeg x2)) 1 (vp_updL (σ.2.2.2.1 1) (((σ.1 0) + 1)).toNatClampNeg x3)) 1 (upd (σ.2.2.1 1) (((σ.1 0) + 1)).toNatClampNeg x4)) 2 (upd (σ.2.2.1 2) (((σ.1 0) + 1)).toNatClampNeg x5)) ++ va_pl L f) := hD
              refine lv_aload_n hx hb dX4_item_139 rfl (lv_at hl 0 rfl) ?_
              refine va_get (D := (dC, dI)) (ci := 4) (v := .int ((σ.1 0) + 1)) (C := RX4) (T := TX4) (N := 33) hx hb hts in0 hown hK hP 0 (xm_W_0 _ _) rfl 0 (by decide) lk4 (fun _ h9 => h9) rfl dX4_item_140 ?_
              exact W.iret (v := ((σ.1 0) + 1)) hx hb hr (fun t ht hW => ⟨⟨((σ.1 0) + 1), xs_ai (xs_ai (xs_al (xs_al (xs_ai (xs_i σ 0 ((σ.1 0) + 1)) 0 (upd (σ.2.2.1 0) (((σ.1 0) + 1)).toNatClampNeg x1)) 0 (vp_updL (σ.2.2.2.1 0) (((σ.1 0) + 1)).toNatClampNeg x2)) 1 (vp_updL (σ.2.2.2.1 1) (((σ.1 0) + 1)).toNatClampNeg x3)) 1 (upd (σ.2.2.1 1) (((σ.1 0) + 1)).toNatClampNeg x4)) 2 (upd (σ.2.2.1 2) (((σ.1 0) + 1)).toNatClampNeg x5), rfl, (by simp only [kr_item, if_pos c9, if_pos c20, if_pos c32, if_pos c45, if_pos c58, if_neg c70]; all_goals (first | done | rfl)), by rw [ht]; exact hP, va_K.moved hW.alike hK, hD⟩, hS.F ht⟩) hS.2.2 dX4_item_143
            · refine lv_bipush (v := (-104)) hx hb dX4_item_73 (by decide) ?_
              exact W.iret (v := (-104)) hx hb hr (fun t ht hW => ⟨⟨(-104), σ, rfl, (by simp only [kr_item, if_pos c9, if_pos c20, if_pos c32, if_pos c45, if_pos c58, if_pos c70]), by rw [ht]; exact hP, va_K.moved hW.alike hK, hD⟩, hS.F ht⟩) hS.2.2 dX4_item_75
          · have c58 := of_decide_eq_false (bb_0.mp c58)
            refine lv_bipush (v := (-102)) hx hb dX4_item_61 (by decide) ?_
            exact W.iret (v := (-102)) hx hb hr (fun t ht hW => ⟨⟨(-102), σ, rfl, (by simp only [kr_item, if_pos c9, if_pos c20, if_pos c32, if_pos c45, if_neg c58]), by rw [ht]; exact hP, va_K.moved hW.alike hK, hD⟩, hS.F ht⟩) hS.2.2 dX4_item_63
set_option maxHeartbeats 4000000 in
set_option maxRecDepth 100000 in
/-- mr_table -/
theorem mr_table (l : Launch) (dC : Nat → ClassId) (dI : Nat → Nat → Nat) (cA : Nat → ClassId) (sz : Nat) (Q : Nat → Nat) (σ : xs_T) (n : nn_T) (L : List Nat) (f : Nat → va_E) (hV : rm_V σ n) (x1 x2 : Int32) (x3 : Int64) (x4 : Int32) : Met l yX4_table wsX4_table ({ frames := 1, cells := 0, slots := 0, locals := 25 }) (va_Pc [.ref (Q 0), .int x1, .int x2, .long x3, .int x4] (ct_M (dC, dI) vwCl (ty_K cA) (xm_W Q cA σ ++ va_pl L f) sz)) (va_Qi (fun r u => (r, u) = kr_table σ x1 x2 x3 x4) (fun u t => ct_B (dC, dI) vwCl (ty_K cA) (va_A (xm_W Q cA σ ++ va_pl L f) sz) (xm_W Q cA u ++ va_pl L f) t) (va_A (xm_W Q cA σ ++ va_pl L f) sz)) 0 0 (va_A (xm_W Q cA σ ++ va_pl L f) sz) := by
  refine Met.ofW (cc := cX4_table) (maxL := 6) (ret := (some .int)) (by decide) rfl ?_
  intro p e s m args below meth c s₁ B hml hv
  obtain ⟨rfl, hsz, hP, hK, hD0⟩ := hv
  have hx := B.exec
  have hb := B.bytes
  have hr := B.returns
  have hts := atoms_spec (ws := wsX4_table) B.pre
  have hown : s.vm.findClass RX4 = some m.cls := findClass_of_methodNamed B.named
  have hlocks := B.notSynchronized
  subst hsz
  have hD := hD0.self (sz := s.heap.size)
  generalize hAe : va_A (xm_W Q cA σ ++ va_pl L f) s.heap.size = A at hD ⊢
  have hA : ∀ q : Nat, s.heap.size ≤ q → A q := fun q h => by rw [← hAe]; exact Or.inr h
  clear hAe hD0
  have hS : va_S A s.heap s.heap [] := va_S.rf
  have hl := lv_entry ([.ref (Q 0), .int x1, .int x2, .long x3, .int x4]) (n := 6) (Nat.le_of_ble_eq_true rfl)
  rw [lg_entry_eq]
  generalize (lg_sl ([.ref (Q 0), .int x1, .int x2, .long x3, .int x4]) ++ List.replicate (6 - (lg_sl ([.ref (Q 0), .int x1, .int x2, .long x3, .int x4])).length) Slot.unset).toArray = ls at hl ⊢
  have hl : lv_has ls 6 [(0, .ref (Q 0)), (1, .int x1), (2, .int x2), (3, .long x3), (5, .int x4)] := hl
  have lk0 := hts (.constantLong RX4 97 3) (List.mem_cons_of_mem _ wd_314)
  have lk1 := hts (.constantLong RX4 103 10000000) (List.mem_cons_of_mem _ wd_318)
  have lk2 := hts (.constantLong RX4 115 10000) (List.mem_cons_of_mem _ wd_334)
  have lk3 := hts (.fieldLink RX4 39 "ClaimRowsModel" "most" "[J") (List.mem_cons_of_mem _ wd_286)
  have lk4 := hts (.fieldLink RX4 42 "ClaimRowsModel" "days" "[I") (List.mem_cons_of_mem _ wd_287)
  have in0 : ∀ w ∈ u_ws RX4 TX4 33, w ∈ wsX4_table := fun w h => List.mem_cons_of_mem _ (wu_X4 w h)
  have hn0 : (σ.1 0).toNatClampNeg = n.1 := by rw [hV.1.1]; exact nI_clamp (by have := hV.1.2.1; omega)
  have hn1 : (σ.1 1).toNatClampNeg = n.2.1 := by rw [hV.1.2.2.1]; exact nI_clamp (by have := hV.1.2.2.2.1; omega)
  have hn2 : (σ.1 2).toNatClampNeg = n.2.2.1 := by rw [hV.1.2.2.2.2.1]; exact nI_clamp (by have := hV.1.2.2.2.2.2.1; omega)
  refine lv_iload_n hx hb dX4_table_0 rfl (lv_at hl 1 rfl) ?_
  refine lv_i2l (v := (x1 : Int32).toInt64) hx hb dX4_table_1 rfl ?_
  refine lv_lconst (v := 0) hx hb dX4_table_2 (by decide) ?_
  refine lv_ldc2 hx hb hown lk0 dX4_table_3 ?_
  refine vp_callSi (va_Run.run (va_runS (As := [.long ((x1 : Int32).toInt64), .long 0, .long 3]) (rest := []) ⟨hx, hb, hml, hown, hts⟩ (mr_isIn l ((x1 : Int32).toInt64) 0 3) (va_cwS 3 hts (al_gS wd_315 wd_316 wd_2 wd_317) rfl rfl rfl (by decide +kernel) ⟨Nat.le_of_ble_eq_true rfl, Nat.le_of_ble_eq_true rfl⟩) ⟨ct_bl0, ct_at0⟩ rfl rfl hl.1 rfl (lv_room (Nat.le_of_ble_eq_true rfl)) dX4_table_6 ⟨Nat.le_of_ble_eq_true rfl, Nat.le_of_ble_eq_true rfl⟩)) (fun r6 hr6 => ?_)
  subst hr6
  refine lv_if_eq (tgt := 48) hx hb dX4_table_9 (by decide) (fun c9 => ?_) (fun c9 => ?_)
  · have c9 := of_decide_eq_false (bb_0.mp c9)
    refine lv_bipush (v := (-102)) hx hb dX4_table_48 (by decide) ?_
    exact W.iret (v := (-102)) hx hb hr (fun t ht hW => ⟨⟨(-102), σ, rfl, (by simp only [kr_table, if_neg c9]), by rw [ht]; exact hP, va_K.moved hW.alike hK, hD⟩, hS.F ht⟩) hS.2.2 dX4_table_50
  · have c9 := of_decide_eq_true (bb_n.mp c9)
    refine lv_iload_n hx hb dX4_table_12 rfl (lv_at hl 2 rfl) ?_
    refine lv_i2l (v := (x2 : Int32).toInt64) hx hb dX4_table_13 rfl ?_
    refine lv_lconst (v := 0) hx hb dX4_table_14 (by decide) ?_
    refine lv_ldc2 hx hb hown lk0 dX4_table_15 ?_
    refine vp_callSi (va_Run.run (va_runS (As := [.long ((x2 : Int32).toInt64), .long 0, .long 3]) (rest := []) ⟨hx, hb, hml, hown, hts⟩ (mr_isIn l ((x2 : Int32).toInt64) 0 3) (va_cwS 3 hts (al_gS wd_315 wd_316 wd_2 wd_317) rfl rfl rfl (by decide +kernel) ⟨Nat.le_of_ble_eq_true rfl, Nat.le_of_ble_eq_true rfl⟩) ⟨ct_bl0, ct_at0⟩ rfl rfl hl.1 rfl (lv_room (Nat.le_of_ble_eq_true rfl)) dX4_table_18 ⟨Nat.le_of_ble_eq_true rfl, Nat.le_of_ble_eq_true rfl⟩)) (fun r18 hr18 => ?_)
    subst hr18
    refine lv_if_eq (tgt := 48) hx hb dX4_table_21 (by decide) (fun c21 => ?_) (fun c21 => ?_)
    · have c21 := of_decide_eq_false (bb_0.mp c21)
      refine lv_bipush (v := (-102)) hx hb dX4_table_48 (by decide) ?_
      exact W.iret (v := (-102)) hx hb hr (fun t ht hW => ⟨⟨(-102), σ, rfl, (by simp only [kr_table, if_pos c9, if_neg c21]), by rw [ht]; exact hP, va_K.moved hW.alike hK, hD⟩, hS.F ht⟩) hS.2.2 dX4_table_50
    · have c21 := of_decide_eq_true (bb_n.mp c21)
      refine lv_lload_n hx hb dX4_table_24 rfl (lv_at hl 3 rfl) ?_
      refine lv_lconst (v := 0) hx hb dX4_table_25 (by decide) ?_
      refine lv_ldc2 hx hb hown lk1 dX4_table_26 ?_
      refine vp_callSi (va_Run.run (va_runS (As := [.long x3, .long 0, .long 10000000]) (rest := []) ⟨hx, hb, hml, hown, hts⟩ (mr_isIn l x3 0 10000000) (va_cwS 3 hts (al_gS wd_315 wd_316 wd_2 wd_317) rfl rfl rfl (by decide +kernel) ⟨Nat.le_of_ble_eq_true rfl, Nat.le_of_ble_eq_true rfl⟩) ⟨ct_bl0, ct_at0⟩ rfl rfl hl.1 rfl (lv_room (Nat.le_of_ble_eq_true rfl)) dX4_table_29 ⟨Nat.le_of_ble_eq_true rfl, Nat.le_of_ble_eq_true rfl⟩)) (fun r29 hr29 => ?_)
      subst hr29
      refine lv_if_eq (tgt := 48) hx hb dX4_table_32 (by decide) (fun c32 => ?_) (fun c32 => ?_)
      · have c32 := of_decide_eq_false (bb_0.mp c32)
        refine lv_bipush (v := (-102)) hx hb dX4_table_48 (by decide) ?_
        exact W.iret (v := (-102)) hx hb hr (fun t ht hW => ⟨⟨(-102), σ, rfl, (by simp only [kr_table, if_pos c9, if_pos c21, if_neg c32]), by rw [ht]; exact hP, va_K.moved hW.alike hK, hD⟩, hS.F ht⟩) hS.2.2 dX4_table_50
      · have c32 := of_decide_eq_true (bb_n.mp c32)
        refine lv_iload hx hb dX4_table_35 (lv_at hl 4 rfl) ?_
        refine lv_i2l (v := (x4 : Int32).toInt64) hx hb dX4_table_37 rfl ?_
        refine lv_lconst (v := 0) hx hb dX4_table_38 (by decide) ?_
        refine lv_ldc2 hx hb hown lk2 dX4_table_39 ?_
        refine vp_callSi (va_Run.run (va_runS (As := [.long ((x4 : Int32).toInt64), .long 0, .long 10000]) (rest := []) ⟨hx, hb, hml, hown, hts⟩ (mr_isIn l ((x4 : Int32).toInt64) 0 10000) (va_cwS 3 hts (al_gS wd_315 wd_316 wd_2 wd_317) rfl rfl rfl (by decide +kernel) ⟨Nat.le_of_ble_eq_true rfl, Nat.le_of_ble_eq_true rfl⟩) ⟨ct_bl0, ct_at0⟩ rfl rfl hl.1 rfl (lv_room (Nat.le_of_ble_eq_true rfl)) dX4_table_42 ⟨Nat.le_of_ble_eq_true rfl, Nat.le_of_ble_eq_true rfl⟩)) (fun r42 hr42 => ?_)
        subst hr42
        refine lv_if_ne (tgt := 51) hx hb dX4_table_45 (by decide) (fun c45 => ?_) (fun c45 => ?_)
        · have c45 := of_decide_eq_true (bb_n.mp c45)
          refine lv_aload_n hx hb dX4_table_51 rfl (lv_at hl 0 rfl) ?_
          refine va_get (D := (dC, dI)) (ci := 4) (v := .ref (Q 10)) (C := RX4) (T := TX4) (N := 33) hx hb hts in0 hown hK hP 0 (xm_W_0 _ _) rfl 10 (by decide) lk3 (fun _ h9 => h9) rfl dX4_table_52 ?_
          refine lv_iconst (v := 4) hx hb dX4_table_55 (by decide) ?_
          refine lv_iload_n hx hb dX4_table_56 rfl (lv_at hl 1 rfl) ?_
          refine lv_imul hx hb dX4_table_57 ?_
          refine lv_iload_n hx hb dX4_table_58 rfl (lv_at hl 2 rfl) ?_
          refine lv_iadd hx hb dX4_table_59 ?_
          refine lv_lload_n hx hb dX4_table_60 rfl (lv_at hl 3 rfl) ?_
          refine va_last hx hb hK hP hD hS 10 1 (xm_W_10 _ _) rfl (rm_t c9 c21) dX4_table_61 (fun H locs hP hD hS => ?_)
          have hP : va_P (dC, dI) vwCl (xm_W Q cA (xs_al σ 2 (vp_updL (σ.2.2.2.1 2) (((4 * x1) + x2)).toNatClampNeg x3)) ++ va_pl L f) H := hP
          have hD : va_D A (xm_W Q cA (xs_al σ 2 (vp_updL (σ.2.2.2.1 2) (((4 * x1) + x2)).toNatClampNeg x3)) ++ va_pl L f) := hD
          refine lv_aload_n hx hb dX4_table_62 rfl (lv_at hl 0 rfl) ?_
          refine va_get (D := (dC, dI)) (ci := 4) (v := .ref (Q 11)) (C := RX4) (T := TX4) (N := 33) hx hb hts in0 hown hK hP 0 (xm_W_0 _ _) rfl 11 (by decide) lk4 (fun _ h9 => h9) rfl dX4_table_63 ?_
          refine lv_iconst (v := 4) hx hb dX4_table_66 (by decide) ?_
          refine lv_iload_n hx hb dX4_table_67 rfl (lv_at hl 1 rfl) ?_
          refine lv_imul hx hb dX4_table_68 ?_
          refine lv_iload_n hx hb dX4_table_69 rfl (lv_at hl 2 rfl) ?_
          refine lv_iadd hx hb dX4_table_70 ?_
          refine lv_iload hx hb dX4_table_71 (lv_at hl 4 rfl) ?_
          refine va_iast hx hb hK hP hD hS 11 0 (xm_W_11 _ _) rfl (rm_t c9 c21) dX4_table_73 (fun H locs hP hD hS => ?_)
          have hP : va_P (dC, dI) vwCl (xm_W Q cA (xs_ai (xs_al σ 2 (vp_updL (σ.2.2.2.1 2) (((4 * x1) + x2)).toNatClampNeg x3)) 7 (upd (σ.2.2.1 7) (((4 * x1) + x2)).toNatClampNeg x4)) ++ va_pl L f) H := hP
          have hD : va_D A (xm_W Q cA (xs_ai (xs_al σ 2 (vp_updL (σ.2.2.2.1 2) (((4 * x1) + x2)).toNatClampNeg x3)) 7 (upd (σ.2.2.1 7) (((4 * x1) + x2)).toNatClampNeg x4)) ++ va_pl L f) := hD
          refine lv_iconst (v := 1) hx hb dX4_table_74 (by decide) ?_
          exact W.iret (v := 1) hx hb hr (fun t ht hW => ⟨⟨1, xs_ai (xs_al σ 2 (vp_updL (σ.2.2.2.1 2) (((4 * x1) + x2)).toNatClampNeg x3)) 7 (upd (σ.2.2.1 7) (((4 * x1) + x2)).toNatClampNeg x4), rfl, (by simp only [kr_table, if_pos c9, if_pos c21, if_pos c32, if_pos c45]; all_goals (first | done | rfl)), by rw [ht]; exact hP, va_K.moved hW.alike hK, hD⟩, hS.F ht⟩) hS.2.2 dX4_table_75
        · have c45 := of_decide_eq_false (bb_0.mp c45)
          refine lv_bipush (v := (-102)) hx hb dX4_table_48 (by decide) ?_
          exact W.iret (v := (-102)) hx hb hr (fun t ht hW => ⟨⟨(-102), σ, rfl, (by simp only [kr_table, if_pos c9, if_pos c21, if_pos c32, if_neg c45]), by rw [ht]; exact hP, va_K.moved hW.alike hK, hD⟩, hS.F ht⟩) hS.2.2 dX4_table_50
set_option maxHeartbeats 4000000 in
set_option maxRecDepth 100000 in
/-- mr_limit -/
theorem mr_limit (l : Launch) (dC : Nat → ClassId) (dI : Nat → Nat → Nat) (cA : Nat → ClassId) (sz : Nat) (Q : Nat → Nat) (σ : xs_T) (n : nn_T) (L : List Nat) (f : Nat → va_E) (hV : rm_V σ n) (x1 : Int32) (x2 : Int64) : Met l yX4_limit wsX4_limit ({ frames := 1, cells := 0, slots := 0, locals := 25 }) (va_Pc [.ref (Q 0), .int x1, .long x2] (ct_M (dC, dI) vwCl (ty_K cA) (xm_W Q cA σ ++ va_pl L f) sz)) (va_Qi (fun r u => (r, u) = kr_limit σ x1 x2) (fun u t => ct_B (dC, dI) vwCl (ty_K cA) (va_A (xm_W Q cA σ ++ va_pl L f) sz) (xm_W Q cA u ++ va_pl L f) t) (va_A (xm_W Q cA σ ++ va_pl L f) sz)) 0 0 (va_A (xm_W Q cA σ ++ va_pl L f) sz) := by
  refine Met.ofW (cc := cX4_limit) (maxL := 4) (ret := (some .int)) (by decide) rfl ?_
  intro p e s m args below meth c s₁ B hml hv
  obtain ⟨rfl, hsz, hP, hK, hD0⟩ := hv
  have hx := B.exec
  have hb := B.bytes
  have hr := B.returns
  have hts := atoms_spec (ws := wsX4_limit) B.pre
  have hown : s.vm.findClass RX4 = some m.cls := findClass_of_methodNamed B.named
  have hlocks := B.notSynchronized
  subst hsz
  have hD := hD0.self (sz := s.heap.size)
  generalize hAe : va_A (xm_W Q cA σ ++ va_pl L f) s.heap.size = A at hD ⊢
  have hA : ∀ q : Nat, s.heap.size ≤ q → A q := fun q h => by rw [← hAe]; exact Or.inr h
  clear hAe hD0
  have hS : va_S A s.heap s.heap [] := va_S.rf
  have hl := lv_entry ([.ref (Q 0), .int x1, .long x2]) (n := 4) (Nat.le_of_ble_eq_true rfl)
  rw [lg_entry_eq]
  generalize (lg_sl ([.ref (Q 0), .int x1, .long x2]) ++ List.replicate (4 - (lg_sl ([.ref (Q 0), .int x1, .long x2])).length) Slot.unset).toArray = ls at hl ⊢
  have hl : lv_has ls 4 [(0, .ref (Q 0)), (1, .int x1), (2, .long x2)] := hl
  have lk0 := hts (.constantLong RX4 156 9) (List.mem_cons_of_mem _ wd_391)
  have lk1 := hts (.constantLong RX4 103 10000000) (List.mem_cons_of_mem _ wd_318)
  have lk2 := hts (.fieldLink RX4 78 "ClaimRowsModel" "limits" "[J") (List.mem_cons_of_mem _ wd_302)
  have in0 : ∀ w ∈ u_ws RX4 TX4 33, w ∈ wsX4_limit := fun w h => List.mem_cons_of_mem _ (wu_X4 w h)
  have hn0 : (σ.1 0).toNatClampNeg = n.1 := by rw [hV.1.1]; exact nI_clamp (by have := hV.1.2.1; omega)
  have hn1 : (σ.1 1).toNatClampNeg = n.2.1 := by rw [hV.1.2.2.1]; exact nI_clamp (by have := hV.1.2.2.2.1; omega)
  have hn2 : (σ.1 2).toNatClampNeg = n.2.2.1 := by rw [hV.1.2.2.2.2.1]; exact nI_clamp (by have := hV.1.2.2.2.2.2.1; omega)
  refine lv_iload_n hx hb dX4_limit_0 rfl (lv_at hl 1 rfl) ?_
  refine lv_i2l (v := (x1 : Int32).toInt64) hx hb dX4_limit_1 rfl ?_
  refine lv_lconst (v := 0) hx hb dX4_limit_2 (by decide) ?_
  refine lv_ldc2 hx hb hown lk0 dX4_limit_3 ?_
  refine vp_callSi (va_Run.run (va_runS (As := [.long ((x1 : Int32).toInt64), .long 0, .long 9]) (rest := []) ⟨hx, hb, hml, hown, hts⟩ (mr_isIn l ((x1 : Int32).toInt64) 0 9) (va_cwS 3 hts (al_gS wd_315 wd_316 wd_2 wd_317) rfl rfl rfl (by decide +kernel) ⟨Nat.le_of_ble_eq_true rfl, Nat.le_of_ble_eq_true rfl⟩) ⟨ct_bl0, ct_at0⟩ rfl rfl hl.1 rfl (lv_room (Nat.le_of_ble_eq_true rfl)) dX4_limit_6 ⟨Nat.le_of_ble_eq_true rfl, Nat.le_of_ble_eq_true rfl⟩)) (fun r6 hr6 => ?_)
  subst hr6
  refine lv_if_eq (tgt := 23) hx hb dX4_limit_9 (by decide) (fun c9 => ?_) (fun c9 => ?_)
  · have c9 := of_decide_eq_false (bb_0.mp c9)
    refine lv_bipush (v := (-102)) hx hb dX4_limit_23 (by decide) ?_
    exact W.iret (v := (-102)) hx hb hr (fun t ht hW => ⟨⟨(-102), σ, rfl, (by simp only [kr_limit, if_neg c9]), by rw [ht]; exact hP, va_K.moved hW.alike hK, hD⟩, hS.F ht⟩) hS.2.2 dX4_limit_25
  · have c9 := of_decide_eq_true (bb_n.mp c9)
    refine lv_lload_n hx hb dX4_limit_12 rfl (lv_at hl 2 rfl) ?_
    refine lv_lconst (v := 0) hx hb dX4_limit_13 (by decide) ?_
    refine lv_ldc2 hx hb hown lk1 dX4_limit_14 ?_
    refine vp_callSi (va_Run.run (va_runS (As := [.long x2, .long 0, .long 10000000]) (rest := []) ⟨hx, hb, hml, hown, hts⟩ (mr_isIn l x2 0 10000000) (va_cwS 3 hts (al_gS wd_315 wd_316 wd_2 wd_317) rfl rfl rfl (by decide +kernel) ⟨Nat.le_of_ble_eq_true rfl, Nat.le_of_ble_eq_true rfl⟩) ⟨ct_bl0, ct_at0⟩ rfl rfl hl.1 rfl (lv_room (Nat.le_of_ble_eq_true rfl)) dX4_limit_17 ⟨Nat.le_of_ble_eq_true rfl, Nat.le_of_ble_eq_true rfl⟩)) (fun r17 hr17 => ?_)
    subst hr17
    refine lv_if_ne (tgt := 26) hx hb dX4_limit_20 (by decide) (fun c20 => ?_) (fun c20 => ?_)
    · have c20 := of_decide_eq_true (bb_n.mp c20)
      refine lv_aload_n hx hb dX4_limit_26 rfl (lv_at hl 0 rfl) ?_
      refine va_get (D := (dC, dI)) (ci := 4) (v := .ref (Q 23)) (C := RX4) (T := TX4) (N := 33) hx hb hts in0 hown hK hP 0 (xm_W_0 _ _) rfl 26 (by decide) lk2 (fun _ h9 => h9) rfl dX4_limit_27 ?_
      refine lv_iload_n hx hb dX4_limit_30 rfl (lv_at hl 1 rfl) ?_
      refine lv_lload_n hx hb dX4_limit_31 rfl (lv_at hl 2 rfl) ?_
      refine va_last hx hb hK hP hD hS 23 1 (xm_W_23 _ _) rfl (rm_9 c9) dX4_limit_32 (fun H locs hP hD hS => ?_)
      have hP : va_P (dC, dI) vwCl (xm_W Q cA (xs_al σ 4 (vp_updL (σ.2.2.2.1 4) (x1).toNatClampNeg x2)) ++ va_pl L f) H := hP
      have hD : va_D A (xm_W Q cA (xs_al σ 4 (vp_updL (σ.2.2.2.1 4) (x1).toNatClampNeg x2)) ++ va_pl L f) := hD
      refine lv_iconst (v := 1) hx hb dX4_limit_33 (by decide) ?_
      exact W.iret (v := 1) hx hb hr (fun t ht hW => ⟨⟨1, xs_al σ 4 (vp_updL (σ.2.2.2.1 4) (x1).toNatClampNeg x2), rfl, (by simp only [kr_limit, if_pos c9, if_pos c20]; all_goals (first | done | rfl)), by rw [ht]; exact hP, va_K.moved hW.alike hK, hD⟩, hS.F ht⟩) hS.2.2 dX4_limit_34
    · have c20 := of_decide_eq_false (bb_0.mp c20)
      refine lv_bipush (v := (-102)) hx hb dX4_limit_23 (by decide) ?_
      exact W.iret (v := (-102)) hx hb hr (fun t ht hW => ⟨⟨(-102), σ, rfl, (by simp only [kr_limit, if_pos c9, if_neg c20]), by rw [ht]; exact hP, va_K.moved hW.alike hK, hD⟩, hS.F ht⟩) hS.2.2 dX4_limit_25
