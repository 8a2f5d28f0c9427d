set_option maxHeartbeats 4000000 in
set_option maxRecDepth 100000 in
/-- mr_claim -/
theorem mr_claim (l : Launch) (dC : Nat → ClassId) (dI : Nat → Nat → Nat) (cA : Nat → ClassId) (sz : Nat) (Q : Nat → Nat) (σ : xs_T) (n : nn_T) (L : List Nat) (f : Nat → va_E) (hV : rm_V σ n) (x1 x2 x3 x4 : Int32) : Met l yX4_claim wsX4_claim ({ frames := 1, cells := 0, slots := 0, locals := 25 }) (va_Pc [.ref (Q 0), .int x1, .int x2, .int x3, .int x4] (ct_M (dC, dI) vwCl (ty_K cA) (xm_W Q cA σ ++ va_pl L f) sz)) (va_Qi (fun r u => (r, u) = kr_claim σ x1 x2 x3 x4) (fun u t => ct_B (dC, dI) vwCl (ty_K cA) (va_A (xm_W Q cA σ ++ va_pl L f) sz) (xm_W Q cA u ++ va_pl L f) t) (va_A (xm_W Q cA σ ++ va_pl L f) sz)) 0 0 (va_A (xm_W Q cA σ ++ va_pl L f) sz) := by
  refine Met.ofW (cc := cX4_claim) (maxL := 6) (ret := (some .int)) (by decide) rfl ?_
  intro p e s m args below meth c s₁ B hml hv
  obtain ⟨rfl, hsz, hP, hK, hD0⟩ := hv
  have hx := B.exec
  have hb := B.bytes
  have hr := B.returns
  have hts := atoms_spec (ws := wsX4_claim) B.pre
  have hown : s.vm.findClass RX4 = some m.cls := findClass_of_methodNamed B.named
  have hlocks := B.notSynchronized
  subst hsz
  have hD := hD0.self (sz := s.heap.size)
  generalize hAe : va_A (xm_W Q cA σ ++ va_pl L f) s.heap.size = A at hD ⊢
  have hA : ∀ q : Nat, s.heap.size ≤ q → A q := fun q h => by rw [← hAe]; exact Or.inr h
  clear hAe hD0
  have hS : va_S A s.heap s.heap [] := va_S.rf
  have hl := lv_entry ([.ref (Q 0), .int x1, .int x2, .int x3, .int x4]) (n := 6) (Nat.le_of_ble_eq_true rfl)
  rw [lg_entry_eq]
  generalize (lg_sl ([.ref (Q 0), .int x1, .int x2, .int x3, .int x4]) ++ List.replicate (6 - (lg_sl ([.ref (Q 0), .int x1, .int x2, .int x3, .int x4])).length) Slot.unset).toArray = ls at hl ⊢
  have hl : lv_has ls 6 [(0, .ref (Q 0)), (1, .int x1), (2, .int x2), (3, .int x3), (4, .int x4)] := hl
  have lk0 := hts (.constantLong RX4 97 3) (List.mem_cons_of_mem _ wd_314)
  have lk1 := hts (.constantLong RX4 117 2) (List.mem_cons_of_mem _ wd_339)
  have lk2 := hts (.constantLong RX4 119 200000) (List.mem_cons_of_mem _ wd_340)
  have lk3 := hts (.fieldLink RX4 20 "ClaimRowsModel" "handed" "[I") (List.mem_cons_of_mem _ wd_280)
  have lk4 := hts (.fieldLink RX4 42 "ClaimRowsModel" "days" "[I") (List.mem_cons_of_mem _ wd_287)
  have lk5 := hts (.fieldLink RX4 7 "ClaimRowsModel" "service" "[I") (List.mem_cons_of_mem _ wd_277)
  have lk6 := hts (.fieldLink RX4 91 "ClaimRowsModel" "claims" "I") (List.mem_cons_of_mem _ wd_288)
  have lk7 := hts (.fieldLink RX4 45 "ClaimRowsModel" "itemOf" "[I") (List.mem_cons_of_mem _ wd_289)
  have lk8 := hts (.fieldLink RX4 48 "ClaimRowsModel" "kindOf" "[I") (List.mem_cons_of_mem _ wd_290)
  have lk9 := hts (.fieldLink RX4 51 "ClaimRowsModel" "state" "[I") (List.mem_cons_of_mem _ wd_291)
  have in0 : ∀ w ∈ u_ws RX4 TX4 33, w ∈ wsX4_claim := fun w h => List.mem_cons_of_mem _ (wu_X4 w h)
  have hn0 : (σ.1 0).toNatClampNeg = n.1 := by rw [hV.1.1]; exact nI_clamp (by have := hV.1.2.1; omega)
  have hn1 : (σ.1 1).toNatClampNeg = n.2.1 := by rw [hV.1.2.2.1]; exact nI_clamp (by have := hV.1.2.2.2.1; omega)
  have hn2 : (σ.1 2).toNatClampNeg = n.2.2.1 := by rw [hV.1.2.2.2.2.1]; exact nI_clamp (by have := hV.1.2.2.2.2.2.1; omega)
  refine lv_aload_n hx hb dX4_claim_0 rfl (lv_at hl 0 rfl) ?_
  refine lv_iload_n hx hb dX4_claim_1 rfl (lv_at hl 1 rfl) ?_
  refine vp_callSi (va_Run.run (va_runV (As := [.int x1]) (rest := []) ⟨hx, hb, hml, hown, hts⟩ (mr_isItem l dC dI cA Q σ L f x1) (cwV 1 hts (al_gV wd_325 wd_327 wd_326 wd_2 wd_328) rfl rfl rfl (by decide +kernel) ⟨Nat.le_of_ble_eq_true rfl, Nat.le_of_ble_eq_true rfl⟩) ⟨ct_blR, va_recv hK hP (ci := 4) (q0 := 0) rfl (xm_W_0 _ _), ct_atR hP hK⟩ rfl rfl hl.1 rfl (lv_room (Nat.le_of_ble_eq_true rfl)) dX4_claim_2 ⟨Nat.le_of_ble_eq_true rfl, Nat.le_of_ble_eq_true rfl⟩)) (fun r2 hr2 => ?_)
  subst hr2
  refine lv_if_ne (tgt := 11) hx hb dX4_claim_5 (by decide) (fun c5 => ?_) (fun c5 => ?_)
  · have c5 := of_decide_eq_true (bb_n.mp c5)
    refine lv_iload_n hx hb dX4_claim_11 rfl (lv_at hl 2 rfl) ?_
    refine lv_i2l (v := (x2 : Int32).toInt64) hx hb dX4_claim_12 rfl ?_
    refine lv_lconst (v := 0) hx hb dX4_claim_13 (by decide) ?_
    refine lv_ldc2 hx hb hown lk0 dX4_claim_14 ?_
    refine vp_callSi (va_Run.run (va_runS (As := [.long ((x2 : Int32).toInt64), .long 0, .long 3]) (rest := []) ⟨hx, hb, hml, hown, hts⟩ (mr_isIn l ((x2 : Int32).toInt64) 0 3) (va_cwS 3 hts (al_gS wd_315 wd_316 wd_2 wd_317) rfl rfl rfl (by decide +kernel) ⟨Nat.le_of_ble_eq_true rfl, Nat.le_of_ble_eq_true rfl⟩) ⟨ct_bl0, ct_at0⟩ rfl rfl hl.1 rfl (lv_room (Nat.le_of_ble_eq_true rfl)) dX4_claim_17 ⟨Nat.le_of_ble_eq_true rfl, Nat.le_of_ble_eq_true rfl⟩)) (fun r17 hr17 => ?_)
    subst hr17
    refine lv_if_eq (tgt := 48) hx hb dX4_claim_20 (by decide) (fun c20 => ?_) (fun c20 => ?_)
    · have c20 := of_decide_eq_false (bb_0.mp c20)
      refine lv_bipush (v := (-102)) hx hb dX4_claim_48 (by decide) ?_
      exact W.iret (v := (-102)) hx hb hr (fun t ht hW => ⟨⟨(-102), σ, rfl, (by simp only [kr_claim, if_pos c5, if_neg c20]), by rw [ht]; exact hP, va_K.moved hW.alike hK, hD⟩, hS.F ht⟩) hS.2.2 dX4_claim_50
    · have c20 := of_decide_eq_true (bb_n.mp c20)
      refine lv_iload_n hx hb dX4_claim_23 rfl (lv_at hl 3 rfl) ?_
      refine lv_i2l (v := (x3 : Int32).toInt64) hx hb dX4_claim_24 rfl ?_
      refine lv_lconst (v := 0) hx hb dX4_claim_25 (by decide) ?_
      refine lv_ldc2 hx hb hown lk1 dX4_claim_26 ?_
      refine vp_callSi (va_Run.run (va_runS (As := [.long ((x3 : Int32).toInt64), .long 0, .long 2]) (rest := []) ⟨hx, hb, hml, hown, hts⟩ (mr_isIn l ((x3 : Int32).toInt64) 0 2) (va_cwS 3 hts (al_gS wd_315 wd_316 wd_2 wd_317) rfl rfl rfl (by decide +kernel) ⟨Nat.le_of_ble_eq_true rfl, Nat.le_of_ble_eq_true rfl⟩) ⟨ct_bl0, ct_at0⟩ rfl rfl hl.1 rfl (lv_room (Nat.le_of_ble_eq_true rfl)) dX4_claim_29 ⟨Nat.le_of_ble_eq_true rfl, Nat.le_of_ble_eq_true rfl⟩)) (fun r29 hr29 => ?_)
      subst hr29
      refine lv_if_eq (tgt := 48) hx hb dX4_claim_32 (by decide) (fun c32 => ?_) (fun c32 => ?_)
      · have c32 := of_decide_eq_false (bb_0.mp c32)
        refine lv_bipush (v := (-102)) hx hb dX4_claim_48 (by decide) ?_
        exact W.iret (v := (-102)) hx hb hr (fun t ht hW => ⟨⟨(-102), σ, rfl, (by simp only [kr_claim, if_pos c5, if_pos c20, if_neg c32]), by rw [ht]; exact hP, va_K.moved hW.alike hK, hD⟩, hS.F ht⟩) hS.2.2 dX4_claim_50
      · have c32 := of_decide_eq_true (bb_n.mp c32)
        refine lv_iload hx hb dX4_claim_35 (lv_at hl 4 rfl) ?_
        refine lv_i2l (v := (x4 : Int32).toInt64) hx hb dX4_claim_37 rfl ?_
        refine lv_lconst (v := 0) hx hb dX4_claim_38 (by decide) ?_
        refine lv_ldc2 hx hb hown lk2 dX4_claim_39 ?_
        refine vp_callSi (va_Run.run (va_runS (As := [.long ((x4 : Int32).toInt64), .long 0, .long 200000]) (rest := []) ⟨hx, hb, hml, hown, hts⟩ (mr_isIn l ((x4 : Int32).toInt64) 0 200000) (va_cwS 3 hts (al_gS wd_315 wd_316 wd_2 wd_317) rfl rfl rfl (by decide +kernel) ⟨Nat.le_of_ble_eq_true rfl, Nat.le_of_ble_eq_true rfl⟩) ⟨ct_bl0, ct_at0⟩ rfl rfl hl.1 rfl (lv_room (Nat.le_of_ble_eq_true rfl)) dX4_claim_42 ⟨Nat.le_of_ble_eq_true rfl, Nat.le_of_ble_eq_true rfl⟩)) (fun r42 hr42 => ?_)
        subst hr42
        refine lv_if_ne (tgt := 51) hx hb dX4_claim_45 (by decide) (fun c45 => ?_) (fun c45 => ?_)
        · have c45 := of_decide_eq_true (bb_n.mp c45)
          refine lv_iload_n hx hb dX4_claim_51 rfl (lv_at hl 2 rfl) ?_
          refine lv_iconst (v := 1) hx hb dX4_claim_52 (by decide) ?_
          refine lv_icmp_eq (tgt := 61) hx hb dX4_claim_53 (by decide) (fun c53 => ?_) (fun c53 => ?_)
          · refine lv_iconst (v := 1) hx hb dX4_claim_61 (by decide) ?_
            refine lv_goto (tgt := 66) hx hb dX4_claim_62 (by decide) ?_
            refine lv_istore (lv' := [(5, .int 1), (0, .ref (Q 0)), (1, .int x1), (2, .int x2), (3, .int x3), (4, .int x4)]) hx hb dX4_claim_66 hl (by decide) rfl (fun ls hl => ?_)
            refine lv_iload_n hx hb dX4_claim_68 rfl (lv_at hl 4 rfl) ?_
            refine lv_iconst (v := 2) hx hb dX4_claim_69 (by decide) ?_
            refine lv_icmp_eq (tgt := 83) hx hb dX4_claim_70 (by decide) (fun c70 => ?_) (fun c70 => ?_)
            · refine lv_bipush (v := (-105)) hx hb dX4_claim_83 (by decide) ?_
              exact W.iret (v := (-105)) hx hb hr (fun t ht hW => ⟨⟨(-105), σ, rfl, (by simp only [kr_claim, if_pos c5, if_pos c20, if_pos c32, if_pos c45, if_pos (show (x3 = 2 ∨ (x3 = 1 ∧ ¬ (x2 = 1 ∨ x2 = 2))) from Or.inl c70)]), by rw [ht]; exact hP, va_K.moved hW.alike hK, hD⟩, hS.F ht⟩) hS.2.2 dX4_claim_85
            · refine lv_iload_n hx hb dX4_claim_73 rfl (lv_at hl 4 rfl) ?_
              refine lv_iconst (v := 1) hx hb dX4_claim_74 (by decide) ?_
              refine lv_icmp_ne (tgt := 86) hx hb dX4_claim_75 (by decide) (fun c75 => ?_) (fun c75 => ?_)
              · refine lv_iload hx hb dX4_claim_86 (lv_at hl 5 rfl) ?_
                refine lv_aload_n hx hb dX4_claim_88 rfl (lv_at hl 1 rfl) ?_
                refine va_get (D := (dC, dI)) (ci := 4) (v := .ref (Q 4)) (C := RX4) (T := TX4) (N := 33) hx hb hts in0 hown hK hP 0 (xm_W_0 _ _) rfl 4 (by decide) lk3 (fun _ h9 => h9) rfl dX4_claim_89 ?_
                refine lv_iload_n hx hb dX4_claim_92 rfl (lv_at hl 2 rfl) ?_
                refine va_iald hx hb hK hP 4 0 (xm_W_4 _ _) rfl (rm_i hV c5) dX4_claim_93 ?_
                refine lv_aload_n hx hb dX4_claim_94 rfl (lv_at hl 1 rfl) ?_
                refine va_get (D := (dC, dI)) (ci := 4) (v := .ref (Q 11)) (C := RX4) (T := TX4) (N := 33) hx hb hts in0 hown hK hP 0 (xm_W_0 _ _) rfl 11 (by decide) lk4 (fun _ h9 => h9) rfl dX4_claim_95 ?_
                refine lv_iconst (v := 4) hx hb dX4_claim_98 (by decide) ?_
                refine lv_aload_n hx hb dX4_claim_99 rfl (lv_at hl 1 rfl) ?_
                refine va_get (D := (dC, dI)) (ci := 4) (v := .ref (Q 1)) (C := RX4) (T := TX4) (N := 33) hx hb hts in0 hown hK hP 0 (xm_W_0 _ _) rfl 1 (by decide) lk5 (fun _ h9 => h9) rfl dX4_claim_100 ?_
                refine lv_iload_n hx hb dX4_claim_103 rfl (lv_at hl 2 rfl) ?_
                refine va_iald hx hb hK hP 1 0 (xm_W_1 _ _) rfl (rm_i hV c5) dX4_claim_104 ?_
                refine lv_imul hx hb dX4_claim_105 ?_
                refine lv_iload_n hx hb dX4_claim_106 rfl (lv_at hl 3 rfl) ?_
                refine lv_iadd hx hb dX4_claim_107 ?_
                refine va_iald hx hb hK hP 11 0 (xm_W_11 _ _) rfl (rm_u hV c5 c20) dX4_claim_108 ?_
                refine lv_iadd hx hb dX4_claim_109 ?_
                refine lv_icmp_le (tgt := 116) hx hb dX4_claim_110 (by decide) (fun c110 => ?_) (fun c110 => ?_)
                · refine lv_aload_n hx hb dX4_claim_116 rfl (lv_at hl 1 rfl) ?_
                  refine lv_iload_n hx hb dX4_claim_117 rfl (lv_at hl 2 rfl) ?_
                  refine lv_iload_n hx hb dX4_claim_118 rfl (lv_at hl 3 rfl) ?_
                  refine lv_iconst (v := 0) hx hb dX4_claim_119 (by decide) ?_
                  refine vp_callSi (va_Run.run (va_runV (As := [.int x1, .int x2, .int 0]) (rest := []) ⟨hx, hb, hml, hown, hts⟩ (mr_other l dC dI cA Q σ n L f (show rm_V σ n from hV) x1 x2 0 ) (cwV 3 hts (al_gV wd_341 wd_343 wd_342 wd_2 wd_344) rfl rfl rfl (by decide +kernel) ⟨Nat.le_of_ble_eq_true rfl, Nat.le_of_ble_eq_true rfl⟩) ⟨ct_blR, va_recv hK hP (ci := 4) (q0 := 0) rfl (xm_W_0 _ _), ct_atR hP hK⟩ rfl rfl hl.1 rfl (lv_room (Nat.le_of_ble_eq_true rfl)) dX4_claim_120 ⟨Nat.le_of_ble_eq_true rfl, Nat.le_of_ble_eq_true rfl⟩)) (fun r120 hr120 => ?_)
                  subst hr120
                  refine lv_if_le (tgt := 129) hx hb dX4_claim_123 (by decide) (fun c123 => ?_) (fun c123 => ?_)
                  · refine lv_aload_n hx hb dX4_claim_129 rfl (lv_at hl 1 rfl) ?_
                    refine va_get (D := (dC, dI)) (ci := 4) (v := .int (σ.1 1)) (C := RX4) (T := TX4) (N := 33) hx hb hts in0 hown hK hP 0 (xm_W_0 _ _) rfl 12 (by decide) lk6 (fun _ h9 => h9) rfl dX4_claim_130 ?_
                    refine lv_bipush (v := 60) hx hb dX4_claim_133 (by decide) ?_
                    refine lv_icmp_ne (tgt := 141) hx hb dX4_claim_135 (by decide) (fun c135 => ?_) (fun c135 => ?_)
                    · refine lv_aload_n hx hb dX4_claim_141 rfl (lv_at hl 1 rfl) ?_
                      refine lv_dup hx hb dX4_claim_142 rfl ?_
                      refine va_get (D := (dC, dI)) (ci := 4) (v := .int (σ.1 1)) (C := RX4) (T := TX4) (N := 33) hx hb hts in0 hown hK hP 0 (xm_W_0 _ _) rfl 12 (by decide) lk6 (fun _ h9 => h9) rfl dX4_claim_143 ?_
                      refine lv_iconst (v := 1) hx hb dX4_claim_146 (by decide) ?_
                      refine lv_iadd hx hb dX4_claim_147 ?_
                      refine va_put (D := (dC, dI)) (ci := 4) (v := .int ((σ.1 1) + 1)) (ty := .int) (C := RX4) (T := TX4) (N := 33) hx hb hts in0 tyX4 tyX4_ok nmX4 hown hK hP hD hS 0 (xm_W_0 _ _) rfl 12 (by decide) lk6 (fun _ h9 => h9) rfl (by decide +kernel) rfl rfl (Nat.le_of_ble_eq_true rfl) dX4_claim_148 (fun H locs hP hD hS => ?_)
                      have hP : va_P (dC, dI) vwCl (xm_W Q cA (xs_i σ 1 ((σ.1 1) + 1)) ++ va_pl L f) H := hP
                      have hD : va_D A (xm_W Q cA (xs_i σ 1 ((σ.1 1) + 1)) ++ va_pl L f) := hD
                      refine lv_aload_n hx hb dX4_claim_151 rfl (lv_at hl 1 rfl) ?_
                      refine va_get (D := (dC, dI)) (ci := 4) (v := .ref (Q 12)) (C := RX4) (T := TX4) (N := 33) hx hb hts in0 hown hK hP 0 (xm_W_0 _ _) rfl 13 (by decide) lk7 (fun _ h9 => h9) rfl dX4_claim_152 ?_
                      refine lv_aload_n hx hb dX4_claim_155 rfl (lv_at hl 1 rfl) ?_
                      refine va_get (D := (dC, dI)) (ci := 4) (v := .int ((σ.1 1) + 1)) (C := RX4) (T := TX4) (N := 33) hx hb hts in0 hown hK hP 0 (xm_W_0 _ _) rfl 12 (by decide) lk6 (fun _ h9 => h9) rfl dX4_claim_156 ?_
                      refine lv_iload_n hx hb dX4_claim_159 rfl (lv_at hl 2 rfl) ?_
                      refine va_iast hx hb hK hP hD hS 12 0 (xm_W_12 _ _) rfl (rm_nw hV.1.2.2.1 hV.1.2.2.2.1 c135 (by decide)) dX4_claim_160 (fun H locs hP hD hS => ?_)
                      have hP : va_P (dC, dI) vwCl (xm_W Q cA (xs_ai (xs_i σ 1 ((σ.1 1) + 1)) 8 (upd (σ.2.2.1 8) (((σ.1 1) + 1)).toNatClampNeg x1)) ++ va_pl L f) H := hP
                      have hD : va_D A (xm_W Q cA (xs_ai (xs_i σ 1 ((σ.1 1) + 1)) 8 (upd (σ.2.2.1 8) (((σ.1 1) + 1)).toNatClampNeg x1)) ++ va_pl L f) := hD
                      refine lv_aload_n hx hb dX4_claim_161 rfl (lv_at hl 1 rfl) ?_
                      refine va_get (D := (dC, dI)) (ci := 4) (v := .ref (Q 13)) (C := RX4) (T := TX4) (N := 33) hx hb hts in0 hown hK hP 0 (xm_W_0 _ _) rfl 14 (by decide) lk8 (fun _ h9 => h9) rfl dX4_claim_162 ?_
                      refine lv_aload_n hx hb dX4_claim_165 rfl (lv_at hl 1 rfl) ?_
                      refine va_get (D := (dC, dI)) (ci := 4) (v := .int ((σ.1 1) + 1)) (C := RX4) (T := TX4) (N := 33) hx hb hts in0 hown hK hP 0 (xm_W_0 _ _) rfl 12 (by decide) lk6 (fun _ h9 => h9) rfl dX4_claim_166 ?_
                      refine lv_iload_n hx hb dX4_claim_169 rfl (lv_at hl 3 rfl) ?_
                      refine va_iast hx hb hK hP hD hS 13 0 (xm_W_13 _ _) rfl (rm_nw hV.1.2.2.1 hV.1.2.2.2.1 c135 (by decide)) dX4_claim_170 (fun H locs hP hD hS => ?_)
                      have hP : va_P (dC, dI) vwCl (xm_W Q cA (xs_ai (xs_ai (xs_i σ 1 ((σ.1 1) + 1)) 8 (upd (σ.2.2.1 8) (((σ.1 1) + 1)).toNatClampNeg x1)) 9 (upd (σ.2.2.1 9) (((σ.1 1) + 1)).toNatClampNeg x2)) ++ va_pl L f) H := hP
                      have hD : va_D A (xm_W Q cA (xs_ai (xs_ai (xs_i σ 1 ((σ.1 1) + 1)) 8 (upd (σ.2.2.1 8) (((σ.1 1) + 1)).toNatClampNeg x1)) 9 (upd (σ.2.2.1 9) (((σ.1 1) + 1)).toNatClampNeg x2)) ++ va_pl L f) := hD
                      refine lv_aload_n hx hb dX4_claim_171 rfl (lv_at hl 1 rfl) ?_
                      refine va_get (D := (dC, dI)) (ci := 4) (v := .ref (Q 14)) (C := RX4) (T := TX4) (N := 33) hx hb hts in0 hown hK hP 0 (xm_W_0 _ _) rfl 15 (by decide) lk9 (fun _ h9 => h9) rfl dX4_claim_172 ?_
                      refine lv_aload_n hx hb dX4_claim_175 rfl (lv_at hl 1 rfl) ?_
                      refine va_get (D := (dC, dI)) (ci := 4) (v := .int ((σ.1 1) + 1)) (C := RX4) (T := TX4) (N := 33) hx hb hts in0 hown hK hP 0 (xm_W_0 _ _) rfl 12 (by decide) lk6 (fun _ h9 => h9) rfl dX4_claim_176 ?_
                      refine lv_iconst (v := 0) hx hb dX4_claim_179 (by decide) ?_
                      refine va_iast hx hb hK hP hD hS 14 0 (xm_W_14 _ _) rfl (rm_nw hV.1.2.2.1 hV.1.2.2.2.1 c135 (by decide)) dX4_claim_180 (fun H locs hP hD hS => ?_)
                      have hP : va_P (dC, dI) vwCl (xm_W Q cA (xs_ai (xs_ai (xs_ai (xs_i σ 1 ((σ.1 1) + 1)) 8 (upd (σ.2.2.1 8) (((σ.1 1) + 1)).toNatClampNeg x1)) 9 (upd (σ.2.2.1 9) (((σ.1 1) + 1)).toNatClampNeg x2)) 10 (upd (σ.2.2.1 10) (((σ.1 1) + 1)).toNatClampNeg 0)) ++ va_pl L f) H := hP
                      have hD : va_D A (xm_W Q cA (xs_ai (xs_ai (xs_ai (xs_i σ 1 ((σ.1 1) + 1)) 8 (upd (σ.2.2.1 8) (((σ.1 1) + 1)).toNatClampNeg x1)) 9 (upd (σ.2.2.1 9) (((σ.1 1) + 1)).toNatClampNeg x2)) 10 (upd (σ.2.2.1 10) (((σ.1 1) + 1)).toNatClampNeg 0)) ++ va_pl L f) := hD
                      refine lv_aload_n hx hb dX4_claim_181 rfl (lv_at hl 1 rfl) ?_
                      refine lv_aload_n hx hb dX4_claim_182 rfl (lv_at hl 1 rfl) ?_
                      refine va_get (D := (dC, dI)) (ci := 4) (v := .int ((σ.1 1) + 1)) (C := RX4) (T := TX4) (N := 33) hx hb hts in0 hown hK hP 0 (xm_W_0 _ _) rfl 12 (by decide) lk6 (fun _ h9 => h9) rfl dX4_claim_183 ?_
                      refine lv_iconst (v := 1) hx hb dX4_claim_186 (by decide) ?_
                      have hFc := ct_free hD hS hA
                      refine va_callv (va_runV (As := [.int ((σ.1 1) + 1), .int 1]) (rest := []) ⟨hx, hb, hml, hown, hts⟩ (mr_send l dC dI cA H.size Q (xs_ai (xs_ai (xs_ai (xs_i σ 1 ((σ.1 1) + 1)) 8 (upd (σ.2.2.1 8) (((σ.1 1) + 1)).toNatClampNeg x1)) 9 (upd (σ.2.2.1 9) (((σ.1 1) + 1)).toNatClampNeg x2)) 10 (upd (σ.2.2.1 10) (((σ.1 1) + 1)).toNatClampNeg 0)) L f n.2.2.2 (show (xs_ai (xs_ai (xs_ai (xs_i σ 1 ((σ.1 1) + 1)) 8 (upd (σ.2.2.1 8) (((σ.1 1) + 1)).toNatClampNeg x1)) 9 (upd (σ.2.2.1 9) (((σ.1 1) + 1)).toNatClampNeg x2)) 10 (upd (σ.2.2.1 10) (((σ.1 1) + 1)).toNatClampNeg 0)).1 4 = nI n.2.2.2 from hV.1.2.2.2.2.2.2.1) (by have := hV.1.2.2.2.2.2.2.2; omega) ((σ.1 1) + 1) 1) (cwV 2 hts (al_gV wd_345 wd_347 wd_346 wd_2 wd_348) rfl rfl rfl (by decide +kernel) ⟨Nat.le_of_ble_eq_true rfl, Nat.le_of_ble_eq_true rfl⟩) ⟨ct_blM, va_recv hK hP (ci := 4) (q0 := 0) rfl (xm_W_0 _ _), ct_atM hP hK hD⟩ rfl rfl hl.1 rfl (lv_room (Nat.le_of_ble_eq_true rfl)) dX4_claim_187 ⟨Nat.le_of_ble_eq_true rfl, Nat.le_of_ble_eq_true rfl⟩) hS (fun q _ h => hFc q h) hFc (fun u187 t H1 locs ht hvm hr187 hB hz1 hk1 hS => ?_)
                      obtain ⟨hP, -, hD1⟩ := hB
                      rw [ht] at hP
                      have hD := hD1.weaken (fun _ _ _ h => hFc _ h)
                      clear hD1 hk1 hz1 hFc hvm
                      generalize H1 = H at hP hS ht ⊢
                      clear ht
                      refine W.widen (k := 0) (n := 0) (by decide) (by decide) ?_
                      subst hr187
                      have hP : va_P (dC, dI) vwCl (xm_W Q cA (sm_nd (xs_ai (xs_ai (xs_ai (xs_i σ 1 ((σ.1 1) + 1)) 8 (upd (σ.2.2.1 8) (((σ.1 1) + 1)).toNatClampNeg x1)) 9 (upd (σ.2.2.1 9) (((σ.1 1) + 1)).toNatClampNeg x2)) 10 (upd (σ.2.2.1 10) (((σ.1 1) + 1)).toNatClampNeg 0)) ((σ.1 1) + 1) 1) ++ va_pl L f) H := hP
                      have hD : va_D A (xm_W Q cA (sm_nd (xs_ai (xs_ai (xs_ai (xs_i σ 1 ((σ.1 1) + 1)) 8 (upd (σ.2.2.1 8) (((σ.1 1) + 1)).toNatClampNeg x1)) 9 (upd (σ.2.2.1 9) (((σ.1 1) + 1)).toNatClampNeg x2)) 10 (upd (σ.2.2.1 10) (((σ.1 1) + 1)).toNatClampNeg 0)) ((σ.1 1) + 1) 1) ++ va_pl L f) := hD
                      refine lv_aload_n hx hb dX4_claim_190 rfl (lv_at hl 1 rfl) ?_
                      refine va_get (D := (dC, dI)) (ci := 4) (v := .int ((sm_nd (xs_ai (xs_ai (xs_ai (xs_i σ 1 ((σ.1 1) + 1)) 8 (upd (σ.2.2.1 8) (((σ.1 1) + 1)).toNatClampNeg x1)) 9 (upd (σ.2.2.1 9) (((σ.1 1) + 1)).toNatClampNeg x2)) 10 (upd (σ.2.2.1 10) (((σ.1 1) + 1)).toNatClampNeg 0)) ((σ.1 1) + 1) 1).1 1)) (C := RX4) (T := TX4) (N := 33) hx hb hts in0 hown hK hP 0 (xm_W_0 _ _) rfl 12 (by decide) lk6 (fun _ h9 => h9) rfl dX4_claim_191 ?_
                      exact W.iret (v := ((sm_nd (xs_ai (xs_ai (xs_ai (xs_i σ 1 ((σ.1 1) + 1)) 8 (upd (σ.2.2.1 8) (((σ.1 1) + 1)).toNatClampNeg x1)) 9 (upd (σ.2.2.1 9) (((σ.1 1) + 1)).toNatClampNeg x2)) 10 (upd (σ.2.2.1 10) (((σ.1 1) + 1)).toNatClampNeg 0)) ((σ.1 1) + 1) 1).1 1)) hx hb hr (fun t ht hW => ⟨⟨((sm_nd (xs_ai (xs_ai (xs_ai (xs_i σ 1 ((σ.1 1) + 1)) 8 (upd (σ.2.2.1 8) (((σ.1 1) + 1)).toNatClampNeg x1)) 9 (upd (σ.2.2.1 9) (((σ.1 1) + 1)).toNatClampNeg x2)) 10 (upd (σ.2.2.1 10) (((σ.1 1) + 1)).toNatClampNeg 0)) ((σ.1 1) + 1) 1).1 1), (sm_nd (xs_ai (xs_ai (xs_ai (xs_i σ 1 ((σ.1 1) + 1)) 8 (upd (σ.2.2.1 8) (((σ.1 1) + 1)).toNatClampNeg x1)) 9 (upd (σ.2.2.1 9) (((σ.1 1) + 1)).toNatClampNeg x2)) 10 (upd (σ.2.2.1 10) (((σ.1 1) + 1)).toNatClampNeg 0)) ((σ.1 1) + 1) 1), rfl, (by rw [show ((sm_nd (xs_ai (xs_ai (xs_ai (xs_i σ 1 ((σ.1 1) + 1)) 8 (upd (σ.2.2.1 8) (((σ.1 1) + 1)).toNatClampNeg x1)) 9 (upd (σ.2.2.1 9) (((σ.1 1) + 1)).toNatClampNeg x2)) 10 (upd (σ.2.2.1 10) (((σ.1 1) + 1)).toNatClampNeg 0)) ((σ.1 1) + 1) 1).1 1) = σ.1 1 + 1 from smn_0 (xs_ai (xs_ai (xs_ai (xs_i σ 1 (σ.1 1 + 1)) 8 (upd (σ.2.2.1 8) (σ.1 1 + 1).toNatClampNeg x1)) 9 (upd (σ.2.2.1 9) (σ.1 1 + 1).toNatClampNeg x2)) 10 (upd (σ.2.2.1 10) (σ.1 1 + 1).toNatClampNeg 0)) _ _ 1 (by decide)]; simp only [kr_claim, if_pos c5, if_pos c20, if_pos c32, if_pos c45, if_neg (show ¬ (x3 = 2 ∨ (x3 = 1 ∧ ¬ (x2 = 1 ∨ x2 = 2))) from fun q => q.elim c70 (fun z => c75 z.1)), if_pos c110, hn1, if_pos c123, if_neg c135]; all_goals (first | done | rfl)), by rw [ht]; exact hP, va_K.moved hW.alike hK, hD⟩, hS.F ht⟩) hS.2.2 dX4_claim_194
                    · refine lv_bipush (v := (-104)) hx hb dX4_claim_138 (by decide) ?_
                      exact W.iret (v := (-104)) hx hb hr (fun t ht hW => ⟨⟨(-104), σ, rfl, (by simp only [kr_claim, if_pos c5, if_pos c20, if_pos c32, if_pos c45, if_neg (show ¬ (x3 = 2 ∨ (x3 = 1 ∧ ¬ (x2 = 1 ∨ x2 = 2))) from fun q => q.elim c70 (fun z => c75 z.1)), if_pos c110, hn1, if_pos c123, if_pos c135]), by rw [ht]; exact hP, va_K.moved hW.alike hK, hD⟩, hS.F ht⟩) hS.2.2 dX4_claim_140
                  · refine lv_bipush (v := (-103)) hx hb dX4_claim_126 (by decide) ?_
                    exact W.iret (v := (-103)) hx hb hr (fun t ht hW => ⟨⟨(-103), σ, rfl, (by simp only [kr_claim, if_pos c5, if_pos c20, if_pos c32, if_pos c45, if_neg (show ¬ (x3 = 2 ∨ (x3 = 1 ∧ ¬ (x2 = 1 ∨ x2 = 2))) from fun q => q.elim c70 (fun z => c75 z.1)), if_pos c110, hn1, if_neg c123]), by rw [ht]; exact hP, va_K.moved hW.alike hK, hD⟩, hS.F ht⟩) hS.2.2 dX4_claim_128
                · refine lv_bipush (v := (-106)) hx hb dX4_claim_113 (by decide) ?_
                  exact W.iret (v := (-106)) hx hb hr (fun t ht hW => ⟨⟨(-106), σ, rfl, (by simp only [kr_claim, if_pos c5, if_pos c20, if_pos c32, if_pos c45, if_neg (show ¬ (x3 = 2 ∨ (x3 = 1 ∧ ¬ (x2 = 1 ∨ x2 = 2))) from fun q => q.elim c70 (fun z => c75 z.1)), if_neg c110]), by rw [ht]; exact hP, va_K.moved hW.alike hK, hD⟩, hS.F ht⟩) hS.2.2 dX4_claim_115
              · refine lv_iload hx hb dX4_claim_78 (lv_at hl 0 rfl) ?_
                refine lv_if_ne (tgt := 86) hx hb dX4_claim_80 (by decide) (fun c80 => ?_) (fun c80 => ?_)
                · refine lv_iload hx hb dX4_claim_86 (lv_at hl 5 rfl) ?_
                  refine lv_aload_n hx hb dX4_claim_88 rfl (lv_at hl 1 rfl) ?_
                  refine va_get (D := (dC, dI)) (ci := 4) (v := .ref (Q 4)) (C := RX4) (T := TX4) (N := 33) hx hb hts in0 hown hK hP 0 (xm_W_0 _ _) rfl 4 (by decide) lk3 (fun _ h9 => h9) rfl dX4_claim_89 ?_
                  refine lv_iload_n hx hb dX4_claim_92 rfl (lv_at hl 2 rfl) ?_
                  refine va_iald hx hb hK hP 4 0 (xm_W_4 _ _) rfl (rm_i hV c5) dX4_claim_93 ?_
                  refine lv_aload_n hx hb dX4_claim_94 rfl (lv_at hl 1 rfl) ?_
                  refine va_get (D := (dC, dI)) (ci := 4) (v := .ref (Q 11)) (C := RX4) (T := TX4) (N := 33) hx hb hts in0 hown hK hP 0 (xm_W_0 _ _) rfl 11 (by decide) lk4 (fun _ h9 => h9) rfl dX4_claim_95 ?_
                  refine lv_iconst (v := 4) hx hb dX4_claim_98 (by decide) ?_
                  refine lv_aload_n hx hb dX4_claim_99 rfl (lv_at hl 1 rfl) ?_
                  refine va_get (D := (dC, dI)) (ci := 4) (v := .ref (Q 1)) (C := RX4) (T := TX4) (N := 33) hx hb hts in0 hown hK hP 0 (xm_W_0 _ _) rfl 1 (by decide) lk5 (fun _ h9 => h9) rfl dX4_claim_100 ?_
                  refine lv_iload_n hx hb dX4_claim_103 rfl (lv_at hl 2 rfl) ?_
                  refine va_iald hx hb hK hP 1 0 (xm_W_1 _ _) rfl (rm_i hV c5) dX4_claim_104 ?_
                  refine lv_imul hx hb dX4_claim_105 ?_
                  refine lv_iload_n hx hb dX4_claim_106 rfl (lv_at hl 3 rfl) ?_
                  refine lv_iadd hx hb dX4_claim_107 ?_
                  refine va_iald hx hb hK hP 11 0 (xm_W_11 _ _) rfl (rm_u hV c5 c20) dX4_claim_108 ?_
                  refine lv_iadd hx hb dX4_claim_109 ?_
                  refine lv_icmp_le (tgt := 116) hx hb dX4_claim_110 (by decide) (fun c110 => ?_) (fun c110 => ?_)
                  · refine lv_aload_n hx hb dX4_claim_116 rfl (lv_at hl 1 rfl) ?_
                    refine lv_iload_n hx hb dX4_claim_117 rfl (lv_at hl 2 rfl) ?_
                    refine lv_iload_n hx hb dX4_claim_118 rfl (lv_at hl 3 rfl) ?_
                    refine lv_iconst (v := 0) hx hb dX4_claim_119 (by decide) ?_
                    refine vp_callSi (va_Run.run (va_runV (As := [.int x1, .int x2, .int 0]) (rest := []) ⟨hx, hb, hml, hown, hts⟩ (mr_other l dC dI cA Q σ n L f (show rm_V σ n from hV) x1 x2 0 ) (cwV 3 hts (al_gV wd_341 wd_343 wd_342 wd_2 wd_344) rfl rfl rfl (by decide +kernel) ⟨Nat.le_of_ble_eq_true rfl, Nat.le_of_ble_eq_true rfl⟩) ⟨ct_blR, va_recv hK hP (ci := 4) (q0 := 0) rfl (xm_W_0 _ _), ct_atR hP hK⟩ rfl rfl hl.1 rfl (lv_room (Nat.le_of_ble_eq_true rfl)) dX4_claim_120 ⟨Nat.le_of_ble_eq_true rfl, Nat.le_of_ble_eq_true rfl⟩)) (fun r120 hr120 => ?_)
                    subst hr120
                    refine lv_if_le (tgt := 129) hx hb dX4_claim_123 (by decide) (fun c123 => ?_) (fun c123 => ?_)
                    · refine lv_aload_n hx hb dX4_claim_129 rfl (lv_at hl 1 rfl) ?_
                      refine va_get (D := (dC, dI)) (ci := 4) (v := .int (σ.1 1)) (C := RX4) (T := TX4) (N := 33) hx hb hts in0 hown hK hP 0 (xm_W_0 _ _) rfl 12 (by decide) lk6 (fun _ h9 => h9) rfl dX4_claim_130 ?_
                      refine lv_bipush (v := 60) hx hb dX4_claim_133 (by decide) ?_
                      refine lv_icmp_ne (tgt := 141) hx hb dX4_claim_135 (by decide) (fun c135 => ?_) (fun c135 => ?_)
                      · refine lv_aload_n hx hb dX4_claim_141 rfl (lv_at hl 1 rfl) ?_
                        refine lv_dup hx hb dX4_claim_142 rfl ?_
                        refine va_get (D := (dC, dI)) (ci := 4) (v := .int (σ.1 1)) (C := RX4) (T := TX4) (N := 33) hx hb hts in0 hown hK hP 0 (xm_W_0 _ _) rfl 12 (by decide) lk6 (fun _ h9 => h9) rfl dX4_claim_143 ?_
                        refine lv_iconst (v := 1) hx hb dX4_claim_146 (by decide) ?_
                        refine lv_iadd hx hb dX4_claim_147 ?_
                        refine va_put (D := (dC, dI)) (ci := 4) (v := .int ((σ.1 1) + 1)) (ty := .int) (C := RX4) (T := TX4) (N := 33) hx hb hts in0 tyX4 tyX4_ok nmX4 hown hK hP hD hS 0 (xm_W_0 _ _) rfl 12 (by decide) lk6 (fun _ h9 => h9) rfl (by decide +kernel) rfl rfl (Nat.le_of_ble_eq_true rfl) dX4_claim_148 (fun H locs hP hD hS => ?_)
                        have hP : va_P (dC, dI) vwCl (xm_W Q cA (xs_i σ 1 ((σ.1 1) + 1)) ++ va_pl L f) H := hP
                        have hD : va_D A (xm_W Q cA (xs_i σ 1 ((σ.1 1) + 1)) ++ va_pl L f) := hD
                        refine lv_aload_n hx hb dX4_claim_151 rfl (lv_at hl 1 rfl) ?_
                        refine va_get (D := (dC, dI)) (ci := 4) (v := .ref (Q 12)) (C := RX4) (T := TX4) (N := 33) hx hb hts in0 hown hK hP 0 (xm_W_0 _ _) rfl 13 (by decide) lk7 (fun _ h9 => h9) rfl dX4_claim_152 ?_
                        refine lv_aload_n hx hb dX4_claim_155 rfl (lv_at hl 1 rfl) ?_
                        refine va_get (D := (dC, dI)) (ci := 4) (v := .int ((σ.1 1) + 1)) (C := RX4) (T := TX4) (N := 33) hx hb hts in0 hown hK hP 0 (xm_W_0 _ _) rfl 12 (by decide) lk6 (fun _ h9 => h9) rfl dX4_claim_156 ?_
                        refine lv_iload_n hx hb dX4_claim_159 rfl (lv_at hl 2 rfl) ?_
                        refine va_iast hx hb hK hP hD hS 12 0 (xm_W_12 _ _) rfl (rm_nw hV.1.2.2.1 hV.1.2.2.2.1 c135 (by decide)) dX4_claim_160 (fun H locs hP hD hS => ?_)
                        have hP : va_P (dC, dI) vwCl (xm_W Q cA (xs_ai (xs_i σ 1 ((σ.1 1) + 1)) 8 (upd (σ.2.2.1 8) (((σ.1 1) + 1)).toNatClampNeg x1)) ++ va_pl L f) H := hP
                        have hD : va_D A (xm_W Q cA (xs_ai (xs_i σ 1 ((σ.1 1) + 1)) 8 (upd (σ.2.2.1 8) (((σ.1 1) + 1)).toNatClampNeg x1)) ++ va_pl L f) := hD
                        refine lv_aload_n hx hb dX4_claim_161 rfl (lv_at hl 1 rfl) ?_
                        refine va_get (D := (dC, dI)) (ci := 4) (v := .ref (Q 13)) (C := RX4) (T := TX4) (N := 33) hx hb hts in0 hown hK hP 0 (xm_W_0 _ _) rfl 14 (by decide) lk8 (fun _ h9 => h9) rfl dX4_claim_162 ?_
                        refine lv_aload_n hx hb dX4_claim_165 rfl (lv_at hl 1 rfl) ?_
                        refine va_get (D := (dC, dI)) (ci := 4) (v := .int ((σ.1 1) + 1)) (C := RX4) (T := TX4) (N := 33) hx hb hts in0 hown hK hP 0 (xm_W_0 _ _) rfl 12 (by decide) lk6 (fun _ h9 => h9) rfl dX4_claim_166 ?_
                        refine lv_iload_n hx hb dX4_claim_169 rfl (lv_at hl 3 rfl) ?_
                        refine va_iast hx hb hK hP hD hS 13 0 (xm_W_13 _ _) rfl (rm_nw hV.1.2.2.1 hV.1.2.2.2.1 c135 (by decide)) dX4_claim_170 (fun H locs hP hD hS => ?_)
                        have hP : va_P (dC, dI) vwCl (xm_W Q cA (xs_ai (xs_ai (xs_i σ 1 ((σ.1 1) + 1)) 8 (upd (σ.2.2.1 8) (((σ.1 1) + 1)).toNatClampNeg x1)) 9 (upd (σ.2.2.1 9) (((σ.1 1) + 1)).toNatClampNeg x2)) ++ va_pl L f) H := hP
                        have hD : va_D A (xm_W Q cA (xs_ai (xs_ai (xs_i σ 1 ((σ.1 1) + 1)) 8 (upd (σ.2.2.1 8) (((σ.1 1) + 1)).toNatClampNeg x1)) 9 (upd (σ.2.2.1 9) (((σ.1 1) + 1)).toNatClampNeg x2)) ++ va_pl L f) := hD
                        refine lv_aload_n hx hb dX4_claim_171 rfl (lv_at hl 1 rfl) ?_
                        refine va_get (D := (dC, dI)) (ci := 4) (v := .ref (Q 14)) (C := RX4) (T := TX4) (N := 33) hx hb hts in0 hown hK hP 0 (xm_W_0 _ _) rfl 15 (by decide) lk9 (fun _ h9 => h9) rfl dX4_claim_172 ?_
                        refine lv_aload_n hx hb dX4_claim_175 rfl (lv_at hl 1 rfl) ?_
                        refine va_get (D := (dC, dI)) (ci := 4) (v := .int ((σ.1 1) + 1)) (C := RX4) (T := TX4) (N := 33) hx hb hts in0 hown hK hP 0 (xm_W_0 _ _) rfl 12 (by decide) lk6 (fun _ h9 => h9) rfl dX4_claim_176 ?_
                        refine lv_iconst (v := 0) hx hb dX4_claim_179 (by decide) ?_
                        refine va_iast hx hb hK hP hD hS 14 0 (xm_W_14 _ _) rfl (rm_nw hV.1.2.2.1 hV.1.2.2.2.1 c135 (by decide)) dX4_claim_180 (fun H locs hP hD hS => ?_)
                        have hP : va_P (dC, dI) vwCl (xm_W Q cA (xs_ai (xs_ai (xs_ai (xs_i σ 1 ((σ.1 1) + 1)) 8 (upd (σ.2.2.1 8) (((σ.1 1) + 1)).toNatClampNeg x1)) 9 (upd (σ.2.2.1 9) (((σ.1 1) + 1)).toNatClampNeg x2)) 10 (upd (σ.2.2.1 10) (((σ.1 1) + 1)).toNatClampNeg 0)) ++ va_pl L f) H := hP
                        have hD : va_D A (xm_W Q cA (xs_ai (xs_ai (xs_ai (xs_i σ 1 ((σ.1 1) + 1)) 8 (upd (σ.2.2.1 8) (((σ.1 1) + 1)).toNatClampNeg x1)) 9 (upd (σ.2.2.1 9) (((σ.1 1) + 1)).toNatClampNeg x2)) 10 (upd (σ.2.2.1 10) (((σ.1 1) + 1)).toNatClampNeg 0)) ++ va_pl L f) := hD
                        refine lv_aload_n hx hb dX4_claim_181 rfl (lv_at hl 1 rfl) ?_
                        refine lv_aload_n hx hb dX4_claim_182 rfl (lv_at hl 1 rfl) ?_
                        refine va_get (D := (dC, dI)) (ci := 4) (v := .int ((σ.1 1) + 1)) (C := RX4) (T := TX4) (N := 33) hx hb hts in0 hown hK hP 0 (xm_W_0 _ _) rfl 12 (by decide) lk6 (fun _ h9 => h9) rfl dX4_claim_183 ?_
                        refine lv_iconst (v := 1) hx hb dX4_claim_186 (by decide) ?_
                        have hFc := ct_free hD hS hA
                        refine va_callv (va_runV (As := [.int ((σ.1 1) + 1), .int 1]) (rest := []) ⟨hx, hb, hml, hown, hts⟩ (mr_send l dC dI cA H.size Q (xs_ai (xs_ai (xs_ai (xs_i σ 1 ((σ.1 1) + 1)) 8 (upd (σ.2.2.1 8) (((σ.1 1) + 1)).toNatClampNeg x1)) 9 (upd (σ.2.2.1 9) (((σ.1 1) + 1)).toNatClampNeg x2)) 10 (upd (σ.2.2.1 10) (((σ.1 1) + 1)).toNatClampNeg 0)) L f n.2.2.2 (show (xs_ai (xs_ai (xs_ai (xs_i σ 1 ((σ.1 1) + 1)) 8 (upd (σ.2.2.1 8) (((σ.1 1) + 1)).toNatClampNeg x1)) 9 (upd (σ.2.2.1 9) (((σ.1 1) + 1)).toNatClampNeg x2)) 10 (upd (σ.2.2.1 10) (((σ.1 1) + 1)).toNatClampNeg 0)).1 4 = nI n.2.2.2 from hV.1.2.2.2.2.2.2.1) (by have := hV.1.2.2.2.2.2.2.2; omega) ((σ.1 1) + 1) 1) (cwV 2 hts (al_gV wd_345 wd_347 wd_346 wd_2 wd_348) rfl rfl rfl (by decide +kernel) ⟨Nat.le_of_ble_eq_true rfl, Nat.le_of_ble_eq_true rfl⟩) ⟨ct_blM, va_recv hK hP (ci := 4) (q0 := 0) rfl (xm_W_0 _ _), ct_atM hP hK hD⟩ rfl rfl hl.1 rfl (lv_room (Nat.le_of_ble_eq_true rfl)) dX4_claim_187 ⟨Nat.le_of_ble_eq_true rfl, Nat.le_of_ble_eq_true rfl⟩) hS (fun q _ h => hFc q h) hFc (fun u187 t H1 locs ht hvm hr187 hB hz1 hk1 hS => ?_)
                        obtain ⟨hP, -, hD1⟩ := hB
                        rw [ht] at hP
                        have hD := hD1.weaken (fun _ _ _ h => hFc _ h)
                        clear hD1 hk1 hz1 hFc hvm
                        generalize H1 = H at hP hS ht ⊢
                        clear ht
                        refine W.widen (k := 0) (n := 0) (by decide) (by decide) ?_
                        subst hr187
                        have hP : va_P (dC, dI) vwCl (xm_W Q cA (sm_nd (xs_ai (xs_ai (xs_ai (xs_i σ 1 ((σ.1 1) + 1)) 8 (upd (σ.2.2.1 8) (((σ.1 1) + 1)).toNatClampNeg x1)) 9 (upd (σ.2.2.1 9) (((σ.1 1) + 1)).toNatClampNeg x2)) 10 (upd (σ.2.2.1 10) (((σ.1 1) + 1)).toNatClampNeg 0)) ((σ.1 1) + 1) 1) ++ va_pl L f) H := hP
                        have hD : va_D A (xm_W Q cA (sm_nd (xs_ai (xs_ai (xs_ai (xs_i σ 1 ((σ.1 1) + 1)) 8 (upd (σ.2.2.1 8) (((σ.1 1) + 1)).toNatClampNeg x1)) 9 (upd (σ.2.2.1 9) (((σ.1 1) + 1)).toNatClampNeg x2)) 10 (upd (σ.2.2.1 10) (((σ.1 1) + 1)).toNatClampNeg 0)) ((σ.1 1) + 1) 1) ++ va_pl L f) := hD
                        refine lv_aload_n hx hb dX4_claim_190 rfl (lv_at hl 1 rfl) ?_
                        refine va_get (D := (dC, dI)) (ci := 4) (v := .int ((sm_nd (xs_ai (xs_ai (xs_ai (xs_i σ 1 ((σ.1 1) + 1)) 8 (upd (σ.2.2.1 8) (((σ.1 1) + 1)).toNatClampNeg x1)) 9 (upd (σ.2.2.1 9) (((σ.1 1) + 1)).toNatClampNeg x2)) 10 (upd (σ.2.2.1 10) (((σ.1 1) + 1)).toNatClampNeg 0)) ((σ.1 1) + 1) 1).1 1)) (C := RX4) (T := TX4) (N := 33) hx hb hts in0 hown hK hP 0 (xm_W_0 _ _) rfl 12 (by decide) lk6 (fun _ h9 => h9) rfl dX4_claim_191 ?_
                        exact W.iret (v := ((sm_nd (xs_ai (xs_ai (xs_ai (xs_i σ 1 ((σ.1 1) + 1)) 8 (upd (σ.2.2.1 8) (((σ.1 1) + 1)).toNatClampNeg x1)) 9 (upd (σ.2.2.1 9) (((σ.1 1) + 1)).toNatClampNeg x2)) 10 (upd (σ.2.2.1 10) (((σ.1 1) + 1)).toNatClampNeg 0)) ((σ.1 1) + 1) 1).1 1)) hx hb hr (fun t ht hW => ⟨⟨((sm_nd (xs_ai (xs_ai (xs_ai (xs_i σ 1 ((σ.1 1) + 1)) 8 (upd (σ.2.2.1 8) (((σ.1 1) + 1)).toNatClampNeg x1)) 9 (upd (σ.2.2.1 9) (((σ.1 1) + 1)).toNatClampNeg x2)) 10 (upd (σ.2.2.1 10) (((σ.1 1) + 1)).toNatClampNeg 0)) ((σ.1 1) + 1) 1).1 1), (sm_nd (xs_ai (xs_ai (xs_ai (xs_i σ 1 ((σ.1 1) + 1)) 8 (upd (σ.2.2.1 8) (((σ.1 1) + 1)).toNatClampNeg x1)) 9 (upd (σ.2.2.1 9) (((σ.1 1) + 1)).toNatClampNeg x2)) 10 (upd (σ.2.2.1 10) (((σ.1 1) + 1)).toNatClampNeg 0)) ((σ.1 1) + 1) 1), rfl, (by rw [show ((sm_nd (xs_ai (xs_ai (xs_ai (xs_i σ 1 ((σ.1 1) + 1)) 8 (upd (σ.2.2.1 8) (((σ.1 1) + 1)).toNatClampNeg x1)) 9 (upd (σ.2.2.1 9) (((σ.1 1) + 1)).toNatClampNeg x2)) 10 (upd (σ.2.2.1 10) (((σ.1 1) + 1)).toNatClampNeg 0)) ((σ.1 1) + 1) 1).1 1) = σ.1 1 + 1 from smn_0 (xs_ai (xs_ai (xs_ai (xs_i σ 1 (σ.1 1 + 1)) 8 (upd (σ.2.2.1 8) (σ.1 1 + 1).toNatClampNeg x1)) 9 (upd (σ.2.2.1 9) (σ.1 1 + 1).toNatClampNeg x2)) 10 (upd (σ.2.2.1 10) (σ.1 1 + 1).toNatClampNeg 0)) _ _ 1 (by decide)]; simp only [kr_claim, if_pos c5, if_pos c20, if_pos c32, if_pos c45, if_neg (show ¬ (x3 = 2 ∨ (x3 = 1 ∧ ¬ (x2 = 1 ∨ x2 = 2))) from fun q => q.elim c70 (fun z => z.2 (Or.inl c53))), if_pos c110, hn1, if_pos c123, if_neg c135]; all_goals (first | done | rfl)), by rw [ht]; exact hP, va_K.moved hW.alike hK, hD⟩, hS.F ht⟩) hS.2.2 dX4_claim_194
                      · refine lv_bipush (v := (-104)) hx hb dX4_claim_138 (by decide) ?_
                        exact W.iret (v := (-104)) hx hb hr (fun t ht hW => ⟨⟨(-104), σ, rfl, (by simp only [kr_claim, if_pos c5, if_pos c20, if_pos c32, if_pos c45, if_neg (show ¬ (x3 = 2 ∨ (x3 = 1 ∧ ¬ (x2 = 1 ∨ x2 = 2))) from fun q => q.elim c70 (fun z => z.2 (Or.inl c53))), if_pos c110, hn1, if_pos c123, if_pos c135]), by rw [ht]; exact hP, va_K.moved hW.alike hK, hD⟩, hS.F ht⟩) hS.2.2 dX4_claim_140
                    · refine lv_bipush (v := (-103)) hx hb dX4_claim_126 (by decide) ?_
                      exact W.iret (v := (-103)) hx hb hr (fun t ht hW => ⟨⟨(-103), σ, rfl, (by simp only [kr_claim, if_pos c5, if_pos c20, if_pos c32, if_pos c45, if_neg (show ¬ (x3 = 2 ∨ (x3 = 1 ∧ ¬ (x2 = 1 ∨ x2 = 2))) from fun q => q.elim c70 (fun z => z.2 (Or.inl c53))), if_pos c110, hn1, if_neg c123]), by rw [ht]; exact hP, va_K.moved hW.alike hK, hD⟩, hS.F ht⟩) hS.2.2 dX4_claim_128
                  · refine lv_bipush (v := (-106)) hx hb dX4_claim_113 (by decide) ?_
                    exact W.iret (v := (-106)) hx hb hr (fun t ht hW => ⟨⟨(-106), σ, rfl, (by simp only [kr_claim, if_pos c5, if_pos c20, if_pos c32, if_pos c45, if_neg (show ¬ (x3 = 2 ∨ (x3 = 1 ∧ ¬ (x2 = 1 ∨ x2 = 2))) from fun q => q.elim c70 (fun z => z.2 (Or.inl c53))), if_neg c110]), by rw [ht]; exact hP, va_K.moved hW.alike hK, hD⟩, hS.F ht⟩) hS.2.2 dX4_claim_115
                · exact absurd c80 (by decide)
          · refine lv_iload_n hx hb dX4_claim_56 rfl (lv_at hl 2 rfl) ?_
            refine lv_iconst (v := 2) hx hb dX4_claim_57 (by decide) ?_
            refine lv_icmp_ne (tgt := 65) hx hb dX4_claim_58 (by decide) (fun c58 => ?_) (fun c58 => ?_)
            · refine lv_iconst (v := 0) hx hb dX4_claim_65 (by decide) ?_
              refine lv_istore (lv' := [(5, .int 0), (0, .ref (Q 0)), (1, .int x1), (2, .int x2), (3, .int x3), (4, .int x4)]) hx hb dX4_claim_66 hl (by decide) rfl (fun ls hl => ?_)
              refine lv_iload_n hx hb dX4_claim_68 rfl (lv_at hl 4 rfl) ?_
              refine lv_iconst (v := 2) hx hb dX4_claim_69 (by decide) ?_
              refine lv_icmp_eq (tgt := 83) hx hb dX4_claim_70 (by decide) (fun c70 => ?_) (fun c70 => ?_)
              · refine lv_bipush (v := (-105)) hx hb dX4_claim_83 (by decide) ?_
                exact W.iret (v := (-105)) hx hb hr (fun t ht hW => ⟨⟨(-105), σ, rfl, (by simp only [kr_claim, if_pos c5, if_pos c20, if_pos c32, if_pos c45, if_pos (show (x3 = 2 ∨ (x3 = 1 ∧ ¬ (x2 = 1 ∨ x2 = 2))) from Or.inl c70)]), by rw [ht]; exact hP, va_K.moved hW.alike hK, hD⟩, hS.F ht⟩) hS.2.2 dX4_claim_85
              · refine lv_iload_n hx hb dX4_claim_73 rfl (lv_at hl 4 rfl) ?_
                refine lv_iconst (v := 1) hx hb dX4_claim_74 (by decide) ?_
                refine lv_icmp_ne (tgt := 86) hx hb dX4_claim_75 (by decide) (fun c75 => ?_) (fun c75 => ?_)
                · refine lv_iload hx hb dX4_claim_86 (lv_at hl 5 rfl) ?_
                  refine lv_aload_n hx hb dX4_claim_88 rfl (lv_at hl 1 rfl) ?_
                  refine va_get (D := (dC, dI)) (ci := 4) (v := .ref (Q 4)) (C := RX4) (T := TX4) (N := 33) hx hb hts in0 hown hK hP 0 (xm_W_0 _ _) rfl 4 (by decide) lk3 (fun _ h9 => h9) rfl dX4_claim_89 ?_
                  refine lv_iload_n hx hb dX4_claim_92 rfl (lv_at hl 2 rfl) ?_
                  refine va_iald hx hb hK hP 4 0 (xm_W_4 _ _) rfl (rm_i hV c5) dX4_claim_93 ?_
                  refine lv_aload_n hx hb dX4_claim_94 rfl (lv_at hl 1 rfl) ?_
                  refine va_get (D := (dC, dI)) (ci := 4) (v := .ref (Q 11)) (C := RX4) (T := TX4) (N := 33) hx hb hts in0 hown hK hP 0 (xm_W_0 _ _) rfl 11 (by decide) lk4 (fun _ h9 => h9) rfl dX4_claim_95 ?_
                  refine lv_iconst (v := 4) hx hb dX4_claim_98 (by decide) ?_
                  refine lv_aload_n hx hb dX4_claim_99 rfl (lv_at hl 1 rfl) ?_
                  refine va_get (D := (dC, dI)) (ci := 4) (v := .ref (Q 1)) (C := RX4) (T := TX4) (N := 33) hx hb hts in0 hown hK hP 0 (xm_W_0 _ _) rfl 1 (by decide) lk5 (fun _ h9 => h9) rfl dX4_claim_100 ?_
                  refine lv_iload_n hx hb dX4_claim_103 rfl (lv_at hl 2 rfl) ?_
                  refine va_iald hx hb hK hP 1 0 (xm_W_1 _ _) rfl (rm_i hV c5) dX4_claim_104 ?_
                  refine lv_imul hx hb dX4_claim_105 ?_
                  refine lv_iload_n hx hb dX4_claim_106 rfl (lv_at hl 3 rfl) ?_
                  refine lv_iadd hx hb dX4_claim_107 ?_
                  refine va_iald hx hb hK hP 11 0 (xm_W_11 _ _) rfl (rm_u hV c5 c20) dX4_claim_108 ?_
                  refine lv_iadd hx hb dX4_claim_109 ?_
                  refine lv_icmp_le (tgt := 116) hx hb dX4_claim_110 (by decide) (fun c110 => ?_) (fun c110 => ?_)
                  · refine lv_aload_n hx hb dX4_claim_116 rfl (lv_at hl 1 rfl) ?_
                    refine lv_iload_n hx hb dX4_claim_117 rfl (lv_at hl 2 rfl) ?_
                    refine lv_iload_n hx hb dX4_claim_118 rfl (lv_at hl 3 rfl) ?_
                    refine lv_iconst (v := 0) hx hb dX4_claim_119 (by decide) ?_
                    refine vp_callSi (va_Run.run (va_runV (As := [.int x1, .int x2, .int 0]) (rest := []) ⟨hx, hb, hml, hown, hts⟩ (mr_other l dC dI cA Q σ n L f (show rm_V σ n from hV) x1 x2 0 ) (cwV 3 hts (al_gV wd_341 wd_343 wd_342 wd_2 wd_344) rfl rfl rfl (by decide +kernel) ⟨Nat.le_of_ble_eq_true rfl, Nat.le_of_ble_eq_true rfl⟩) ⟨ct_blR, va_recv hK hP (ci := 4) (q0 := 0) rfl (xm_W_0 _ _), ct_atR hP hK⟩ rfl rfl hl.1 rfl (lv_room (Nat.le_of_ble_eq_true rfl)) dX4_claim_120 ⟨Nat.le_of_ble_eq_true rfl, Nat.le_of_ble_eq_true rfl⟩)) (fun r120 hr120 => ?_)
                    subst hr120
                    refine lv_if_le (tgt := 129) hx hb dX4_claim_123 (by decide) (fun c123 => ?_) (fun c123 => ?_)
                    · refine lv_aload_n hx hb dX4_claim_129 rfl (lv_at hl 1 rfl) ?_
                      refine va_get (D := (dC, dI)) (ci := 4) (v := .int (σ.1 1)) (C := RX4) (T := TX4) (N := 33) hx hb hts in0 hown hK hP 0 (xm_W_0 _ _) rfl 12 (by decide) lk6 (fun _ h9 => h9) rfl dX4_claim_130 ?_
                      refine lv_bipush (v := 60) hx hb dX4_claim_133 (by decide) ?_
                      refine lv_icmp_ne (tgt := 141) hx hb dX4_claim_135 (by decide) (fun c135 => ?_) (fun c135 => ?_)
                      · refine lv_aload_n hx hb dX4_claim_141 rfl (lv_at hl 1 rfl) ?_
                        refine lv_dup hx hb dX4_claim_142 rfl ?_
                        refine va_get (D := (dC, dI)) (ci := 4) (v := .int (σ.1 1)) (C := RX4) (T := TX4) (N := 33) hx hb hts in0 hown hK hP 0 (xm_W_0 _ _) rfl 12 (by decide) lk6 (fun _ h9 => h9) rfl dX4_claim_143 ?_
                        refine lv_iconst (v := 1) hx hb dX4_claim_146 (by decide) ?_
                        refine lv_iadd hx hb dX4_claim_147 ?_
                        refine va_put (D := (dC, dI)) (ci := 4) (v := .int ((σ.1 1) + 1)) (ty := .int) (C := RX4) (T := TX4) (N := 33) hx hb hts in0 tyX4 tyX4_ok nmX4 hown hK hP hD hS 0 (xm_W_0 _ _) rfl 12 (by decide) lk6 (fun _ h9 => h9) rfl (by decide +kernel) rfl rfl (Nat.le_of_ble_eq_true rfl) dX4_claim_148 (fun H locs hP hD hS => ?_)
                        have hP : va_P (dC, dI) vwCl (xm_W Q cA (xs_i σ 1 ((σ.1 1) + 1)) ++ va_pl L f) H := hP
                        have hD : va_D A (xm_W Q cA (xs_i σ 1 ((σ.1 1) + 1)) ++ va_pl L f) := hD
                        refine lv_aload_n hx hb dX4_claim_151 rfl (lv_at hl 1 rfl) ?_
                        refine va_get (D := (dC, dI)) (ci := 4) (v := .ref (Q 12)) (C := RX4) (T := TX4) (N := 33) hx hb hts in0 hown hK hP 0 (xm_W_0 _ _) rfl 13 (by decide) lk7 (fun _ h9 => h9) rfl dX4_claim_152 ?_
                        refine lv_aload_n hx hb dX4_claim_155 rfl (lv_at hl 1 rfl) ?_
                        refine va_get (D := (dC, dI)) (ci := 4) (v := .int ((σ.1 1) + 1)) (C := RX4) (T := TX4) (N := 33) hx hb hts in0 hown hK hP 0 (xm_W_0 _ _) rfl 12 (by decide) lk6 (fun _ h9 => h9) rfl dX4_claim_156 ?_
                        refine lv_iload_n hx hb dX4_claim_159 rfl (lv_at hl 2 rfl) ?_
                        refine va_iast hx hb hK hP hD hS 12 0 (xm_W_12 _ _) rfl (rm_nw hV.1.2.2.1 hV.1.2.2.2.1 c135 (by decide)) dX4_claim_160 (fun H locs hP hD hS => ?_)
                        have hP : va_P (dC, dI) vwCl (xm_W Q cA (xs_ai (xs_i σ 1 ((σ.1 1) + 1)) 8 (upd (σ.2.2.1 8) (((σ.1 1) + 1)).toNatClampNeg x1)) ++ va_pl L f) H := hP
                        have hD : va_D A (xm_W Q cA (xs_ai (xs_i σ 1 ((σ.1 1) + 1)) 8 (upd (σ.2.2.1 8) (((σ.1 1) + 1)).toNatClampNeg x1)) ++ va_pl L f) := hD
                        refine lv_aload_n hx hb dX4_claim_161 rfl (lv_at hl 1 rfl) ?_
                        refine va_get (D := (dC, dI)) (ci := 4) (v := .ref (Q 13)) (C := RX4) (T := TX4) (N := 33) hx hb hts in0 hown hK hP 0 (xm_W_0 _ _) rfl 14 (by decide) lk8 (fun _ h9 => h9) rfl dX4_claim_162 ?_
                        refine lv_aload_n hx hb dX4_claim_165 rfl (lv_at hl 1 rfl) ?_
                        refine va_get (D := (dC, dI)) (ci := 4) (v := .int ((σ.1 1) + 1)) (C := RX4) (T := TX4) (N := 33) hx hb hts in0 hown hK hP 0 (xm_W_0 _ _) rfl 12 (by decide) lk6 (fun _ h9 => h9) rfl dX4_claim_166 ?_
                        refine lv_iload_n hx hb dX4_claim_169 rfl (lv_at hl 3 rfl) ?_
                        refine va_iast hx hb hK hP hD hS 13 0 (xm_W_13 _ _) rfl (rm_nw hV.1.2.2.1 hV.1.2.2.2.1 c135 (by decide)) dX4_claim_170 (fun H locs hP hD hS => ?_)
                        have hP : va_P (dC, dI) vwCl (xm_W Q cA (xs_ai (xs_ai (xs_i σ 1 ((σ.1 1) + 1)) 8 (upd (σ.2.2.1 8) (((σ.1 1) + 1)).toNatClampNeg x1)) 9 (upd (σ.2.2.1 9) (((σ.1 1) + 1)).toNatClampNeg x2)) ++ va_pl L f) H := hP
                        have hD : va_D A (xm_W Q cA (xs_ai (xs_ai (xs_i σ 1 ((σ.1 1) + 1)) 8 (upd (σ.2.2.1 8) (((σ.1 1) + 1)).toNatClampNeg x1)) 9 (upd (σ.2.2.1 9) (((σ.1 1) + 1)).toNatClampNeg x2)) ++ va_pl L f) := hD
                        refine lv_aload_n hx hb dX4_claim_171 rfl (lv_at hl 1 rfl) ?_
                        refine va_get (D := (dC, dI)) (ci := 4) (v := .ref (Q 14)) (C := RX4) (T := TX4) (N := 33) hx hb hts in0 hown hK hP 0 (xm_W_0 _ _) rfl 15 (by decide) lk9 (fun _ h9 => h9) rfl dX4_claim_172 ?_
                        refine lv_aload_n hx hb dX4_claim_175 rfl (lv_at hl 1 rfl) ?_
                        refine va_get (D := (dC, dI)) (ci := 4) (v := .int ((σ.1 1) + 1)) (C := RX4) (T := TX4) (N := 33) hx hb hts in0 hown hK hP 0 (xm_W_0 _ _) rfl 12 (by decide) lk6 (fun _ h9 => h9) rfl dX4_claim_176 ?_
                        refine lv_iconst (v := 0) hx hb dX4_claim_179 (by decide) ?_
                        refine va_iast hx hb hK hP hD hS 14 0 (xm_W_14 _ _) rfl (rm_nw hV.1.2.2.1 hV.1.2.2.2.1 c135 (by decide)) dX4_claim_180 (fun H locs hP hD hS => ?_)
                        have hP : va_P (dC, dI) vwCl (xm_W Q cA (xs_ai (xs_ai (xs_ai (xs_i σ 1 ((σ.1 1) + 1)) 8 (upd (σ.2.2.1 8) (((σ.1 1) + 1)).toNatClampNeg x1)) 9 (upd (σ.2.2.1 9) (((σ.1 1) + 1)).toNatClampNeg x2)) 10 (upd (σ.2.2.1 10) (((σ.1 1) + 1)).toNatClampNeg 0)) ++ va_pl L f) H := hP
                        have hD : va_D A (xm_W Q cA (xs_ai (xs_ai (xs_ai (xs_i σ 1 ((σ.1 1) + 1)) 8 (upd (σ.2.2.1 8) (((σ.1 1) + 1)).toNatClampNeg x1)) 9 (upd (σ.2.2.1 9) (((σ.1 1) + 1)).toNatClampNeg x2)) 10 (upd (σ.2.2.1 10) (((σ.1 1) + 1)).toNatClampNeg 0)) ++ va_pl L f) := hD
                        refine lv_aload_n hx hb dX4_claim_181 rfl (lv_at hl 1 rfl) ?_
                        refine lv_aload_n hx hb dX4_claim_182 rfl (lv_at hl 1 rfl) ?_
                        refine va_get (D := (dC, dI)) (ci := 4) (v := .int ((σ.1 1) + 1)) (C := RX4) (T := TX4) (N := 33) hx hb hts in0 hown hK hP 0 (xm_W_0 _ _) rfl 12 (by decide) lk6 (fun _ h9 => h9) rfl dX4_claim_183 ?_
                        refine lv_iconst (v := 1) hx hb dX4_claim_186 (by decide) ?_
                        have hFc := ct_free hD hS hA
                        refine va_callv (va_runV (As := [.int ((σ.1 1) + 1), .int 1]) (rest := []) ⟨hx, hb, hml, hown, hts⟩ (mr_send l dC dI cA H.size Q (xs_ai (xs_ai (xs_ai (xs_i σ 1 ((σ.1 1) + 1)) 8 (upd (σ.2.2.1 8) (((σ.1 1) + 1)).toNatClampNeg x1)) 9 (upd (σ.2.2.1 9) (((σ.1 1) + 1)).toNatClampNeg x2)) 10 (upd (σ.2.2.1 10) (((σ.1 1) + 1)).toNatClampNeg 0)) L f n.2.2.2 (show (xs_ai (xs_ai (xs_ai (xs_i σ 1 ((σ.1 1) + 1)) 8 (upd (σ.2.2.1 8) (((σ.1 1) + 1)).toNatClampNeg x1)) 9 (upd (σ.2.2.1 9) (((σ.1 1) + 1)).toNatClampNeg x2)) 10 (upd (σ.2.2.1 10) (((σ.1 1) + 1)).toNatClampNeg 0)).1 4 = nI n.2.2.2 from hV.1.2.2.2.2.2.2.1) (by have := hV.1.2.2.2.2.2.2.2; omega) ((σ.1 1) + 1) 1) (cwV 2 hts (al_gV wd_345 wd_347 wd_346 wd_2 wd_348) rfl rfl rfl (by decide +kernel) ⟨Nat.le_of_ble_eq_true rfl, Nat.le_of_ble_eq_true rfl⟩) ⟨ct_blM, va_recv hK hP (ci := 4) (q0 := 0) rfl (xm_W_0 _ _), ct_atM hP hK hD⟩ rfl rfl hl.1 rfl (lv_room (Nat.le_of_ble_eq_true rfl)) dX4_claim_187 ⟨Nat.le_of_ble_eq_true rfl, Nat.le_of_ble_eq_true rfl⟩) hS (fun q _ h => hFc q h) hFc (fun u187 t H1 locs ht hvm hr187 hB hz1 hk1 hS => ?_)
                        obtain ⟨hP, -, hD1⟩ := hB
                        rw [ht] at hP
                        have hD := hD1.weaken (fun _ _ _ h => hFc _ h)
                        clear hD1 hk1 hz1 hFc hvm
                        generalize H1 = H at hP hS ht ⊢
                        clear ht
                        refine W.widen (k := 0) (n := 0) (by decide) (by decide) ?_
                        subst hr187
                        have hP : va_P (dC, dI) vwCl (xm_W Q cA (sm_nd (xs_ai (xs_ai (xs_ai (xs_i σ 1 ((σ.1 1) + 1)) 8 (upd (σ.2.2.1 8) (((σ.1 1) + 1)).toNatClampNeg x1)) 9 (upd (σ.2.2.1 9) (((σ.1 1) + 1)).toNatClampNeg x2)) 10 (upd (σ.2.2.1 10) (((σ.1 1) + 1)).toNatClampNeg 0)) ((σ.1 1) + 1) 1) ++ va_pl L f) H := hP
                        have hD : va_D A (xm_W Q cA (sm_nd (xs_ai (xs_ai (xs_ai (xs_i σ 1 ((σ.1 1) + 1)) 8 (upd (σ.2.2.1 8) (((σ.1 1) + 1)).toNatClampNeg x1)) 9 (upd (σ.2.2.1 9) (((σ.1 1) + 1)).toNatClampNeg x2)) 10 (upd (σ.2.2.1 10) (((σ.1 1) + 1)).toNatClampNeg 0)) ((σ.1 1) + 1) 1) ++ va_pl L f) := hD
                        refine lv_aload_n hx hb dX4_claim_190 rfl (lv_at hl 1 rfl) ?_
                        refine va_get (D := (dC, dI)) (ci := 4) (v := .int ((sm_nd (xs_ai (xs_ai (xs_ai (xs_i σ 1 ((σ.1 1) + 1)) 8 (upd (σ.2.2.1 8) (((σ.1 1) + 1)).toNatClampNeg x1)) 9 (upd (σ.2.2.1 9) (((σ.1 1) + 1)).toNatClampNeg x2)) 10 (upd (σ.2.2.1 10) (((σ.1 1) + 1)).toNatClampNeg 0)) ((σ.1 1) + 1) 1).1 1)) (C := RX4) (T := TX4) (N := 33) hx hb hts in0 hown hK hP 0 (xm_W_0 _ _) rfl 12 (by decide) lk6 (fun _ h9 => h9) rfl dX4_claim_191 ?_
                        exact W.iret (v := ((sm_nd (xs_ai (xs_ai (xs_ai (xs_i σ 1 ((σ.1 1) + 1)) 8 (upd (σ.2.2.1 8) (((σ.1 1) + 1)).toNatClampNeg x1)) 9 (upd (σ.2.2.1 9) (((σ.1 1) + 1)).toNatClampNeg x2)) 10 (upd (σ.2.2.1 10) (((σ.1 1) + 1)).toNatClampNeg 0)) ((σ.1 1) + 1) 1).1 1)) hx hb hr (fun t ht hW => ⟨⟨((sm_nd (xs_ai (xs_ai (xs_ai (xs_i σ 1 ((σ.1 1) + 1)) 8 (upd (σ.2.2.1 8) (((σ.1 1) + 1)).toNatClampNeg x1)) 9 (upd (σ.2.2.1 9) (((σ.1 1) + 1)).toNatClampNeg x2)) 10 (upd (σ.2.2.1 10) (((σ.1 1) + 1)).toNatClampNeg 0)) ((σ.1 1) + 1) 1).1 1), (sm_nd (xs_ai (xs_ai (xs_ai (xs_i σ 1 ((σ.1 1) + 1)) 8 (upd (σ.2.2.1 8) (((σ.1 1) + 1)).toNatClampNeg x1)) 9 (upd (σ.2.2.1 9) (((σ.1 1) + 1)).toNatClampNeg x2)) 10 (upd (σ.2.2.1 10) (((σ.1 1) + 1)).toNatClampNeg 0)) ((σ.1 1) + 1) 1), rfl, (by rw [show ((sm_nd (xs_ai (xs_ai (xs_ai (xs_i σ 1 ((σ.1 1) + 1)) 8 (upd (σ.2.2.1 8) (((σ.1 1) + 1)).toNatClampNeg x1)) 9 (upd (σ.2.2.1 9) (((σ.1 1) + 1)).toNatClampNeg x2)) 10 (upd (σ.2.2.1 10) (((σ.1 1) + 1)).toNatClampNeg 0)) ((σ.1 1) + 1) 1).1 1) = σ.1 1 + 1 from smn_0 (xs_ai (xs_ai (xs_ai (xs_i σ 1 (σ.1 1 + 1)) 8 (upd (σ.2.2.1 8) (σ.1 1 + 1).toNatClampNeg x1)) 9 (upd (σ.2.2.1 9) (σ.1 1 + 1).toNatClampNeg x2)) 10 (upd (σ.2.2.1 10) (σ.1 1 + 1).toNatClampNeg 0)) _ _ 1 (by decide)]; simp only [kr_claim, if_pos c5, if_pos c20, if_pos c32, if_pos c45, if_neg (show ¬ (x3 = 2 ∨ (x3 = 1 ∧ ¬ (x2 = 1 ∨ x2 = 2))) from fun q => q.elim c70 (fun z => c75 z.1)), if_pos c110, hn1, if_pos c123, if_neg c135]; all_goals (first | done | rfl)), by rw [ht]; exact hP, va_K.moved hW.alike hK, hD⟩, hS.F ht⟩) hS.2.2 dX4_claim_194
                      · refine lv_bipush (v := (-104)) hx hb dX4_claim_138 (by decide) ?_
                        exact W.iret (v := (-104)) hx hb hr (fun t ht hW => ⟨⟨(-104), σ, rfl, (by simp only [kr_claim, if_pos c5, if_pos c20, if_pos c32, if_pos c45, if_neg (show ¬ (x3 = 2 ∨ (x3 = 1 ∧ ¬ (x2 = 1 ∨ x2 = 2))) from fun q => q.elim c70 (fun z => c75 z.1)), if_pos c110, hn1, if_pos c123, if_pos c135]), by rw [ht]; exact hP, va_K.moved hW.alike hK, hD⟩, hS.F ht⟩) hS.2.2 dX4_claim_140
                    · refine lv_bipush (v := (-103)) hx hb dX4_claim_126 (by decide) ?_
                      exact W.iret (v := (-103)) hx hb hr (fun t ht hW => ⟨⟨(-103), σ, rfl, (by simp only [kr_claim, if_pos c5, if_pos c20, if_pos c32, if_pos c45, if_neg (show ¬ (x3 = 2 ∨ (x3 = 1 ∧ ¬ (x2 = 1 ∨ x2 = 2))) from fun q => q.elim c70 (fun z => c75 z.1)), if_pos c110, hn1, if_neg c123]), by rw [ht]; exact hP, va_K.moved hW.alike hK, hD⟩, hS.F ht⟩) hS.2.2 dX4_claim_128
                  · refine lv_bipush (v := (-106)) hx hb dX4_claim_113 (by decide) ?_
                    exact W.iret (v := (-106)) hx hb hr (fun t ht hW => ⟨⟨(-106), σ, rfl, (by simp only [kr_claim, if_pos c5, if_pos c20, if_pos c32, if_pos c45, if_neg (show ¬ (x3 = 2 ∨ (x3 = 1 ∧ ¬ (x2 = 1 ∨ x2 = 2))) from fun q => q.elim c70 (fun z => c75 z.1)), if_neg c110]), by rw [ht]; exact hP, va_K.moved hW.alike hK, hD⟩, hS.F ht⟩) hS.2.2 dX4_claim_115
                · refine lv_iload hx hb dX4_claim_78 (lv_at hl 0 rfl) ?_
                  refine lv_if_ne (tgt := 86) hx hb dX4_claim_80 (by decide) (fun c80 => ?_) (fun c80 => ?_)
                  · exact absurd c80 (by decide)
                  · refine lv_bipush (v := (-105)) hx hb dX4_claim_83 (by decide) ?_
                    exact W.iret (v := (-105)) hx hb hr (fun t ht hW => ⟨⟨(-105), σ, rfl, (by simp only [kr_claim, if_pos c5, if_pos c20, if_pos c32, if_pos c45, if_pos (show (x3 = 2 ∨ (x3 = 1 ∧ ¬ (x2 = 1 ∨ x2 = 2))) from Or.inr ⟨c75, fun q => q.elim c53 c58⟩)]), by rw [ht]; exact hP, va_K.moved hW.alike hK, hD⟩, hS.F ht⟩) hS.2.2 dX4_claim_85
            · refine lv_iconst (v := 1) hx hb dX4_claim_61 (by decide) ?_
              refine lv_goto (tgt := 66) hx hb dX4_claim_62 (by decide) ?_
              refine lv_istore (lv' := [(5, .int 1), (0, .ref (Q 0)), (1, .int x1), (2, .int x2), (3, .int x3), (4, .int x4)]) hx hb dX4_claim_66 hl (by decide) rfl (fun ls hl => ?_)
              refine lv_iload_n hx hb dX4_claim_68 rfl (lv_at hl 4 rfl) ?_
              refine lv_iconst (v := 2) hx hb dX4_claim_69 (by decide) ?_
              refine lv_icmp_eq (tgt := 83) hx hb dX4_claim_70 (by decide) (fun c70 => ?_) (fun c70 => ?_)
              · refine lv_bipush (v := (-105)) hx hb dX4_claim_83 (by decide) ?_
                exact W.iret (v := (-105)) hx hb hr (fun t ht hW => ⟨⟨(-105), σ, rfl, (by simp only [kr_claim, if_pos c5, if_pos c20, if_pos c32, if_pos c45, if_pos (show (x3 = 2 ∨ (x3 = 1 ∧ ¬ (x2 = 1 ∨ x2 = 2))) from Or.inl c70)]), by rw [ht]; exact hP, va_K.moved hW.alike hK, hD⟩, hS.F ht⟩) hS.2.2 dX4_claim_85
              · refine lv_iload_n hx hb dX4_claim_73 rfl (lv_at hl 4 rfl) ?_
                refine lv_iconst (v := 1) hx hb dX4_claim_74 (by decide) ?_
                refine lv_icmp_ne (tgt := 86) hx hb dX4_claim_75 (by decide) (fun c75 => ?_) (fun c75 => ?_)
                · refine lv_iload hx hb dX4_claim_86 (lv_at hl 5 rfl) ?_
                  refine lv_aload_n hx hb dX4_claim_88 rfl (lv_at hl 1 rfl) ?_
                  refine va_get (D := (dC, dI)) (ci := 4) (v := .ref (Q 4)) (C := RX4) (T := TX4) (N := 33) hx hb hts in0 hown hK hP 0 (xm_W_0 _ _) rfl 4 (by decide) lk3 (fun _ h9 => h9) rfl dX4_claim_89 ?_
                  refine lv_iload_n hx hb dX4_claim_92 rfl (lv_at hl 2 rfl) ?_
                  refine va_iald hx hb hK hP 4 0 (xm_W_4 _ _) rfl (rm_i hV c5) dX4_claim_93 ?_
                  refine lv_aload_n hx hb dX4_claim_94 rfl (lv_at hl 1 rfl) ?_
                  refine va_get (D := (dC, dI)) (ci := 4) (v := .ref (Q 11)) (C := RX4) (T := TX4) (N := 33) hx hb hts in0 hown hK hP 0 (xm_W_0 _ _) rfl 11 (by decide) lk4 (fun _ h9 => h9) rfl dX4_claim_95 ?_
                  refine lv_iconst (v := 4) hx hb dX4_claim_98 (by decide) ?_
                  refine lv_aload_n hx hb dX4_claim_99 rfl (lv_at hl 1 rfl) ?_
                  refine va_get (D := (dC, dI)) (ci := 4) (v := .ref (Q 1)) (C := RX4) (T := TX4) (N := 33) hx hb hts in0 hown hK hP 0 (xm_W_0 _ _) rfl 1 (by decide) lk5 (fun _ h9 => h9) rfl dX4_claim_100 ?_
                  refine lv_iload_n hx hb dX4_claim_103 rfl (lv_at hl 2 rfl) ?_
                  refine va_iald hx hb hK hP 1 0 (xm_W_1 _ _) rfl (rm_i hV c5) dX4_claim_104 ?_
                  refine lv_imul hx hb dX4_claim_105 ?_
                  refine lv_iload_n hx hb dX4_claim_106 rfl (lv_at hl 3 rfl) ?_
                  refine lv_iadd hx hb dX4_claim_107 ?_
                  refine va_iald hx hb hK hP 11 0 (xm_W_11 _ _) rfl (rm_u hV c5 c20) dX4_claim_108 ?_
                  refine lv_iadd hx hb dX4_claim_109 ?_
                  refine lv_icmp_le (tgt := 116) hx hb dX4_claim_110 (by decide) (fun c110 => ?_) (fun c110 => ?_)
                  · refine lv_aload_n hx hb dX4_claim_116 rfl (lv_at hl 1 rfl) ?_
                    refine lv_iload_n hx hb dX4_claim_117 rfl (lv_at hl 2 rfl) ?_
                    refine lv_iload_n hx hb dX4_claim_118 rfl (lv_at hl 3 rfl) ?_
                    refine lv_iconst (v := 0) hx hb dX4_claim_119 (by decide) ?_
                    refine vp_callSi (va_Run.run (va_runV (As := [.int x1, .int x2, .int 0]) (rest := []) ⟨hx, hb, hml, hown, hts⟩ (mr_other l dC dI cA Q σ n L f (show rm_V σ n from hV) x1 x2 0 ) (cwV 3 hts (al_gV wd_341 wd_343 wd_342 wd_2 wd_344) rfl rfl rfl (by decide +kernel) ⟨Nat.le_of_ble_eq_true rfl, Nat.le_of_ble_eq_true rfl⟩) ⟨ct_blR, va_recv hK hP (ci := 4) (q0 := 0) rfl (xm_W_0 _ _), ct_atR hP hK⟩ rfl rfl hl.1 rfl (lv_room (Nat.le_of_ble_eq_true rfl)) dX4_claim_120 ⟨Nat.le_of_ble_eq_true rfl, Nat.le_of_ble_eq_true rfl⟩)) (fun r120 hr120 => ?_)
                    subst hr120
                    refine lv_if_le (tgt := 129) hx hb dX4_claim_123 (by decide) (fun c123 => ?_) (fun c123 => ?_)
                    · refine lv_aload_n hx hb dX4_claim_129 rfl (lv_at hl 1 rfl) ?_
                      refine va_get (D := (dC, dI)) (ci := 4) (v := .int (σ.1 1)) (C := RX4) (T := TX4) (N := 33) hx hb hts in0 hown hK hP 0 (xm_W_0 _ _) rfl 12 (by decide) lk6 (fun _ h9 => h9) rfl dX4_claim_130 ?_
                      refine lv_bipush (v := 60) hx hb dX4_claim_133 (by decide) ?_
                      refine lv_icmp_ne (tgt := 141) hx hb dX4_claim_135 (by decide) (fun c135 => ?_) (fun c135 => ?_)
                      · refine lv_aload_n hx hb dX4_claim_141 rfl (lv_at hl 1 rfl) ?_
                        refine lv_dup hx hb dX4_claim_142 rfl ?_
                        refine va_get (D := (dC, dI)) (ci := 4) (v := .int (σ.1 1)) (C := RX4) (T := TX4) (N := 33) hx hb hts in0 hown hK hP 0 (xm_W_0 _ _) rfl 12 (by decide) lk6 (fun _ h9 => h9) rfl dX4_claim_143 ?_
                        refine lv_iconst (v := 1) hx hb dX4_claim_146 (by decide) ?_
                        refine lv_iadd hx hb dX4_claim_147 ?_
                        refine va_put (D := (dC, dI)) (ci := 4) (v := .int ((σ.1 1) + 1)) (ty := .int) (C := RX4) (T := TX4) (N := 33) hx hb hts in0 tyX4 tyX4_ok nmX4 hown hK hP hD hS 0 (xm_W_0 _ _) rfl 12 (by decide) lk6 (fun _ h9 => h9) rfl (by decide +kernel) rfl rfl (Nat.le_of_ble_eq_true rfl) dX4_claim_148 (fun H locs hP hD hS => ?_)
                        have hP : va_P (dC, dI) vwCl (xm_W Q cA (xs_i σ 1 ((σ.1 1) + 1)) ++ va_pl L f) H := hP
                        have hD : va_D A (xm_W Q cA (xs_i σ 1 ((σ.1 1) + 1)) ++ va_pl L f) := hD
                        refine lv_aload_n hx hb dX4_claim_151 rfl (lv_at hl 1 rfl) ?_
                        refine va_get (D := (dC, dI)) (ci := 4) (v := .ref (Q 12)) (C := RX4) (T := TX4) (N := 33) hx hb hts in0 hown hK hP 0 (xm_W_0 _ _) rfl 13 (by decide) lk7 (fun _ h9 => h9) rfl dX4_claim_152 ?_
                        refine lv_aload_n hx hb dX4_claim_155 rfl (lv_at hl 1 rfl) ?_
                        refine va_get (D := (dC, dI)) (ci := 4) (v := .int ((σ.1 1) + 1)) (C := RX4) (T := TX4) (N := 33) hx hb hts in0 hown hK hP 0 (xm_W_0 _ _) rfl 12 (by decide) lk6 (fun _ h9 => h9) rfl dX4_claim_156 ?_
                        refine lv_iload_n hx hb dX4_claim_159 rfl (lv_at hl 2 rfl) ?_
                        refine va_iast hx hb hK hP hD hS 12 0 (xm_W_12 _ _) rfl (rm_nw hV.1.2.2.1 hV.1.2.2.2.1 c135 (by decide)) dX4_claim_160 (fun H locs hP hD hS => ?_)
                        have hP : va_P (dC, dI) vwCl (xm_W Q cA (xs_ai (xs_i σ 1 ((σ.1 1) + 1)) 8 (upd (σ.2.2.1 8) (((σ.1 1) + 1)).toNatClampNeg x1)) ++ va_pl L f) H := hP
                        have hD : va_D A (xm_W Q cA (xs_ai (xs_i σ 1 ((σ.1 1) + 1)) 8 (upd (σ.2.2.1 8) (((σ.1 1) + 1)).toNatClampNeg x1)) ++ va_pl L f) := hD
                        refine lv_aload_n hx hb dX4_claim_161 rfl (lv_at hl 1 rfl) ?_
                        refine va_get (D := (dC, dI)) (ci := 4) (v := .ref (Q 13)) (C := RX4) (T := TX4) (N := 33) hx hb hts in0 hown hK hP 0 (xm_W_0 _ _) rfl 14 (by decide) lk8 (fun _ h9 => h9) rfl dX4_claim_162 ?_
                        refine lv_aload_n hx hb dX4_claim_165 rfl (lv_at hl 1 rfl) ?_
                        refine va_get (D := (dC, dI)) (ci := 4) (v := .int ((σ.1 1) + 1)) (C := RX4) (T := TX4) (N := 33) hx hb hts in0 hown hK hP 0 (xm_W_0 _ _) rfl 12 (by decide) lk6 (fun _ h9 => h9) rfl dX4_claim_166 ?_
                        refine lv_iload_n hx hb dX4_claim_169 rfl (lv_at hl 3 rfl) ?_
                        refine va_iast hx hb hK hP hD hS 13 0 (xm_W_13 _ _) rfl (rm_nw hV.1.2.2.1 hV.1.2.2.2.1 c135 (by decide)) dX4_claim_170 (fun H locs hP hD hS => ?_)
                        have hP : va_P (dC, dI) vwCl (xm_W Q cA (xs_ai (xs_ai (xs_i σ 1 ((σ.1 1) + 1)) 8 (upd (σ.2.2.1 8) (((σ.1 1) + 1)).toNatClampNeg x1)) 9 (upd (σ.2.2.1 9) (((σ.1 1) + 1)).toNatClampNeg x2)) ++ va_pl L f) H := hP
                        have hD : va_D A (xm_W Q cA (xs_ai (xs_ai (xs_i σ 1 ((σ.1 1) + 1)) 8 (upd (σ.2.2.1 8) (((σ.1 1) + 1)).toNatClampNeg x1)) 9 (upd (σ.2.2.1 9) (((σ.1 1) + 1)).toNatClampNeg x2)) ++ va_pl L f) := hD
                        refine lv_aload_n hx hb dX4_claim_171 rfl (lv_at hl 1 rfl) ?_
                        refine va_get (D := (dC, dI)) (ci := 4) (v := .ref (Q 14)) (C := RX4) (T := TX4) (N := 33) hx hb hts in0 hown hK hP 0 (xm_W_0 _ _) rfl 15 (by decide) lk9 (fun _ h9 => h9) rfl dX4_claim_172 ?_
                        refine lv_aload_n hx hb dX4_claim_175 rfl (lv_at hl 1 rfl) ?_
                        refine va_get (D := (dC, dI)) (ci := 4) (v := .int ((σ.1 1) + 1)) (C := RX4) (T := TX4) (N := 33) hx hb hts in0 hown hK hP 0 (xm_W_0 _ _) rfl 12 (by decide) lk6 (fun _ h9 => h9) rfl dX4_claim_176 ?_
                        refine lv_iconst (v := 0) hx hb dX4_claim_179 (by decide) ?_
                        refine va_iast hx hb hK hP hD hS 14 0 (xm_W_14 _ _) rfl (rm_nw hV.1.2.2.1 hV.1.2.2.2.1 c135 (by decide)) dX4_claim_180 (fun H locs hP hD hS => ?_)
                        have hP : va_P (dC, dI) vwCl (xm_W Q cA (xs_ai (xs_ai (xs_ai (xs_i σ 1 ((σ.1 1) + 1)) 8 (upd (σ.2.2.1 8) (((σ.1 1) + 1)).toNatClampNeg x1)) 9 (upd (σ.2.2.1 9) (((σ.1 1) + 1)).toNatClampNeg x2)) 10 (upd (σ.2.2.1 10) (((σ.1 1) + 1)).toNatClampNeg 0)) ++ va_pl L f) H := hP
                        have hD : va_D A (xm_W Q cA (xs_ai (xs_ai (xs_ai (xs_i σ 1 ((σ.1 1) + 1)) 8 (upd (σ.2.2.1 8) (((σ.1 1) + 1)).toNatClampNeg x1)) 9 (upd (σ.2.2.1 9) (((σ.1 1) + 1)).toNatClampNeg x2)) 10 (upd (σ.2.2.1 10) (((σ.1 1) + 1)).toNatClampNeg 0)) ++ va_pl L f) := hD
                        refine lv_aload_n hx hb dX4_claim_181 rfl (lv_at hl 1 rfl) ?_
                        refine lv_aload_n hx hb dX4_claim_182 rfl (lv_at hl 1 rfl) ?_
                        refine va_get (D := (dC, dI)) (ci := 4) (v := .int ((σ.1 1) + 1)) (C := RX4) (T := TX4) (N := 33) hx hb hts in0 hown hK hP 0 (xm_W_0 _ _) rfl 12 (by decide) lk6 (fun _ h9 => h9) rfl dX4_claim_183 ?_
                        refine lv_iconst (v := 1) hx hb dX4_claim_186 (by decide) ?_
                        have hFc := ct_free hD hS hA
                        refine va_callv (va_runV (As := [.int ((σ.1 1) + 1), .int 1]) (rest := []) ⟨hx, hb, hml, hown, hts⟩ (mr_send l dC dI cA H.size Q (xs_ai (xs_ai (xs_ai (xs_i σ 1 ((σ.1 1) + 1)) 8 (upd (σ.2.2.1 8) (((σ.1 1) + 1)).toNatClampNeg x1)) 9 (upd (σ.2.2.1 9) (((σ.1 1) + 1)).toNatClampNeg x2)) 10 (upd (σ.2.2.1 10) (((σ.1 1) + 1)).toNatClampNeg 0)) L f n.2.2.2 (show (xs_ai (xs_ai (xs_ai (xs_i σ 1 ((σ.1 1) + 1)) 8 (upd (σ.2.2.1 8) (((σ.1 1) + 1)).toNatClampNeg x1)) 9 (upd (σ.2.2.1 9) (((σ.1 1) + 1)).toNatClampNeg x2)) 10 (upd (σ.2.2.1 10) (((σ.1 1) + 1)).toNatClampNeg 0)).1 4 = nI n.2.2.2 from hV.1.2.2.2.2.2.2.1) (by have := hV.1.2.2.2.2.2.2.2; omega) ((σ.1 1) + 1) 1) (cwV 2 hts (al_gV wd_345 wd_347 wd_346 wd_2 wd_348) rfl rfl rfl (by decide +kernel) ⟨Nat.le_of_ble_eq_true rfl, Nat.le_of_ble_eq_true rfl⟩) ⟨ct_blM, va_recv hK hP (ci := 4) (q0 := 0) rfl (xm_W_0 _ _), ct_atM hP hK hD⟩ rfl rfl hl.1 rfl (lv_room (Nat.le_of_ble_eq_true rfl)) dX4_claim_187 ⟨Nat.le_of_ble_eq_true rfl, Nat.le_of_ble_eq_true rfl⟩) hS (fun q _ h => hFc q h) hFc (fun u187 t H1 locs ht hvm hr187 hB hz1 hk1 hS => ?_)
                        obtain ⟨hP, -, hD1⟩ := hB
                        rw [ht] at hP
                        have hD := hD1.weaken (fun _ _ _ h => hFc _ h)
                        clear hD1 hk1 hz1 hFc hvm
                        generalize H1 = H at hP hS ht ⊢
                        clear ht
                        refine W.widen (k := 0) (n := 0) (by decide) (by decide) ?_
                        subst hr187
                        have hP : va_P (dC, dI) vwCl (xm_W Q cA (sm_nd (xs_ai (xs_ai (xs_ai (xs_i σ 1 ((σ.1 1) + 1)) 8 (upd (σ.2.2.1 8) (((σ.1 1) + 1)).toNatClampNeg x1)) 9 (upd (σ.2.2.1 9) (((σ.1 1) + 1)).toNatClampNeg x2)) 10 (upd (σ.2.2.1 10) (((σ.1 1) + 1)).toNatClampNeg 0)) ((σ.1 1) + 1) 1) ++ va_pl L f) H := hP
                        have hD : va_D A (xm_W Q cA (sm_nd (xs_ai (xs_ai (xs_ai (xs_i σ 1 ((σ.1 1) + 1)) 8 (upd (σ.2.2.1 8) (((σ.1 1) + 1)).toNatClampNeg x1)) 9 (upd (σ.2.2.1 9) (((σ.1 1) + 1)).toNatClampNeg x2)) 10 (upd (σ.2.2.1 10) (((σ.1 1) + 1)).toNatClampNeg 0)) ((σ.1 1) + 1) 1) ++ va_pl L f) := hD
                        refine lv_aload_n hx hb dX4_claim_190 rfl (lv_at hl 1 rfl) ?_
                        refine va_get (D := (dC, dI)) (ci := 4) (v := .int ((sm_nd (xs_ai (xs_ai (xs_ai (xs_i σ 1 ((σ.1 1) + 1)) 8 (upd (σ.2.2.1 8) (((σ.1 1) + 1)).toNatClampNeg x1)) 9 (upd (σ.2.2.1 9) (((σ.1 1) + 1)).toNatClampNeg x2)) 10 (upd (σ.2.2.1 10) (((σ.1 1) + 1)).toNatClampNeg 0)) ((σ.1 1) + 1) 1).1 1)) (C := RX4) (T := TX4) (N := 33) hx hb hts in0 hown hK hP 0 (xm_W_0 _ _) rfl 12 (by decide) lk6 (fun _ h9 => h9) rfl dX4_claim_191 ?_
                        exact W.iret (v := ((sm_nd (xs_ai (xs_ai (xs_ai (xs_i σ 1 ((σ.1 1) + 1)) 8 (upd (σ.2.2.1 8) (((σ.1 1) + 1)).toNatClampNeg x1)) 9 (upd (σ.2.2.1 9) (((σ.1 1) + 1)).toNatClampNeg x2)) 10 (upd (σ.2.2.1 10) (((σ.1 1) + 1)).toNatClampNeg 0)) ((σ.1 1) + 1) 1).1 1)) hx hb hr (fun t ht hW => ⟨⟨((sm_nd (xs_ai (xs_ai (xs_ai (xs_i σ 1 ((σ.1 1) + 1)) 8 (upd (σ.2.2.1 8) (((σ.1 1) + 1)).toNatClampNeg x1)) 9 (upd (σ.2.2.1 9) (((σ.1 1) + 1)).toNatClampNeg x2)) 10 (upd (σ.2.2.1 10) (((σ.1 1) + 1)).toNatClampNeg 0)) ((σ.1 1) + 1) 1).1 1), (sm_nd (xs_ai (xs_ai (xs_ai (xs_i σ 1 ((σ.1 1) + 1)) 8 (upd (σ.2.2.1 8) (((σ.1 1) + 1)).toNatClampNeg x1)) 9 (upd (σ.2.2.1 9) (((σ.1 1) + 1)).toNatClampNeg x2)) 10 (upd (σ.2.2.1 10) (((σ.1 1) + 1)).toNatClampNeg 0)) ((σ.1 1) + 1) 1), rfl, (by rw [show ((sm_nd (xs_ai (xs_ai (xs_ai (xs_i σ 1 ((σ.1 1) + 1)) 8 (upd (σ.2.2.1 8) (((σ.1 1) + 1)).toNatClampNeg x1)) 9 (upd (σ.2.2.1 9) (((σ.1 1) + 1)).toNatClampNeg x2)) 10 (upd (σ.2.2.1 10) (((σ.1 1) + 1)).toNatClampNeg 0)) ((σ.1 1) + 1) 1).1 1) = σ.1 1 + 1 from smn_0 (xs_ai (xs_ai (xs_ai (xs_i σ 1 (σ.1 1 + 1)) 8 (upd (σ.2.2.1 8) (σ.1 1 + 1).toNatClampNeg x1)) 9 (upd (σ.2.2.1 9) (σ.1 1 + 1).toNatClampNeg x2)) 10 (upd (σ.2.2.1 10) (σ.1 1 + 1).toNatClampNeg 0)) _ _ 1 (by decide)]; simp only [kr_claim, if_pos c5, if_pos c20, if_pos c32, if_pos c45, if_neg (show ¬ (x3 = 2 ∨ (x3 = 1 ∧ ¬ (x2 = 1 ∨ x2 = 2))) from fun q => q.elim c70 (fun z => c75 z.1)), if_pos c110, hn1, if_pos c123, if_neg c135]; all_goals (first | done | rfl)), by rw [ht]; exact hP, va_K.moved hW.alike hK, hD⟩, hS.F ht⟩) hS.2.2 dX4_claim_194
                      · refine lv_bipush (v := (-104)) hx hb dX4_claim_138 (by decide) ?_
                        exact W.iret (v := (-104)) hx hb hr (fun t ht hW => ⟨⟨(-104), σ, rfl, (by simp only [kr_claim, if_pos c5, if_pos c20, if_pos c32, if_pos c45, if_neg (show ¬ (x3 = 2 ∨ (x3 = 1 ∧ ¬ (x2 = 1 ∨ x2 = 2))) from fun q => q.elim c70 (fun z => c75 z.1)), if_pos c110, hn1, if_pos c123, if_pos c135]), by rw [ht]; exact hP, va_K.moved hW.alike hK, hD⟩, hS.F ht⟩) hS.2.2 dX4_claim_140
                    · refine lv_bipush (v := (-103)) hx hb dX4_claim_126 (by decide) ?_
                      exact W.iret (v := (-103)) hx hb hr (fun t ht hW => ⟨⟨(-103), σ, rfl, (by simp only [kr_claim, if_pos c5, if_pos c20, if_pos c32, if_pos c45, if_neg (show ¬ (x3 = 2 ∨ (x3 = 1 ∧ ¬ (x2 = 1 ∨ x2 = 2))) from fun q => q.elim c70 (fun z => c75 z.1)), if_pos c110, hn1, if_neg c123]), by rw [ht]; exact hP, va_K.moved hW.alike hK, hD⟩, hS.F ht⟩) hS.2.2 dX4_claim_128
                  · refine lv_bipush (v := (-106)) hx hb dX4_claim_113 (by decide) ?_
                    exact W.iret (v := (-106)) hx hb hr (fun t ht hW => ⟨⟨(-106), σ, rfl, (by simp only [kr_claim, if_pos c5, if_pos c20, if_pos c32, if_pos c45, if_neg (show ¬ (x3 = 2 ∨ (x3 = 1 ∧ ¬ (x2 = 1 ∨ x2 = 2))) from fun q => q.elim c70 (fun z => c75 z.1)), if_neg c110]), by rw [ht]; exact hP, va_K.moved hW.alike hK, hD⟩, hS.F ht⟩) hS.2.2 dX4_claim_115
                · refine lv_iload hx hb dX4_claim_78 (lv_at hl 0 rfl) ?_
                  refine lv_if_ne (tgt := 86) hx hb dX4_claim_80 (by decide) (fun c80 => ?_) (fun c80 => ?_)
                  · refine lv_iload hx hb dX4_claim_86 (lv_at hl 5 rfl) ?_
                    refine lv_aload_n hx hb dX4_claim_88 rfl (lv_at hl 1 rfl) ?_
                    refine va_get (D := (dC, dI)) (ci := 4) (v := .ref (Q 4)) (C := RX4) (T := TX4) (N := 33) hx hb hts in0 hown hK hP 0 (xm_W_0 _ _) rfl 4 (by decide) lk3 (fun _ h9 => h9) rfl dX4_claim_89 ?_
                    refine lv_iload_n hx hb dX4_claim_92 rfl (lv_at hl 2 rfl) ?_
                    refine va_iald hx hb hK hP 4 0 (xm_W_4 _ _) rfl (rm_i hV c5) dX4_claim_93 ?_
                    refine lv_aload_n hx hb dX4_claim_94 rfl (lv_at hl 1 rfl) ?_
                    refine va_get (D := (dC, dI)) (ci := 4) (v := .ref (Q 11)) (C := RX4) (T := TX4) (N := 33) hx hb hts in0 hown hK hP 0 (xm_W_0 _ _) rfl 11 (by decide) lk4 (fun _ h9 => h9) rfl dX4_claim_95 ?_
                    refine lv_iconst (v := 4) hx hb dX4_claim_98 (by decide) ?_
                    refine lv_aload_n hx hb dX4_claim_99 rfl (lv_at hl 1 rfl) ?_
                    refine va_get (D := (dC, dI)) (ci := 4) (v := .ref (Q 1)) (C := RX4) (T := TX4) (N := 33) hx hb hts in0 hown hK hP 0 (xm_W_0 _ _) rfl 1 (by decide) lk5 (fun _ h9 => h9) rfl dX4_claim_100 ?_
                    refine lv_iload_n hx hb dX4_claim_103 rfl (lv_at hl 2 rfl) ?_
                    refine va_iald hx hb hK hP 1 0 (xm_W_1 _ _) rfl (rm_i hV c5) dX4_claim_104 ?_
                    refine lv_imul hx hb dX4_claim_105 ?_
                    refine lv_iload_n hx hb dX4_claim_106 rfl (lv_at hl 3 rfl) ?_
                    refine lv_iadd hx hb dX4_claim_107 ?_
                    refine va_iald hx hb hK hP 11 0 (xm_W_11 _ _) rfl (rm_u hV c5 c20) dX4_claim_108 ?_
                    refine lv_iadd hx hb dX4_claim_109 ?_
                    refine lv_icmp_le (tgt := 116) hx hb dX4_claim_110 (by decide) (fun c110 => ?_) (fun c110 => ?_)
                    · refine lv_aload_n hx hb dX4_claim_116 rfl (lv_at hl 1 rfl) ?_
                      refine lv_iload_n hx hb dX4_claim_117 rfl (lv_at hl 2 rfl) ?_
                      refine lv_iload_n hx hb dX4_claim_118 rfl (lv_at hl 3 rfl) ?_
                      refine lv_iconst (v := 0) hx hb dX4_claim_119 (by decide) ?_
                      refine vp_callSi (va_Run.run (va_runV (As := [.int x1, .int x2, .int 0]) (rest := []) ⟨hx, hb, hml, hown, hts⟩ (mr_other l dC dI cA Q σ n L f (show rm_V σ n from hV) x1 x2 0 ) (cwV 3 hts (al_gV wd_341 wd_343 wd_342 wd_2 wd_344) rfl rfl rfl (by decide +kernel) ⟨Nat.le_of_ble_eq_true rfl, Nat.le_of_ble_eq_true rfl⟩) ⟨ct_blR, va_recv hK hP (ci := 4) (q0 := 0) rfl (xm_W_0 _ _), ct_atR hP hK⟩ rfl rfl hl.1 rfl (lv_room (Nat.le_of_ble_eq_true rfl)) dX4_claim_120 ⟨Nat.le_of_ble_eq_true rfl, Nat.le_of_ble_eq_true rfl⟩)) (fun r120 hr120 => ?_)
                      subst hr120
                      refine lv_if_le (tgt := 129) hx hb dX4_claim_123 (by decide) (fun c123 => ?_) (fun c123 => ?_)
                      · refine lv_aload_n hx hb dX4_claim_129 rfl (lv_at hl 1 rfl) ?_
                        refine va_get (D := (dC, dI)) (ci := 4) (v := .int (σ.1 1)) (C := RX4) (T := TX4) (N := 33) hx hb hts in0 hown hK hP 0 (xm_W_0 _ _) rfl 12 (by decide) lk6 (fun _ h9 => h9) rfl dX4_claim_130 ?_
                        refine lv_bipush (v := 60) hx hb dX4_claim_133 (by decide) ?_
                        refine lv_icmp_ne (tgt := 141) hx hb dX4_claim_135 (by decide) (fun c135 => ?_) (fun c135 => ?_)
                        · refine lv_aload_n hx hb dX4_claim_141 rfl (lv_at hl 1 rfl) ?_
                          refine lv_dup hx hb dX4_claim_142 rfl ?_
                          refine va_get (D := (dC, dI)) (ci := 4) (v := .int (σ.1 1)) (C := RX4) (T := TX4) (N := 33) hx hb hts in0 hown hK hP 0 (xm_W_0 _ _) rfl 12 (by decide) lk6 (fun _ h9 => h9) rfl dX4_claim_143 ?_
                          refine lv_iconst (v := 1) hx hb dX4_claim_146 (by decide) ?_
                          refine lv_iadd hx hb dX4_claim_147 ?_
                          refine va_put (D := (dC, dI)) (ci := 4) (v := .int ((σ.1 1) + 1)) (ty := .int) (C := RX4) (T := TX4) (N := 33) hx hb hts in0 tyX4 tyX4_ok nmX4 hown hK hP hD hS 0 (xm_W_0 _ _) rfl 12 (by decide) lk6 (fun _ h9 => h9) rfl (by decide +kernel) rfl rfl (Nat.le_of_ble_eq_true rfl) dX4_claim_148 (fun H locs hP hD hS => ?_)
                          have hP : va_P (dC, dI) vwCl (xm_W Q cA (xs_i σ 1 ((σ.1 1) + 1)) ++ va_pl L f) H := hP
                          have hD : va_D A (xm_W Q cA (xs_i σ 1 ((σ.1 1) + 1)) ++ va_pl L f) := hD
                          refine lv_aload_n hx hb dX4_claim_151 rfl (lv_at hl 1 rfl) ?_
                          refine va_get (D := (dC, dI)) (ci := 4) (v := .ref (Q 12)) (C := RX4) (T := TX4) (N := 33) hx hb hts in0 hown hK hP 0 (xm_W_0 _ _) rfl 13 (by decide) lk7 (fun _ h9 => h9) rfl dX4_claim_152 ?_
                          refine lv_aload_n hx hb dX4_claim_155 rfl (lv_at hl 1 rfl) ?_
                          refine va_get (D := (dC, dI)) (ci := 4) (v := .int ((σ.1 1) + 1)) (C := RX4) (T := TX4) (N := 33) hx hb hts in0 hown hK hP 0 (xm_W_0 _ _) rfl 12 (by decide) lk6 (fun _ h9 => h9) rfl dX4_claim_156 ?_
                          refine lv_iload_n hx hb dX4_claim_159 rfl (lv_at hl 2 rfl) ?_
                          refine va_iast hx hb hK hP hD hS 12 0 (xm_W_12 _ _) rfl (rm_nw hV.1.2.2.1 hV.1.2.2.2.1 c135 (by decide)) dX4_claim_160 (fun H locs hP hD hS => ?_)
                          have hP : va_P (dC, dI) vwCl (xm_W Q cA (xs_ai (xs_i σ 1 ((σ.1 1) + 1)) 8 (upd (σ.2.2.1 8) (((σ.1 1) + 1)).toNatClampNeg x1)) ++ va_pl L f) H := hP
                          have hD : va_D A (xm_W Q cA (xs_ai (xs_i σ 1 ((σ.1 1) + 1)) 8 (upd (σ.2.2.1 8) (((σ.1 1) + 1)).toNatClampNeg x1)) ++ va_pl L f) := hD
                          refine lv_aload_n hx hb dX4_claim_161 rfl (lv_at hl 1 rfl) ?_
                          refine va_get (D := (dC, dI)) (ci := 4) (v := .ref (Q 13)) (C := RX4) (T := TX4) (N := 33) hx hb hts in0 hown hK hP 0 (xm_W_0 _ _) rfl 14 (by decide) lk8 (fun _ h9 => h9) rfl dX4_claim_162 ?_
                          refine lv_aload_n hx hb dX4_claim_165 rfl (lv_at hl 1 rfl) ?_
                          refine va_get (D := (dC, dI)) (ci := 4) (v := .int ((σ.1 1) + 1)) (C := RX4) (T := TX4) (N := 33) hx hb hts in0 hown hK hP 0 (xm_W_0 _ _) rfl 12 (by decide) lk6 (fun _ h9 => h9) rfl dX4_claim_166 ?_
                          refine lv_iload_n hx hb dX4_claim_169 rfl (lv_at hl 3 rfl) ?_
                          refine va_iast hx hb hK hP hD hS 13 0 (xm_W_13 _ _) rfl (rm_nw hV.1.2.2.1 hV.1.2.2.2.1 c135 (by decide)) dX4_claim_170 (fun H locs hP hD hS => ?_)
                          have hP : va_P (dC, dI) vwCl (xm_W Q cA (xs_ai (xs_ai (xs_i σ 1 ((σ.1 1) + 1)) 8 (upd (σ.2.2.1 8) (((σ.1 1) + 1)).toNatClampNeg x1)) 9 (upd (σ.2.2.1 9) (((σ.1 1) + 1)).toNatClampNeg x2)) ++ va_pl L f) H := hP
                          have hD : va_D A (xm_W Q cA (xs_ai (xs_ai (xs_i σ 1 ((σ.1 1) + 1)) 8 (upd (σ.2.2.1 8) (((σ.1 1) + 1)).toNatClampNeg x1)) 9 (upd (σ.2.2.1 9) (((σ.1 1) + 1)).toNatClampNeg x2)) ++ va_pl L f) := hD
                          refine lv_aload_n hx hb dX4_claim_171 rfl (lv_at hl 1 rfl) ?_
                          refine va_get (D := (dC, dI)) (ci := 4) (v := .ref (Q 14)) (C := RX4) (T := TX4) (N := 33) hx hb hts in0 hown hK hP 0 (xm_W_0 _ _) rfl 15 (by decide) lk9 (fun _ h9 => h9) rfl dX4_claim_172 ?_
                          refine lv_aload_n hx hb dX4_claim_175 rfl (lv_at hl 1 rfl) ?_
                          refine va_get (D := (dC, dI)) (ci := 4) (v := .int ((σ.1 1) + 1)) (C := RX4) (T := TX4) (N := 33) hx hb hts in0 hown hK hP 0 (xm_W_0 _ _) rfl 12 (by decide) lk6 (fun _ h9 => h9) rfl dX4_claim_176 ?_
                          refine lv_iconst (v := 0) hx hb dX4_claim_179 (by decide) ?_
                          refine va_iast hx hb hK hP hD hS 14 0 (xm_W_14 _ _) rfl (rm_nw hV.1.2.2.1 hV.1.2.2.2.1 c135 (by decide)) dX4_claim_180 (fun H locs hP hD hS => ?_)
                          have hP : va_P (dC, dI) vwCl (xm_W Q cA (xs_ai (xs_ai (xs_ai (xs_i σ 1 ((σ.1 1) + 1)) 8 (upd (σ.2.2.1 8) (((σ.1 1) + 1)).toNatClampNeg x1)) 9 (upd (σ.2.2.1 9) (((σ.1 1) + 1)).toNatClampNeg x2)) 10 (upd (σ.2.2.1 10) (((σ.1 1) + 1)).toNatClampNeg 0)) ++ va_pl L f) H := hP
                          have hD : va_D A (xm_W Q cA (xs_ai (xs_ai (xs_ai (xs_i σ 1 ((σ.1 1) + 1)) 8 (upd (σ.2.2.1 8) (((σ.1 1) + 1)).toNatClampNeg x1)) 9 (upd (σ.2.2.1 9) (((σ.1 1) + 1)).toNatClampNeg x2)) 10 (upd (σ.2.2.1 10) (((σ.1 1) + 1)).toNatClampNeg 0)) ++ va_pl L f) := hD
                          refine lv_aload_n hx hb dX4_claim_181 rfl (lv_at hl 1 rfl) ?_
                          refine lv_aload_n hx hb dX4_claim_182 rfl (lv_at hl 1 rfl) ?_
                          refine va_get (D := (dC, dI)) (ci := 4) (v := .int ((σ.1 1) + 1)) (C := RX4) (T := TX4) (N := 33) hx hb hts in0 hown hK hP 0 (xm_W_0 _ _) rfl 12 (by decide) lk6 (fun _ h9 => h9) rfl dX4_claim_183 ?_
                          refine lv_iconst (v := 1) hx hb dX4_claim_186 (by decide) ?_
                          have hFc := ct_free hD hS hA
                          refine va_callv (va_runV (As := [.int ((σ.1 1) + 1), .int 1]) (rest := []) ⟨hx, hb, hml, hown, hts⟩ (mr_send l dC dI cA H.size Q (xs_ai (xs_ai (xs_ai (xs_i σ 1 ((σ.1 1) + 1)) 8 (upd (σ.2.2.1 8) (((σ.1 1) + 1)).toNatClampNeg x1)) 9 (upd (σ.2.2.1 9) (((σ.1 1) + 1)).toNatClampNeg x2)) 10 (upd (σ.2.2.1 10) (((σ.1 1) + 1)).toNatClampNeg 0)) L f n.2.2.2 (show (xs_ai (xs_ai (xs_ai (xs_i σ 1 ((σ.1 1) + 1)) 8 (upd (σ.2.2.1 8) (((σ.1 1) + 1)).toNatClampNeg x1)) 9 (upd (σ.2.2.1 9) (((σ.1 1) + 1)).toNatClampNeg x2)) 10 (upd (σ.2.2.1 10) (((σ.1 1) + 1)).toNatClampNeg 0)).1 4 = nI n.2.2.2 from hV.1.2.2.2.2.2.2.1) (by have := hV.1.2.2.2.2.2.2.2; omega) ((σ.1 1) + 1) 1) (cwV 2 hts (al_gV wd_345 wd_347 wd_346 wd_2 wd_348) rfl rfl rfl (by decide +kernel) ⟨Nat.le_of_ble_eq_true rfl, Nat.le_of_ble_eq_true rfl⟩) ⟨ct_blM, va_recv hK hP (ci := 4) (q0 := 0) rfl (xm_W_0 _ _), ct_atM hP hK hD⟩ rfl rfl hl.1 rfl (lv_room (Nat.le_of_ble_eq_true rfl)) dX4_claim_187 ⟨Nat.le_of_ble_eq_true rfl, Nat.le_of_ble_eq_true rfl⟩) hS (fun q _ h => hFc q h) hFc (fun u187 t H1 locs ht hvm hr187 hB hz1 hk1 hS => ?_)
                          obtain ⟨hP, -, hD1⟩ := hB
                          rw [ht] at hP
                          have hD := hD1.weaken (fun _ _ _ h => hFc _ h)
                          clear hD1 hk1 hz1 hFc hvm
                          generalize H1 = H at hP hS ht ⊢
                          clear ht
                          refine W.widen (k := 0) (n := 0) (by decide) (by decide) ?_
                          subst hr187
                          have hP : va_P (dC, dI) vwCl (xm_W Q cA (sm_nd (xs_ai (xs_ai (xs_ai (xs_i σ 1 ((σ.1 1) + 1)) 8 (upd (σ.2.2.1 8) (((σ.1 1) + 1)).toNatClampNeg x1)) 9 (upd (σ.2.2.1 9) (((σ.1 1) + 1)).toNatClampNeg x2)) 10 (upd (σ.2.2.1 10) (((σ.1 1) + 1)).toNatClampNeg 0)) ((σ.1 1) + 1) 1) ++ va_pl L f) H := hP
                          have hD : va_D A (xm_W Q cA (sm_nd (xs_ai (xs_ai (xs_ai (xs_i σ 1 ((σ.1 1) + 1)) 8 (upd (σ.2.2.1 8) (((σ.1 1) + 1)).toNatClampNeg x1)) 9 (upd (σ.2.2.1 9) (((σ.1 1) + 1)).toNatClampNeg x2)) 10 (upd (σ.2.2.1 10) (((σ.1 1) + 1)).toNatClampNeg 0)) ((σ.1 1) + 1) 1) ++ va_pl L f) := hD
                          refine lv_aload_n hx hb dX4_claim_190 rfl (lv_at hl 1 rfl) ?_
                          refine va_get (D := (dC, dI)) (ci := 4) (v := .int ((sm_nd (xs_ai (xs_ai (xs_ai (xs_i σ 1 ((σ.1 1) + 1)) 8 (upd (σ.2.2.1 8) (((σ.1 1) + 1)).toNatClampNeg x1)) 9 (upd (σ.2.2.1 9) (((σ.1 1) + 1)).toNatClampNeg x2)) 10 (upd (σ.2.2.1 10) (((σ.1 1) + 1)).toNatClampNeg 0)) ((σ.1 1) + 1) 1).1 1)) (C := RX4) (T := TX4) (N := 33) hx hb hts in0 hown hK hP 0 (xm_W_0 _ _) rfl 12 (by decide) lk6 (fun _ h9 => h9) rfl dX4_claim_191 ?_
                          exact W.iret (v := ((sm_nd (xs_ai (xs_ai (xs_ai (xs_i σ 1 ((σ.1 1) + 1)) 8 (upd (σ.2.2.1 8) (((σ.1 1) + 1)).toNatClampNeg x1)) 9 (upd (σ.2.2.1 9) (((σ.1 1) + 1)).toNatClampNeg x2)) 10 (upd (σ.2.2.1 10) (((σ.1 1) + 1)).toNatClampNeg 0)) ((σ.1 1) + 1) 1).1 1)) hx hb hr (fun t ht hW => ⟨⟨((sm_nd (xs_ai (xs_ai (xs_ai (xs_i σ 1 ((σ.1 1) + 1)) 8 (upd (σ.2.2.1 8) (((σ.1 1) + 1)).toNatClampNeg x1)) 9 (upd (σ.2.2.1 9) (((σ.1 1) + 1)).toNatClampNeg x2)) 10 (upd (σ.2.2.1 10) (((σ.1 1) + 1)).toNatClampNeg 0)) ((σ.1 1) + 1) 1).1 1), (sm_nd (xs_ai (xs_ai (xs_ai (xs_i σ 1 ((σ.1 1) + 1)) 8 (upd (σ.2.2.1 8) (((σ.1 1) + 1)).toNatClampNeg x1)) 9 (upd (σ.2.2.1 9) (((σ.1 1) + 1)).toNatClampNeg x2)) 10 (upd (σ.2.2.1 10) (((σ.1 1) + 1)).toNatClampNeg 0)) ((σ.1 1) + 1) 1), rfl, (by rw [show ((sm_nd (xs_ai (xs_ai (xs_ai (xs_i σ 1 ((σ.1 1) + 1)) 8 (upd (σ.2.2.1 8) (((σ.1 1) + 1)).toNatClampNeg x1)) 9 (upd (σ.2.2.1 9) (((σ.1 1) + 1)).toNatClampNeg x2)) 10 (upd (σ.2.2.1 10) (((σ.1 1) + 1)).toNatClampNeg 0)) ((σ.1 1) + 1) 1).1 1) = σ.1 1 + 1 from smn_0 (xs_ai (xs_ai (xs_ai (xs_i σ 1 (σ.1 1 + 1)) 8 (upd (σ.2.2.1 8) (σ.1 1 + 1).toNatClampNeg x1)) 9 (upd (σ.2.2.1 9) (σ.1 1 + 1).toNatClampNeg x2)) 10 (upd (σ.2.2.1 10) (σ.1 1 + 1).toNatClampNeg 0)) _ _ 1 (by decide)]; simp only [kr_claim, if_pos c5, if_pos c20, if_pos c32, if_pos c45, if_neg (show ¬ (x3 = 2 ∨ (x3 = 1 ∧ ¬ (x2 = 1 ∨ x2 = 2))) from fun q => q.elim c70 (fun z => z.2 (Or.inr c58))), if_pos c110, hn1, if_pos c123, if_neg c135]; all_goals (first | done | rfl)), by rw [ht]; exact hP, va_K.moved hW.alike hK, hD⟩, hS.F ht⟩) hS.2.2 dX4_claim_194
                        · refine lv_bipush (v := (-104)) hx hb dX4_claim_138 (by decide) ?_
                          exact W.iret (v := (-104)) hx hb hr (fun t ht hW => ⟨⟨(-104), σ, rfl, (by simp only [kr_claim, if_pos c5, if_pos c20, if_pos c32, if_pos c45, if_neg (show ¬ (x3 = 2 ∨ (x3 = 1 ∧ ¬ (x2 = 1 ∨ x2 = 2))) from fun q => q.elim c70 (fun z => z.2 (Or.inr c58))), if_pos c110, hn1, if_pos c123, if_pos c135]), by rw [ht]; exact hP, va_K.moved hW.alike hK, hD⟩, hS.F ht⟩) hS.2.2 dX4_claim_140
                      · refine lv_bipush (v := (-103)) hx hb dX4_claim_126 (by decide) ?_
                        exact W.iret (v := (-103)) hx hb hr (fun t ht hW => ⟨⟨(-103), σ, rfl, (by simp only [kr_claim, if_pos c5, if_pos c20, if_pos c32, if_pos c45, if_neg (show ¬ (x3 = 2 ∨ (x3 = 1 ∧ ¬ (x2 = 1 ∨ x2 = 2))) from fun q => q.elim c70 (fun z => z.2 (Or.inr c58))), if_pos c110, hn1, if_neg c123]), by rw [ht]; exact hP, va_K.moved hW.alike hK, hD⟩, hS.F ht⟩) hS.2.2 dX4_claim_128
                    · refine lv_bipush (v := (-106)) hx hb dX4_claim_113 (by decide) ?_
                      exact W.iret (v := (-106)) hx hb hr (fun t ht hW => ⟨⟨(-106), σ, rfl, (by simp only [kr_claim, if_pos c5, if_pos c20, if_pos c32, if_pos c45, if_neg (show ¬ (x3 = 2 ∨ (x3 = 1 ∧ ¬ (x2 = 1 ∨ x2 = 2))) from fun q => q.elim c70 (fun z => z.2 (Or.inr c58))), if_neg c110]), by rw [ht]; exact hP, va_K.moved hW.alike hK, hD⟩, hS.F ht⟩) hS.2.2 dX4_claim_115
                  · exact absurd c80 (by decide)
        · have c45 := of_decide_eq_false (bb_0.mp c45)
          refine lv_bipush (v := (-102)) hx hb dX4_claim_48 (by decide) ?_
          exact W.iret (v := (-102)) hx hb hr (fun t ht hW => ⟨⟨(-102), σ, rfl, (by simp only [kr_claim, if_pos c5, if_pos c20, if_pos c32, if_neg c45]), by rw [ht]; exact hP, va_K.moved hW.alike hK, hD⟩, hS.F ht⟩) hS.2.2 dX4_claim_50
  · have c5 := of_decide_eq_false (bb_0.mp c5)
    refine lv_bipush (v := (-101)) hx hb dX4_claim_8 (by decide) ?_
    exact W.iret (v := (-101)) hx hb hr (fun t ht hW => ⟨⟨(-101), σ, rfl, (by simp only [kr_claim, if_neg c5]), by rw [ht]; exact hP, va_K.moved hW.alike hK, hD⟩, hS.F ht⟩) hS.2.2 dX4_claim_10
