set_option maxHeartbeats 4000000 in
set_option maxRecDepth 100000 in
/-- mr_pass -/
theorem mr_pass (l : Launch) (dC : Nat → ClassId) (dI : Nat → Nat → Nat) (cA : Nat → ClassId) (sz : Nat) (Q : Nat → Nat) (σ : xs_T) (n : nn_T) (L : List Nat) (f : Nat → va_E) (hV : rm_V σ n) (x1 x2 : Int32) (b : Bool) : Met l yX4_pass wsX4_pass ({ frames := 1, cells := 0, slots := 0, locals := 25 }) (va_Pc [.ref (Q 0), .int x1, .int x2, .int (bb_v b)] (ct_M (dC, dI) vwCl (ty_K cA) (xm_W Q cA σ ++ va_pl L f) sz)) (va_Qi (fun r u => (r, u) = kr_pass σ x1 x2 b) (fun u t => ct_B (dC, dI) vwCl (ty_K cA) (va_A (xm_W Q cA σ ++ va_pl L f) sz) (xm_W Q cA u ++ va_pl L f) t) (va_A (xm_W Q cA σ ++ va_pl L f) sz)) 0 0 (va_A (xm_W Q cA σ ++ va_pl L f) sz) := by
  refine Met.ofW (cc := cX4_pass) (maxL := 5) (ret := (some .int)) (by decide) rfl ?_
  intro p e s m args below meth c s₁ B hml hv
  obtain ⟨rfl, hsz, hP, hK, hD0⟩ := hv
  have hx := B.exec
  have hb := B.bytes
  have hr := B.returns
  have hts := atoms_spec (ws := wsX4_pass) B.pre
  have hown : s.vm.findClass RX4 = some m.cls := findClass_of_methodNamed B.named
  have hlocks := B.notSynchronized
  subst hsz
  have hD := hD0.self (sz := s.heap.size)
  generalize hAe : va_A (xm_W Q cA σ ++ va_pl L f) s.heap.size = A at hD ⊢
  have hA : ∀ q : Nat, s.heap.size ≤ q → A q := fun q h => by rw [← hAe]; exact Or.inr h
  clear hAe hD0
  have hS : va_S A s.heap s.heap [] := va_S.rf
  have hl := lv_entry ([.ref (Q 0), .int x1, .int x2, .int (bb_v b)]) (n := 5) (Nat.le_of_ble_eq_true rfl)
  rw [lg_entry_eq]
  generalize (lg_sl ([.ref (Q 0), .int x1, .int x2, .int (bb_v b)]) ++ List.replicate (5 - (lg_sl ([.ref (Q 0), .int x1, .int x2, .int (bb_v b)])).length) Slot.unset).toArray = ls at hl ⊢
  have hl : lv_has ls 5 [(0, .ref (Q 0)), (1, .int x1), (2, .int x2), (3, .int (bb_v b))] := hl
  have lk0 := hts (.constantLong RX4 113 5) (List.mem_cons_of_mem _ wd_329)
  have lk1 := hts (.fieldLink RX4 26 "ClaimRowsModel" "passes" "[I") (List.mem_cons_of_mem _ wd_282)
  have lk2 := hts (.fieldLink RX4 29 "ClaimRowsModel" "posts" "[I") (List.mem_cons_of_mem _ wd_283)
  have lk3 := hts (.fieldLink RX4 32 "ClaimRowsModel" "whole" "[Z") (List.mem_cons_of_mem _ wd_284)
  have in0 : ∀ w ∈ u_ws RX4 TX4 33, w ∈ wsX4_pass := fun w h => List.mem_cons_of_mem _ (wu_X4 w h)
  have hn0 : (σ.1 0).toNatClampNeg = n.1 := by rw [hV.1.1]; exact nI_clamp (by have := hV.1.2.1; omega)
  have hn1 : (σ.1 1).toNatClampNeg = n.2.1 := by rw [hV.1.2.2.1]; exact nI_clamp (by have := hV.1.2.2.2.1; omega)
  have hn2 : (σ.1 2).toNatClampNeg = n.2.2.1 := by rw [hV.1.2.2.2.2.1]; exact nI_clamp (by have := hV.1.2.2.2.2.2.1; omega)
  refine lv_aload_n hx hb dX4_pass_0 rfl (lv_at hl 0 rfl) ?_
  refine lv_iload_n hx hb dX4_pass_1 rfl (lv_at hl 1 rfl) ?_
  refine vp_callSi (va_Run.run (va_runV (As := [.int x1]) (rest := []) ⟨hx, hb, hml, hown, hts⟩ (mr_isItem l dC dI cA Q σ L f x1) (cwV 1 hts (al_gV wd_325 wd_327 wd_326 wd_2 wd_328) rfl rfl rfl (by decide +kernel) ⟨Nat.le_of_ble_eq_true rfl, Nat.le_of_ble_eq_true rfl⟩) ⟨ct_blR, va_recv hK hP (ci := 4) (q0 := 0) rfl (xm_W_0 _ _), ct_atR hP hK⟩ rfl rfl hl.1 rfl (lv_room (Nat.le_of_ble_eq_true rfl)) dX4_pass_2 ⟨Nat.le_of_ble_eq_true rfl, Nat.le_of_ble_eq_true rfl⟩)) (fun r2 hr2 => ?_)
  subst hr2
  refine lv_if_ne (tgt := 11) hx hb dX4_pass_5 (by decide) (fun c5 => ?_) (fun c5 => ?_)
  · have c5 := of_decide_eq_true (bb_n.mp c5)
    refine lv_iload_n hx hb dX4_pass_11 rfl (lv_at hl 2 rfl) ?_
    refine lv_i2l (v := (x2 : Int32).toInt64) hx hb dX4_pass_12 rfl ?_
    refine lv_lconst (v := 0) hx hb dX4_pass_13 (by decide) ?_
    refine lv_ldc2 hx hb hown lk0 dX4_pass_14 ?_
    refine vp_callSi (va_Run.run (va_runS (As := [.long ((x2 : Int32).toInt64), .long 0, .long 5]) (rest := []) ⟨hx, hb, hml, hown, hts⟩ (mr_isIn l ((x2 : Int32).toInt64) 0 5) (va_cwS 3 hts (al_gS wd_315 wd_316 wd_2 wd_317) rfl rfl rfl (by decide +kernel) ⟨Nat.le_of_ble_eq_true rfl, Nat.le_of_ble_eq_true rfl⟩) ⟨ct_bl0, ct_at0⟩ rfl rfl hl.1 rfl (lv_room (Nat.le_of_ble_eq_true rfl)) dX4_pass_17 ⟨Nat.le_of_ble_eq_true rfl, Nat.le_of_ble_eq_true rfl⟩)) (fun r17 hr17 => ?_)
    subst hr17
    refine lv_if_ne (tgt := 26) hx hb dX4_pass_20 (by decide) (fun c20 => ?_) (fun c20 => ?_)
    · have c20 := of_decide_eq_true (bb_n.mp c20)
      refine lv_aload_n hx hb dX4_pass_26 rfl (lv_at hl 0 rfl) ?_
      refine va_get (D := (dC, dI)) (ci := 4) (v := .ref (Q 6)) (C := RX4) (T := TX4) (N := 33) hx hb hts in0 hown hK hP 0 (xm_W_0 _ _) rfl 6 (by decide) lk1 (fun _ h9 => h9) rfl dX4_pass_27 ?_
      refine lv_iload_n hx hb dX4_pass_30 rfl (lv_at hl 1 rfl) ?_
      refine va_iald hx hb hK hP 6 0 (xm_W_6 _ _) rfl (rm_i hV c5) dX4_pass_31 ?_
      refine lv_bipush (v := 8) hx hb dX4_pass_32 (by decide) ?_
      refine lv_icmp_ne (tgt := 40) hx hb dX4_pass_34 (by decide) (fun c34 => ?_) (fun c34 => ?_)
      · refine lv_bipush (v := 8) hx hb dX4_pass_40 (by decide) ?_
        refine lv_iload_n hx hb dX4_pass_42 rfl (lv_at hl 1 rfl) ?_
        refine lv_imul hx hb dX4_pass_43 ?_
        refine lv_bipush (v := 8) hx hb dX4_pass_44 (by decide) ?_
        refine lv_isub hx hb dX4_pass_46 ?_
        refine lv_aload_n hx hb dX4_pass_47 rfl (lv_at hl 0 rfl) ?_
        refine va_get (D := (dC, dI)) (ci := 4) (v := .ref (Q 6)) (C := RX4) (T := TX4) (N := 33) hx hb hts in0 hown hK hP 0 (xm_W_0 _ _) rfl 6 (by decide) lk1 (fun _ h9 => h9) rfl dX4_pass_48 ?_
        refine lv_iload_n hx hb dX4_pass_51 rfl (lv_at hl 1 rfl) ?_
        refine va_iald hx hb hK hP 6 0 (xm_W_6 _ _) rfl (rm_i hV c5) dX4_pass_52 ?_
        refine lv_iadd hx hb dX4_pass_53 ?_
        refine lv_istore (lv' := [(4, .int (((8 * x1) - 8) + ((σ.2.2.1 3) (x1).toNatClampNeg))), (0, .ref (Q 0)), (1, .int x1), (2, .int x2), (3, .int (bb_v b))]) hx hb dX4_pass_54 hl (by decide) rfl (fun ls hl => ?_)
        refine lv_aload_n hx hb dX4_pass_56 rfl (lv_at hl 1 rfl) ?_
        refine va_get (D := (dC, dI)) (ci := 4) (v := .ref (Q 7)) (C := RX4) (T := TX4) (N := 33) hx hb hts in0 hown hK hP 0 (xm_W_0 _ _) rfl 7 (by decide) lk2 (fun _ h9 => h9) rfl dX4_pass_57 ?_
        refine lv_iload hx hb dX4_pass_60 (lv_at hl 0 rfl) ?_
        refine lv_iload_n hx hb dX4_pass_62 rfl (lv_at hl 3 rfl) ?_
        refine va_iast hx hb hK hP hD hS 7 0 (xm_W_7 _ _) rfl (rm_p hV c5 c34) dX4_pass_63 (fun H locs hP hD hS => ?_)
        have hP : va_P (dC, dI) vwCl (xm_W Q cA (xs_ai σ 4 (upd (σ.2.2.1 4) ((((8 * x1) - 8) + ((σ.2.2.1 3) (x1).toNatClampNeg))).toNatClampNeg x2)) ++ va_pl L f) H := hP
        have hD : va_D A (xm_W Q cA (xs_ai σ 4 (upd (σ.2.2.1 4) ((((8 * x1) - 8) + ((σ.2.2.1 3) (x1).toNatClampNeg))).toNatClampNeg x2)) ++ va_pl L f) := hD
        refine lv_aload_n hx hb dX4_pass_64 rfl (lv_at hl 1 rfl) ?_
        refine va_get (D := (dC, dI)) (ci := 4) (v := .ref (Q 8)) (C := RX4) (T := TX4) (N := 33) hx hb hts in0 hown hK hP 0 (xm_W_0 _ _) rfl 8 (by decide) lk3 (fun _ h9 => h9) rfl dX4_pass_65 ?_
        refine lv_iload hx hb dX4_pass_68 (lv_at hl 0 rfl) ?_
        refine lv_iload_n hx hb dX4_pass_70 rfl (lv_at hl 4 rfl) ?_
        refine va_zast hx hb hK hP hD hS 8 2 (xm_W_8 _ _) rfl (rm_p hV c5 c34) dX4_pass_71 (fun H locs hP hD hS => ?_)
        rw [vp_bb] at hP hD
        have hP : va_P (dC, dI) vwCl (xm_W Q cA (xs_ai (xs_ai σ 4 (upd (σ.2.2.1 4) ((((8 * x1) - 8) + ((σ.2.2.1 3) (x1).toNatClampNeg))).toNatClampNeg x2)) 5 (upd (σ.2.2.1 5) ((((8 * x1) - 8) + ((σ.2.2.1 3) (x1).toNatClampNeg))).toNatClampNeg (bb_v b))) ++ va_pl L f) H := hP
        have hD : va_D A (xm_W Q cA (xs_ai (xs_ai σ 4 (upd (σ.2.2.1 4) ((((8 * x1) - 8) + ((σ.2.2.1 3) (x1).toNatClampNeg))).toNatClampNeg x2)) 5 (upd (σ.2.2.1 5) ((((8 * x1) - 8) + ((σ.2.2.1 3) (x1).toNatClampNeg))).toNatClampNeg (bb_v b))) ++ va_pl L f) := hD
        refine lv_aload_n hx hb dX4_pass_72 rfl (lv_at hl 1 rfl) ?_
        refine va_get (D := (dC, dI)) (ci := 4) (v := .ref (Q 6)) (C := RX4) (T := TX4) (N := 33) hx hb hts in0 hown hK hP 0 (xm_W_0 _ _) rfl 6 (by decide) lk1 (fun _ h9 => h9) rfl dX4_pass_73 ?_
        refine lv_iload_n hx hb dX4_pass_76 rfl (lv_at hl 2 rfl) ?_
        refine lv_dup2_11 hx hb dX4_pass_77 rfl rfl ?_
        refine va_iald hx hb hK hP 6 0 (xm_W_6 _ _) rfl (rm_i hV c5) dX4_pass_78 ?_
        refine lv_topi (fun r78 er78 => ?_)
        refine lv_iconst (v := 1) hx hb dX4_pass_79 (by decide) ?_
        refine lv_iadd hx hb dX4_pass_80 ?_
        refine va_iast hx hb hK hP hD hS 6 0 (xm_W_6 _ _) rfl (rm_i hV c5) dX4_pass_81 (fun H locs hP hD hS => ?_)
        rw [xm_W_s6] at hP hD
        rw [show (xs_ai (xs_ai σ 4 (upd (σ.2.2.1 4) ((((8 * x1) - 8) + ((σ.2.2.1 3) (x1).toNatClampNeg))).toNatClampNeg x2)) 5 (upd (σ.2.2.1 5) ((((8 * x1) - 8) + ((σ.2.2.1 3) (x1).toNatClampNeg))).toNatClampNeg (bb_v b))).2.2.1 3 = (σ.2.2.1 3) from by rw [xs_aiF _ _ (by decide), xs_aiF _ _ (by decide)]] at hP hD
        refine lv_aload_n hx hb dX4_pass_82 rfl (lv_at hl 1 rfl) ?_
        refine va_get (D := (dC, dI)) (ci := 4) (v := .ref (Q 6)) (C := RX4) (T := TX4) (N := 33) hx hb hts in0 hown hK hP 0 (xm_W_0 _ _) rfl 6 (by decide) lk1 (fun _ h9 => h9) rfl dX4_pass_83 ?_
        refine lv_iload_n hx hb dX4_pass_86 rfl (lv_at hl 2 rfl) ?_
        refine va_iald hx hb hK hP 6 0 (xm_W_6 _ _) rfl (rm_i hV c5) dX4_pass_87 ?_
        refine lv_topi (fun r87 er87 => ?_)
        exact W.iret (v := r87) hx hb hr (fun t ht hW => ⟨⟨r87, xs_ai (xs_ai (xs_ai σ 4 (upd (σ.2.2.1 4) ((((8 * x1) - 8) + ((σ.2.2.1 3) (x1).toNatClampNeg))).toNatClampNeg x2)) 5 (upd (σ.2.2.1 5) ((((8 * x1) - 8) + ((σ.2.2.1 3) (x1).toNatClampNeg))).toNatClampNeg (bb_v b))) 3 (upd (σ.2.2.1 3) (x1).toNatClampNeg (r78 + 1)), rfl, (by have e78 : r78 = σ.2.2.1 3 x1.toNatClampNeg := (by rw [er78, xs_ain _ _ _ (by decide), xs_ain _ _ _ (by decide)]); rw [er87, xs_ais, e78]; simp only [kr_pass, if_pos c5, if_pos c20, if_neg c34, pm_at]; all_goals (first | done | rfl)), by rw [ht]; exact hP, va_K.moved hW.alike hK, hD⟩, hS.F ht⟩) hS.2.2 dX4_pass_88
      · refine lv_bipush (v := (-104)) hx hb dX4_pass_37 (by decide) ?_
        exact W.iret (v := (-104)) hx hb hr (fun t ht hW => ⟨⟨(-104), σ, rfl, (by simp only [kr_pass, if_pos c5, if_pos c20, if_pos c34, pm_at]), by rw [ht]; exact hP, va_K.moved hW.alike hK, hD⟩, hS.F ht⟩) hS.2.2 dX4_pass_39
    · have c20 := of_decide_eq_false (bb_0.mp c20)
      refine lv_bipush (v := (-102)) hx hb dX4_pass_23 (by decide) ?_
      exact W.iret (v := (-102)) hx hb hr (fun t ht hW => ⟨⟨(-102), σ, rfl, (by simp only [kr_pass, if_pos c5, if_neg c20, pm_at]), by rw [ht]; exact hP, va_K.moved hW.alike hK, hD⟩, hS.F ht⟩) hS.2.2 dX4_pass_25
  · have c5 := of_decide_eq_false (bb_0.mp c5)
    refine lv_bipush (v := (-101)) hx hb dX4_pass_8 (by decide) ?_
    exact W.iret (v := (-101)) hx hb hr (fun t ht hW => ⟨⟨(-101), σ, rfl, (by simp only [kr_pass, if_neg c5, pm_at]), by rw [ht]; exact hP, va_K.moved hW.alike hK, hD⟩, hS.F ht⟩) hS.2.2 dX4_pass_10
