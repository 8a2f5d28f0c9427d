set_option maxHeartbeats 4000000 in
set_option maxRecDepth 100000 in
/-- mt_search -/
theorem mt_search (l : Launch) (dC : Nat → ClassId) (dI : Nat → Nat → Nat) (cA : Nat → ClassId) (sz : Nat) (Q : Nat → Nat) (σ : xs_T) (n : nn_T) (co : co_T) (L : List Nat) (f : Nat → va_E) (ad : ad_T) (hR : re_A cA σ n co L f ad) (hT : n.2.2.2 < 100000) (x1 x2 x3 : Int32) : Met l yX3_search wsX3_search ({ frames := 2, cells := 1, slots := 3, locals := 46 }) (va_Pc [.ref (Q 0), .int x1, .int x2, .int x3] (ct_M (dC, dI) vwCl (ty_K cA) (xc_W Q cA σ ++ va_pl L f) sz)) (va_Qi (fun r u => (r, u) = kc_search (σ, co) x1 x2 x3) (fun u t => ∃ (ra : Nat → Nat → Option Nat) (n' : nn_T) (L' : List Nat) (f' : Nat → va_E) (ad' : ad_T), n'.2.2.2 ≤ n.2.2.2 + 1 ∧ re_A cA (xs_r u.1 ra) n' u.2 L' f' ad' ∧ ct_B (dC, dI) vwCl (ty_K cA) (va_A (xc_W Q cA σ ++ va_pl L f) sz) (xc_W Q cA (xs_r u.1 ra) ++ va_pl L' f') t) (va_A (xc_W Q cA σ ++ va_pl L f) sz)) 1 3 (va_A (xc_W Q cA σ ++ va_pl L f) sz) := by
  refine Met.ofW (cc := cX3_search) (maxL := 5) (ret := (some .int)) (by decide) rfl ?_
  intro p e s m args below meth c s₁ B hml hv
  obtain ⟨rfl, hsz, hP, hK, hD0⟩ := hv
  have hx := B.exec
  have hb := B.bytes
  have hr := B.returns
  have hts := atoms_spec (ws := wsX3_search) B.pre
  have hown : s.vm.findClass RX3 = some m.cls := findClass_of_methodNamed B.named
  have hlocks := B.notSynchronized
  subst hsz
  have hD := hD0.self (sz := s.heap.size)
  generalize hAe : va_A (xc_W Q cA σ ++ va_pl L f) s.heap.size = A at hD ⊢
  have hA : ∀ q : Nat, s.heap.size ≤ q → A q := fun q h => by rw [← hAe]; exact Or.inr h
  clear hAe hD0
  have hS : va_S A s.heap s.heap [] := va_S.rf
  have hl := lv_entry ([.ref (Q 0), .int x1, .int x2, .int x3]) (n := 5) (Nat.le_of_ble_eq_true rfl)
  rw [lg_entry_eq]
  generalize (lg_sl ([.ref (Q 0), .int x1, .int x2, .int x3]) ++ List.replicate (5 - (lg_sl ([.ref (Q 0), .int x1, .int x2, .int x3])).length) Slot.unset).toArray = ls at hl ⊢
  have hl : lv_has ls 5 [(0, .ref (Q 0)), (1, .int x1), (2, .int x2), (3, .int x3)] := hl
  have lk0 := hts (.fieldLink RX3 131 "ClaimRows" "clock" "I") (List.mem_cons_of_mem _ wd_31)
  have lk1 := hts (.constantLong RX3 84 200000) (List.mem_cons_of_mem _ wd_97)
  have lk2 := hts (.fieldLink RX3 120 "ClaimRows$Claim" "state" "I") (List.mem_cons_of_mem _ wd_129)
  have lk3 := hts (.fieldLink RX3 134 "ClaimRows$Claim" "kind" "I") (List.mem_cons_of_mem _ wd_125)
  have lk4 := hts (.fieldLink RX3 137 "ClaimRows" "searchCount" "I") (List.mem_cons_of_mem _ wd_24)
  have lk5 := hts (.fieldLink RX3 23 "ClaimRows" "searches" "[LClaimRows$Search;") (List.mem_cons_of_mem _ wd_23)
  have lk6 := hts (.classLink RX3 21 RX2) (List.mem_cons_of_mem _ wd_18)
  have lk7 := hts (.instantiable RX2 3) (List.mem_cons_of_mem _ wd_159)
  have lk8 := hts (.initialized RX2) (List.mem_cons_of_mem _ wd_6)
  have lk9 := hts (.methodLink RX3 140 yX2_init) (List.mem_cons_of_mem _ wd_160)
  have lk10 := hts (.instanceMethod yX2_init) (List.mem_cons_of_mem _ wd_161)
  have in0 : ∀ w ∈ u_ws RX3 TX3 16, w ∈ wsX3_search := fun w h => List.mem_cons_of_mem _ (wu_X3 w h)
  have in1 : ∀ w ∈ u_ws RX0 TX0 13, w ∈ wsX3_search := fun w h => List.mem_cons_of_mem _ (wu_X0 w h)
  have in2 : ∀ w ∈ u_ws RX2 TX2 3, w ∈ wsX3_search := fun w h => List.mem_cons_of_mem _ (wu_X2 w h)
  have hn0 : (σ.1 0).toNatClampNeg = n.1 := by rw [hR.1.1]; exact nI_clamp (by have := hR.1.2.1; omega)
  have hn1 : (σ.1 1).toNatClampNeg = n.2.1 := by rw [hR.1.2.2.1]; exact nI_clamp (by have := hR.1.2.2.2.1; omega)
  have hn2 : (σ.1 2).toNatClampNeg = n.2.2.1 := by rw [hR.1.2.2.2.2.1]; exact nI_clamp (by have := hR.1.2.2.2.2.2.1; omega)
  refine lv_aload_n hx hb dX3_search_0 rfl (lv_at hl 0 rfl) ?_
  refine lv_iload_n hx hb dX3_search_1 rfl (lv_at hl 1 rfl) ?_
  refine va_csq (va_Run.run (va_runV (As := [.int x1]) (rest := []) ⟨hx, hb, hml, hown, hts⟩ (mt_claimNumbered l dC dI cA Q σ n co L f ad hR x1) (cwV 1 hts (al_gV wd_105 wd_107 wd_106 wd_1 wd_108) rfl rfl rfl (by decide +kernel) ⟨Nat.le_of_ble_eq_true rfl, Nat.le_of_ble_eq_true rfl⟩) ⟨ct_blR, va_recv hK hP (ci := 3) (q0 := 0) rfl (xc_W_0 _ _), ct_atR hP hK⟩ rfl rfl hl.1 rfl (lv_room (Nat.le_of_ble_eq_true rfl)) dX3_search_2 ⟨Nat.le_of_ble_eq_true rfl, Nat.le_of_ble_eq_true rfl⟩)) (fun r2 hr2 => ?_)
  rcases hr2 with ⟨j2, hj2, hm2, ex2, rfl⟩ | ⟨hm2, rfl⟩
  · have hC1 := hR.2.2.1 j2 hj2
    have hC1v := hR.2.2.2.2.1.2.1 j2 hj2
    have hC1a : f (ad.2.2.1 j2) = .inr (0, [.int (nI (j2 + 1)), .int (co.2.1 6 j2), .ref (ad.1 (co.1 0 j2)), .int (co.2.1 7 j2), .int (co.2.1 8 j2), .int (co.2.1 9 j2), .int (co.2.1 10 j2), .int (co.2.1 11 j2), .int (co.2.1 12 j2), .int (co.2.1 13 j2), .int (co.2.1 14 j2), .int (co.2.1 15 j2), .long (co.2.2.1 2 j2)]) := hC1.2.2
    have hI2 := hR.2.1 (co.1 0 j2) hC1v.1
    have hI2a : f (ad.1 (co.1 0 j2)) = .inr (1, [.int (co.2.1 0 (co.1 0 j2)), .long (co.2.2.1 0 (co.1 0 j2)), .long (co.2.2.1 1 (co.1 0 j2)), .int (co.2.1 1 (co.1 0 j2)), .int (co.2.1 2 (co.1 0 j2)), .ref (ad.2.1 (co.1 0 j2)), .int (co.2.1 3 (co.1 0 j2)), .int (co.2.1 4 (co.1 0 j2)), .int (co.2.1 5 (co.1 0 j2))]) := hI2.2.2.1
    have hI2p : f (ad.2.1 (co.1 0 j2)) = .inl ((cA 0), 8, .inl (co.2.2.2 (co.1 0 j2))) := hI2.2.2.2.2
    refine lv_astore (lv' := [(4, .ref (ad.2.2.1 j2)), (0, .ref (Q 0)), (1, .int x1), (2, .int x2), (3, .int x3)]) hx hb dX3_search_5 hl (by decide) rfl (fun ls hl => ?_)
    refine lv_aload hx hb dX3_search_7 (lv_at hl 0 rfl) ?_
    refine lv_ifnonnull (tgt := 15) hx hb dX3_search_9 (by decide) ?_
    refine lv_iload_n hx hb dX3_search_15 rfl (lv_at hl 3 rfl) ?_
    refine lv_bipush (v := 50) hx hb dX3_search_16 (by decide) ?_
    refine vp_callSi (va_Run.run (va_runS (As := [.int x2, .int 50]) (rest := []) ⟨hx, hb, hml, hown, hts⟩ (mt_isBelow l x2 50) (va_cwS 2 hts (al_gS wd_41 wd_42 wd_1 wd_43) rfl rfl rfl (by decide +kernel) ⟨Nat.le_of_ble_eq_true rfl, Nat.le_of_ble_eq_true rfl⟩) ⟨ct_bl0, ct_at0⟩ rfl rfl hl.1 rfl (lv_room (Nat.le_of_ble_eq_true rfl)) dX3_search_18 ⟨Nat.le_of_ble_eq_true rfl, Nat.le_of_ble_eq_true rfl⟩)) (fun r18 hr18 => ?_)
    subst hr18
    refine lv_if_eq (tgt := 40) hx hb dX3_search_21 (by decide) (fun c21 => ?_) (fun c21 => ?_)
    · have c21 := of_decide_eq_false (bb_0.mp c21)
      refine lv_bipush (v := (-102)) hx hb dX3_search_40 (by decide) ?_
      refine W.widen (k := 1) (n := 3) (by decide) (by decide) ?_
      exact W.iret (v := (-102)) hx hb hr (fun t ht hW => ⟨⟨(-102), (σ, co), rfl, (by simp only [kc_search, hm2, if_neg c21, Option.elim, hn0, hn1, hn2]), σ.2.2.2.2, n, L, f, ad, Nat.le_succ _, hR, by rw [ht]; exact hP, va_K.moved hW.alike hK, hD⟩, hS.F ht⟩) hS.2.2 dX3_search_42
    · have c21 := of_decide_eq_true (bb_n.mp c21)
      refine lv_iload_n hx hb dX3_search_24 rfl (lv_at hl 4 rfl) ?_
      refine lv_i2l (v := (x3 : Int32).toInt64) hx hb dX3_search_25 rfl ?_
      refine lv_aload_n hx hb dX3_search_26 rfl (lv_at hl 1 rfl) ?_
      refine va_get (D := (dC, dI)) (ci := 3) (v := .int (σ.1 4)) (C := RX3) (T := TX3) (N := 16) hx hb hts in0 hown hK hP 0 (xc_W_0 _ _) rfl 12 (by decide) lk0 (fun _ h9 => h9) rfl dX3_search_27 ?_
      refine lv_i2l (v := ((σ.1 4) : Int32).toInt64) hx hb dX3_search_30 rfl ?_
      refine lv_ldc2 hx hb hown lk1 dX3_search_31 ?_
      refine vp_callSi (va_Run.run (va_runS (As := [.long ((x3 : Int32).toInt64), .long (((σ.1 4) : Int32).toInt64), .long 200000]) (rest := []) ⟨hx, hb, hml, hown, hts⟩ (mt_isWithin l ((x3 : Int32).toInt64) (((σ.1 4) : Int32).toInt64) 200000) (va_cwS 3 hts (al_gS wd_48 wd_49 wd_1 wd_50) rfl rfl rfl (by decide +kernel) ⟨Nat.le_of_ble_eq_true rfl, Nat.le_of_ble_eq_true rfl⟩) ⟨ct_bl0, ct_at0⟩ rfl rfl hl.1 rfl (lv_room (Nat.le_of_ble_eq_true rfl)) dX3_search_34 ⟨Nat.le_of_ble_eq_true rfl, Nat.le_of_ble_eq_true rfl⟩)) (fun r34 hr34 => ?_)
      subst hr34
      refine lv_if_ne (tgt := 43) hx hb dX3_search_37 (by decide) (fun c37 => ?_) (fun c37 => ?_)
      · have c37 := of_decide_eq_true (bb_n.mp c37)
        refine lv_aload hx hb dX3_search_43 (lv_at hl 0 rfl) ?_
        refine hp_get (D := (dC, dI)) (ci := 0) (v := .int (co.2.1 9 j2)) (C := RX0) (T := TX0) (N := 13) hx hb hts in1 hown hK hP hC1.2.1 hC1a rfl 5 (by decide) lk2 (fun _ h9 => h9) rfl dX3_search_45 ?_
        refine lv_if_ne (tgt := 59) hx hb dX3_search_48 (by decide) (fun c48 => ?_) (fun c48 => ?_)
        · refine lv_bipush (v := (-103)) hx hb dX3_search_59 (by decide) ?_
          refine W.widen (k := 1) (n := 3) (by decide) (by decide) ?_
          exact W.iret (v := (-103)) hx hb hr (fun t ht hW => ⟨⟨(-103), (σ, co), rfl, (by simp only [kc_search, hm2, if_pos c21, if_pos c37, if_neg c48, Option.elim, hn0, hn1, hn2]), σ.2.2.2.2, n, L, f, ad, Nat.le_succ _, hR, by rw [ht]; exact hP, va_K.moved hW.alike hK, hD⟩, hS.F ht⟩) hS.2.2 dX3_search_61
        · refine lv_aload hx hb dX3_search_51 (lv_at hl 0 rfl) ?_
          refine hp_get (D := (dC, dI)) (ci := 0) (v := .int (co.2.1 7 j2)) (C := RX0) (T := TX0) (N := 13) hx hb hts in1 hown hK hP hC1.2.1 hC1a rfl 3 (by decide) lk3 (fun _ h9 => h9) rfl dX3_search_53 ?_
          refine lv_if_eq (tgt := 62) hx hb dX3_search_56 (by decide) (fun c56 => ?_) (fun c56 => ?_)
          · refine lv_aload_n hx hb dX3_search_62 rfl (lv_at hl 1 rfl) ?_
            refine va_get (D := (dC, dI)) (ci := 3) (v := .int (σ.1 2)) (C := RX3) (T := TX3) (N := 16) hx hb hts in0 hown hK hP 0 (xc_W_0 _ _) rfl 5 (by decide) lk4 (fun _ h9 => h9) rfl dX3_search_63 ?_
            refine lv_bipush (v := 100) hx hb dX3_search_66 (by decide) ?_
            refine lv_icmp_lt (tgt := 74) hx hb dX3_search_68 (by decide) (fun c68 => ?_) (fun c68 => ?_)
            · refine lv_aload_n hx hb dX3_search_74 rfl (lv_at hl 1 rfl) ?_
              refine va_get (D := (dC, dI)) (ci := 3) (v := .ref (Q 3)) (C := RX3) (T := TX3) (N := 16) hx hb hts in0 hown hK hP 0 (xc_W_0 _ _) rfl 4 (by decide) lk5 (fun _ h9 => h9) rfl dX3_search_75 ?_
              refine lv_aload_n hx hb dX3_search_78 rfl (lv_at hl 1 rfl) ?_
              refine va_get (D := (dC, dI)) (ci := 3) (v := .int (σ.1 2)) (C := RX3) (T := TX3) (N := 16) hx hb hts in0 hown hK hP 0 (xc_W_0 _ _) rfl 5 (by decide) lk4 (fun _ h9 => h9) rfl dX3_search_79 ?_
              refine hp_new (ci := 2) (fs := [.null, .int 0, .int 0]) (C := RX2) (T := TX2) (N := 3) hx hb hts in2 tyX2 tyX2_ok hown lk6 lk7 lk8 hK hP hD hS hA rfl (fun j hj => by rcases (show j = 0 ∨ j = 1 ∨ j = 2 by omega) with rfl | rfl | rfl <;> rfl) (Nat.le_of_ble_eq_true rfl) (Nat.le_of_ble_eq_true rfl) dX3_search_82 (fun q82 H hq82 hP hD hS => ?_)
              obtain ⟨f_1, ef_1⟩ : ∃ y9, y9 = va_up f q82 (.inr (2, [.null, .int 0, .int 0])) := ⟨_, rfl⟩
              rw [← ef_1] at hP hD
              have hf_1_ad221j2 : f_1 (ad.2.2.1 j2) = .inr (0, [.int (nI (j2 + 1)), .int (co.2.1 6 j2), .ref (ad.1 (co.1 0 j2)), .int (co.2.1 7 j2), .int (co.2.1 8 j2), .int (co.2.1 9 j2), .int (co.2.1 10 j2), .int (co.2.1 11 j2), .int (co.2.1 12 j2), .int (co.2.1 13 j2), .int (co.2.1 14 j2), .int (co.2.1 15 j2), .long (co.2.2.1 2 j2)]) := by rw [ef_1, va_up_ne _ _ (ct_nq hC1.2.1 hq82)]; exact hC1a
              have hf_1_ad1co10j2 : f_1 (ad.1 (co.1 0 j2)) = .inr (1, [.int (co.2.1 0 (co.1 0 j2)), .long (co.2.2.1 0 (co.1 0 j2)), .long (co.2.2.1 1 (co.1 0 j2)), .int (co.2.1 1 (co.1 0 j2)), .int (co.2.1 2 (co.1 0 j2)), .ref (ad.2.1 (co.1 0 j2)), .int (co.2.1 3 (co.1 0 j2)), .int (co.2.1 4 (co.1 0 j2)), .int (co.2.1 5 (co.1 0 j2))]) := by rw [ef_1, va_up_ne _ _ (ct_nq hI2.2.1 hq82)]; exact hI2a
              have hf_1_ad21co10j2 : f_1 (ad.2.1 (co.1 0 j2)) = .inl ((cA 0), 8, .inl (co.2.2.2 (co.1 0 j2))) := by rw [ef_1, va_up_ne _ _ (ct_nq hI2.2.2.2.1 hq82)]; exact hI2p
              have hf_1_q82 : f_1 q82 = .inr (2, [.null, .int 0, .int 0]) := by rw [ef_1]; exact va_up_self _ _ _
              refine W.widen (k := 1) (n := 3) (by decide) (by decide) ?_
              refine lv_dup hx hb dX3_search_85 rfl ?_
              refine lv_aload hx hb dX3_search_86 (lv_at hl 0 rfl) ?_
              refine lv_iload_n hx hb dX3_search_88 rfl (lv_at hl 4 rfl) ?_
              have hFc := ct_free hD hS hA
              refine va_callv (va_runI (As := [.ref (ad.2.2.1 j2), .int x3]) (rest := [.ref q82, .int (σ.1 2), .ref (Q 3)]) ⟨hx, hb, hml, hown, hts⟩ (mt_Search_init l dC dI cA H.size (xc_W Q cA σ) (L ++ [q82]) f_1 q82 (List.mem_append_right _ (List.mem_singleton.mpr rfl)) hf_1_q82 (ad.2.2.1 j2) x3) (cwI 2 hts (al_g wd_162) rfl rfl rfl lk8 lk9 lk10 rfl (by decide +kernel) ⟨Nat.le_of_ble_eq_true rfl, Nat.le_of_ble_eq_true rfl⟩) ⟨ct_blM, ct_atM hP hK hD⟩ rfl rfl hl.1 rfl (lv_room (Nat.le_of_ble_eq_true rfl)) dX3_search_89 ⟨Nat.le_of_ble_eq_true rfl, Nat.le_of_ble_eq_true rfl⟩) hS (fun q _ h => hFc q h) hFc (fun u89 t H1 locs ht hvm hr89 hB hz1 hk1 hS => ?_)
              obtain ⟨hP, -, hD1⟩ := hB
              rw [ht] at hP
              have hD := hD1.weaken (fun _ _ _ h => hFc _ h)
              clear hD1 hk1 hz1 hFc hvm
              generalize H1 = H at hP hS ht ⊢
              clear ht
              refine W.widen (k := 1) (n := 3) (by decide) (by decide) ?_
              subst hr89
              have hP : va_P (dC, dI) vwCl (xc_W Q cA σ ++ va_pl (L ++ [q82]) (va_up f_1 q82 (.inr (2, [.ref (ad.2.2.1 j2), .int x3, .int 1])))) H := hP
              have hD : va_D A (xc_W Q cA σ ++ va_pl (L ++ [q82]) (va_up f_1 q82 (.inr (2, [.ref (ad.2.2.1 j2), .int x3, .int 1])))) := hD
              obtain ⟨f_2, ef_2⟩ : ∃ y9, y9 = va_up f_1 q82 (.inr (2, [.ref (ad.2.2.1 j2), .int x3, .int 1])) := ⟨_, rfl⟩
              rw [← ef_2] at hP hD
              have hf_2_ad221j2 : f_2 (ad.2.2.1 j2) = .inr (0, [.int (nI (j2 + 1)), .int (co.2.1 6 j2), .ref (ad.1 (co.1 0 j2)), .int (co.2.1 7 j2), .int (co.2.1 8 j2), .int (co.2.1 9 j2), .int (co.2.1 10 j2), .int (co.2.1 11 j2), .int (co.2.1 12 j2), .int (co.2.1 13 j2), .int (co.2.1 14 j2), .int (co.2.1 15 j2), .long (co.2.2.1 2 j2)]) := by rw [ef_2, va_up_ne _ _ (ct_nq hC1.2.1 hq82)]; exact hf_1_ad221j2
              have hf_2_ad1co10j2 : f_2 (ad.1 (co.1 0 j2)) = .inr (1, [.int (co.2.1 0 (co.1 0 j2)), .long (co.2.2.1 0 (co.1 0 j2)), .long (co.2.2.1 1 (co.1 0 j2)), .int (co.2.1 1 (co.1 0 j2)), .int (co.2.1 2 (co.1 0 j2)), .ref (ad.2.1 (co.1 0 j2)), .int (co.2.1 3 (co.1 0 j2)), .int (co.2.1 4 (co.1 0 j2)), .int (co.2.1 5 (co.1 0 j2))]) := by rw [ef_2, va_up_ne _ _ (ct_nq hI2.2.1 hq82)]; exact hf_1_ad1co10j2
              have hf_2_ad21co10j2 : f_2 (ad.2.1 (co.1 0 j2)) = .inl ((cA 0), 8, .inl (co.2.2.2 (co.1 0 j2))) := by rw [ef_2, va_up_ne _ _ (ct_nq hI2.2.2.2.1 hq82)]; exact hf_1_ad21co10j2
              have hf_2_q82 : f_2 q82 = .inr (2, [.ref (ad.2.2.1 j2), .int x3, .int 1]) := by rw [ef_2]; exact va_up_self _ _ _
              obtain ⟨k9, hk9⟩ := va_pl_get (X := xc_W Q cA σ) (f := f_2) (List.mem_append_right _ (List.mem_singleton.mpr rfl))
              rw [hf_2_q82] at hk9
              refine va_astq hx hb hK hP hD hS 3 5 k9 2 (xc_W_3 _ _) rfl hk9 rfl (nu_ix hR.1.2.2.2.2.1 (by have := nu_lt hR.1.2.2.2.2.1 hR.1.2.2.2.2.2.1 c68; omega) (by decide)) dX3_search_92 (fun H locs hP hD hS => ?_)
              have hP : va_P (dC, dI) vwCl (xc_W Q cA (xs_ar σ 2 (va_up (σ.2.2.2.2 2) ((σ.1 2)).toNatClampNeg (some q82))) ++ va_pl (L ++ [q82]) f_2) H := hP
              have hD : va_D A (xc_W Q cA (xs_ar σ 2 (va_up (σ.2.2.2.2 2) ((σ.1 2)).toNatClampNeg (some q82))) ++ va_pl (L ++ [q82]) f_2) := hD
              refine lv_aload_n hx hb dX3_search_93 rfl (lv_at hl 1 rfl) ?_
              refine lv_dup hx hb dX3_search_94 rfl ?_
              refine va_get (D := (dC, dI)) (ci := 3) (v := .int (σ.1 2)) (C := RX3) (T := TX3) (N := 16) hx hb hts in0 hown hK hP 0 (xc_W_0 _ _) rfl 5 (by decide) lk4 (fun _ h9 => h9) rfl dX3_search_95 ?_
              refine lv_iconst (v := 1) hx hb dX3_search_98 (by decide) ?_
              refine lv_iadd hx hb dX3_search_99 ?_
              refine va_put (D := (dC, dI)) (ci := 3) (v := .int ((σ.1 2) + 1)) (ty := .int) (C := RX3) (T := TX3) (N := 16) hx hb hts in0 tyX3 tyX3_ok nmX3 hown hK hP hD hS 0 (xc_W_0 _ _) rfl 5 (by decide) lk4 (fun _ h9 => h9) rfl (by decide +kernel) rfl rfl (Nat.le_of_ble_eq_true rfl) dX3_search_100 (fun H locs hP hD hS => ?_)
              have hP : va_P (dC, dI) vwCl (xc_W Q cA (xs_i (xs_ar σ 2 (va_up (σ.2.2.2.2 2) ((σ.1 2)).toNatClampNeg (some q82))) 2 ((σ.1 2) + 1)) ++ va_pl (L ++ [q82]) f_2) H := hP
              have hD : va_D A (xc_W Q cA (xs_i (xs_ar σ 2 (va_up (σ.2.2.2.2 2) ((σ.1 2)).toNatClampNeg (some q82))) 2 ((σ.1 2) + 1)) ++ va_pl (L ++ [q82]) f_2) := hD
              refine lv_aload hx hb dX3_search_103 (lv_at hl 0 rfl) ?_
              have hFc := ct_free hD hS hA
              refine va_callv (va_runV (As := []) (rest := []) ⟨hx, hb, hml, hown, hts⟩ (mt_addSearch l dC dI cA H.size (xc_W Q cA (xs_i (xs_ar σ 2 (va_up (σ.2.2.2.2 2) ((σ.1 2)).toNatClampNeg (some q82))) 2 ((σ.1 2) + 1))) (L ++ [q82]) f_2 (ad.2.2.1 j2) (List.mem_append_left _ hC1.2.1) (nI (j2 + 1)) (co.2.1 6 j2) (ad.1 (co.1 0 j2)) (co.2.1 7 j2) (co.2.1 8 j2) (co.2.1 9 j2) (co.2.1 10 j2) (co.2.1 11 j2) (co.2.1 12 j2) (co.2.1 13 j2) (co.2.1 14 j2) (co.2.1 15 j2) (co.2.2.1 2 j2) hf_2_ad221j2 ) (cwV 0 hts (al_gV wd_169 wd_170 wd_171 wd_4 wd_172) rfl rfl rfl (by decide +kernel) ⟨Nat.le_of_ble_eq_true rfl, Nat.le_of_ble_eq_true rfl⟩) ⟨ct_blM, hp_recv hK hP (ci := 0) rfl (List.mem_append_left _ hC1.2.1) hf_2_ad221j2, ct_atM hP hK hD⟩ rfl rfl hl.1 rfl (lv_room (Nat.le_of_ble_eq_true rfl)) dX3_search_105 ⟨Nat.le_of_ble_eq_true rfl, Nat.le_of_ble_eq_true rfl⟩) hS (fun q _ h => hFc q h) hFc (fun u105 t H1 locs ht hvm hr105 hB hz1 hk1 hS => ?_)
              obtain ⟨hP, -, hD1⟩ := hB
              rw [ht] at hP
              have hD := hD1.weaken (fun _ _ _ h => hFc _ h)
              clear hD1 hk1 hz1 hFc hvm
              generalize H1 = H at hP hS ht ⊢
              clear ht
              refine W.widen (k := 1) (n := 3) (by decide) (by decide) ?_
              subst hr105
              have hP : va_P (dC, dI) vwCl (xc_W Q cA (xs_i (xs_ar σ 2 (va_up (σ.2.2.2.2 2) ((σ.1 2)).toNatClampNeg (some q82))) 2 ((σ.1 2) + 1)) ++ va_pl (L ++ [q82]) (va_up f_2 (ad.2.2.1 j2) (.inr (0, [.int (nI (j2 + 1)), .int (co.2.1 6 j2), .ref (ad.1 (co.1 0 j2)), .int (co.2.1 7 j2), .int (co.2.1 8 j2), .int (co.2.1 9 j2), .int (co.2.1 10 j2), .int ((co.2.1 11 j2) + 1), .int ((co.2.1 12 j2) + 1), .int (co.2.1 13 j2), .int (co.2.1 14 j2), .int (co.2.1 15 j2), .long (co.2.2.1 2 j2)])))) H := hP
              have hD : va_D A (xc_W Q cA (xs_i (xs_ar σ 2 (va_up (σ.2.2.2.2 2) ((σ.1 2)).toNatClampNeg (some q82))) 2 ((σ.1 2) + 1)) ++ va_pl (L ++ [q82]) (va_up f_2 (ad.2.2.1 j2) (.inr (0, [.int (nI (j2 + 1)), .int (co.2.1 6 j2), .ref (ad.1 (co.1 0 j2)), .int (co.2.1 7 j2), .int (co.2.1 8 j2), .int (co.2.1 9 j2), .int (co.2.1 10 j2), .int ((co.2.1 11 j2) + 1), .int ((co.2.1 12 j2) + 1), .int (co.2.1 13 j2), .int (co.2.1 14 j2), .int (co.2.1 15 j2), .long (co.2.2.1 2 j2)])))) := hD
              obtain ⟨f_3, ef_3⟩ : ∃ y9, y9 = va_up f_2 (ad.2.2.1 j2) (.inr (0, [.int (nI (j2 + 1)), .int (co.2.1 6 j2), .ref (ad.1 (co.1 0 j2)), .int (co.2.1 7 j2), .int (co.2.1 8 j2), .int (co.2.1 9 j2), .int (co.2.1 10 j2), .int ((co.2.1 11 j2) + 1), .int ((co.2.1 12 j2) + 1), .int (co.2.1 13 j2), .int (co.2.1 14 j2), .int (co.2.1 15 j2), .long (co.2.2.1 2 j2)])) := ⟨_, rfl⟩
              rw [← ef_3] at hP hD
              have hf_3_ad1co10j2 : f_3 (ad.1 (co.1 0 j2)) = .inr (1, [.int (co.2.1 0 (co.1 0 j2)), .long (co.2.2.1 0 (co.1 0 j2)), .long (co.2.2.1 1 (co.1 0 j2)), .int (co.2.1 1 (co.1 0 j2)), .int (co.2.1 2 (co.1 0 j2)), .ref (ad.2.1 (co.1 0 j2)), .int (co.2.1 3 (co.1 0 j2)), .int (co.2.1 4 (co.1 0 j2)), .int (co.2.1 5 (co.1 0 j2))]) := by rw [ef_3, va_up_ne _ _ (ct_ne hf_2_ad1co10j2 hf_2_ad221j2 (by simp))]; exact hf_2_ad1co10j2
              have hf_3_ad21co10j2 : f_3 (ad.2.1 (co.1 0 j2)) = .inl ((cA 0), 8, .inl (co.2.2.2 (co.1 0 j2))) := by rw [ef_3, va_up_ne _ _ (ct_ne hf_2_ad21co10j2 hf_2_ad221j2 (by simp))]; exact hf_2_ad21co10j2
              have hf_3_q82 : f_3 q82 = .inr (2, [.ref (ad.2.2.1 j2), .int x3, .int 1]) := by rw [ef_3, va_up_ne _ _ (Ne.symm (ct_nq hC1.2.1 hq82))]; exact hf_2_q82
              have hf_3_ad221j2 : f_3 (ad.2.2.1 j2) = .inr (0, [.int (nI (j2 + 1)), .int (co.2.1 6 j2), .ref (ad.1 (co.1 0 j2)), .int (co.2.1 7 j2), .int (co.2.1 8 j2), .int (co.2.1 9 j2), .int (co.2.1 10 j2), .int ((co.2.1 11 j2) + 1), .int ((co.2.1 12 j2) + 1), .int (co.2.1 13 j2), .int (co.2.1 14 j2), .int (co.2.1 15 j2), .long (co.2.2.1 2 j2)]) := by rw [ef_3]; exact va_up_self _ _ _
              refine lv_aload_n hx hb dX3_search_108 rfl (lv_at hl 1 rfl) ?_
              refine va_get (D := (dC, dI)) (ci := 3) (v := .int ((σ.1 2) + 1)) (C := RX3) (T := TX3) (N := 16) hx hb hts in0 hown hK hP 0 (xc_W_0 _ _) rfl 5 (by decide) lk4 (fun _ h9 => h9) rfl dX3_search_109 ?_
              exact W.iret (v := ((σ.1 2) + 1)) hx hb hr (fun t ht hW => ⟨⟨((σ.1 2) + 1), (xs_i σ 2 (σ.1 2 + 1), ns_co co n.2.2.1 j2 x3), rfl, (by simp only [kc_search, hm2, if_pos c21, if_pos c37, if_pos c48, if_pos c56, if_pos c68, Option.elim, hn2]), va_up σ.2.2.2.2 2 (va_up (σ.2.2.2.2 2) (σ.1 2).toNatClampNeg (some q82)), (n.1, n.2.1, n.2.2.1 + 1, n.2.2.2), _, _, (ad.1, ad.2.1, ad.2.2.1, va_up ad.2.2.2 n.2.2.1 q82), Nat.le_succ _, by rw [ef_3]; exact re_setC (re_newS (σ' := xs_r (xs_i σ 2 (σ.1 2 + 1)) (va_up σ.2.2.2.2 2 (va_up (σ.2.2.2.2 2) (σ.1 2).toNatClampNeg (some q82)))) (f' := f_2) (L' := L ++ [q82]) hR hq82 (fun a h => List.mem_append_left _ h) (List.mem_append_right _ (List.mem_singleton.mpr rfl)) (fun a h => by rw [ef_2, va_up_ne _ _ (ct_nq h hq82), ef_1, va_up_ne _ _ (ct_nq h hq82)]) hj2 (due := x3) (by rw [hf_2_q82]; exact (ns_ce _ _ _ _).symm) (nu_lt hR.1.2.2.2.2.1 hR.1.2.2.2.2.2.1 c68) rfl rfl (by show σ.1 2 + 1 = _; rw [hR.1.2.2.2.2.1]; exact nI_1 _) rfl rfl rfl (by show va_up (σ.2.2.2.2 2) (σ.1 2).toNatClampNeg (some q82) = _; rw [hn2])) hj2 (ns_ag (hR.2.2.2.2.1.2.1 j2 hj2).2.2.2) (ns_cc _ _ _ _ _), by rw [ht]; exact hP, va_K.moved hW.alike hK, hD⟩, hS.F ht⟩) hS.2.2 dX3_search_112
            · refine lv_bipush (v := (-104)) hx hb dX3_search_71 (by decide) ?_
              refine W.widen (k := 1) (n := 3) (by decide) (by decide) ?_
              exact W.iret (v := (-104)) hx hb hr (fun t ht hW => ⟨⟨(-104), (σ, co), rfl, (by simp only [kc_search, hm2, if_pos c21, if_pos c37, if_pos c48, if_pos c56, if_neg c68, Option.elim, hn0, hn1, hn2]), σ.2.2.2.2, n, L, f, ad, Nat.le_succ _, hR, by rw [ht]; exact hP, va_K.moved hW.alike hK, hD⟩, hS.F ht⟩) hS.2.2 dX3_search_73
          · refine lv_bipush (v := (-103)) hx hb dX3_search_59 (by decide) ?_
            refine W.widen (k := 1) (n := 3) (by decide) (by decide) ?_
            exact W.iret (v := (-103)) hx hb hr (fun t ht hW => ⟨⟨(-103), (σ, co), rfl, (by simp only [kc_search, hm2, if_pos c21, if_pos c37, if_pos c48, if_neg c56, Option.elim, hn0, hn1, hn2]), σ.2.2.2.2, n, L, f, ad, Nat.le_succ _, hR, by rw [ht]; exact hP, va_K.moved hW.alike hK, hD⟩, hS.F ht⟩) hS.2.2 dX3_search_61
      · have c37 := of_decide_eq_false (bb_0.mp c37)
        refine lv_bipush (v := (-102)) hx hb dX3_search_40 (by decide) ?_
        refine W.widen (k := 1) (n := 3) (by decide) (by decide) ?_
        exact W.iret (v := (-102)) hx hb hr (fun t ht hW => ⟨⟨(-102), (σ, co), rfl, (by simp only [kc_search, hm2, if_pos c21, if_neg c37, Option.elim, hn0, hn1, hn2]), σ.2.2.2.2, n, L, f, ad, Nat.le_succ _, hR, by rw [ht]; exact hP, va_K.moved hW.alike hK, hD⟩, hS.F ht⟩) hS.2.2 dX3_search_42
  · skip
    refine lv_astoreN (lv' := [(4, .null), (0, .ref (Q 0)), (1, .int x1), (2, .int x2), (3, .int x3)]) hx hb dX3_search_5 hl (by decide) rfl (fun ls hl => ?_)
    refine lv_aloadN hx hb dX3_search_7 (lv_at hl 0 rfl) ?_
    refine lv_ifnonnullN hx hb dX3_search_9 ?_
    refine lv_bipush (v := (-101)) hx hb dX3_search_12 (by decide) ?_
    refine W.widen (k := 1) (n := 3) (by decide) (by decide) ?_
    exact W.iret (v := (-101)) hx hb hr (fun t ht hW => ⟨⟨(-101), (σ, co), rfl, (by simp only [kc_search, hm2, Option.elim, hn0, hn1, hn2]), σ.2.2.2.2, n, L, f, ad, Nat.le_succ _, hR, by rw [ht]; exact hP, va_K.moved hW.alike hK, hD⟩, hS.F ht⟩) hS.2.2 dX3_search_14
set_option maxHeartbeats 4000000 in
set_option maxRecDepth 100000 in
/-- mt_answer -/
theorem mt_answer (l : Launch) (dC : Nat → ClassId) (dI : Nat → Nat → Nat) (cA : Nat → ClassId) (sz : Nat) (Q : Nat → Nat) (σ : xs_T) (n : nn_T) (co : co_T) (L : List Nat) (f : Nat → va_E) (ad : ad_T) (hR : re_A cA σ n co L f ad) (hT : n.2.2.2 < 100000) (x1 : Int32) (b : Bool) : Met l yX3_answer wsX3_answer ({ frames := 2, cells := 0, slots := 0, locals := 46 }) (va_Pc [.ref (Q 0), .int x1, .int (bb_v b)] (ct_M (dC, dI) vwCl (ty_K cA) (xc_W Q cA σ ++ va_pl L f) sz)) (va_Qi (fun r u => (r, u) = kc_answer (σ, co) x1 b) (fun u t => ∃ (ra : Nat → Nat → Option Nat) (n' : nn_T) (L' : List Nat) (f' : Nat → va_E) (ad' : ad_T), n'.2.2.2 ≤ n.2.2.2 + 1 ∧ re_A cA (xs_r u.1 ra) n' u.2 L' f' ad' ∧ ct_B (dC, dI) vwCl (ty_K cA) (va_A (xc_W Q cA σ ++ va_pl L f) sz) (xc_W Q cA (xs_r u.1 ra) ++ va_pl L' f') t) (va_A (xc_W Q cA σ ++ va_pl L f) sz)) 0 0 (va_A (xc_W Q cA σ ++ va_pl L f) sz) := by
  refine Met.ofW (cc := cX3_answer) (maxL := 4) (ret := (some .int)) (by decide) rfl ?_
  intro p e s m args below meth c s₁ B hml hv
  obtain ⟨rfl, hsz, hP, hK, hD0⟩ := hv
  have hx := B.exec
  have hb := B.bytes
  have hr := B.returns
  have hts := atoms_spec (ws := wsX3_answer) B.pre
  have hown : s.vm.findClass RX3 = some m.cls := findClass_of_methodNamed B.named
  have hlocks := B.notSynchronized
  subst hsz
  have hD := hD0.self (sz := s.heap.size)
  generalize hAe : va_A (xc_W Q cA σ ++ va_pl L f) s.heap.size = A at hD ⊢
  have hA : ∀ q : Nat, s.heap.size ≤ q → A q := fun q h => by rw [← hAe]; exact Or.inr h
  clear hAe hD0
  have hS : va_S A s.heap s.heap [] := va_S.rf
  have hl := lv_entry ([.ref (Q 0), .int x1, .int (bb_v b)]) (n := 4) (Nat.le_of_ble_eq_true rfl)
  rw [lg_entry_eq]
  generalize (lg_sl ([.ref (Q 0), .int x1, .int (bb_v b)]) ++ List.replicate (4 - (lg_sl ([.ref (Q 0), .int x1, .int (bb_v b)])).length) Slot.unset).toArray = ls at hl ⊢
  have hl : lv_has ls 4 [(0, .ref (Q 0)), (1, .int x1), (2, .int (bb_v b))] := hl
  have lk0 := hts (.fieldLink RX3 150 "ClaimRows$Search" "unanswered" "Z") (List.mem_cons_of_mem _ wd_168)
  have in0 : ∀ w ∈ u_ws RX2 TX2 3, w ∈ wsX3_answer := fun w h => List.mem_cons_of_mem _ (wu_X2 w h)
  have hn0 : (σ.1 0).toNatClampNeg = n.1 := by rw [hR.1.1]; exact nI_clamp (by have := hR.1.2.1; omega)
  have hn1 : (σ.1 1).toNatClampNeg = n.2.1 := by rw [hR.1.2.2.1]; exact nI_clamp (by have := hR.1.2.2.2.1; omega)
  have hn2 : (σ.1 2).toNatClampNeg = n.2.2.1 := by rw [hR.1.2.2.2.2.1]; exact nI_clamp (by have := hR.1.2.2.2.2.2.1; omega)
  refine lv_aload_n hx hb dX3_answer_0 rfl (lv_at hl 0 rfl) ?_
  refine lv_iload_n hx hb dX3_answer_1 rfl (lv_at hl 1 rfl) ?_
  refine va_csq (va_Run.run (va_runV (As := [.int x1]) (rest := []) ⟨hx, hb, hml, hown, hts⟩ (mt_searchNumbered l dC dI cA Q σ n co L f ad hR x1) (cwV 1 hts (al_gV wd_177 wd_179 wd_178 wd_1 wd_180) rfl rfl rfl (by decide +kernel) ⟨Nat.le_of_ble_eq_true rfl, Nat.le_of_ble_eq_true rfl⟩) ⟨ct_blR, va_recv hK hP (ci := 3) (q0 := 0) rfl (xc_W_0 _ _), ct_atR hP hK⟩ rfl rfl hl.1 rfl (lv_room (Nat.le_of_ble_eq_true rfl)) dX3_answer_2 ⟨Nat.le_of_ble_eq_true rfl, Nat.le_of_ble_eq_true rfl⟩)) (fun r2 hr2 => ?_)
  rcases hr2 with ⟨j2, hj2, hm2, ex2, rfl⟩ | ⟨hm2, rfl⟩
  · have hS1 := hR.2.2.2.1 j2 hj2
    have hS1v := hR.2.2.2.2.1.2.2 j2 hj2
    have hS1a : f (ad.2.2.2 j2) = .inr (2, [.ref (ad.2.2.1 (co.1 1 j2)), .int (co.2.1 17 j2), .int (co.2.1 18 j2)]) := hS1.2.2
    have hC2 := hR.2.2.1 (co.1 1 j2) hS1v
    have hC2v := hR.2.2.2.2.1.2.1 (co.1 1 j2) hS1v
    have hC2a : f (ad.2.2.1 (co.1 1 j2)) = .inr (0, [.int (nI ((co.1 1 j2) + 1)), .int (co.2.1 6 (co.1 1 j2)), .ref (ad.1 (co.1 0 (co.1 1 j2))), .int (co.2.1 7 (co.1 1 j2)), .int (co.2.1 8 (co.1 1 j2)), .int (co.2.1 9 (co.1 1 j2)), .int (co.2.1 10 (co.1 1 j2)), .int (co.2.1 11 (co.1 1 j2)), .int (co.2.1 12 (co.1 1 j2)), .int (co.2.1 13 (co.1 1 j2)), .int (co.2.1 14 (co.1 1 j2)), .int (co.2.1 15 (co.1 1 j2)), .long (co.2.2.1 2 (co.1 1 j2))]) := hC2.2.2
    have hI3 := hR.2.1 (co.1 0 (co.1 1 j2)) hC2v.1
    have hI3a : f (ad.1 (co.1 0 (co.1 1 j2))) = .inr (1, [.int (co.2.1 0 (co.1 0 (co.1 1 j2))), .long (co.2.2.1 0 (co.1 0 (co.1 1 j2))), .long (co.2.2.1 1 (co.1 0 (co.1 1 j2))), .int (co.2.1 1 (co.1 0 (co.1 1 j2))), .int (co.2.1 2 (co.1 0 (co.1 1 j2))), .ref (ad.2.1 (co.1 0 (co.1 1 j2))), .int (co.2.1 3 (co.1 0 (co.1 1 j2))), .int (co.2.1 4 (co.1 0 (co.1 1 j2))), .int (co.2.1 5 (co.1 0 (co.1 1 j2)))]) := hI3.2.2.1
    have hI3p : f (ad.2.1 (co.1 0 (co.1 1 j2))) = .inl ((cA 0), 8, .inl (co.2.2.2 (co.1 0 (co.1 1 j2)))) := hI3.2.2.2.2
    refine lv_astore_n (lv' := [(3, .ref (ad.2.2.2 j2)), (0, .ref (Q 0)), (1, .int x1), (2, .int (bb_v b))]) hx hb dX3_answer_5 rfl hl (by decide) rfl (fun ls hl => ?_)
    refine lv_aload_n hx hb dX3_answer_6 rfl (lv_at hl 0 rfl) ?_
    refine lv_ifnonnull (tgt := 13) hx hb dX3_answer_7 (by decide) ?_
    refine lv_aload_n hx hb dX3_answer_13 rfl (lv_at hl 0 rfl) ?_
    refine hp_get (D := (dC, dI)) (ci := 2) (v := .int (co.2.1 18 j2)) (C := RX2) (T := TX2) (N := 3) hx hb hts in0 hown hK hP hS1.2.1 hS1a rfl 2 (by decide) lk0 (fun _ h9 => h9) rfl dX3_answer_14 ?_
    refine lv_if_ne (tgt := 23) hx hb dX3_answer_17 (by decide) (fun c17 => ?_) (fun c17 => ?_)
    · refine lv_aload_n hx hb dX3_answer_23 rfl (lv_at hl 0 rfl) ?_
      refine lv_iload_n hx hb dX3_answer_24 rfl (lv_at hl 3 rfl) ?_
      have hFc := ct_free hD hS hA
      refine va_callv (va_runV (As := [.int (bb_v b)]) (rest := []) ⟨hx, hb, hml, hown, hts⟩ (mt_close l dC dI cA s.heap.size (xc_W Q cA σ) L f (ad.2.2.2 j2) hS1.2.1 (ad.2.2.1 (co.1 1 j2)) hC2.2.1 (co.2.1 17 j2) (co.2.1 18 j2) hS1a (nI ((co.1 1 j2) + 1)) (co.2.1 6 (co.1 1 j2)) (ad.1 (co.1 0 (co.1 1 j2))) (co.2.1 7 (co.1 1 j2)) (co.2.1 8 (co.1 1 j2)) (co.2.1 9 (co.1 1 j2)) (co.2.1 10 (co.1 1 j2)) (co.2.1 11 (co.1 1 j2)) (co.2.1 12 (co.1 1 j2)) (co.2.1 13 (co.1 1 j2)) (co.2.1 14 (co.1 1 j2)) (co.2.1 15 (co.1 1 j2)) (co.2.2.1 2 (co.1 1 j2)) hC2a b) (cwV 1 hts (al_gV wd_181 wd_182 wd_183 wd_6 wd_184) rfl rfl rfl (by decide +kernel) ⟨Nat.le_of_ble_eq_true rfl, Nat.le_of_ble_eq_true rfl⟩) ⟨ct_blM, hp_recv hK hP (ci := 2) rfl hS1.2.1 hS1a, ct_atM hP hK hD⟩ rfl rfl hl.1 rfl (lv_room (Nat.le_of_ble_eq_true rfl)) dX3_answer_25 ⟨Nat.le_of_ble_eq_true rfl, Nat.le_of_ble_eq_true rfl⟩) hS (fun q _ h => hFc q h) hFc (fun u25 t H1 locs ht hvm hr25 hB hz1 hk1 hS => ?_)
      obtain ⟨hP, -, hD1⟩ := hB
      rw [ht] at hP
      have hD := hD1.weaken (fun _ _ _ h => hFc _ h)
      clear hD1 hk1 hz1 hFc hvm
      generalize H1 = H at hP hS ht ⊢
      clear ht
      refine W.widen (k := 0) (n := 0) (by decide) (by decide) ?_
      subst hr25
      have hP : va_P (dC, dI) vwCl (xc_W Q cA σ ++ va_pl L (va_up (va_up f (ad.2.2.2 j2) (.inr (2, [.ref (ad.2.2.1 (co.1 1 j2)), .int (co.2.1 17 j2), .int 0]))) (ad.2.2.1 (co.1 1 j2)) (.inr (0, [.int (nI ((co.1 1 j2) + 1)), .int (co.2.1 6 (co.1 1 j2)), .ref (ad.1 (co.1 0 (co.1 1 j2))), .int (co.2.1 7 (co.1 1 j2)), .int (co.2.1 8 (co.1 1 j2)), .int (co.2.1 9 (co.1 1 j2)), .int (co.2.1 10 (co.1 1 j2)), .int (co.2.1 11 (co.1 1 j2)), .int ((co.2.1 12 (co.1 1 j2)) - 1), .int (if b then 1 else (co.2.1 13 (co.1 1 j2))), .int (co.2.1 14 (co.1 1 j2)), .int (co.2.1 15 (co.1 1 j2)), .long (co.2.2.1 2 (co.1 1 j2))])))) H := hP
      have hD : va_D A (xc_W Q cA σ ++ va_pl L (va_up (va_up f (ad.2.2.2 j2) (.inr (2, [.ref (ad.2.2.1 (co.1 1 j2)), .int (co.2.1 17 j2), .int 0]))) (ad.2.2.1 (co.1 1 j2)) (.inr (0, [.int (nI ((co.1 1 j2) + 1)), .int (co.2.1 6 (co.1 1 j2)), .ref (ad.1 (co.1 0 (co.1 1 j2))), .int (co.2.1 7 (co.1 1 j2)), .int (co.2.1 8 (co.1 1 j2)), .int (co.2.1 9 (co.1 1 j2)), .int (co.2.1 10 (co.1 1 j2)), .int (co.2.1 11 (co.1 1 j2)), .int ((co.2.1 12 (co.1 1 j2)) - 1), .int (if b then 1 else (co.2.1 13 (co.1 1 j2))), .int (co.2.1 14 (co.1 1 j2)), .int (co.2.1 15 (co.1 1 j2)), .long (co.2.2.1 2 (co.1 1 j2))])))) := hD
      obtain ⟨f_1, ef_1⟩ : ∃ y9, y9 = va_up f (ad.2.2.2 j2) (.inr (2, [.ref (ad.2.2.1 (co.1 1 j2)), .int (co.2.1 17 j2), .int 0])) := ⟨_, rfl⟩
      rw [← ef_1] at hP hD
      have hf_1_ad221co11j2 : f_1 (ad.2.2.1 (co.1 1 j2)) = .inr (0, [.int (nI ((co.1 1 j2) + 1)), .int (co.2.1 6 (co.1 1 j2)), .ref (ad.1 (co.1 0 (co.1 1 j2))), .int (co.2.1 7 (co.1 1 j2)), .int (co.2.1 8 (co.1 1 j2)), .int (co.2.1 9 (co.1 1 j2)), .int (co.2.1 10 (co.1 1 j2)), .int (co.2.1 11 (co.1 1 j2)), .int (co.2.1 12 (co.1 1 j2)), .int (co.2.1 13 (co.1 1 j2)), .int (co.2.1 14 (co.1 1 j2)), .int (co.2.1 15 (co.1 1 j2)), .long (co.2.2.1 2 (co.1 1 j2))]) := by rw [ef_1, va_up_ne _ _ (ct_ne hC2a hS1a (by simp))]; exact hC2a
      have hf_1_ad1co10co11j2 : f_1 (ad.1 (co.1 0 (co.1 1 j2))) = .inr (1, [.int (co.2.1 0 (co.1 0 (co.1 1 j2))), .long (co.2.2.1 0 (co.1 0 (co.1 1 j2))), .long (co.2.2.1 1 (co.1 0 (co.1 1 j2))), .int (co.2.1 1 (co.1 0 (co.1 1 j2))), .int (co.2.1 2 (co.1 0 (co.1 1 j2))), .ref (ad.2.1 (co.1 0 (co.1 1 j2))), .int (co.2.1 3 (co.1 0 (co.1 1 j2))), .int (co.2.1 4 (co.1 0 (co.1 1 j2))), .int (co.2.1 5 (co.1 0 (co.1 1 j2)))]) := by rw [ef_1, va_up_ne _ _ (ct_ne hI3a hS1a (by simp))]; exact hI3a
      have hf_1_ad21co10co11j2 : f_1 (ad.2.1 (co.1 0 (co.1 1 j2))) = .inl ((cA 0), 8, .inl (co.2.2.2 (co.1 0 (co.1 1 j2)))) := by rw [ef_1, va_up_ne _ _ (ct_ne hI3p hS1a (by simp))]; exact hI3p
      have hf_1_ad222j2 : f_1 (ad.2.2.2 j2) = .inr (2, [.ref (ad.2.2.1 (co.1 1 j2)), .int (co.2.1 17 j2), .int 0]) := by rw [ef_1]; exact va_up_self _ _ _
      obtain ⟨f_2, ef_2⟩ : ∃ y9, y9 = va_up f_1 (ad.2.2.1 (co.1 1 j2)) (.inr (0, [.int (nI ((co.1 1 j2) + 1)), .int (co.2.1 6 (co.1 1 j2)), .ref (ad.1 (co.1 0 (co.1 1 j2))), .int (co.2.1 7 (co.1 1 j2)), .int (co.2.1 8 (co.1 1 j2)), .int (co.2.1 9 (co.1 1 j2)), .int (co.2.1 10 (co.1 1 j2)), .int (co.2.1 11 (co.1 1 j2)), .int ((co.2.1 12 (co.1 1 j2)) - 1), .int (if b then 1 else (co.2.1 13 (co.1 1 j2))), .int (co.2.1 14 (co.1 1 j2)), .int (co.2.1 15 (co.1 1 j2)), .long (co.2.2.1 2 (co.1 1 j2))])) := ⟨_, rfl⟩
      rw [← ef_2] at hP hD
      have hf_2_ad222j2 : f_2 (ad.2.2.2 j2) = .inr (2, [.ref (ad.2.2.1 (co.1 1 j2)), .int (co.2.1 17 j2), .int 0]) := by rw [ef_2, va_up_ne _ _ (ct_ne hf_1_ad222j2 hf_1_ad221co11j2 (by simp))]; exact hf_1_ad222j2
      have hf_2_ad1co10co11j2 : f_2 (ad.1 (co.1 0 (co.1 1 j2))) = .inr (1, [.int (co.2.1 0 (co.1 0 (co.1 1 j2))), .long (co.2.2.1 0 (co.1 0 (co.1 1 j2))), .long (co.2.2.1 1 (co.1 0 (co.1 1 j2))), .int (co.2.1 1 (co.1 0 (co.1 1 j2))), .int (co.2.1 2 (co.1 0 (co.1 1 j2))), .ref (ad.2.1 (co.1 0 (co.1 1 j2))), .int (co.2.1 3 (co.1 0 (co.1 1 j2))), .int (co.2.1 4 (co.1 0 (co.1 1 j2))), .int (co.2.1 5 (co.1 0 (co.1 1 j2)))]) := by rw [ef_2, va_up_ne _ _ (ct_ne hf_1_ad1co10co11j2 hf_1_ad221co11j2 (by simp))]; exact hf_1_ad1co10co11j2
      have hf_2_ad21co10co11j2 : f_2 (ad.2.1 (co.1 0 (co.1 1 j2))) = .inl ((cA 0), 8, .inl (co.2.2.2 (co.1 0 (co.1 1 j2)))) := by rw [ef_2, va_up_ne _ _ (ct_ne hf_1_ad21co10co11j2 hf_1_ad221co11j2 (by simp))]; exact hf_1_ad21co10co11j2
      have hf_2_ad221co11j2 : f_2 (ad.2.2.1 (co.1 1 j2)) = .inr (0, [.int (nI ((co.1 1 j2) + 1)), .int (co.2.1 6 (co.1 1 j2)), .ref (ad.1 (co.1 0 (co.1 1 j2))), .int (co.2.1 7 (co.1 1 j2)), .int (co.2.1 8 (co.1 1 j2)), .int (co.2.1 9 (co.1 1 j2)), .int (co.2.1 10 (co.1 1 j2)), .int (co.2.1 11 (co.1 1 j2)), .int ((co.2.1 12 (co.1 1 j2)) - 1), .int (if b then 1 else (co.2.1 13 (co.1 1 j2))), .int (co.2.1 14 (co.1 1 j2)), .int (co.2.1 15 (co.1 1 j2)), .long (co.2.2.1 2 (co.1 1 j2))]) := by rw [ef_2]; exact va_up_self _ _ _
      refine lv_iconst (v := 1) hx hb dX3_answer_28 (by decide) ?_
      exact W.iret (v := 1) hx hb hr (fun t ht hW => ⟨⟨1, (σ, cs_co co j2 b), rfl, (by simp only [kc_answer, hm2, if_neg c17, Option.elim]), σ.2.2.2.2, n, L, f_2, ad, Nat.le_succ _, by rw [ef_2, ef_1]; exact re_close hR hj2 rfl rfl, by rw [ht]; exact hP, va_K.moved hW.alike hK, hD⟩, hS.F ht⟩) hS.2.2 dX3_answer_29
    · refine lv_bipush (v := (-103)) hx hb dX3_answer_20 (by decide) ?_
      exact W.iret (v := (-103)) hx hb hr (fun t ht hW => ⟨⟨(-103), (σ, co), rfl, (by simp only [kc_answer, hm2, if_pos c17, Option.elim, hn0, hn1, hn2]), σ.2.2.2.2, n, L, f, ad, Nat.le_succ _, hR, by rw [ht]; exact hP, va_K.moved hW.alike hK, hD⟩, hS.F ht⟩) hS.2.2 dX3_answer_22
  · skip
    refine lv_astore_nN (lv' := [(3, .null), (0, .ref (Q 0)), (1, .int x1), (2, .int (bb_v b))]) hx hb dX3_answer_5 rfl hl (by decide) rfl (fun ls hl => ?_)
    refine lv_aload_nN hx hb dX3_answer_6 rfl (lv_at hl 0 rfl) ?_
    refine lv_ifnonnullN hx hb dX3_answer_7 ?_
    refine lv_bipush (v := (-101)) hx hb dX3_answer_10 (by decide) ?_
    exact W.iret (v := (-101)) hx hb hr (fun t ht hW => ⟨⟨(-101), (σ, co), rfl, (by simp only [kc_answer, hm2, Option.elim, hn0, hn1, hn2]), σ.2.2.2.2, n, L, f, ad, Nat.le_succ _, hR, by rw [ht]; exact hP, va_K.moved hW.alike hK, hD⟩, hS.F ht⟩) hS.2.2 dX3_answer_12
set_option maxHeartbeats 4000000 in
set_option maxRecDepth 100000 in
/-- mt_proof -/
theorem mt_proof (l : Launch) (dC : Nat → ClassId) (dI : Nat → Nat → Nat) (cA : Nat → ClassId) (sz : Nat) (Q : Nat → Nat) (σ : xs_T) (n : nn_T) (co : co_T) (L : List Nat) (f : Nat → va_E) (ad : ad_T) (hR : re_A cA σ n co L f ad) (hT : n.2.2.2 < 100000) (x1 x2 : Int32) : Met l yX3_proof wsX3_proof ({ frames := 2, cells := 0, slots := 0, locals := 46 }) (va_Pc [.ref (Q 0), .int x1, .int x2] (ct_M (dC, dI) vwCl (ty_K cA) (xc_W Q cA σ ++ va_pl L f) sz)) (va_Qi (fun r u => (r, u) = kc_proof (σ, co) x1 x2) (fun u t => ∃ (ra : Nat → Nat → Option Nat) (n' : nn_T) (L' : List Nat) (f' : Nat → va_E) (ad' : ad_T), n'.2.2.2 ≤ n.2.2.2 + 1 ∧ re_A cA (xs_r u.1 ra) n' u.2 L' f' ad' ∧ ct_B (dC, dI) vwCl (ty_K cA) (va_A (xc_W Q cA σ ++ va_pl L f) sz) (xc_W Q cA (xs_r u.1 ra) ++ va_pl L' f') t) (va_A (xc_W Q cA σ ++ va_pl L f) sz)) 0 0 (va_A (xc_W Q cA σ ++ va_pl L f) sz) := by
  refine Met.ofW (cc := cX3_proof) (maxL := 6) (ret := (some .int)) (by decide) rfl ?_
  intro p e s m args below meth c s₁ B hml hv
  obtain ⟨rfl, hsz, hP, hK, hD0⟩ := hv
  have hx := B.exec
  have hb := B.bytes
  have hr := B.returns
  have hts := atoms_spec (ws := wsX3_proof) B.pre
  have hown : s.vm.findClass RX3 = some m.cls := findClass_of_methodNamed B.named
  have hlocks := B.notSynchronized
  subst hsz
  have hD := hD0.self (sz := s.heap.size)
  generalize hAe : va_A (xc_W Q cA σ ++ va_pl L f) s.heap.size = A at hD ⊢
  have hA : ∀ q : Nat, s.heap.size ≤ q → A q := fun q h => by rw [← hAe]; exact Or.inr h
  clear hAe hD0
  have hS : va_S A s.heap s.heap [] := va_S.rf
  have hl := lv_entry ([.ref (Q 0), .int x1, .int x2]) (n := 6) (Nat.le_of_ble_eq_true rfl)
  rw [lg_entry_eq]
  generalize (lg_sl ([.ref (Q 0), .int x1, .int x2]) ++ List.replicate (6 - (lg_sl ([.ref (Q 0), .int x1, .int x2])).length) Slot.unset).toArray = ls at hl ⊢
  have hl : lv_has ls 6 [(0, .ref (Q 0)), (1, .int x1), (2, .int x2)] := hl
  have lk0 := hts (.fieldLink RX3 120 "ClaimRows$Claim" "state" "I") (List.mem_cons_of_mem _ wd_129)
  have lk1 := hts (.fieldLink RX3 123 "ClaimRows$Claim" "lacking" "I") (List.mem_cons_of_mem _ wd_131)
  have in0 : ∀ w ∈ u_ws RX0 TX0 13, w ∈ wsX3_proof := fun w h => List.mem_cons_of_mem _ (wu_X0 w h)
  have hn0 : (σ.1 0).toNatClampNeg = n.1 := by rw [hR.1.1]; exact nI_clamp (by have := hR.1.2.1; omega)
  have hn1 : (σ.1 1).toNatClampNeg = n.2.1 := by rw [hR.1.2.2.1]; exact nI_clamp (by have := hR.1.2.2.2.1; omega)
  have hn2 : (σ.1 2).toNatClampNeg = n.2.2.1 := by rw [hR.1.2.2.2.2.1]; exact nI_clamp (by have := hR.1.2.2.2.2.2.1; omega)
  refine lv_aload_n hx hb dX3_proof_0 rfl (lv_at hl 0 rfl) ?_
  refine lv_iload_n hx hb dX3_proof_1 rfl (lv_at hl 1 rfl) ?_
  refine va_csq (va_Run.run (va_runV (As := [.int x1]) (rest := []) ⟨hx, hb, hml, hown, hts⟩ (mt_claimNumbered l dC dI cA Q σ n co L f ad hR x1) (cwV 1 hts (al_gV wd_105 wd_107 wd_106 wd_1 wd_108) rfl rfl rfl (by decide +kernel) ⟨Nat.le_of_ble_eq_true rfl, Nat.le_of_ble_eq_true rfl⟩) ⟨ct_blR, va_recv hK hP (ci := 3) (q0 := 0) rfl (xc_W_0 _ _), ct_atR hP hK⟩ rfl rfl hl.1 rfl (lv_room (Nat.le_of_ble_eq_true rfl)) dX3_proof_2 ⟨Nat.le_of_ble_eq_true rfl, Nat.le_of_ble_eq_true rfl⟩)) (fun r2 hr2 => ?_)
  rcases hr2 with ⟨j2, hj2, hm2, ex2, rfl⟩ | ⟨hm2, rfl⟩
  · have hC1 := hR.2.2.1 j2 hj2
    have hC1v := hR.2.2.2.2.1.2.1 j2 hj2
    have hC1a : f (ad.2.2.1 j2) = .inr (0, [.int (nI (j2 + 1)), .int (co.2.1 6 j2), .ref (ad.1 (co.1 0 j2)), .int (co.2.1 7 j2), .int (co.2.1 8 j2), .int (co.2.1 9 j2), .int (co.2.1 10 j2), .int (co.2.1 11 j2), .int (co.2.1 12 j2), .int (co.2.1 13 j2), .int (co.2.1 14 j2), .int (co.2.1 15 j2), .long (co.2.2.1 2 j2)]) := hC1.2.2
    have hI2 := hR.2.1 (co.1 0 j2) hC1v.1
    have hI2a : f (ad.1 (co.1 0 j2)) = .inr (1, [.int (co.2.1 0 (co.1 0 j2)), .long (co.2.2.1 0 (co.1 0 j2)), .long (co.2.2.1 1 (co.1 0 j2)), .int (co.2.1 1 (co.1 0 j2)), .int (co.2.1 2 (co.1 0 j2)), .ref (ad.2.1 (co.1 0 j2)), .int (co.2.1 3 (co.1 0 j2)), .int (co.2.1 4 (co.1 0 j2)), .int (co.2.1 5 (co.1 0 j2))]) := hI2.2.2.1
    have hI2p : f (ad.2.1 (co.1 0 j2)) = .inl ((cA 0), 8, .inl (co.2.2.2 (co.1 0 j2))) := hI2.2.2.2.2
    refine lv_astore_n (lv' := [(3, .ref (ad.2.2.1 j2)), (0, .ref (Q 0)), (1, .int x1), (2, .int x2)]) hx hb dX3_proof_5 rfl hl (by decide) rfl (fun ls hl => ?_)
    refine lv_aload_n hx hb dX3_proof_6 rfl (lv_at hl 0 rfl) ?_
    refine lv_ifnonnull (tgt := 13) hx hb dX3_proof_7 (by decide) ?_
    refine lv_iload_n hx hb dX3_proof_13 rfl (lv_at hl 3 rfl) ?_
    refine lv_iconst (v := 4) hx hb dX3_proof_14 (by decide) ?_
    refine vp_callSi (va_Run.run (va_runS (As := [.int x2, .int 4]) (rest := []) ⟨hx, hb, hml, hown, hts⟩ (mt_isBelow l x2 4) (va_cwS 2 hts (al_gS wd_41 wd_42 wd_1 wd_43) rfl rfl rfl (by decide +kernel) ⟨Nat.le_of_ble_eq_true rfl, Nat.le_of_ble_eq_true rfl⟩) ⟨ct_bl0, ct_at0⟩ rfl rfl hl.1 rfl (lv_room (Nat.le_of_ble_eq_true rfl)) dX3_proof_15 ⟨Nat.le_of_ble_eq_true rfl, Nat.le_of_ble_eq_true rfl⟩)) (fun r15 hr15 => ?_)
    subst hr15
    refine lv_if_ne (tgt := 24) hx hb dX3_proof_18 (by decide) (fun c18 => ?_) (fun c18 => ?_)
    · have c18 := of_decide_eq_true (bb_n.mp c18)
      refine lv_iconst (v := 1) hx hb dX3_proof_24 (by decide) ?_
      refine lv_iload_n hx hb dX3_proof_25 rfl (lv_at hl 3 rfl) ?_
      refine lv_ishl hx hb dX3_proof_26 ?_
      refine lv_istore (lv' := [(4, .int ((1 : Int32) <<< (x2 &&& 31))), (3, .ref (ad.2.2.1 j2)), (0, .ref (Q 0)), (1, .int x1), (2, .int x2)]) hx hb dX3_proof_27 hl (by decide) rfl (fun ls hl => ?_)
      refine lv_aload_n hx hb dX3_proof_29 rfl (lv_at hl 1 rfl) ?_
      refine hp_get (D := (dC, dI)) (ci := 0) (v := .int (co.2.1 9 j2)) (C := RX0) (T := TX0) (N := 13) hx hb hts in0 hown hK hP hC1.2.1 hC1a rfl 5 (by decide) lk0 (fun _ h9 => h9) rfl dX3_proof_30 ?_
      refine lv_if_ne (tgt := 46) hx hb dX3_proof_33 (by decide) (fun c33 => ?_) (fun c33 => ?_)
      · refine lv_bipush (v := (-103)) hx hb dX3_proof_46 (by decide) ?_
        exact W.iret (v := (-103)) hx hb hr (fun t ht hW => ⟨⟨(-103), (σ, co), rfl, (by simp only [kc_proof, hm2, if_pos c18, if_neg c33, Option.elim, hn0, hn1, hn2]), σ.2.2.2.2, n, L, f, ad, Nat.le_succ _, hR, by rw [ht]; exact hP, va_K.moved hW.alike hK, hD⟩, hS.F ht⟩) hS.2.2 dX3_proof_48
      · refine lv_aload_n hx hb dX3_proof_36 rfl (lv_at hl 1 rfl) ?_
        refine hp_get (D := (dC, dI)) (ci := 0) (v := .int (co.2.1 10 j2)) (C := RX0) (T := TX0) (N := 13) hx hb hts in0 hown hK hP hC1.2.1 hC1a rfl 6 (by decide) lk1 (fun _ h9 => h9) rfl dX3_proof_37 ?_
        refine lv_iload hx hb dX3_proof_40 (lv_at hl 0 rfl) ?_
        refine lv_iand hx hb dX3_proof_42 ?_
        refine lv_if_ne (tgt := 49) hx hb dX3_proof_43 (by decide) (fun c43 => ?_) (fun c43 => ?_)
        · refine lv_aload_n hx hb dX3_proof_49 rfl (lv_at hl 1 rfl) ?_
          refine lv_dup hx hb dX3_proof_50 rfl ?_
          refine hp_get (D := (dC, dI)) (ci := 0) (v := .int (co.2.1 10 j2)) (C := RX0) (T := TX0) (N := 13) hx hb hts in0 hown hK hP hC1.2.1 hC1a rfl 6 (by decide) lk1 (fun _ h9 => h9) rfl dX3_proof_51 ?_
          refine lv_iload hx hb dX3_proof_54 (lv_at hl 0 rfl) ?_
          refine lv_iconst (v := (-1)) hx hb dX3_proof_56 (by decide) ?_
          refine lv_ixor hx hb dX3_proof_57 ?_
          refine lv_iand hx hb dX3_proof_58 ?_
          refine hp_put (D := (dC, dI)) (ci := 0) (v := .int ((co.2.1 10 j2) &&& (((1 : Int32) <<< (x2 &&& 31)) ^^^ (-1)))) (ty := .int) (C := RX0) (T := TX0) (N := 13) hx hb hts in0 tyX0 tyX0_ok nmX0 hown hK hP hD hS hC1.2.1 hC1a rfl 6 (by decide) lk1 (fun _ h9 => h9) rfl (by decide +kernel) rfl rfl (Nat.le_of_ble_eq_true rfl) dX3_proof_59 (fs' := [.int (nI (j2 + 1)), .int (co.2.1 6 j2), .ref (ad.1 (co.1 0 j2)), .int (co.2.1 7 j2), .int (co.2.1 8 j2), .int (co.2.1 9 j2), .int ((co.2.1 10 j2) &&& (((1 : Int32) <<< (x2 &&& 31)) ^^^ (-1))), .int (co.2.1 11 j2), .int (co.2.1 12 j2), .int (co.2.1 13 j2), .int (co.2.1 14 j2), .int (co.2.1 15 j2), .long (co.2.2.1 2 j2)]) rfl (fun H locs hP hD hS => ?_)
          obtain ⟨f_1, ef_1⟩ : ∃ y9, y9 = va_up f (ad.2.2.1 j2) (.inr (0, [.int (nI (j2 + 1)), .int (co.2.1 6 j2), .ref (ad.1 (co.1 0 j2)), .int (co.2.1 7 j2), .int (co.2.1 8 j2), .int (co.2.1 9 j2), .int ((co.2.1 10 j2) &&& (((1 : Int32) <<< (x2 &&& 31)) ^^^ (-1))), .int (co.2.1 11 j2), .int (co.2.1 12 j2), .int (co.2.1 13 j2), .int (co.2.1 14 j2), .int (co.2.1 15 j2), .long (co.2.2.1 2 j2)])) := ⟨_, rfl⟩
          rw [← ef_1] at hP hD
          have hf_1_ad1co10j2 : f_1 (ad.1 (co.1 0 j2)) = .inr (1, [.int (co.2.1 0 (co.1 0 j2)), .long (co.2.2.1 0 (co.1 0 j2)), .long (co.2.2.1 1 (co.1 0 j2)), .int (co.2.1 1 (co.1 0 j2)), .int (co.2.1 2 (co.1 0 j2)), .ref (ad.2.1 (co.1 0 j2)), .int (co.2.1 3 (co.1 0 j2)), .int (co.2.1 4 (co.1 0 j2)), .int (co.2.1 5 (co.1 0 j2))]) := by rw [ef_1, va_up_ne _ _ (ct_ne hI2a hC1a (by simp))]; exact hI2a
          have hf_1_ad21co10j2 : f_1 (ad.2.1 (co.1 0 j2)) = .inl ((cA 0), 8, .inl (co.2.2.2 (co.1 0 j2))) := by rw [ef_1, va_up_ne _ _ (ct_ne hI2p hC1a (by simp))]; exact hI2p
          have hf_1_ad221j2 : f_1 (ad.2.2.1 j2) = .inr (0, [.int (nI (j2 + 1)), .int (co.2.1 6 j2), .ref (ad.1 (co.1 0 j2)), .int (co.2.1 7 j2), .int (co.2.1 8 j2), .int (co.2.1 9 j2), .int ((co.2.1 10 j2) &&& (((1 : Int32) <<< (x2 &&& 31)) ^^^ (-1))), .int (co.2.1 11 j2), .int (co.2.1 12 j2), .int (co.2.1 13 j2), .int (co.2.1 14 j2), .int (co.2.1 15 j2), .long (co.2.2.1 2 j2)]) := by rw [ef_1]; exact va_up_self _ _ _
          refine lv_aload_n hx hb dX3_proof_62 rfl (lv_at hl 1 rfl) ?_
          refine hp_get (D := (dC, dI)) (ci := 0) (v := .int ((co.2.1 10 j2) &&& (((1 : Int32) <<< (x2 &&& 31)) ^^^ (-1)))) (C := RX0) (T := TX0) (N := 13) hx hb hts in0 hown hK hP hC1.2.1 hf_1_ad221j2 rfl 6 (by decide) lk1 (fun _ h9 => h9) rfl dX3_proof_63 ?_
          refine vp_callSi (va_Run.run (va_runS (As := [.int ((co.2.1 10 j2) &&& (((1 : Int32) <<< (x2 &&& 31)) ^^^ (-1)))]) (rest := []) ⟨hx, hb, hml, hown, hts⟩ (mt_bitCount l ((co.2.1 10 j2) &&& (((1 : Int32) <<< (x2 &&& 31)) ^^^ (-1))) (an_17 (hR.2.2.2.2.1.2.1 j2 hj2).2.2.2 _)) (va_cwS 1 hts (al_gS wd_149 wd_150 wd_5 wd_151) rfl rfl rfl (by decide +kernel) ⟨Nat.le_of_ble_eq_true rfl, Nat.le_of_ble_eq_true rfl⟩) ⟨ct_bl0, ct_at0⟩ rfl rfl hl.1 rfl (lv_room (Nat.le_of_ble_eq_true rfl)) dX3_proof_66 ⟨Nat.le_of_ble_eq_true rfl, Nat.le_of_ble_eq_true rfl⟩)) (fun r66 hr66 => ?_)
          subst hr66
          refine lv_istore (lv' := [(5, .int (bi_ct ((co.2.1 10 j2) &&& (((1 : Int32) <<< (x2 &&& 31)) ^^^ (-1))))), (4, .int ((1 : Int32) <<< (x2 &&& 31))), (3, .ref (ad.2.2.1 j2)), (0, .ref (Q 0)), (1, .int x1), (2, .int x2)]) hx hb dX3_proof_69 hl (by decide) rfl (fun ls hl => ?_)
          refine lv_iload hx hb dX3_proof_71 (lv_at hl 0 rfl) ?_
          refine lv_if_le (tgt := 82) hx hb dX3_proof_73 (by decide) (fun c73 => ?_) (fun c73 => ?_)
          · refine lv_iload hx hb dX3_proof_82 (lv_at hl 0 rfl) ?_
            exact W.iret (v := (bi_ct ((co.2.1 10 j2) &&& (((1 : Int32) <<< (x2 &&& 31)) ^^^ (-1))))) hx hb hr (fun t ht hW => ⟨⟨(bi_ct ((co.2.1 10 j2) &&& (((1 : Int32) <<< (x2 &&& 31)) ^^^ (-1)))), (σ, co_g co (up_2 co.2.1 10 j2 (pr_lk co j2 x2))), rfl, (by simp only [kc_proof, hm2, if_pos c18, if_pos c33, if_neg c43, Option.elim, if_neg (show ¬ 0 < bi_ct (pr_lk co j2 x2) from Int32.not_lt.mpr c73)]; rfl), σ.2.2.2.2, n, L, f_1, ad, Nat.le_succ _, by rw [ef_1]; exact re_setC hR hj2 (pf_ag (hR.2.2.2.2.1.2.1 j2 hj2).2.2.2 _) (pf_ce _ _ _ _), by rw [ht]; exact hP, va_K.moved hW.alike hK, hD⟩, hS.F ht⟩) hS.2.2 dX3_proof_84
          · refine lv_aload_n hx hb dX3_proof_76 rfl (lv_at hl 3 rfl) ?_
            refine lv_iload_n hx hb dX3_proof_77 rfl (lv_at hl 4 rfl) ?_
            refine lv_iconst (v := 2) hx hb dX3_proof_78 (by decide) ?_
            have hFc := ct_free hD hS hA
            refine va_callv (va_runV (As := [.int x1, .int 2]) (rest := []) ⟨hx, hb, hml, hown, hts⟩ (mt_send l dC dI cA H.size Q σ L f_1 n.2.2.2 (show (σ).1 3 = nI n.2.2.2 from hR.1.2.2.2.2.2.2) (by omega) x1 2) (cwV 2 hts (al_gV wd_141 wd_143 wd_142 wd_1 wd_144) rfl rfl rfl (by decide +kernel) ⟨Nat.le_of_ble_eq_true rfl, Nat.le_of_ble_eq_true rfl⟩) ⟨ct_blM, va_recv hK hP (ci := 3) (q0 := 0) rfl (xc_W_0 _ _), ct_atM hP hK hD⟩ rfl rfl hl.1 rfl (lv_room (Nat.le_of_ble_eq_true rfl)) dX3_proof_79 ⟨Nat.le_of_ble_eq_true rfl, Nat.le_of_ble_eq_true rfl⟩) hS (fun q _ h => hFc q h) hFc (fun u79 t H1 locs ht hvm hr79 hB hz1 hk1 hS => ?_)
            obtain ⟨hP, -, hD1⟩ := hB
            rw [ht] at hP
            have hD := hD1.weaken (fun _ _ _ h => hFc _ h)
            clear hD1 hk1 hz1 hFc hvm
            generalize H1 = H at hP hS ht ⊢
            clear ht
            refine W.widen (k := 0) (n := 0) (by decide) (by decide) ?_
            subst hr79
            have hP : va_P (dC, dI) vwCl (xc_W Q cA (se_nd σ x1 2) ++ va_pl L f_1) H := hP
            have hD : va_D A (xc_W Q cA (se_nd σ x1 2) ++ va_pl L f_1) := hD
            refine lv_iload hx hb dX3_proof_82 (lv_at hl 0 rfl) ?_
            exact W.iret (v := (bi_ct ((co.2.1 10 j2) &&& (((1 : Int32) <<< (x2 &&& 31)) ^^^ (-1))))) hx hb hr (fun t ht hW => ⟨⟨(bi_ct ((co.2.1 10 j2) &&& (((1 : Int32) <<< (x2 &&& 31)) ^^^ (-1)))), (se_nd σ x1 2, co_g co (up_2 co.2.1 10 j2 (pr_lk co j2 x2))), rfl, (by simp only [kc_proof, hm2, if_pos c18, if_pos c33, if_neg c43, Option.elim, if_pos (show 0 < bi_ct (pr_lk co j2 x2) from Int32.not_le.mp c73)]; rfl), ((se_nd σ x1 2)).2.2.2.2, (n.1, n.2.1, n.2.2.1, n.2.2.2 + 1), L, f_1, ad, Nat.le_refl _, by rw [ef_1]; exact re_x (re_setC hR hj2 (pf_ag (hR.2.2.2.2.1.2.1 j2 hj2).2.2.2 _) (pf_ce _ _ _ _)) (n.2.2.2 + 1) (sn_0 _ _ _ 0 (by decide)) (sn_0 _ _ _ 1 (by decide)) (sn_0 _ _ _ 2 (by decide)) (sn_3 (σ := σ) (show (σ).1 3 = nI n.2.2.2 from hR.1.2.2.2.2.2.2) _ _) (sn_r _ _ _), by rw [ht]; exact hP, va_K.moved hW.alike hK, hD⟩, hS.F ht⟩) hS.2.2 dX3_proof_84
        · refine lv_bipush (v := (-103)) hx hb dX3_proof_46 (by decide) ?_
          exact W.iret (v := (-103)) hx hb hr (fun t ht hW => ⟨⟨(-103), (σ, co), rfl, (by simp only [kc_proof, hm2, if_pos c18, if_pos c33, if_pos c43, Option.elim, hn0, hn1, hn2]), σ.2.2.2.2, n, L, f, ad, Nat.le_succ _, hR, by rw [ht]; exact hP, va_K.moved hW.alike hK, hD⟩, hS.F ht⟩) hS.2.2 dX3_proof_48
    · have c18 := of_decide_eq_false (bb_0.mp c18)
      refine lv_bipush (v := (-102)) hx hb dX3_proof_21 (by decide) ?_
      exact W.iret (v := (-102)) hx hb hr (fun t ht hW => ⟨⟨(-102), (σ, co), rfl, (by simp only [kc_proof, hm2, if_neg c18, Option.elim, hn0, hn1, hn2]), σ.2.2.2.2, n, L, f, ad, Nat.le_succ _, hR, by rw [ht]; exact hP, va_K.moved hW.alike hK, hD⟩, hS.F ht⟩) hS.2.2 dX3_proof_23
  · skip
    refine lv_astore_nN (lv' := [(3, .null), (0, .ref (Q 0)), (1, .int x1), (2, .int x2)]) hx hb dX3_proof_5 rfl hl (by decide) rfl (fun ls hl => ?_)
    refine lv_aload_nN hx hb dX3_proof_6 rfl (lv_at hl 0 rfl) ?_
    refine lv_ifnonnullN hx hb dX3_proof_7 ?_
    refine lv_bipush (v := (-101)) hx hb dX3_proof_10 (by decide) ?_
    exact W.iret (v := (-101)) hx hb hr (fun t ht hW => ⟨⟨(-101), (σ, co), rfl, (by simp only [kc_proof, hm2, Option.elim, hn0, hn1, hn2]), σ.2.2.2.2, n, L, f, ad, Nat.le_succ _, hR, by rw [ht]; exact hP, va_K.moved hW.alike hK, hD⟩, hS.F ht⟩) hS.2.2 dX3_proof_12
set_option maxHeartbeats 4000000 in
set_option maxRecDepth 100000 in
/-- mt_found -/
theorem mt_found (l : Launch) (dC : Nat → ClassId) (dI : Nat → Nat → Nat) (cA : Nat → ClassId) (sz : Nat) (Q : Nat → Nat) (σ : xs_T) (n : nn_T) (co : co_T) (L : List Nat) (f : Nat → va_E) (ad : ad_T) (hR : re_A cA σ n co L f ad) (hT : n.2.2.2 < 100000) (x1 : Int32) : Met l yX3_found wsX3_found ({ frames := 3, cells := 0, slots := 0, locals := 70 }) (va_Pc [.ref (Q 0), .int x1] (ct_M (dC, dI) vwCl (ty_K cA) (xc_W Q cA σ ++ va_pl L f) sz)) (va_Qi (fun r u => (r, u) = kc_found (σ, co) x1) (fun u t => ∃ (ra : Nat → Nat → Option Nat) (n' : nn_T) (L' : List Nat) (f' : Nat → va_E) (ad' : ad_T), n'.2.2.2 ≤ n.2.2.2 + 1 ∧ re_A cA (xs_r u.1 ra) n' u.2 L' f' ad' ∧ ct_B (dC, dI) vwCl (ty_K cA) (va_A (xc_W Q cA σ ++ va_pl L f) sz) (xc_W Q cA (xs_r u.1 ra) ++ va_pl L' f') t) (va_A (xc_W Q cA σ ++ va_pl L f) sz)) 0 0 (va_A (xc_W Q cA σ ++ va_pl L f) sz) := by
  refine Met.ofW (cc := cX3_found) (maxL := 4) (ret := (some .int)) (by decide) rfl ?_
  intro p e s m args below meth c s₁ B hml hv
  obtain ⟨rfl, hsz, hP, hK, hD0⟩ := hv
  have hx := B.exec
  have hb := B.bytes
  have hr := B.returns
  have hts := atoms_spec (ws := wsX3_found) B.pre
  have hown : s.vm.findClass RX3 = some m.cls := findClass_of_methodNamed B.named
  have hlocks := B.notSynchronized
  subst hsz
  have hD := hD0.self (sz := s.heap.size)
  generalize hAe : va_A (xc_W Q cA σ ++ va_pl L f) s.heap.size = A at hD ⊢
  have hA : ∀ q : Nat, s.heap.size ≤ q → A q := fun q h => by rw [← hAe]; exact Or.inr h
  clear hAe hD0
  have hS : va_S A s.heap s.heap [] := va_S.rf
  have hl := lv_entry ([.ref (Q 0), .int x1]) (n := 4) (Nat.le_of_ble_eq_true rfl)
  rw [lg_entry_eq]
  generalize (lg_sl ([.ref (Q 0), .int x1]) ++ List.replicate (4 - (lg_sl ([.ref (Q 0), .int x1])).length) Slot.unset).toArray = ls at hl ⊢
  have hl : lv_has ls 4 [(0, .ref (Q 0)), (1, .int x1)] := hl
  have lk0 := hts (.fieldLink RX3 120 "ClaimRows$Claim" "state" "I") (List.mem_cons_of_mem _ wd_129)
  have lk1 := hts (.fieldLink RX3 196 "ClaimRows$Item" "isFound" "Z") (List.mem_cons_of_mem _ wd_71)
  have lk2 := hts (.fieldLink RX3 199 "ClaimRows$Claim" "number" "I") (List.mem_cons_of_mem _ wd_119)
  have in0 : ∀ w ∈ u_ws RX0 TX0 13, w ∈ wsX3_found := fun w h => List.mem_cons_of_mem _ (wu_X0 w h)
  have in1 : ∀ w ∈ u_ws RX1 TX1 9, w ∈ wsX3_found := fun w h => List.mem_cons_of_mem _ (wu_X1 w h)
  have hn0 : (σ.1 0).toNatClampNeg = n.1 := by rw [hR.1.1]; exact nI_clamp (by have := hR.1.2.1; omega)
  have hn1 : (σ.1 1).toNatClampNeg = n.2.1 := by rw [hR.1.2.2.1]; exact nI_clamp (by have := hR.1.2.2.2.1; omega)
  have hn2 : (σ.1 2).toNatClampNeg = n.2.2.1 := by rw [hR.1.2.2.2.2.1]; exact nI_clamp (by have := hR.1.2.2.2.2.2.1; omega)
  refine lv_aload_n hx hb dX3_found_0 rfl (lv_at hl 0 rfl) ?_
  refine lv_iload_n hx hb dX3_found_1 rfl (lv_at hl 1 rfl) ?_
  refine va_csq (va_Run.run (va_runV (As := [.int x1]) (rest := []) ⟨hx, hb, hml, hown, hts⟩ (mt_itemNumbered l dC dI cA Q σ n co L f ad hR x1) (cwV 1 hts (al_gV wd_76 wd_78 wd_77 wd_1 wd_79) rfl rfl rfl (by decide +kernel) ⟨Nat.le_of_ble_eq_true rfl, Nat.le_of_ble_eq_true rfl⟩) ⟨ct_blR, va_recv hK hP (ci := 3) (q0 := 0) rfl (xc_W_0 _ _), ct_atR hP hK⟩ rfl rfl hl.1 rfl (lv_room (Nat.le_of_ble_eq_true rfl)) dX3_found_2 ⟨Nat.le_of_ble_eq_true rfl, Nat.le_of_ble_eq_true rfl⟩)) (fun r2 hr2 => ?_)
  rcases hr2 with ⟨j2, hj2, hm2, ex2, rfl⟩ | ⟨hm2, rfl⟩
  · have hI1 := hR.2.1 j2 hj2
    have hI1a : f (ad.1 j2) = .inr (1, [.int (co.2.1 0 j2), .long (co.2.2.1 0 j2), .long (co.2.2.1 1 j2), .int (co.2.1 1 j2), .int (co.2.1 2 j2), .ref (ad.2.1 j2), .int (co.2.1 3 j2), .int (co.2.1 4 j2), .int (co.2.1 5 j2)]) := hI1.2.2.1
    have hI1p : f (ad.2.1 j2) = .inl ((cA 0), 8, .inl (co.2.2.2 j2)) := hI1.2.2.2.2
    refine lv_astore_n (lv' := [(2, .ref (ad.1 j2)), (0, .ref (Q 0)), (1, .int x1)]) hx hb dX3_found_5 rfl hl (by decide) rfl (fun ls hl => ?_)
    refine lv_aload_n hx hb dX3_found_6 rfl (lv_at hl 0 rfl) ?_
    refine lv_ifnonnull (tgt := 13) hx hb dX3_found_7 (by decide) ?_
    refine lv_aload_n hx hb dX3_found_13 rfl (lv_at hl 1 rfl) ?_
    refine lv_iload_n hx hb dX3_found_14 rfl (lv_at hl 2 rfl) ?_
    refine lv_iconst (v := 0) hx hb dX3_found_15 (by decide) ?_
    refine va_csq (va_Run.run (va_runV (As := [.int x1, .int 0]) (rest := []) ⟨hx, hb, hml, hown, hts⟩ (mt_standingClaim l dC dI cA Q σ n co L f ad hR x1 0) (cwV 2 hts (al_gV wd_101 wd_103 wd_102 wd_1 wd_104) rfl rfl rfl (by decide +kernel) ⟨Nat.le_of_ble_eq_true rfl, Nat.le_of_ble_eq_true rfl⟩) ⟨ct_blR, va_recv hK hP (ci := 3) (q0 := 0) rfl (xc_W_0 _ _), ct_atR hP hK⟩ rfl rfl hl.1 rfl (lv_room (Nat.le_of_ble_eq_true rfl)) dX3_found_16 ⟨Nat.le_of_ble_eq_true rfl, Nat.le_of_ble_eq_true rfl⟩)) (fun r16 hr16 => ?_)
    rcases hr16 with ⟨j16, hj16, hm16, rfl⟩ | ⟨hm16, rfl⟩
    · have hC2 := hR.2.2.1 j16 hj16
      have hC2v := hR.2.2.2.2.1.2.1 j16 hj16
      have hC2a : f (ad.2.2.1 j16) = .inr (0, [.int (nI (j16 + 1)), .int (co.2.1 6 j16), .ref (ad.1 (co.1 0 j16)), .int (co.2.1 7 j16), .int (co.2.1 8 j16), .int (co.2.1 9 j16), .int (co.2.1 10 j16), .int (co.2.1 11 j16), .int (co.2.1 12 j16), .int (co.2.1 13 j16), .int (co.2.1 14 j16), .int (co.2.1 15 j16), .long (co.2.2.1 2 j16)]) := hC2.2.2
      have hI3 := hR.2.1 (co.1 0 j16) hC2v.1
      have hI3a : f (ad.1 (co.1 0 j16)) = .inr (1, [.int (co.2.1 0 (co.1 0 j16)), .long (co.2.2.1 0 (co.1 0 j16)), .long (co.2.2.1 1 (co.1 0 j16)), .int (co.2.1 1 (co.1 0 j16)), .int (co.2.1 2 (co.1 0 j16)), .ref (ad.2.1 (co.1 0 j16)), .int (co.2.1 3 (co.1 0 j16)), .int (co.2.1 4 (co.1 0 j16)), .int (co.2.1 5 (co.1 0 j16))]) := hI3.2.2.1
      have hI3p : f (ad.2.1 (co.1 0 j16)) = .inl ((cA 0), 8, .inl (co.2.2.2 (co.1 0 j16))) := hI3.2.2.2.2
      refine lv_astore_n (lv' := [(3, .ref (ad.2.2.1 j16)), (2, .ref (ad.1 j2)), (0, .ref (Q 0)), (1, .int x1)]) hx hb dX3_found_19 rfl hl (by decide) rfl (fun ls hl => ?_)
      refine lv_aload_n hx hb dX3_found_20 rfl (lv_at hl 0 rfl) ?_
      refine lv_ifnull hx hb dX3_found_21 ?_
      refine lv_aload_n hx hb dX3_found_24 rfl (lv_at hl 0 rfl) ?_
      refine hp_get (D := (dC, dI)) (ci := 0) (v := .int (co.2.1 9 j16)) (C := RX0) (T := TX0) (N := 13) hx hb hts in0 hown hK hP hC2.2.1 hC2a rfl 5 (by decide) lk0 (fun _ h9 => h9) rfl dX3_found_25 ?_
      refine lv_iconst (v := 1) hx hb dX3_found_28 (by decide) ?_
      refine lv_icmp_ne (tgt := 39) hx hb dX3_found_29 (by decide) (fun c29 => ?_) (fun c29 => ?_)
      · refine lv_bipush (v := (-103)) hx hb dX3_found_39 (by decide) ?_
        exact W.iret (v := (-103)) hx hb hr (fun t ht hW => ⟨⟨(-103), (σ, co), rfl, (by simp only [kc_found, hm2, hm16, if_neg c29, Option.elim, hn0, hn1, hn2]), σ.2.2.2.2, n, L, f, ad, Nat.le_succ _, hR, by rw [ht]; exact hP, va_K.moved hW.alike hK, hD⟩, hS.F ht⟩) hS.2.2 dX3_found_41
      · refine lv_aload_n hx hb dX3_found_32 rfl (lv_at hl 1 rfl) ?_
        refine hp_get (D := (dC, dI)) (ci := 1) (v := .int (co.2.1 5 j2)) (C := RX1) (T := TX1) (N := 9) hx hb hts in1 hown hK hP hI1.2.1 hI1a rfl 8 (by decide) lk1 (fun _ h9 => h9) rfl dX3_found_33 ?_
        refine lv_if_eq (tgt := 42) hx hb dX3_found_36 (by decide) (fun c36 => ?_) (fun c36 => ?_)
        · refine lv_aload_n hx hb dX3_found_42 rfl (lv_at hl 1 rfl) ?_
          refine lv_iconst (v := 1) hx hb dX3_found_43 (by decide) ?_
          refine hp_put (D := (dC, dI)) (ci := 1) (v := .int 1) (ty := .boolean) (C := RX1) (T := TX1) (N := 9) hx hb hts in1 tyX1 tyX1_ok nmX1 hown hK hP hD hS hI1.2.1 hI1a rfl 8 (by decide) lk1 (fun _ h9 => h9) rfl (by decide +kernel) (by decide) rfl (Nat.le_of_ble_eq_true rfl) dX3_found_44 (fs' := [.int (co.2.1 0 j2), .long (co.2.2.1 0 j2), .long (co.2.2.1 1 j2), .int (co.2.1 1 j2), .int (co.2.1 2 j2), .ref (ad.2.1 j2), .int (co.2.1 3 j2), .int (co.2.1 4 j2), .int 1]) rfl (fun H locs hP hD hS => ?_)
          obtain ⟨f_1, ef_1⟩ : ∃ y9, y9 = va_up f (ad.1 j2) (.inr (1, [.int (co.2.1 0 j2), .long (co.2.2.1 0 j2), .long (co.2.2.1 1 j2), .int (co.2.1 1 j2), .int (co.2.1 2 j2), .ref (ad.2.1 j2), .int (co.2.1 3 j2), .int (co.2.1 4 j2), .int 1])) := ⟨_, rfl⟩
          rw [← ef_1] at hP hD
          have hf_1_ad21j2 : f_1 (ad.2.1 j2) = .inl ((cA 0), 8, .inl (co.2.2.2 j2)) := by rw [ef_1, va_up_ne _ _ (ct_ne hI1p hI1a (by simp))]; exact hI1p
          have hf_1_ad221j16 : f_1 (ad.2.2.1 j16) = .inr (0, [.int (nI (j16 + 1)), .int (co.2.1 6 j16), .ref (ad.1 (co.1 0 j16)), .int (co.2.1 7 j16), .int (co.2.1 8 j16), .int (co.2.1 9 j16), .int (co.2.1 10 j16), .int (co.2.1 11 j16), .int (co.2.1 12 j16), .int (co.2.1 13 j16), .int (co.2.1 14 j16), .int (co.2.1 15 j16), .long (co.2.2.1 2 j16)]) := by rw [ef_1, va_up_ne _ _ (ct_ne hC2a hI1a (by simp))]; exact hC2a
          have hf_1_ad21co10j16 : f_1 (ad.2.1 (co.1 0 j16)) = .inl ((cA 0), 8, .inl (co.2.2.2 (co.1 0 j16))) := by rw [ef_1, va_up_ne _ _ (ct_ne hI3p hI1a (by simp))]; exact hI3p
          have hf_1_ad1j2 : f_1 (ad.1 j2) = .inr (1, [.int (co.2.1 0 j2), .long (co.2.2.1 0 j2), .long (co.2.2.1 1 j2), .int (co.2.1 1 j2), .int (co.2.1 2 j2), .ref (ad.2.1 j2), .int (co.2.1 3 j2), .int (co.2.1 4 j2), .int 1]) := by rw [ef_1]; exact va_up_self _ _ _
          refine lv_aload_n hx hb dX3_found_47 rfl (lv_at hl 0 rfl) ?_
          refine hp_get (D := (dC, dI)) (ci := 0) (v := .int (nI (j16 + 1))) (C := RX0) (T := TX0) (N := 13) hx hb hts in0 hown hK hP hC2.2.1 hf_1_ad221j16 rfl 0 (by decide) lk2 (fun _ h9 => h9) rfl dX3_found_48 ?_
          exact W.iret (v := (nI (j16 + 1))) hx hb hr (fun t ht hW => ⟨⟨(nI (j16 + 1)), (σ, co_g co (up_2 co.2.1 5 j2 1)), rfl, (by simp only [kc_found, hm2, hm16, if_pos c29, if_pos c36, Option.elim, hn1]), σ.2.2.2.2, n, L, f_1, ad, Nat.le_succ _, re_setI hR hj2 (fo_ag (hR.2.2.2.2.1.1 j2 hj2).2) (by rw [hf_1_ad1j2]; exact (fo_ce _ _ _).symm) (by rw [ef_1, va_up_ne _ _ (ct_ne (hR.2.1 j2 hj2).2.2.2.2 (hR.2.1 j2 hj2).2.2.1 ce_PI)]; exact (hR.2.1 j2 hj2).2.2.2.2) (fun z h1 h2 => by rw [ef_1, va_up_ne _ _ h1]), by rw [ht]; exact hP, va_K.moved hW.alike hK, hD⟩, hS.F ht⟩) hS.2.2 dX3_found_51
        · refine lv_bipush (v := (-103)) hx hb dX3_found_39 (by decide) ?_
          exact W.iret (v := (-103)) hx hb hr (fun t ht hW => ⟨⟨(-103), (σ, co), rfl, (by simp only [kc_found, hm2, hm16, if_pos c29, if_neg c36, Option.elim, hn0, hn1, hn2]), σ.2.2.2.2, n, L, f, ad, Nat.le_succ _, hR, by rw [ht]; exact hP, va_K.moved hW.alike hK, hD⟩, hS.F ht⟩) hS.2.2 dX3_found_41
    · skip
      refine lv_astore_nN (lv' := [(3, .null), (2, .ref (ad.1 j2)), (0, .ref (Q 0)), (1, .int x1)]) hx hb dX3_found_19 rfl hl (by decide) rfl (fun ls hl => ?_)
      refine lv_aload_nN hx hb dX3_found_20 rfl (lv_at hl 0 rfl) ?_
      refine lv_ifnullN (tgt := 39) hx hb dX3_found_21 (by decide) ?_
      refine lv_bipush (v := (-103)) hx hb dX3_found_39 (by decide) ?_
      exact W.iret (v := (-103)) hx hb hr (fun t ht hW => ⟨⟨(-103), (σ, co), rfl, (by simp only [kc_found, hm2, hm16, Option.elim, hn0, hn1, hn2]), σ.2.2.2.2, n, L, f, ad, Nat.le_succ _, hR, by rw [ht]; exact hP, va_K.moved hW.alike hK, hD⟩, hS.F ht⟩) hS.2.2 dX3_found_41
  · skip
    refine lv_astore_nN (lv' := [(2, .null), (0, .ref (Q 0)), (1, .int x1)]) hx hb dX3_found_5 rfl hl (by decide) rfl (fun ls hl => ?_)
    refine lv_aload_nN hx hb dX3_found_6 rfl (lv_at hl 0 rfl) ?_
    refine lv_ifnonnullN hx hb dX3_found_7 ?_
    refine lv_bipush (v := (-101)) hx hb dX3_found_10 (by decide) ?_
    exact W.iret (v := (-101)) hx hb hr (fun t ht hW => ⟨⟨(-101), (σ, co), rfl, (by simp only [kc_found, hm2, Option.elim, hn0, hn1, hn2]), σ.2.2.2.2, n, L, f, ad, Nat.le_succ _, hR, by rw [ht]; exact hP, va_K.moved hW.alike hK, hD⟩, hS.F ht⟩) hS.2.2 dX3_found_12
