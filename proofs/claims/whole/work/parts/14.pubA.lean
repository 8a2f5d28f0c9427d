set_option maxHeartbeats 4000000 in
set_option maxRecDepth 100000 in
/-- mt_item -/
theorem mt_item (l : Launch) (dC : Nat → ClassId) (dI : Nat → Nat → Nat) (cA : Nat → ClassId) (sz : Nat) (Q : Nat → Nat) (σ : xs_T) (n : nn_T) (co : co_T) (L : List Nat) (f : Nat → va_E) (ad : ad_T) (hR : re_A cA σ n co L f ad) (hT : n.2.2.2 < 100000) (x1 : Int32) (x2 x3 : Int64) (x4 x5 : Int32) : Met l yX3_item wsX3_item ({ frames := 2, cells := 2, slots := 17, locals := 46 }) (va_Pc [.ref (Q 0), .int x1, .long x2, .long x3, .int x4, .int x5] (ct_M (dC, dI) vwCl (ty_K cA) (xc_W Q cA σ ++ va_pl L f) sz)) (va_Qi (fun r u => (r, u) = kc_item (σ, co) x1 x2 x3 x4 x5) (fun u t => ∃ (ra : Nat → Nat → Option Nat) (n' : nn_T) (L' : List Nat) (f' : Nat → va_E) (ad' : ad_T), n'.2.2.2 ≤ n.2.2.2 + 1 ∧ re_A cA (xs_r u.1 ra) n' u.2 L' f' ad' ∧ ct_B (dC, dI) vwCl (ty_K cA) (va_A (xc_W Q cA σ ++ va_pl L f) sz) (xc_W Q cA (xs_r u.1 ra) ++ va_pl L' f') t) (va_A (xc_W Q cA σ ++ va_pl L f) sz)) 2 17 (va_A (xc_W Q cA σ ++ va_pl L f) sz) := by
  refine Met.ofW (cc := cX3_item) (maxL := 8) (ret := (some .int)) (by decide) rfl ?_
  intro p e s m args below meth c s₁ B hml hv
  obtain ⟨rfl, hsz, hP, hK, hD0⟩ := hv
  have hx := B.exec
  have hb := B.bytes
  have hr := B.returns
  have hts := atoms_spec (ws := wsX3_item) B.pre
  have hown : s.vm.findClass RX3 = some m.cls := findClass_of_methodNamed B.named
  have hlocks := B.notSynchronized
  subst hsz
  have hD := hD0.self (sz := s.heap.size)
  generalize hAe : va_A (xc_W Q cA σ ++ va_pl L f) s.heap.size = A at hD ⊢
  have hA : ∀ q : Nat, s.heap.size ≤ q → A q := fun q h => by rw [← hAe]; exact Or.inr h
  clear hAe hD0
  have hS : va_S A s.heap s.heap [] := va_S.rf
  have hl := lv_entry ([.ref (Q 0), .int x1, .long x2, .long x3, .int x4, .int x5]) (n := 8) (Nat.le_of_ble_eq_true rfl)
  rw [lg_entry_eq]
  generalize (lg_sl ([.ref (Q 0), .int x1, .long x2, .long x3, .int x4, .int x5]) ++ List.replicate (8 - (lg_sl ([.ref (Q 0), .int x1, .long x2, .long x3, .int x4, .int x5])).length) Slot.unset).toArray = ls at hl ⊢
  have hl : lv_has ls 8 [(0, .ref (Q 0)), (1, .int x1), (2, .long x2), (4, .long x3), (6, .int x4), (7, .int x5)] := hl
  have lk0 := hts (.constantLong RX3 52 100000) (List.mem_cons_of_mem _ wd_51)
  have lk1 := hts (.fieldLink RX3 58 "ClaimRows" "itemCount" "I") (List.mem_cons_of_mem _ wd_20)
  have lk2 := hts (.fieldLink RX3 11 "ClaimRows" "items" "[LClaimRows$Item;") (List.mem_cons_of_mem _ wd_19)
  have lk3 := hts (.classLink RX3 9 RX1) (List.mem_cons_of_mem _ wd_16)
  have lk4 := hts (.instantiable RX1 9) (List.mem_cons_of_mem _ wd_52)
  have lk5 := hts (.initialized RX1) (List.mem_cons_of_mem _ wd_3)
  have lk6 := hts (.methodLink RX3 62 yX1_init) (List.mem_cons_of_mem _ wd_53)
  have lk7 := hts (.instanceMethod yX1_init) (List.mem_cons_of_mem _ wd_54)
  have in0 : ∀ w ∈ u_ws RX3 TX3 16, w ∈ wsX3_item := fun w h => List.mem_cons_of_mem _ (wu_X3 w h)
  have in1 : ∀ w ∈ u_ws RX1 TX1 9, w ∈ wsX3_item := fun w h => List.mem_cons_of_mem _ (wu_X1 w h)
  have hn0 : (σ.1 0).toNatClampNeg = n.1 := by rw [hR.1.1]; exact nI_clamp (by have := hR.1.2.1; omega)
  have hn1 : (σ.1 1).toNatClampNeg = n.2.1 := by rw [hR.1.2.2.1]; exact nI_clamp (by have := hR.1.2.2.2.1; omega)
  have hn2 : (σ.1 2).toNatClampNeg = n.2.2.1 := by rw [hR.1.2.2.2.2.1]; exact nI_clamp (by have := hR.1.2.2.2.2.2.1; omega)
  refine lv_iload_n hx hb dX3_item_0 rfl (lv_at hl 1 rfl) ?_
  refine lv_iconst (v := 4) hx hb dX3_item_1 (by decide) ?_
  refine vp_callSi (va_Run.run (va_runS (As := [.int x1, .int 4]) (rest := []) ⟨hx, hb, hml, hown, hts⟩ (mt_isBelow l x1 4) (va_cwS 2 hts (al_gS wd_41 wd_42 wd_1 wd_43) rfl rfl rfl (by decide +kernel) ⟨Nat.le_of_ble_eq_true rfl, Nat.le_of_ble_eq_true rfl⟩) ⟨ct_bl0, ct_at0⟩ rfl rfl hl.1 rfl (lv_room (Nat.le_of_ble_eq_true rfl)) dX3_item_2 ⟨Nat.le_of_ble_eq_true rfl, Nat.le_of_ble_eq_true rfl⟩)) (fun r2 hr2 => ?_)
  subst hr2
  refine lv_if_eq (tgt := 23) hx hb dX3_item_5 (by decide) (fun c5 => ?_) (fun c5 => ?_)
  · have c5 := of_decide_eq_false (bb_0.mp c5)
    refine lv_bipush (v := (-102)) hx hb dX3_item_23 (by decide) ?_
    refine W.widen (k := 2) (n := 17) (by decide) (by decide) ?_
    exact W.iret (v := (-102)) hx hb hr (fun t ht hW => ⟨⟨(-102), (σ, co), rfl, (by simp only [kc_item, if_neg c5, Option.elim, hn0, hn1, hn2]), σ.2.2.2.2, n, L, f, ad, Nat.le_succ _, hR, by rw [ht]; exact hP, va_K.moved hW.alike hK, hD⟩, hS.F ht⟩) hS.2.2 dX3_item_25
  · have c5 := of_decide_eq_true (bb_n.mp c5)
    refine lv_lload_n hx hb dX3_item_8 rfl (lv_at hl 2 rfl) ?_
    refine vp_callSi (va_Run.run (va_runS (As := [.long x2]) (rest := []) ⟨hx, hb, hml, hown, hts⟩ (mt_areCents l x2) (va_cwS 1 hts (al_gS wd_44 wd_45 wd_1 wd_46) rfl rfl rfl (by decide +kernel) ⟨Nat.le_of_ble_eq_true rfl, Nat.le_of_ble_eq_true rfl⟩) ⟨ct_bl0, ct_at0⟩ rfl rfl hl.1 rfl (lv_room (Nat.le_of_ble_eq_true rfl)) dX3_item_9 ⟨Nat.le_of_ble_eq_true rfl, Nat.le_of_ble_eq_true rfl⟩)) (fun r9 hr9 => ?_)
    subst hr9
    refine lv_if_eq (tgt := 23) hx hb dX3_item_12 (by decide) (fun c12 => ?_) (fun c12 => ?_)
    · have c12 := of_decide_eq_false (bb_0.mp c12)
      refine lv_bipush (v := (-102)) hx hb dX3_item_23 (by decide) ?_
      refine W.widen (k := 2) (n := 17) (by decide) (by decide) ?_
      exact W.iret (v := (-102)) hx hb hr (fun t ht hW => ⟨⟨(-102), (σ, co), rfl, (by simp only [kc_item, if_pos c5, if_neg c12, Option.elim, hn0, hn1, hn2]), σ.2.2.2.2, n, L, f, ad, Nat.le_succ _, hR, by rw [ht]; exact hP, va_K.moved hW.alike hK, hD⟩, hS.F ht⟩) hS.2.2 dX3_item_25
    · have c12 := of_decide_eq_true (bb_n.mp c12)
      refine lv_lload hx hb dX3_item_15 (lv_at hl 3 rfl) ?_
      refine vp_callSi (va_Run.run (va_runS (As := [.long x3]) (rest := []) ⟨hx, hb, hml, hown, hts⟩ (mt_areCents l x3) (va_cwS 1 hts (al_gS wd_44 wd_45 wd_1 wd_46) rfl rfl rfl (by decide +kernel) ⟨Nat.le_of_ble_eq_true rfl, Nat.le_of_ble_eq_true rfl⟩) ⟨ct_bl0, ct_at0⟩ rfl rfl hl.1 rfl (lv_room (Nat.le_of_ble_eq_true rfl)) dX3_item_17 ⟨Nat.le_of_ble_eq_true rfl, Nat.le_of_ble_eq_true rfl⟩)) (fun r17 hr17 => ?_)
      subst hr17
      refine lv_if_ne (tgt := 26) hx hb dX3_item_20 (by decide) (fun c20 => ?_) (fun c20 => ?_)
      · have c20 := of_decide_eq_true (bb_n.mp c20)
        refine lv_iload hx hb dX3_item_26 (lv_at hl 4 rfl) ?_
        refine lv_i2l (v := (x4 : Int32).toInt64) hx hb dX3_item_28 rfl ?_
        refine lv_lconst (v := 0) hx hb dX3_item_29 (by decide) ?_
        refine lv_ldc2 hx hb hown lk0 dX3_item_30 ?_
        refine vp_callSi (va_Run.run (va_runS (As := [.long ((x4 : Int32).toInt64), .long 0, .long 100000]) (rest := []) ⟨hx, hb, hml, hown, hts⟩ (mt_isWithin l ((x4 : Int32).toInt64) 0 100000) (va_cwS 3 hts (al_gS wd_48 wd_49 wd_1 wd_50) rfl rfl rfl (by decide +kernel) ⟨Nat.le_of_ble_eq_true rfl, Nat.le_of_ble_eq_true rfl⟩) ⟨ct_bl0, ct_at0⟩ rfl rfl hl.1 rfl (lv_room (Nat.le_of_ble_eq_true rfl)) dX3_item_33 ⟨Nat.le_of_ble_eq_true rfl, Nat.le_of_ble_eq_true rfl⟩)) (fun r33 hr33 => ?_)
        subst hr33
        refine lv_if_eq (tgt := 49) hx hb dX3_item_36 (by decide) (fun c36 => ?_) (fun c36 => ?_)
        · have c36 := of_decide_eq_false (bb_0.mp c36)
          refine lv_bipush (v := (-102)) hx hb dX3_item_49 (by decide) ?_
          refine W.widen (k := 2) (n := 17) (by decide) (by decide) ?_
          exact W.iret (v := (-102)) hx hb hr (fun t ht hW => ⟨⟨(-102), (σ, co), rfl, (by simp only [kc_item, if_pos c5, if_pos c12, if_pos c20, if_neg c36, Option.elim, hn0, hn1, hn2]), σ.2.2.2.2, n, L, f, ad, Nat.le_succ _, hR, by rw [ht]; exact hP, va_K.moved hW.alike hK, hD⟩, hS.F ht⟩) hS.2.2 dX3_item_51
        · have c36 := of_decide_eq_true (bb_n.mp c36)
          refine lv_iload hx hb dX3_item_39 (lv_at hl 5 rfl) ?_
          refine lv_bipush (v := 20) hx hb dX3_item_41 (by decide) ?_
          refine vp_callSi (va_Run.run (va_runS (As := [.int x5, .int 20]) (rest := []) ⟨hx, hb, hml, hown, hts⟩ (mt_isBelow l x5 20) (va_cwS 2 hts (al_gS wd_41 wd_42 wd_1 wd_43) rfl rfl rfl (by decide +kernel) ⟨Nat.le_of_ble_eq_true rfl, Nat.le_of_ble_eq_true rfl⟩) ⟨ct_bl0, ct_at0⟩ rfl rfl hl.1 rfl (lv_room (Nat.le_of_ble_eq_true rfl)) dX3_item_43 ⟨Nat.le_of_ble_eq_true rfl, Nat.le_of_ble_eq_true rfl⟩)) (fun r43 hr43 => ?_)
          subst hr43
          refine lv_if_ne (tgt := 52) hx hb dX3_item_46 (by decide) (fun c46 => ?_) (fun c46 => ?_)
          · have c46 := of_decide_eq_true (bb_n.mp c46)
            refine lv_aload_n hx hb dX3_item_52 rfl (lv_at hl 0 rfl) ?_
            refine va_get (D := (dC, dI)) (ci := 3) (v := .int (σ.1 0)) (C := RX3) (T := TX3) (N := 16) hx hb hts in0 hown hK hP 0 (xc_W_0 _ _) rfl 1 (by decide) lk1 (fun _ h9 => h9) rfl dX3_item_53 ?_
            refine lv_bipush (v := 100) hx hb dX3_item_56 (by decide) ?_
            refine lv_icmp_lt (tgt := 64) hx hb dX3_item_58 (by decide) (fun c58 => ?_) (fun c58 => ?_)
            · refine lv_aload_n hx hb dX3_item_64 rfl (lv_at hl 0 rfl) ?_
              refine va_get (D := (dC, dI)) (ci := 3) (v := .ref (Q 1)) (C := RX3) (T := TX3) (N := 16) hx hb hts in0 hown hK hP 0 (xc_W_0 _ _) rfl 0 (by decide) lk2 (fun _ h9 => h9) rfl dX3_item_65 ?_
              refine lv_aload_n hx hb dX3_item_68 rfl (lv_at hl 0 rfl) ?_
              refine va_get (D := (dC, dI)) (ci := 3) (v := .int (σ.1 0)) (C := RX3) (T := TX3) (N := 16) hx hb hts in0 hown hK hP 0 (xc_W_0 _ _) rfl 1 (by decide) lk1 (fun _ h9 => h9) rfl dX3_item_69 ?_
              refine hp_new (ci := 1) (fs := [.int 0, .long 0, .long 0, .int 0, .int 0, .null, .int 0, .int 0, .int 0]) (C := RX1) (T := TX1) (N := 9) hx hb hts in1 tyX1 tyX1_ok hown lk3 lk4 lk5 hK hP hD hS hA rfl (fun j hj => by rcases (show j = 0 ∨ j = 1 ∨ j = 2 ∨ j = 3 ∨ j = 4 ∨ j = 5 ∨ j = 6 ∨ j = 7 ∨ j = 8 by omega) with rfl | rfl | rfl | rfl | rfl | rfl | rfl | rfl | rfl <;> rfl) (Nat.le_of_ble_eq_true rfl) (Nat.le_of_ble_eq_true rfl) dX3_item_72 (fun q72 H hq72 hP hD hS => ?_)
              obtain ⟨f_1, ef_1⟩ : ∃ y9, y9 = va_up f q72 (.inr (1, [.int 0, .long 0, .long 0, .int 0, .int 0, .null, .int 0, .int 0, .int 0])) := ⟨_, rfl⟩
              rw [← ef_1] at hP hD
              have hf_1_q72 : f_1 q72 = .inr (1, [.int 0, .long 0, .long 0, .int 0, .int 0, .null, .int 0, .int 0, .int 0]) := by rw [ef_1]; exact va_up_self _ _ _
              refine W.widen (k := 1) (n := 9) (by decide) (by decide) ?_
              refine lv_dup hx hb dX3_item_75 rfl ?_
              refine lv_iload_n hx hb dX3_item_76 rfl (lv_at hl 1 rfl) ?_
              refine lv_lload_n hx hb dX3_item_77 rfl (lv_at hl 2 rfl) ?_
              refine lv_lload hx hb dX3_item_78 (lv_at hl 3 rfl) ?_
              refine lv_iload hx hb dX3_item_80 (lv_at hl 4 rfl) ?_
              refine lv_iload hx hb dX3_item_82 (lv_at hl 5 rfl) ?_
              have hFc := ct_free hD hS hA
              refine va_callv (va_runI (As := [.int x1, .long x2, .long x3, .int x4, .int x5]) (rest := [.ref q72, .int (σ.1 0), .ref (Q 1)]) ⟨hx, hb, hml, hown, hts⟩ (mt_Item_init l dC dI cA H.size (xc_W Q cA σ) (L ++ [q72]) f_1 q72 (List.mem_append_right _ (List.mem_singleton.mpr rfl)) hf_1_q72 x1 x2 x3 x4 x5) (cwI 5 hts (al_g wd_55) rfl rfl rfl lk5 lk6 lk7 rfl (by decide +kernel) ⟨Nat.le_of_ble_eq_true rfl, Nat.le_of_ble_eq_true rfl⟩) ⟨ct_blM, ct_atM hP hK hD⟩ rfl rfl hl.1 rfl (lv_room (Nat.le_of_ble_eq_true rfl)) dX3_item_84 ⟨Nat.le_of_ble_eq_true rfl, Nat.le_of_ble_eq_true rfl⟩) hS (fun q _ h => hFc q h) hFc (fun u84 t H1 locs ht hvm hr84 hB hz1 hk1 hS => ?_)
              obtain ⟨hP, -, hD1⟩ := hB
              rw [ht] at hP
              have hD := hD1.weaken (fun _ _ _ h => hFc _ h)
              clear hD1 hk1 hz1 hFc hvm
              generalize H1 = H at hP hS ht ⊢
              clear ht
              refine W.widen (k := 2) (n := 17) (by decide) (by decide) ?_
              obtain ⟨p84, hp84, rfl⟩ := hr84
              have hP : va_P (dC, dI) vwCl (xc_W Q cA σ ++ va_pl ((L ++ [q72]) ++ [p84]) (va_up (va_up f_1 p84 (.inl (cA 0, 8, .inl (fun _ => 0)))) q72 (.inr (1, [.int x1, .long x2, .long x3, .int x4, .int x5, .ref p84, .int 0, .int 0, .int 0])))) H := hP
              have hD : va_D A (xc_W Q cA σ ++ va_pl ((L ++ [q72]) ++ [p84]) (va_up (va_up f_1 p84 (.inl (cA 0, 8, .inl (fun _ => 0)))) q72 (.inr (1, [.int x1, .long x2, .long x3, .int x4, .int x5, .ref p84, .int 0, .int 0, .int 0])))) := hD
              obtain ⟨f_2, ef_2⟩ : ∃ y9, y9 = va_up f_1 p84 (.inl ((cA 0), 8, .inl (fun _ => 0))) := ⟨_, rfl⟩
              rw [← ef_2] at hP hD
              have hf_2_q72 : f_2 q72 = .inr (1, [.int 0, .long 0, .long 0, .int 0, .int 0, .null, .int 0, .int 0, .int 0]) := by rw [ef_2, va_up_ne _ _ (ct_nq (List.mem_append_right _ (List.mem_singleton.mpr rfl)) hp84)]; exact hf_1_q72
              have hf_2_p84 : f_2 p84 = .inl ((cA 0), 8, .inl (fun _ => 0)) := by rw [ef_2]; exact va_up_self _ _ _
              obtain ⟨f_3, ef_3⟩ : ∃ y9, y9 = va_up f_2 q72 (.inr (1, [.int x1, .long x2, .long x3, .int x4, .int x5, .ref p84, .int 0, .int 0, .int 0])) := ⟨_, rfl⟩
              rw [← ef_3] at hP hD
              have hf_3_p84 : f_3 p84 = .inl ((cA 0), 8, .inl (fun _ => 0)) := by rw [ef_3, va_up_ne _ _ (Ne.symm (ct_nq (List.mem_append_right _ (List.mem_singleton.mpr rfl)) hp84))]; exact hf_2_p84
              have hf_3_q72 : f_3 q72 = .inr (1, [.int x1, .long x2, .long x3, .int x4, .int x5, .ref p84, .int 0, .int 0, .int 0]) := by rw [ef_3]; exact va_up_self _ _ _
              obtain ⟨k9, hk9⟩ := va_pl_get (X := xc_W Q cA σ) (f := f_3) (List.mem_append_left _ (List.mem_append_right _ (List.mem_singleton.mpr rfl)))
              rw [hf_3_q72] at hk9
              refine va_astq hx hb hK hP hD hS 1 3 k9 1 (xc_W_1 _ _) rfl hk9 rfl (nu_ix hR.1.1 (by have := nu_lt hR.1.1 hR.1.2.1 c58; omega) (by decide)) dX3_item_87 (fun H locs hP hD hS => ?_)
              have hP : va_P (dC, dI) vwCl (xc_W Q cA (xs_ar σ 0 (va_up (σ.2.2.2.2 0) ((σ.1 0)).toNatClampNeg (some q72))) ++ va_pl ((L ++ [q72]) ++ [p84]) f_3) H := hP
              have hD : va_D A (xc_W Q cA (xs_ar σ 0 (va_up (σ.2.2.2.2 0) ((σ.1 0)).toNatClampNeg (some q72))) ++ va_pl ((L ++ [q72]) ++ [p84]) f_3) := hD
              refine lv_aload_n hx hb dX3_item_88 rfl (lv_at hl 0 rfl) ?_
              refine lv_dup hx hb dX3_item_89 rfl ?_
              refine va_get (D := (dC, dI)) (ci := 3) (v := .int (σ.1 0)) (C := RX3) (T := TX3) (N := 16) hx hb hts in0 hown hK hP 0 (xc_W_0 _ _) rfl 1 (by decide) lk1 (fun _ h9 => h9) rfl dX3_item_90 ?_
              refine lv_iconst (v := 1) hx hb dX3_item_93 (by decide) ?_
              refine lv_iadd hx hb dX3_item_94 ?_
              refine va_put (D := (dC, dI)) (ci := 3) (v := .int ((σ.1 0) + 1)) (ty := .int) (C := RX3) (T := TX3) (N := 16) hx hb hts in0 tyX3 tyX3_ok nmX3 hown hK hP hD hS 0 (xc_W_0 _ _) rfl 1 (by decide) lk1 (fun _ h9 => h9) rfl (by decide +kernel) rfl rfl (Nat.le_of_ble_eq_true rfl) dX3_item_95 (fun H locs hP hD hS => ?_)
              have hP : va_P (dC, dI) vwCl (xc_W Q cA (xs_i (xs_ar σ 0 (va_up (σ.2.2.2.2 0) ((σ.1 0)).toNatClampNeg (some q72))) 0 ((σ.1 0) + 1)) ++ va_pl ((L ++ [q72]) ++ [p84]) f_3) H := hP
              have hD : va_D A (xc_W Q cA (xs_i (xs_ar σ 0 (va_up (σ.2.2.2.2 0) ((σ.1 0)).toNatClampNeg (some q72))) 0 ((σ.1 0) + 1)) ++ va_pl ((L ++ [q72]) ++ [p84]) f_3) := hD
              refine lv_aload_n hx hb dX3_item_98 rfl (lv_at hl 0 rfl) ?_
              refine va_get (D := (dC, dI)) (ci := 3) (v := .int ((σ.1 0) + 1)) (C := RX3) (T := TX3) (N := 16) hx hb hts in0 hown hK hP 0 (xc_W_0 _ _) rfl 1 (by decide) lk1 (fun _ h9 => h9) rfl dX3_item_99 ?_
              exact W.iret (v := ((σ.1 0) + 1)) hx hb hr (fun t ht hW => ⟨⟨((σ.1 0) + 1), (xs_i σ 0 (σ.1 0 + 1), ni_co co n.1 x1 x2 x3 x4 x5), rfl, (by simp only [kc_item, if_pos c5, if_pos c12, if_pos c20, if_pos c36, if_pos c46, if_pos c58, hn0]), va_up σ.2.2.2.2 0 (va_up (σ.2.2.2.2 0) (σ.1 0).toNatClampNeg (some q72)), (n.1 + 1, n.2), _, _, (va_up ad.1 n.1 q72, va_up ad.2.1 n.1 p84, ad.2.2), Nat.le_succ _, re_newI hR hq72 (fun z => hp84 (List.mem_append_left _ z)) (fun a h => List.mem_append_left _ (List.mem_append_left _ h)) (List.mem_append_left _ (List.mem_append_right _ (List.mem_singleton.mpr rfl))) (List.mem_append_right _ (List.mem_singleton.mpr rfl)) (fun a h => by rw [ef_3, va_up_ne _ _ (ct_nq h hq72), ef_2, va_up_ne _ _ (ct_nq (List.mem_append_left _ h) hp84), ef_1, va_up_ne _ _ (ct_nq h hq72)]) (nu_4 c5) (by rw [hf_3_q72]; exact (ni_ce _ _ _ _ _ _ _ _).symm) (by rw [hf_3_p84]; exact (ni_cp _ _ _ _ _ _ _ _).symm) (nu_lt hR.1.1 hR.1.2.1 c58) (by show σ.1 0 + 1 = _; rw [hR.1.1]; exact nI_1 _) rfl rfl rfl (by show va_up (σ.2.2.2.2 0) (σ.1 0).toNatClampNeg (some q72) = _; rw [hn0]) rfl rfl, by rw [ht]; exact hP, va_K.moved hW.alike hK, hD⟩, hS.F ht⟩) hS.2.2 dX3_item_102
            · refine lv_bipush (v := (-104)) hx hb dX3_item_61 (by decide) ?_
              refine W.widen (k := 2) (n := 17) (by decide) (by decide) ?_
              exact W.iret (v := (-104)) hx hb hr (fun t ht hW => ⟨⟨(-104), (σ, co), rfl, (by simp only [kc_item, if_pos c5, if_pos c12, if_pos c20, if_pos c36, if_pos c46, if_neg c58, Option.elim, hn0, hn1, hn2]), σ.2.2.2.2, n, L, f, ad, Nat.le_succ _, hR, by rw [ht]; exact hP, va_K.moved hW.alike hK, hD⟩, hS.F ht⟩) hS.2.2 dX3_item_63
          · have c46 := of_decide_eq_false (bb_0.mp c46)
            refine lv_bipush (v := (-102)) hx hb dX3_item_49 (by decide) ?_
            refine W.widen (k := 2) (n := 17) (by decide) (by decide) ?_
            exact W.iret (v := (-102)) hx hb hr (fun t ht hW => ⟨⟨(-102), (σ, co), rfl, (by simp only [kc_item, if_pos c5, if_pos c12, if_pos c20, if_pos c36, if_neg c46, Option.elim, hn0, hn1, hn2]), σ.2.2.2.2, n, L, f, ad, Nat.le_succ _, hR, by rw [ht]; exact hP, va_K.moved hW.alike hK, hD⟩, hS.F ht⟩) hS.2.2 dX3_item_51
      · have c20 := of_decide_eq_false (bb_0.mp c20)
        refine lv_bipush (v := (-102)) hx hb dX3_item_23 (by decide) ?_
        refine W.widen (k := 2) (n := 17) (by decide) (by decide) ?_
        exact W.iret (v := (-102)) hx hb hr (fun t ht hW => ⟨⟨(-102), (σ, co), rfl, (by simp only [kc_item, if_pos c5, if_pos c12, if_neg c20, Option.elim, hn0, hn1, hn2]), σ.2.2.2.2, n, L, f, ad, Nat.le_succ _, hR, by rw [ht]; exact hP, va_K.moved hW.alike hK, hD⟩, hS.F ht⟩) hS.2.2 dX3_item_25
set_option maxHeartbeats 4000000 in
set_option maxRecDepth 100000 in
/-- mt_pass -/
theorem mt_pass (l : Launch) (dC : Nat → ClassId) (dI : Nat → Nat → Nat) (cA : Nat → ClassId) (sz : Nat) (Q : Nat → Nat) (σ : xs_T) (n : nn_T) (co : co_T) (L : List Nat) (f : Nat → va_E) (ad : ad_T) (hR : re_A cA σ n co L f ad) (hT : n.2.2.2 < 100000) (x1 x2 : Int32) (b : Bool) : Met l yX3_pass wsX3_pass ({ frames := 2, cells := 0, slots := 0, locals := 46 }) (va_Pc [.ref (Q 0), .int x1, .int x2, .int (bb_v b)] (ct_M (dC, dI) vwCl (ty_K cA) (xc_W Q cA σ ++ va_pl L f) sz)) (va_Qi (fun r u => (r, u) = kc_pass (σ, co) x1 x2 b) (fun u t => ∃ (ra : Nat → Nat → Option Nat) (n' : nn_T) (L' : List Nat) (f' : Nat → va_E) (ad' : ad_T), n'.2.2.2 ≤ n.2.2.2 + 1 ∧ re_A cA (xs_r u.1 ra) n' u.2 L' f' ad' ∧ ct_B (dC, dI) vwCl (ty_K cA) (va_A (xc_W Q cA σ ++ va_pl L f) sz) (xc_W Q cA (xs_r u.1 ra) ++ va_pl L' f') t) (va_A (xc_W Q cA σ ++ va_pl L f) sz)) 0 0 (va_A (xc_W Q cA σ ++ va_pl L f) sz) := by
  refine Met.ofW (cc := cX3_pass) (maxL := 5) (ret := (some .int)) (by decide) rfl ?_
  intro p e s m args below meth c s₁ B hml hv
  obtain ⟨rfl, hsz, hP, hK, hD0⟩ := hv
  have hx := B.exec
  have hb := B.bytes
  have hr := B.returns
  have hts := atoms_spec (ws := wsX3_pass) B.pre
  have hown : s.vm.findClass RX3 = some m.cls := findClass_of_methodNamed B.named
  have hlocks := B.notSynchronized
  subst hsz
  have hD := hD0.self (sz := s.heap.size)
  generalize hAe : va_A (xc_W Q cA σ ++ va_pl L f) s.heap.size = A at hD ⊢
  have hA : ∀ q : Nat, s.heap.size ≤ q → A q := fun q h => by rw [← hAe]; exact Or.inr h
  clear hAe hD0
  have hS : va_S A s.heap s.heap [] := va_S.rf
  have hl := lv_entry ([.ref (Q 0), .int x1, .int x2, .int (bb_v b)]) (n := 5) (Nat.le_of_ble_eq_true rfl)
  rw [lg_entry_eq]
  generalize (lg_sl ([.ref (Q 0), .int x1, .int x2, .int (bb_v b)]) ++ List.replicate (5 - (lg_sl ([.ref (Q 0), .int x1, .int x2, .int (bb_v b)])).length) Slot.unset).toArray = ls at hl ⊢
  have hl : lv_has ls 5 [(0, .ref (Q 0)), (1, .int x1), (2, .int x2), (3, .int (bb_v b))] := hl
  have lk0 := hts (.fieldLink RX3 69 "ClaimRows$Item" "passed" "I") (List.mem_cons_of_mem _ wd_69)
  have in0 : ∀ w ∈ u_ws RX1 TX1 9, w ∈ wsX3_pass := fun w h => List.mem_cons_of_mem _ (wu_X1 w h)
  have hn0 : (σ.1 0).toNatClampNeg = n.1 := by rw [hR.1.1]; exact nI_clamp (by have := hR.1.2.1; omega)
  have hn1 : (σ.1 1).toNatClampNeg = n.2.1 := by rw [hR.1.2.2.1]; exact nI_clamp (by have := hR.1.2.2.2.1; omega)
  have hn2 : (σ.1 2).toNatClampNeg = n.2.2.1 := by rw [hR.1.2.2.2.2.1]; exact nI_clamp (by have := hR.1.2.2.2.2.2.1; omega)
  refine lv_aload_n hx hb dX3_pass_0 rfl (lv_at hl 0 rfl) ?_
  refine lv_iload_n hx hb dX3_pass_1 rfl (lv_at hl 1 rfl) ?_
  refine va_csq (va_Run.run (va_runV (As := [.int x1]) (rest := []) ⟨hx, hb, hml, hown, hts⟩ (mt_itemNumbered l dC dI cA Q σ n co L f ad hR x1) (cwV 1 hts (al_gV wd_76 wd_78 wd_77 wd_1 wd_79) rfl rfl rfl (by decide +kernel) ⟨Nat.le_of_ble_eq_true rfl, Nat.le_of_ble_eq_true rfl⟩) ⟨ct_blR, va_recv hK hP (ci := 3) (q0 := 0) rfl (xc_W_0 _ _), ct_atR hP hK⟩ rfl rfl hl.1 rfl (lv_room (Nat.le_of_ble_eq_true rfl)) dX3_pass_2 ⟨Nat.le_of_ble_eq_true rfl, Nat.le_of_ble_eq_true rfl⟩)) (fun r2 hr2 => ?_)
  rcases hr2 with ⟨j2, hj2, hm2, ex2, rfl⟩ | ⟨hm2, rfl⟩
  · have hI1 := hR.2.1 j2 hj2
    have hI1a : f (ad.1 j2) = .inr (1, [.int (co.2.1 0 j2), .long (co.2.2.1 0 j2), .long (co.2.2.1 1 j2), .int (co.2.1 1 j2), .int (co.2.1 2 j2), .ref (ad.2.1 j2), .int (co.2.1 3 j2), .int (co.2.1 4 j2), .int (co.2.1 5 j2)]) := hI1.2.2.1
    have hI1p : f (ad.2.1 j2) = .inl ((cA 0), 8, .inl (co.2.2.2 j2)) := hI1.2.2.2.2
    refine lv_astore (lv' := [(4, .ref (ad.1 j2)), (0, .ref (Q 0)), (1, .int x1), (2, .int x2), (3, .int (bb_v b))]) hx hb dX3_pass_5 hl (by decide) rfl (fun ls hl => ?_)
    refine lv_aload hx hb dX3_pass_7 (lv_at hl 0 rfl) ?_
    refine lv_ifnonnull (tgt := 15) hx hb dX3_pass_9 (by decide) ?_
    refine lv_iload_n hx hb dX3_pass_15 rfl (lv_at hl 3 rfl) ?_
    refine lv_bipush (v := 6) hx hb dX3_pass_16 (by decide) ?_
    refine vp_callSi (va_Run.run (va_runS (As := [.int x2, .int 6]) (rest := []) ⟨hx, hb, hml, hown, hts⟩ (mt_isBelow l x2 6) (va_cwS 2 hts (al_gS wd_41 wd_42 wd_1 wd_43) rfl rfl rfl (by decide +kernel) ⟨Nat.le_of_ble_eq_true rfl, Nat.le_of_ble_eq_true rfl⟩) ⟨ct_bl0, ct_at0⟩ rfl rfl hl.1 rfl (lv_room (Nat.le_of_ble_eq_true rfl)) dX3_pass_18 ⟨Nat.le_of_ble_eq_true rfl, Nat.le_of_ble_eq_true rfl⟩)) (fun r18 hr18 => ?_)
    subst hr18
    refine lv_if_ne (tgt := 27) hx hb dX3_pass_21 (by decide) (fun c21 => ?_) (fun c21 => ?_)
    · have c21 := of_decide_eq_true (bb_n.mp c21)
      refine lv_aload hx hb dX3_pass_27 (lv_at hl 0 rfl) ?_
      refine hp_get (D := (dC, dI)) (ci := 1) (v := .int (co.2.1 3 j2)) (C := RX1) (T := TX1) (N := 9) hx hb hts in0 hown hK hP hI1.2.1 hI1a rfl 6 (by decide) lk0 (fun _ h9 => h9) rfl dX3_pass_29 ?_
      refine lv_bipush (v := 8) hx hb dX3_pass_32 (by decide) ?_
      refine lv_icmp_lt (tgt := 40) hx hb dX3_pass_34 (by decide) (fun c34 => ?_) (fun c34 => ?_)
      · obtain ⟨k2, w2, hk2, hw2, e32, e42⟩ := (hR.2.2.2.2.1.1 j2 hj2).2
        have h82 : k2 < 8 := nu_l8 e32 hk2 c34
        refine lv_aload hx hb dX3_pass_40 (lv_at hl 0 rfl) ?_
        refine lv_iload_n hx hb dX3_pass_42 rfl (lv_at hl 3 rfl) ?_
        refine lv_iload_n hx hb dX3_pass_43 rfl (lv_at hl 4 rfl) ?_
        have hFc := ct_free hD hS hA
        refine va_callv (va_runV (As := [.int x2, .int (bb_v b)]) (rest := []) ⟨hx, hb, hml, hown, hts⟩ (mt_addPost l dC dI cA s.heap.size (xc_W Q cA σ) L f (ad.1 j2) (ad.2.1 j2) hI1.2.1 hI1.2.2.2.1 (co.2.1 0 j2) (co.2.2.1 0 j2) (co.2.2.1 1 j2) (co.2.1 1 j2) (co.2.1 2 j2) (co.2.1 3 j2) (co.2.1 4 j2) (co.2.1 5 j2) hI1a (co.2.2.2 j2) hI1p k2 e32 h82 x2 b) (cwV 2 hts (al_gV wd_80 wd_81 wd_82 wd_3 wd_83) rfl rfl rfl (by decide +kernel) ⟨Nat.le_of_ble_eq_true rfl, Nat.le_of_ble_eq_true rfl⟩) ⟨ct_blM, hp_recv hK hP (ci := 1) rfl hI1.2.1 hI1a, ct_atM hP hK hD⟩ rfl rfl hl.1 rfl (lv_room (Nat.le_of_ble_eq_true rfl)) dX3_pass_44 ⟨Nat.le_of_ble_eq_true rfl, Nat.le_of_ble_eq_true rfl⟩) hS (fun q _ h => hFc q h) hFc (fun u44 t H1 locs ht hvm hr44 hB hz1 hk1 hS => ?_)
        obtain ⟨hP, -, hD1⟩ := hB
        rw [ht] at hP
        have hD := hD1.weaken (fun _ _ _ h => hFc _ h)
        clear hD1 hk1 hz1 hFc hvm
        generalize H1 = H at hP hS ht ⊢
        clear ht
        refine W.widen (k := 0) (n := 0) (by decide) (by decide) ?_
        subst hr44
        have hP : va_P (dC, dI) vwCl (xc_W Q cA σ ++ va_pl L (va_up (va_up f (ad.2.1 j2) (.inl ((cA 0), 8, .inl (upd (co.2.2.2 j2) ((co.2.1 3 j2)).toNatClampNeg x2)))) (ad.1 j2) (.inr (1, [.int (co.2.1 0 j2), .long (co.2.2.1 0 j2), .long (co.2.2.1 1 j2), .int (co.2.1 1 j2), .int (co.2.1 2 j2), .ref (ad.2.1 j2), .int ((co.2.1 3 j2) + 1), .int (if b then (co.2.1 3 j2) else (co.2.1 4 j2)), .int (co.2.1 5 j2)])))) H := hP
        have hD : va_D A (xc_W Q cA σ ++ va_pl L (va_up (va_up f (ad.2.1 j2) (.inl ((cA 0), 8, .inl (upd (co.2.2.2 j2) ((co.2.1 3 j2)).toNatClampNeg x2)))) (ad.1 j2) (.inr (1, [.int (co.2.1 0 j2), .long (co.2.2.1 0 j2), .long (co.2.2.1 1 j2), .int (co.2.1 1 j2), .int (co.2.1 2 j2), .ref (ad.2.1 j2), .int ((co.2.1 3 j2) + 1), .int (if b then (co.2.1 3 j2) else (co.2.1 4 j2)), .int (co.2.1 5 j2)])))) := hD
        obtain ⟨f_1, ef_1⟩ : ∃ y9, y9 = va_up f (ad.2.1 j2) (.inl ((cA 0), 8, .inl (upd (co.2.2.2 j2) ((co.2.1 3 j2)).toNatClampNeg x2))) := ⟨_, rfl⟩
        rw [← ef_1] at hP hD
        have hf_1_ad1j2 : f_1 (ad.1 j2) = .inr (1, [.int (co.2.1 0 j2), .long (co.2.2.1 0 j2), .long (co.2.2.1 1 j2), .int (co.2.1 1 j2), .int (co.2.1 2 j2), .ref (ad.2.1 j2), .int (co.2.1 3 j2), .int (co.2.1 4 j2), .int (co.2.1 5 j2)]) := by rw [ef_1, va_up_ne _ _ (ct_ne hI1a hI1p (by simp))]; exact hI1a
        have hf_1_ad21j2 : f_1 (ad.2.1 j2) = .inl ((cA 0), 8, .inl (upd (co.2.2.2 j2) ((co.2.1 3 j2)).toNatClampNeg x2)) := by rw [ef_1]; exact va_up_self _ _ _
        obtain ⟨f_2, ef_2⟩ : ∃ y9, y9 = va_up f_1 (ad.1 j2) (.inr (1, [.int (co.2.1 0 j2), .long (co.2.2.1 0 j2), .long (co.2.2.1 1 j2), .int (co.2.1 1 j2), .int (co.2.1 2 j2), .ref (ad.2.1 j2), .int ((co.2.1 3 j2) + 1), .int (if b then (co.2.1 3 j2) else (co.2.1 4 j2)), .int (co.2.1 5 j2)])) := ⟨_, rfl⟩
        rw [← ef_2] at hP hD
        have hf_2_ad21j2 : f_2 (ad.2.1 j2) = .inl ((cA 0), 8, .inl (upd (co.2.2.2 j2) ((co.2.1 3 j2)).toNatClampNeg x2)) := by rw [ef_2, va_up_ne _ _ (ct_ne hf_1_ad21j2 hf_1_ad1j2 (by simp))]; exact hf_1_ad21j2
        have hf_2_ad1j2 : f_2 (ad.1 j2) = .inr (1, [.int (co.2.1 0 j2), .long (co.2.2.1 0 j2), .long (co.2.2.1 1 j2), .int (co.2.1 1 j2), .int (co.2.1 2 j2), .ref (ad.2.1 j2), .int ((co.2.1 3 j2) + 1), .int (if b then (co.2.1 3 j2) else (co.2.1 4 j2)), .int (co.2.1 5 j2)]) := by rw [ef_2]; exact va_up_self _ _ _
        refine lv_aload hx hb dX3_pass_47 (lv_at hl 0 rfl) ?_
        refine hp_get (D := (dC, dI)) (ci := 1) (v := .int ((co.2.1 3 j2) + 1)) (C := RX1) (T := TX1) (N := 9) hx hb hts in0 hown hK hP hI1.2.1 hf_2_ad1j2 rfl 6 (by decide) lk0 (fun _ h9 => h9) rfl dX3_pass_49 ?_
        exact W.iret (v := ((co.2.1 3 j2) + 1)) hx hb hr (fun t ht hW => ⟨⟨((co.2.1 3 j2) + 1), (σ, ps_co co j2 x2 b), rfl, (by simp only [kc_pass, hm2, if_pos c21, if_pos c34, Option.elim]), σ.2.2.2.2, n, L, f_2, ad, Nat.le_succ _, re_setI hR hj2 (ps_ag hk2 hw2 h82 e32 e42) (by rw [hf_2_ad1j2]; exact (ps_ce _ _ _ _ _).symm) (by rw [hf_2_ad21j2]; exact (ps_cp _ _ _ _ _).symm) (fun z h1 h2 => by rw [ef_2, va_up_ne _ _ h1, ef_1, va_up_ne _ _ h2]), by rw [ht]; exact hP, va_K.moved hW.alike hK, hD⟩, hS.F ht⟩) hS.2.2 dX3_pass_52
      · refine lv_bipush (v := (-104)) hx hb dX3_pass_37 (by decide) ?_
        exact W.iret (v := (-104)) hx hb hr (fun t ht hW => ⟨⟨(-104), (σ, co), rfl, (by simp only [kc_pass, hm2, if_pos c21, if_neg c34, Option.elim, hn0, hn1, hn2]), σ.2.2.2.2, n, L, f, ad, Nat.le_succ _, hR, by rw [ht]; exact hP, va_K.moved hW.alike hK, hD⟩, hS.F ht⟩) hS.2.2 dX3_pass_39
    · have c21 := of_decide_eq_false (bb_0.mp c21)
      refine lv_bipush (v := (-102)) hx hb dX3_pass_24 (by decide) ?_
      exact W.iret (v := (-102)) hx hb hr (fun t ht hW => ⟨⟨(-102), (σ, co), rfl, (by simp only [kc_pass, hm2, if_neg c21, Option.elim, hn0, hn1, hn2]), σ.2.2.2.2, n, L, f, ad, Nat.le_succ _, hR, by rw [ht]; exact hP, va_K.moved hW.alike hK, hD⟩, hS.F ht⟩) hS.2.2 dX3_pass_26
  · skip
    refine lv_astoreN (lv' := [(4, .null), (0, .ref (Q 0)), (1, .int x1), (2, .int x2), (3, .int (bb_v b))]) hx hb dX3_pass_5 hl (by decide) rfl (fun ls hl => ?_)
    refine lv_aloadN hx hb dX3_pass_7 (lv_at hl 0 rfl) ?_
    refine lv_ifnonnullN hx hb dX3_pass_9 ?_
    refine lv_bipush (v := (-101)) hx hb dX3_pass_12 (by decide) ?_
    exact W.iret (v := (-101)) hx hb hr (fun t ht hW => ⟨⟨(-101), (σ, co), rfl, (by simp only [kc_pass, hm2, Option.elim, hn0, hn1, hn2]), σ.2.2.2.2, n, L, f, ad, Nat.le_succ _, hR, by rw [ht]; exact hP, va_K.moved hW.alike hK, hD⟩, hS.F ht⟩) hS.2.2 dX3_pass_14
set_option maxHeartbeats 4000000 in
set_option maxRecDepth 100000 in
/-- mt_table -/
theorem mt_table (l : Launch) (dC : Nat → ClassId) (dI : Nat → Nat → Nat) (cA : Nat → ClassId) (sz : Nat) (Q : Nat → Nat) (σ : xs_T) (n : nn_T) (co : co_T) (L : List Nat) (f : Nat → va_E) (ad : ad_T) (hR : re_A cA σ n co L f ad) (hT : n.2.2.2 < 100000) (x1 x2 : Int32) (x3 : Int64) (x4 : Int32) : Met l yX3_table wsX3_table ({ frames := 2, cells := 0, slots := 0, locals := 46 }) (va_Pc [.ref (Q 0), .int x1, .int x2, .long x3, .int x4] (ct_M (dC, dI) vwCl (ty_K cA) (xc_W Q cA σ ++ va_pl L f) sz)) (va_Qi (fun r u => (r, u) = kc_table (σ, co) x1 x2 x3 x4) (fun u t => ∃ (ra : Nat → Nat → Option Nat) (n' : nn_T) (L' : List Nat) (f' : Nat → va_E) (ad' : ad_T), n'.2.2.2 ≤ n.2.2.2 + 1 ∧ re_A cA (xs_r u.1 ra) n' u.2 L' f' ad' ∧ ct_B (dC, dI) vwCl (ty_K cA) (va_A (xc_W Q cA σ ++ va_pl L f) sz) (xc_W Q cA (xs_r u.1 ra) ++ va_pl L' f') t) (va_A (xc_W Q cA σ ++ va_pl L f) sz)) 0 0 (va_A (xc_W Q cA σ ++ va_pl L f) sz) := by
  refine Met.ofW (cc := cX3_table) (maxL := 7) (ret := (some .int)) (by decide) rfl ?_
  intro p e s m args below meth c s₁ B hml hv
  obtain ⟨rfl, hsz, hP, hK, hD0⟩ := hv
  have hx := B.exec
  have hb := B.bytes
  have hr := B.returns
  have hts := atoms_spec (ws := wsX3_table) B.pre
  have hown : s.vm.findClass RX3 = some m.cls := findClass_of_methodNamed B.named
  have hlocks := B.notSynchronized
  subst hsz
  have hD := hD0.self (sz := s.heap.size)
  generalize hAe : va_A (xc_W Q cA σ ++ va_pl L f) s.heap.size = A at hD ⊢
  have hA : ∀ q : Nat, s.heap.size ≤ q → A q := fun q h => by rw [← hAe]; exact Or.inr h
  clear hAe hD0
  have hS : va_S A s.heap s.heap [] := va_S.rf
  have hl := lv_entry ([.ref (Q 0), .int x1, .int x2, .long x3, .int x4]) (n := 7) (Nat.le_of_ble_eq_true rfl)
  rw [lg_entry_eq]
  generalize (lg_sl ([.ref (Q 0), .int x1, .int x2, .long x3, .int x4]) ++ List.replicate (7 - (lg_sl ([.ref (Q 0), .int x1, .int x2, .long x3, .int x4])).length) Slot.unset).toArray = ls at hl ⊢
  have hl : lv_has ls 7 [(0, .ref (Q 0)), (1, .int x1), (2, .int x2), (3, .long x3), (5, .int x4)] := hl
  have lk0 := hts (.constantLong RX3 76 10000) (List.mem_cons_of_mem _ wd_88)
  have lk1 := hts (.fieldLink RX3 27 "ClaimRows" "tableMost" "[J") (List.mem_cons_of_mem _ wd_25)
  have lk2 := hts (.fieldLink RX3 31 "ClaimRows" "tableDays" "[I") (List.mem_cons_of_mem _ wd_26)
  have in0 : ∀ w ∈ u_ws RX3 TX3 16, w ∈ wsX3_table := fun w h => List.mem_cons_of_mem _ (wu_X3 w h)
  have hn0 : (σ.1 0).toNatClampNeg = n.1 := by rw [hR.1.1]; exact nI_clamp (by have := hR.1.2.1; omega)
  have hn1 : (σ.1 1).toNatClampNeg = n.2.1 := by rw [hR.1.2.2.1]; exact nI_clamp (by have := hR.1.2.2.2.1; omega)
  have hn2 : (σ.1 2).toNatClampNeg = n.2.2.1 := by rw [hR.1.2.2.2.2.1]; exact nI_clamp (by have := hR.1.2.2.2.2.2.1; omega)
  refine lv_iload_n hx hb dX3_table_0 rfl (lv_at hl 1 rfl) ?_
  refine lv_iconst (v := 4) hx hb dX3_table_1 (by decide) ?_
  refine vp_callSi (va_Run.run (va_runS (As := [.int x1, .int 4]) (rest := []) ⟨hx, hb, hml, hown, hts⟩ (mt_isBelow l x1 4) (va_cwS 2 hts (al_gS wd_41 wd_42 wd_1 wd_43) rfl rfl rfl (by decide +kernel) ⟨Nat.le_of_ble_eq_true rfl, Nat.le_of_ble_eq_true rfl⟩) ⟨ct_bl0, ct_at0⟩ rfl rfl hl.1 rfl (lv_room (Nat.le_of_ble_eq_true rfl)) dX3_table_2 ⟨Nat.le_of_ble_eq_true rfl, Nat.le_of_ble_eq_true rfl⟩)) (fun r2 hr2 => ?_)
  subst hr2
  refine lv_if_eq (tgt := 16) hx hb dX3_table_5 (by decide) (fun c5 => ?_) (fun c5 => ?_)
  · have c5 := of_decide_eq_false (bb_0.mp c5)
    refine lv_bipush (v := (-102)) hx hb dX3_table_16 (by decide) ?_
    exact W.iret (v := (-102)) hx hb hr (fun t ht hW => ⟨⟨(-102), (σ, co), rfl, (by simp only [kc_table, if_neg c5, Option.elim, hn0, hn1, hn2]), σ.2.2.2.2, n, L, f, ad, Nat.le_succ _, hR, by rw [ht]; exact hP, va_K.moved hW.alike hK, hD⟩, hS.F ht⟩) hS.2.2 dX3_table_18
  · have c5 := of_decide_eq_true (bb_n.mp c5)
    refine lv_iload_n hx hb dX3_table_8 rfl (lv_at hl 2 rfl) ?_
    refine lv_iconst (v := 4) hx hb dX3_table_9 (by decide) ?_
    refine vp_callSi (va_Run.run (va_runS (As := [.int x2, .int 4]) (rest := []) ⟨hx, hb, hml, hown, hts⟩ (mt_isBelow l x2 4) (va_cwS 2 hts (al_gS wd_41 wd_42 wd_1 wd_43) rfl rfl rfl (by decide +kernel) ⟨Nat.le_of_ble_eq_true rfl, Nat.le_of_ble_eq_true rfl⟩) ⟨ct_bl0, ct_at0⟩ rfl rfl hl.1 rfl (lv_room (Nat.le_of_ble_eq_true rfl)) dX3_table_10 ⟨Nat.le_of_ble_eq_true rfl, Nat.le_of_ble_eq_true rfl⟩)) (fun r10 hr10 => ?_)
    subst hr10
    refine lv_if_ne (tgt := 19) hx hb dX3_table_13 (by decide) (fun c13 => ?_) (fun c13 => ?_)
    · have c13 := of_decide_eq_true (bb_n.mp c13)
      refine lv_lload_n hx hb dX3_table_19 rfl (lv_at hl 3 rfl) ?_
      refine vp_callSi (va_Run.run (va_runS (As := [.long x3]) (rest := []) ⟨hx, hb, hml, hown, hts⟩ (mt_areCents l x3) (va_cwS 1 hts (al_gS wd_44 wd_45 wd_1 wd_46) rfl rfl rfl (by decide +kernel) ⟨Nat.le_of_ble_eq_true rfl, Nat.le_of_ble_eq_true rfl⟩) ⟨ct_bl0, ct_at0⟩ rfl rfl hl.1 rfl (lv_room (Nat.le_of_ble_eq_true rfl)) dX3_table_20 ⟨Nat.le_of_ble_eq_true rfl, Nat.le_of_ble_eq_true rfl⟩)) (fun r20 hr20 => ?_)
      subst hr20
      refine lv_if_eq (tgt := 39) hx hb dX3_table_23 (by decide) (fun c23 => ?_) (fun c23 => ?_)
      · have c23 := of_decide_eq_false (bb_0.mp c23)
        refine lv_bipush (v := (-102)) hx hb dX3_table_39 (by decide) ?_
        exact W.iret (v := (-102)) hx hb hr (fun t ht hW => ⟨⟨(-102), (σ, co), rfl, (by simp only [kc_table, if_pos c5, if_pos c13, if_neg c23, Option.elim, hn0, hn1, hn2]), σ.2.2.2.2, n, L, f, ad, Nat.le_succ _, hR, by rw [ht]; exact hP, va_K.moved hW.alike hK, hD⟩, hS.F ht⟩) hS.2.2 dX3_table_41
      · have c23 := of_decide_eq_true (bb_n.mp c23)
        refine lv_iload hx hb dX3_table_26 (lv_at hl 4 rfl) ?_
        refine lv_i2l (v := (x4 : Int32).toInt64) hx hb dX3_table_28 rfl ?_
        refine lv_lconst (v := 0) hx hb dX3_table_29 (by decide) ?_
        refine lv_ldc2 hx hb hown lk0 dX3_table_30 ?_
        refine vp_callSi (va_Run.run (va_runS (As := [.long ((x4 : Int32).toInt64), .long 0, .long 10000]) (rest := []) ⟨hx, hb, hml, hown, hts⟩ (mt_isWithin l ((x4 : Int32).toInt64) 0 10000) (va_cwS 3 hts (al_gS wd_48 wd_49 wd_1 wd_50) rfl rfl rfl (by decide +kernel) ⟨Nat.le_of_ble_eq_true rfl, Nat.le_of_ble_eq_true rfl⟩) ⟨ct_bl0, ct_at0⟩ rfl rfl hl.1 rfl (lv_room (Nat.le_of_ble_eq_true rfl)) dX3_table_33 ⟨Nat.le_of_ble_eq_true rfl, Nat.le_of_ble_eq_true rfl⟩)) (fun r33 hr33 => ?_)
        subst hr33
        refine lv_if_ne (tgt := 42) hx hb dX3_table_36 (by decide) (fun c36 => ?_) (fun c36 => ?_)
        · have c36 := of_decide_eq_true (bb_n.mp c36)
          refine lv_iload_n hx hb dX3_table_42 rfl (lv_at hl 1 rfl) ?_
          refine lv_iload_n hx hb dX3_table_43 rfl (lv_at hl 2 rfl) ?_
          refine vp_callSi (va_Run.run (va_runS (As := [.int x1, .int x2]) (rest := []) ⟨hx, hb, hml, hown, hts⟩ (mt_rowOf l x1 x2) (va_cwS 2 hts (al_gS wd_89 wd_90 wd_1 wd_91) rfl rfl rfl (by decide +kernel) ⟨Nat.le_of_ble_eq_true rfl, Nat.le_of_ble_eq_true rfl⟩) ⟨ct_bl0, ct_at0⟩ rfl rfl hl.1 rfl (lv_room (Nat.le_of_ble_eq_true rfl)) dX3_table_44 ⟨Nat.le_of_ble_eq_true rfl, Nat.le_of_ble_eq_true rfl⟩)) (fun r44 hr44 => ?_)
          subst hr44
          refine lv_istore (lv' := [(6, .int (x1 * 4 + x2)), (0, .ref (Q 0)), (1, .int x1), (2, .int x2), (3, .long x3), (5, .int x4)]) hx hb dX3_table_47 hl (by decide) rfl (fun ls hl => ?_)
          refine lv_aload_n hx hb dX3_table_49 rfl (lv_at hl 1 rfl) ?_
          refine va_get (D := (dC, dI)) (ci := 3) (v := .ref (Q 4)) (C := RX3) (T := TX3) (N := 16) hx hb hts in0 hown hK hP 0 (xc_W_0 _ _) rfl 6 (by decide) lk1 (fun _ h9 => h9) rfl dX3_table_50 ?_
          refine lv_iload hx hb dX3_table_53 (lv_at hl 0 rfl) ?_
          refine lv_lload_n hx hb dX3_table_55 rfl (lv_at hl 4 rfl) ?_
          refine va_last hx hb hK hP hD hS 4 1 (xc_W_4 _ _) rfl (rw_in (nu_4 c5) (nu_4 c13)) dX3_table_56 (fun H locs hP hD hS => ?_)
          have hP : va_P (dC, dI) vwCl (xc_W Q cA (xs_al σ 0 (vp_updL (σ.2.2.2.1 0) ((x1 * 4 + x2)).toNatClampNeg x3)) ++ va_pl L f) H := hP
          have hD : va_D A (xc_W Q cA (xs_al σ 0 (vp_updL (σ.2.2.2.1 0) ((x1 * 4 + x2)).toNatClampNeg x3)) ++ va_pl L f) := hD
          refine lv_aload_n hx hb dX3_table_57 rfl (lv_at hl 1 rfl) ?_
          refine va_get (D := (dC, dI)) (ci := 3) (v := .ref (Q 5)) (C := RX3) (T := TX3) (N := 16) hx hb hts in0 hown hK hP 0 (xc_W_0 _ _) rfl 7 (by decide) lk2 (fun _ h9 => h9) rfl dX3_table_58 ?_
          refine lv_iload hx hb dX3_table_61 (lv_at hl 0 rfl) ?_
          refine lv_iload hx hb dX3_table_63 (lv_at hl 5 rfl) ?_
          refine va_iast hx hb hK hP hD hS 5 0 (xc_W_5 _ _) rfl (rw_in (nu_4 c5) (nu_4 c13)) dX3_table_65 (fun H locs hP hD hS => ?_)
          have hP : va_P (dC, dI) vwCl (xc_W Q cA (xs_ai (xs_al σ 0 (vp_updL (σ.2.2.2.1 0) ((x1 * 4 + x2)).toNatClampNeg x3)) 0 (upd (σ.2.2.1 0) ((x1 * 4 + x2)).toNatClampNeg x4)) ++ va_pl L f) H := hP
          have hD : va_D A (xc_W Q cA (xs_ai (xs_al σ 0 (vp_updL (σ.2.2.2.1 0) ((x1 * 4 + x2)).toNatClampNeg x3)) 0 (upd (σ.2.2.1 0) ((x1 * 4 + x2)).toNatClampNeg x4)) ++ va_pl L f) := hD
          refine lv_iconst (v := 1) hx hb dX3_table_66 (by decide) ?_
          exact W.iret (v := 1) hx hb hr (fun t ht hW => ⟨⟨1, (xs_ai (xs_al σ 0 (vp_updL (σ.2.2.2.1 0) ((x1 * 4 + x2)).toNatClampNeg x3)) 0 (upd (σ.2.2.1 0) ((x1 * 4 + x2)).toNatClampNeg x4), co), rfl, (by simp only [kc_table, if_pos c5, if_pos c13, if_pos c23, if_pos c36]), σ.2.2.2.2, n, L, f, ad, Nat.le_succ _, re_x hR n.2.2.2 rfl rfl rfl hR.1.2.2.2.2.2.2 rfl, by rw [ht]; exact hP, va_K.moved hW.alike hK, hD⟩, hS.F ht⟩) hS.2.2 dX3_table_67
        · have c36 := of_decide_eq_false (bb_0.mp c36)
          refine lv_bipush (v := (-102)) hx hb dX3_table_39 (by decide) ?_
          exact W.iret (v := (-102)) hx hb hr (fun t ht hW => ⟨⟨(-102), (σ, co), rfl, (by simp only [kc_table, if_pos c5, if_pos c13, if_pos c23, if_neg c36, Option.elim, hn0, hn1, hn2]), σ.2.2.2.2, n, L, f, ad, Nat.le_succ _, hR, by rw [ht]; exact hP, va_K.moved hW.alike hK, hD⟩, hS.F ht⟩) hS.2.2 dX3_table_41
    · have c13 := of_decide_eq_false (bb_0.mp c13)
      refine lv_bipush (v := (-102)) hx hb dX3_table_16 (by decide) ?_
      exact W.iret (v := (-102)) hx hb hr (fun t ht hW => ⟨⟨(-102), (σ, co), rfl, (by simp only [kc_table, if_pos c5, if_neg c13, Option.elim, hn0, hn1, hn2]), σ.2.2.2.2, n, L, f, ad, Nat.le_succ _, hR, by rw [ht]; exact hP, va_K.moved hW.alike hK, hD⟩, hS.F ht⟩) hS.2.2 dX3_table_18
set_option maxHeartbeats 4000000 in
set_option maxRecDepth 100000 in
/-- mt_limit -/
theorem mt_limit (l : Launch) (dC : Nat → ClassId) (dI : Nat → Nat → Nat) (cA : Nat → ClassId) (sz : Nat) (Q : Nat → Nat) (σ : xs_T) (n : nn_T) (co : co_T) (L : List Nat) (f : Nat → va_E) (ad : ad_T) (hR : re_A cA σ n co L f ad) (hT : n.2.2.2 < 100000) (x1 : Int32) (x2 : Int64) : Met l yX3_limit wsX3_limit ({ frames := 2, cells := 0, slots := 0, locals := 46 }) (va_Pc [.ref (Q 0), .int x1, .long x2] (ct_M (dC, dI) vwCl (ty_K cA) (xc_W Q cA σ ++ va_pl L f) sz)) (va_Qi (fun r u => (r, u) = kc_limit (σ, co) x1 x2) (fun u t => ∃ (ra : Nat → Nat → Option Nat) (n' : nn_T) (L' : List Nat) (f' : Nat → va_E) (ad' : ad_T), n'.2.2.2 ≤ n.2.2.2 + 1 ∧ re_A cA (xs_r u.1 ra) n' u.2 L' f' ad' ∧ ct_B (dC, dI) vwCl (ty_K cA) (va_A (xc_W Q cA σ ++ va_pl L f) sz) (xc_W Q cA (xs_r u.1 ra) ++ va_pl L' f') t) (va_A (xc_W Q cA σ ++ va_pl L f) sz)) 0 0 (va_A (xc_W Q cA σ ++ va_pl L f) sz) := by
  refine Met.ofW (cc := cX3_limit) (maxL := 4) (ret := (some .int)) (by decide) rfl ?_
  intro p e s m args below meth c s₁ B hml hv
  obtain ⟨rfl, hsz, hP, hK, hD0⟩ := hv
  have hx := B.exec
  have hb := B.bytes
  have hr := B.returns
  have hts := atoms_spec (ws := wsX3_limit) B.pre
  have hown : s.vm.findClass RX3 = some m.cls := findClass_of_methodNamed B.named
  have hlocks := B.notSynchronized
  subst hsz
  have hD := hD0.self (sz := s.heap.size)
  generalize hAe : va_A (xc_W Q cA σ ++ va_pl L f) s.heap.size = A at hD ⊢
  have hA : ∀ q : Nat, s.heap.size ≤ q → A q := fun q h => by rw [← hAe]; exact Or.inr h
  clear hAe hD0
  have hS : va_S A s.heap s.heap [] := va_S.rf
  have hl := lv_entry ([.ref (Q 0), .int x1, .long x2]) (n := 4) (Nat.le_of_ble_eq_true rfl)
  rw [lg_entry_eq]
  generalize (lg_sl ([.ref (Q 0), .int x1, .long x2]) ++ List.replicate (4 - (lg_sl ([.ref (Q 0), .int x1, .long x2])).length) Slot.unset).toArray = ls at hl ⊢
  have hl : lv_has ls 4 [(0, .ref (Q 0)), (1, .int x1), (2, .long x2)] := hl
  have lk0 := hts (.fieldLink RX3 35 "ClaimRows" "limits" "[J") (List.mem_cons_of_mem _ wd_27)
  have in0 : ∀ w ∈ u_ws RX3 TX3 16, w ∈ wsX3_limit := fun w h => List.mem_cons_of_mem _ (wu_X3 w h)
  have hn0 : (σ.1 0).toNatClampNeg = n.1 := by rw [hR.1.1]; exact nI_clamp (by have := hR.1.2.1; omega)
  have hn1 : (σ.1 1).toNatClampNeg = n.2.1 := by rw [hR.1.2.2.1]; exact nI_clamp (by have := hR.1.2.2.2.1; omega)
  have hn2 : (σ.1 2).toNatClampNeg = n.2.2.1 := by rw [hR.1.2.2.2.2.1]; exact nI_clamp (by have := hR.1.2.2.2.2.2.1; omega)
  refine lv_iload_n hx hb dX3_limit_0 rfl (lv_at hl 1 rfl) ?_
  refine lv_bipush (v := 10) hx hb dX3_limit_1 (by decide) ?_
  refine vp_callSi (va_Run.run (va_runS (As := [.int x1, .int 10]) (rest := []) ⟨hx, hb, hml, hown, hts⟩ (mt_isBelow l x1 10) (va_cwS 2 hts (al_gS wd_41 wd_42 wd_1 wd_43) rfl rfl rfl (by decide +kernel) ⟨Nat.le_of_ble_eq_true rfl, Nat.le_of_ble_eq_true rfl⟩) ⟨ct_bl0, ct_at0⟩ rfl rfl hl.1 rfl (lv_room (Nat.le_of_ble_eq_true rfl)) dX3_limit_3 ⟨Nat.le_of_ble_eq_true rfl, Nat.le_of_ble_eq_true rfl⟩)) (fun r3 hr3 => ?_)
  subst hr3
  refine lv_if_eq (tgt := 16) hx hb dX3_limit_6 (by decide) (fun c6 => ?_) (fun c6 => ?_)
  · have c6 := of_decide_eq_false (bb_0.mp c6)
    refine lv_bipush (v := (-102)) hx hb dX3_limit_16 (by decide) ?_
    exact W.iret (v := (-102)) hx hb hr (fun t ht hW => ⟨⟨(-102), (σ, co), rfl, (by simp only [kc_limit, if_neg c6, Option.elim, hn0, hn1, hn2]), σ.2.2.2.2, n, L, f, ad, Nat.le_succ _, hR, by rw [ht]; exact hP, va_K.moved hW.alike hK, hD⟩, hS.F ht⟩) hS.2.2 dX3_limit_18
  · have c6 := of_decide_eq_true (bb_n.mp c6)
    refine lv_lload_n hx hb dX3_limit_9 rfl (lv_at hl 2 rfl) ?_
    refine vp_callSi (va_Run.run (va_runS (As := [.long x2]) (rest := []) ⟨hx, hb, hml, hown, hts⟩ (mt_areCents l x2) (va_cwS 1 hts (al_gS wd_44 wd_45 wd_1 wd_46) rfl rfl rfl (by decide +kernel) ⟨Nat.le_of_ble_eq_true rfl, Nat.le_of_ble_eq_true rfl⟩) ⟨ct_bl0, ct_at0⟩ rfl rfl hl.1 rfl (lv_room (Nat.le_of_ble_eq_true rfl)) dX3_limit_10 ⟨Nat.le_of_ble_eq_true rfl, Nat.le_of_ble_eq_true rfl⟩)) (fun r10 hr10 => ?_)
    subst hr10
    refine lv_if_ne (tgt := 19) hx hb dX3_limit_13 (by decide) (fun c13 => ?_) (fun c13 => ?_)
    · have c13 := of_decide_eq_true (bb_n.mp c13)
      refine lv_aload_n hx hb dX3_limit_19 rfl (lv_at hl 0 rfl) ?_
      refine va_get (D := (dC, dI)) (ci := 3) (v := .ref (Q 6)) (C := RX3) (T := TX3) (N := 16) hx hb hts in0 hown hK hP 0 (xc_W_0 _ _) rfl 8 (by decide) lk0 (fun _ h9 => h9) rfl dX3_limit_20 ?_
      refine lv_iload_n hx hb dX3_limit_23 rfl (lv_at hl 1 rfl) ?_
      refine lv_lload_n hx hb dX3_limit_24 rfl (lv_at hl 2 rfl) ?_
      refine va_last hx hb hK hP hD hS 6 1 (xc_W_6 _ _) rfl (nu_b (b := 10) c6) dX3_limit_25 (fun H locs hP hD hS => ?_)
      have hP : va_P (dC, dI) vwCl (xc_W Q cA (xs_al σ 1 (vp_updL (σ.2.2.2.1 1) (x1).toNatClampNeg x2)) ++ va_pl L f) H := hP
      have hD : va_D A (xc_W Q cA (xs_al σ 1 (vp_updL (σ.2.2.2.1 1) (x1).toNatClampNeg x2)) ++ va_pl L f) := hD
      refine lv_iconst (v := 1) hx hb dX3_limit_26 (by decide) ?_
      exact W.iret (v := 1) hx hb hr (fun t ht hW => ⟨⟨1, (xs_al σ 1 (vp_updL (σ.2.2.2.1 1) (x1).toNatClampNeg x2), co), rfl, (by simp only [kc_limit, if_pos c6, if_pos c13]), σ.2.2.2.2, n, L, f, ad, Nat.le_succ _, re_x hR n.2.2.2 rfl rfl rfl hR.1.2.2.2.2.2.2 rfl, by rw [ht]; exact hP, va_K.moved hW.alike hK, hD⟩, hS.F ht⟩) hS.2.2 dX3_limit_27
    · have c13 := of_decide_eq_false (bb_0.mp c13)
      refine lv_bipush (v := (-102)) hx hb dX3_limit_16 (by decide) ?_
      exact W.iret (v := (-102)) hx hb hr (fun t ht hW => ⟨⟨(-102), (σ, co), rfl, (by simp only [kc_limit, if_pos c6, if_neg c13, Option.elim, hn0, hn1, hn2]), σ.2.2.2.2, n, L, f, ad, Nat.le_succ _, hR, by rw [ht]; exact hP, va_K.moved hW.alike hK, hD⟩, hS.F ht⟩) hS.2.2 dX3_limit_18
