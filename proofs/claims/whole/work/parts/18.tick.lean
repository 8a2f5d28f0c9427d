set_option maxHeartbeats 4000000 in
set_option maxRecDepth 100000 in
/-- mt_tick -/
theorem mt_tick (l : Launch) (dC : Nat → ClassId) (dI : Nat → Nat → Nat) (cA : Nat → ClassId) (sz : Nat) (Q : Nat → Nat) (σ : xs_T) (n : nn_T) (co : co_T) (L : List Nat) (f : Nat → va_E) (ad : ad_T) (hR : re_A cA σ n co L f ad) (hT : n.2.2.2 < 100000) (x1 : Int32) : Met l yX3_tick wsX3_tick ({ frames := 2, cells := 0, slots := 0, locals := 46 }) (va_Pc [.ref (Q 0), .int x1] (ct_M (dC, dI) vwCl (ty_K cA) (xc_W Q cA σ ++ va_pl L f) sz)) (va_Qi (fun r u => (r, u) = kc_tick (σ, co) x1) (fun u t => ∃ (ra : Nat → Nat → Option Nat) (n' : nn_T) (L' : List Nat) (f' : Nat → va_E) (ad' : ad_T), n'.2.2.2 ≤ n.2.2.2 + 1 ∧ re_A cA (xs_r u.1 ra) n' u.2 L' f' ad' ∧ ct_B (dC, dI) vwCl (ty_K cA) (va_A (xc_W Q cA σ ++ va_pl L f) sz) (xc_W Q cA (xs_r u.1 ra) ++ va_pl L' f') t) (va_A (xc_W Q cA σ ++ va_pl L f) sz)) 0 0 (va_A (xc_W Q cA σ ++ va_pl L f) sz) := by
  refine Met.ofW (cc := cX3_tick) (maxL := 5) (ret := (some .int)) (by decide) rfl ?_
  intro p e s m args below meth c s₁ B hml hv
  obtain ⟨rfl, hsz, hP, hK, hD0⟩ := hv
  have hx := B.exec
  have hb := B.bytes
  have hr := B.returns
  have hts := atoms_spec (ws := wsX3_tick) B.pre
  have hown : s.vm.findClass RX3 = some m.cls := findClass_of_methodNamed B.named
  have hlocks := B.notSynchronized
  subst hsz
  have hD := hD0.self (sz := s.heap.size)
  generalize hAe : va_A (xc_W Q cA σ ++ va_pl L f) s.heap.size = A at hD ⊢
  have hA : ∀ q : Nat, s.heap.size ≤ q → A q := fun q h => by rw [← hAe]; exact Or.inr h
  clear hAe hD0
  have hS : va_S A s.heap s.heap [] := va_S.rf
  have hl := lv_entry ([.ref (Q 0), .int x1]) (n := 5) (Nat.le_of_ble_eq_true rfl)
  rw [lg_entry_eq]
  generalize (lg_sl ([.ref (Q 0), .int x1]) ++ List.replicate (5 - (lg_sl ([.ref (Q 0), .int x1])).length) Slot.unset).toArray = ls at hl ⊢
  have hl : lv_has ls 5 [(0, .ref (Q 0)), (1, .int x1)] := hl
  have lk0 := hts (.fieldLink RX3 131 "ClaimRows" "clock" "I") (List.mem_cons_of_mem _ wd_31)
  have lk1 := hts (.constantLong RX3 84 200000) (List.mem_cons_of_mem _ wd_97)
  have lk2 := hts (.fieldLink RX3 137 "ClaimRows" "searchCount" "I") (List.mem_cons_of_mem _ wd_24)
  have lk3 := hts (.fieldLink RX3 150 "ClaimRows$Search" "unanswered" "Z") (List.mem_cons_of_mem _ wd_168)
  have lk4 := hts (.fieldLink RX3 158 "ClaimRows$Search" "due" "I") (List.mem_cons_of_mem _ wd_166)
  have in0 : ∀ w ∈ u_ws RX3 TX3 16, w ∈ wsX3_tick := fun w h => List.mem_cons_of_mem _ (wu_X3 w h)
  have in1 : ∀ w ∈ u_ws RX2 TX2 3, w ∈ wsX3_tick := fun w h => List.mem_cons_of_mem _ (wu_X2 w h)
  have hn0 : (σ.1 0).toNatClampNeg = n.1 := by rw [hR.1.1]; exact nI_clamp (by have := hR.1.2.1; omega)
  have hn1 : (σ.1 1).toNatClampNeg = n.2.1 := by rw [hR.1.2.2.1]; exact nI_clamp (by have := hR.1.2.2.2.1; omega)
  have hn2 : (σ.1 2).toNatClampNeg = n.2.2.1 := by rw [hR.1.2.2.2.2.1]; exact nI_clamp (by have := hR.1.2.2.2.2.2.1; omega)
  refine lv_iload_n hx hb dX3_tick_0 rfl (lv_at hl 1 rfl) ?_
  refine lv_i2l (v := (x1 : Int32).toInt64) hx hb dX3_tick_1 rfl ?_
  refine lv_aload_n hx hb dX3_tick_2 rfl (lv_at hl 0 rfl) ?_
  refine va_get (D := (dC, dI)) (ci := 3) (v := .int (σ.1 4)) (C := RX3) (T := TX3) (N := 16) hx hb hts in0 hown hK hP 0 (xc_W_0 _ _) rfl 12 (by decide) lk0 (fun _ h9 => h9) rfl dX3_tick_3 ?_
  refine lv_i2l (v := ((σ.1 4) : Int32).toInt64) hx hb dX3_tick_6 rfl ?_
  refine lv_ldc2 hx hb hown lk1 dX3_tick_7 ?_
  refine vp_callSi (va_Run.run (va_runS (As := [.long ((x1 : Int32).toInt64), .long (((σ.1 4) : Int32).toInt64), .long 200000]) (rest := []) ⟨hx, hb, hml, hown, hts⟩ (mt_isWithin l ((x1 : Int32).toInt64) (((σ.1 4) : Int32).toInt64) 200000) (va_cwS 3 hts (al_gS wd_48 wd_49 wd_1 wd_50) rfl rfl rfl (by decide +kernel) ⟨Nat.le_of_ble_eq_true rfl, Nat.le_of_ble_eq_true rfl⟩) ⟨ct_bl0, ct_at0⟩ rfl rfl hl.1 rfl (lv_room (Nat.le_of_ble_eq_true rfl)) dX3_tick_10 ⟨Nat.le_of_ble_eq_true rfl, Nat.le_of_ble_eq_true rfl⟩)) (fun r10 hr10 => ?_)
  subst hr10
  refine lv_if_ne (tgt := 19) hx hb dX3_tick_13 (by decide) (fun c13 => ?_) (fun c13 => ?_)
  · have c13 := of_decide_eq_true (bb_n.mp c13)
    refine lv_aload_n hx hb dX3_tick_19 rfl (lv_at hl 0 rfl) ?_
    refine lv_iload_n hx hb dX3_tick_20 rfl (lv_at hl 1 rfl) ?_
    refine va_put (D := (dC, dI)) (ci := 3) (v := .int x1) (ty := .int) (C := RX3) (T := TX3) (N := 16) hx hb hts in0 tyX3 tyX3_ok nmX3 hown hK hP hD hS 0 (xc_W_0 _ _) rfl 12 (by decide) lk0 (fun _ h9 => h9) rfl (by decide +kernel) rfl rfl (Nat.le_of_ble_eq_true rfl) dX3_tick_21 (fun H locs hP hD hS => ?_)
    have hP : va_P (dC, dI) vwCl (xc_W Q cA (xs_i σ 4 x1) ++ va_pl L f) H := hP
    have hD : va_D A (xc_W Q cA (xs_i σ 4 x1) ++ va_pl L f) := hD
    have hpost : ∀ (c : Int32) (k : co_T), (c, k) = ti_co x1 n.2.2.1 0 co 0 → (c, (xs_i σ 4 x1, k)) = kc_tick (σ, co) x1 := fun c k h => by simp only [kc_tick, if_pos c13, hn2, ← h]
    have hR4 : re_A cA (xs_i σ 4 x1) n co L f ad := re_x hR n.2.2.2 rfl rfl rfl hR.1.2.2.2.2.2.2 rfl
    obtain ⟨σ4, hσ4⟩ : ∃ z, z = xs_i σ 4 x1 := ⟨_, rfl⟩
    rw [← hσ4] at hP hD hR4 hpost
    clear hn0 hn1 hn2 hR hσ4
    refine lv_iconst (v := 0) hx hb dX3_tick_24 (by decide) ?_
    refine lv_istore_n (lv' := [(2, .int 0), (0, .ref (Q 0)), (1, .int x1)]) hx hb dX3_tick_25 rfl hl (by decide) rfl (fun ls hl => ?_)
    refine lv_iconst (v := 1) hx hb dX3_tick_26 (by decide) ?_
    refine lv_istore_n (lv' := [(3, .int 1), (2, .int 0), (0, .ref (Q 0)), (1, .int x1)]) hx hb dX3_tick_27 rfl hl (by decide) rfl (fun ls hl => ?_)
    refine wl_M (Inv := fun j (u : Int32 × co_T × (Nat → va_E)) H locs ls => lv_has ls 5 [(0, .ref (Q 0)), (1, .int x1), (2, .int u.1), (3, .int (nI (j + 1)))] ∧ re_A cA σ4 n u.2.1 L u.2.2 ad ∧ ti_co x1 n.2.2.1 0 co 0 = ti_co x1 (n.2.2.1 - j) j u.2.1 u.1 ∧ va_P (dC, dI) vwCl (xc_W Q cA σ4 ++ va_pl L u.2.2) H ∧ va_D A (xc_W Q cA σ4 ++ va_pl L u.2.2) ∧ va_S A s.heap H locs) (N := n.2.2.1) (fun j u H locs ls hj hin ih => ?_) (fun u H locs ls hin => ?_) 0 (0, co, f) H locs ls (Nat.zero_le _) ⟨lv_sub hl [2, 3, 1, 0] rfl, hR4, rfl, hP, hD, hS⟩
    · clear hR4 hP hD hS hl
      obtain ⟨cn, co, f⟩ := u
      obtain ⟨hl, hR, hin, hP, hD, hS⟩ := hin
      dsimp only at hl hR hin hP hD
      refine lv_iload_n hx hb dX3_tick_28 rfl (lv_at hl 3 rfl) ?_
      refine lv_aload_n hx hb dX3_tick_29 rfl (lv_at hl 0 rfl) ?_
      refine va_get (D := (dC, dI)) (ci := 3) (v := .int (σ4.1 2)) (C := RX3) (T := TX3) (N := 16) hx hb hts in0 hown hK hP 0 (xc_W_0 _ _) rfl 5 (by decide) lk2 (fun _ h9 => h9) rfl dX3_tick_30 ?_
      refine lv_icmp_gt (tgt := 80) hx hb dX3_tick_33 (by decide) (fun c33 => ?_) (fun c33 => ?_)
      · exact absurd c33 (by rw [hR.1.2.2.2.2.1]; exact nI_nlt (by omega) (by have := hR.1.2.2.2.2.2.1; omega))
      · refine lv_aload_n hx hb dX3_tick_36 rfl (lv_at hl 0 rfl) ?_
        refine lv_iload_n hx hb dX3_tick_37 rfl (lv_at hl 3 rfl) ?_
        refine va_csq (va_Run.run (va_runV (As := [.int (nI (j + 1))]) (rest := []) ⟨hx, hb, hml, hown, hts⟩ (mt_searchNumbered l dC dI cA Q σ4 n co L f ad hR (nI (j + 1))) (cwV 1 hts (al_gV wd_177 wd_179 wd_178 wd_1 wd_180) rfl rfl rfl (by decide +kernel) ⟨Nat.le_of_ble_eq_true rfl, Nat.le_of_ble_eq_true rfl⟩) ⟨ct_blR, va_recv hK hP (ci := 3) (q0 := 0) rfl (xc_W_0 _ _), ct_atR hP hK⟩ rfl rfl hl.1 rfl (lv_room (Nat.le_of_ble_eq_true rfl)) dX3_tick_38 ⟨Nat.le_of_ble_eq_true rfl, Nat.le_of_ble_eq_true rfl⟩)) (fun r38 hr38 => ?_)
        rcases hr38 with ⟨j38, hj38, hm38, ex38, rfl⟩ | ⟨hm38, rfl⟩
        · have ej38 : j = j38 := by rw [hR.1.2.2.2.2.1, nu_s hj (by have := hR.1.2.2.2.2.2.1; omega)] at hm38; exact Option.some.inj hm38
          subst ej38
          have hS1 := hR.2.2.2.1 j hj38
          have hS1v := hR.2.2.2.2.1.2.2 j hj38
          have hS1a : f (ad.2.2.2 j) = .inr (2, [.ref (ad.2.2.1 (co.1 1 j)), .int (co.2.1 17 j), .int (co.2.1 18 j)]) := hS1.2.2
          have hC2 := hR.2.2.1 (co.1 1 j) hS1v
          have hC2v := hR.2.2.2.2.1.2.1 (co.1 1 j) hS1v
          have hC2a : f (ad.2.2.1 (co.1 1 j)) = .inr (0, [.int (nI ((co.1 1 j) + 1)), .int (co.2.1 6 (co.1 1 j)), .ref (ad.1 (co.1 0 (co.1 1 j))), .int (co.2.1 7 (co.1 1 j)), .int (co.2.1 8 (co.1 1 j)), .int (co.2.1 9 (co.1 1 j)), .int (co.2.1 10 (co.1 1 j)), .int (co.2.1 11 (co.1 1 j)), .int (co.2.1 12 (co.1 1 j)), .int (co.2.1 13 (co.1 1 j)), .int (co.2.1 14 (co.1 1 j)), .int (co.2.1 15 (co.1 1 j)), .long (co.2.2.1 2 (co.1 1 j))]) := hC2.2.2
          have hI3 := hR.2.1 (co.1 0 (co.1 1 j)) hC2v.1
          have hI3a : f (ad.1 (co.1 0 (co.1 1 j))) = .inr (1, [.int (co.2.1 0 (co.1 0 (co.1 1 j))), .long (co.2.2.1 0 (co.1 0 (co.1 1 j))), .long (co.2.2.1 1 (co.1 0 (co.1 1 j))), .int (co.2.1 1 (co.1 0 (co.1 1 j))), .int (co.2.1 2 (co.1 0 (co.1 1 j))), .ref (ad.2.1 (co.1 0 (co.1 1 j))), .int (co.2.1 3 (co.1 0 (co.1 1 j))), .int (co.2.1 4 (co.1 0 (co.1 1 j))), .int (co.2.1 5 (co.1 0 (co.1 1 j)))]) := hI3.2.2.1
          have hI3p : f (ad.2.1 (co.1 0 (co.1 1 j))) = .inl ((cA 0), 8, .inl (co.2.2.2 (co.1 0 (co.1 1 j)))) := hI3.2.2.2.2
          refine lv_astore (lv' := [(4, .ref (ad.2.2.2 j)), (0, .ref (Q 0)), (1, .int x1), (2, .int cn), (3, .int (nI (j + 1)))]) hx hb dX3_tick_41 hl (by decide) rfl (fun ls hl => ?_)
          refine lv_aload hx hb dX3_tick_43 (lv_at hl 0 rfl) ?_
          refine lv_ifnull hx hb dX3_tick_45 ?_
          refine lv_aload hx hb dX3_tick_48 (lv_at hl 0 rfl) ?_
          refine hp_get (D := (dC, dI)) (ci := 2) (v := .int (co.2.1 18 j)) (C := RX2) (T := TX2) (N := 3) hx hb hts in1 hown hK hP hS1.2.1 hS1a rfl 2 (by decide) lk3 (fun _ h9 => h9) rfl dX3_tick_50 ?_
          refine lv_if_eq (tgt := 74) hx hb dX3_tick_53 (by decide) (fun c53 => ?_) (fun c53 => ?_)
          · refine lv_iinc (v := ((nI (j + 1)) + 1)) (lv' := [(3, .int ((nI (j + 1)) + 1)), (4, .ref (ad.2.2.2 j)), (0, .ref (Q 0)), (1, .int x1), (2, .int cn)]) hx hb dX3_tick_74 hl (k := 4) rfl rfl (by decide) rfl (fun ls hl => ?_)
            refine lv_goto (tgt := 28) hx hb dX3_tick_77 (by decide) ?_
            exact ih (cn, co, f) H locs ls ⟨lv_sub hl [2, 3, 4, 0] (by rw [nI_succ (j + 1)]; rfl), hR, by rw [hin, show n.2.2.1 - j = (n.2.2.1 - (j + 1)) + 1 by omega, ti_co, if_neg (fun q => q.1 c53)], hP, hD, hS⟩
          · refine lv_aload hx hb dX3_tick_56 (lv_at hl 0 rfl) ?_
            refine hp_get (D := (dC, dI)) (ci := 2) (v := .int (co.2.1 17 j)) (C := RX2) (T := TX2) (N := 3) hx hb hts in1 hown hK hP hS1.2.1 hS1a rfl 1 (by decide) lk4 (fun _ h9 => h9) rfl dX3_tick_58 ?_
            refine lv_iload_n hx hb dX3_tick_61 rfl (lv_at hl 2 rfl) ?_
            refine lv_icmp_ge (tgt := 74) hx hb dX3_tick_62 (by decide) (fun c62 => ?_) (fun c62 => ?_)
            · refine lv_iinc (v := ((nI (j + 1)) + 1)) (lv' := [(3, .int ((nI (j + 1)) + 1)), (4, .ref (ad.2.2.2 j)), (0, .ref (Q 0)), (1, .int x1), (2, .int cn)]) hx hb dX3_tick_74 hl (k := 4) rfl rfl (by decide) rfl (fun ls hl => ?_)
              refine lv_goto (tgt := 28) hx hb dX3_tick_77 (by decide) ?_
              exact ih (cn, co, f) H locs ls ⟨lv_sub hl [2, 3, 4, 0] (by rw [nI_succ (j + 1)]; rfl), hR, by rw [hin, show n.2.2.1 - j = (n.2.2.1 - (j + 1)) + 1 by omega, ti_co, if_neg (fun q => absurd q.2 (Int32.not_lt.mpr c62))], hP, hD, hS⟩
            · refine lv_aload hx hb dX3_tick_65 (lv_at hl 0 rfl) ?_
              refine lv_iconst (v := 0) hx hb dX3_tick_67 (by decide) ?_
              have hFc := ct_free hD hS hA
              refine va_callv (va_runV (As := [.int 0]) (rest := []) ⟨hx, hb, hml, hown, hts⟩ (mt_close l dC dI cA H.size (xc_W Q cA σ4) L f (ad.2.2.2 j) hS1.2.1 (ad.2.2.1 (co.1 1 j)) hC2.2.1 (co.2.1 17 j) (co.2.1 18 j) hS1a (nI ((co.1 1 j) + 1)) (co.2.1 6 (co.1 1 j)) (ad.1 (co.1 0 (co.1 1 j))) (co.2.1 7 (co.1 1 j)) (co.2.1 8 (co.1 1 j)) (co.2.1 9 (co.1 1 j)) (co.2.1 10 (co.1 1 j)) (co.2.1 11 (co.1 1 j)) (co.2.1 12 (co.1 1 j)) (co.2.1 13 (co.1 1 j)) (co.2.1 14 (co.1 1 j)) (co.2.1 15 (co.1 1 j)) (co.2.2.1 2 (co.1 1 j)) hC2a false) (cwV 1 hts (al_gV wd_181 wd_182 wd_183 wd_6 wd_184) rfl rfl rfl (by decide +kernel) ⟨Nat.le_of_ble_eq_true rfl, Nat.le_of_ble_eq_true rfl⟩) ⟨ct_blM, hp_recv hK hP (ci := 2) rfl hS1.2.1 hS1a, ct_atM hP hK hD⟩ rfl rfl hl.1 rfl (lv_room (Nat.le_of_ble_eq_true rfl)) dX3_tick_68 ⟨Nat.le_of_ble_eq_true rfl, Nat.le_of_ble_eq_true rfl⟩) hS (fun q _ h => hFc q h) hFc (fun u68 t H1 locs ht hvm hr68 hB hz1 hk1 hS => ?_)
              obtain ⟨hP, -, hD1⟩ := hB
              rw [ht] at hP
              have hD := hD1.weaken (fun _ _ _ h => hFc _ h)
              clear hD1 hk1 hz1 hFc hvm
              generalize H1 = H at hP hS ht ⊢
              clear ht
              refine W.widen (k := 0) (n := 0) (by decide) (by decide) ?_
              subst hr68
              have hP : va_P (dC, dI) vwCl (xc_W Q cA σ4 ++ va_pl L (va_up (va_up f (ad.2.2.2 j) (.inr (2, [.ref (ad.2.2.1 (co.1 1 j)), .int (co.2.1 17 j), .int 0]))) (ad.2.2.1 (co.1 1 j)) (.inr (0, [.int (nI ((co.1 1 j) + 1)), .int (co.2.1 6 (co.1 1 j)), .ref (ad.1 (co.1 0 (co.1 1 j))), .int (co.2.1 7 (co.1 1 j)), .int (co.2.1 8 (co.1 1 j)), .int (co.2.1 9 (co.1 1 j)), .int (co.2.1 10 (co.1 1 j)), .int (co.2.1 11 (co.1 1 j)), .int ((co.2.1 12 (co.1 1 j)) - 1), .int (if false then 1 else (co.2.1 13 (co.1 1 j))), .int (co.2.1 14 (co.1 1 j)), .int (co.2.1 15 (co.1 1 j)), .long (co.2.2.1 2 (co.1 1 j))])))) H := hP
              have hD : va_D A (xc_W Q cA σ4 ++ va_pl L (va_up (va_up f (ad.2.2.2 j) (.inr (2, [.ref (ad.2.2.1 (co.1 1 j)), .int (co.2.1 17 j), .int 0]))) (ad.2.2.1 (co.1 1 j)) (.inr (0, [.int (nI ((co.1 1 j) + 1)), .int (co.2.1 6 (co.1 1 j)), .ref (ad.1 (co.1 0 (co.1 1 j))), .int (co.2.1 7 (co.1 1 j)), .int (co.2.1 8 (co.1 1 j)), .int (co.2.1 9 (co.1 1 j)), .int (co.2.1 10 (co.1 1 j)), .int (co.2.1 11 (co.1 1 j)), .int ((co.2.1 12 (co.1 1 j)) - 1), .int (if false then 1 else (co.2.1 13 (co.1 1 j))), .int (co.2.1 14 (co.1 1 j)), .int (co.2.1 15 (co.1 1 j)), .long (co.2.2.1 2 (co.1 1 j))])))) := hD
              obtain ⟨f_1, ef_1⟩ : ∃ y9, y9 = va_up f (ad.2.2.2 j) (.inr (2, [.ref (ad.2.2.1 (co.1 1 j)), .int (co.2.1 17 j), .int 0])) := ⟨_, rfl⟩
              rw [← ef_1] at hP hD
              have hf_1_ad221co11j : f_1 (ad.2.2.1 (co.1 1 j)) = .inr (0, [.int (nI ((co.1 1 j) + 1)), .int (co.2.1 6 (co.1 1 j)), .ref (ad.1 (co.1 0 (co.1 1 j))), .int (co.2.1 7 (co.1 1 j)), .int (co.2.1 8 (co.1 1 j)), .int (co.2.1 9 (co.1 1 j)), .int (co.2.1 10 (co.1 1 j)), .int (co.2.1 11 (co.1 1 j)), .int (co.2.1 12 (co.1 1 j)), .int (co.2.1 13 (co.1 1 j)), .int (co.2.1 14 (co.1 1 j)), .int (co.2.1 15 (co.1 1 j)), .long (co.2.2.1 2 (co.1 1 j))]) := by rw [ef_1, va_up_ne _ _ (ct_ne hC2a hS1a (by simp))]; exact hC2a
              have hf_1_ad1co10co11j : f_1 (ad.1 (co.1 0 (co.1 1 j))) = .inr (1, [.int (co.2.1 0 (co.1 0 (co.1 1 j))), .long (co.2.2.1 0 (co.1 0 (co.1 1 j))), .long (co.2.2.1 1 (co.1 0 (co.1 1 j))), .int (co.2.1 1 (co.1 0 (co.1 1 j))), .int (co.2.1 2 (co.1 0 (co.1 1 j))), .ref (ad.2.1 (co.1 0 (co.1 1 j))), .int (co.2.1 3 (co.1 0 (co.1 1 j))), .int (co.2.1 4 (co.1 0 (co.1 1 j))), .int (co.2.1 5 (co.1 0 (co.1 1 j)))]) := by rw [ef_1, va_up_ne _ _ (ct_ne hI3a hS1a (by simp))]; exact hI3a
              have hf_1_ad21co10co11j : f_1 (ad.2.1 (co.1 0 (co.1 1 j))) = .inl ((cA 0), 8, .inl (co.2.2.2 (co.1 0 (co.1 1 j)))) := by rw [ef_1, va_up_ne _ _ (ct_ne hI3p hS1a (by simp))]; exact hI3p
              have hf_1_ad222j : f_1 (ad.2.2.2 j) = .inr (2, [.ref (ad.2.2.1 (co.1 1 j)), .int (co.2.1 17 j), .int 0]) := by rw [ef_1]; exact va_up_self _ _ _
              obtain ⟨f_2, ef_2⟩ : ∃ y9, y9 = va_up f_1 (ad.2.2.1 (co.1 1 j)) (.inr (0, [.int (nI ((co.1 1 j) + 1)), .int (co.2.1 6 (co.1 1 j)), .ref (ad.1 (co.1 0 (co.1 1 j))), .int (co.2.1 7 (co.1 1 j)), .int (co.2.1 8 (co.1 1 j)), .int (co.2.1 9 (co.1 1 j)), .int (co.2.1 10 (co.1 1 j)), .int (co.2.1 11 (co.1 1 j)), .int ((co.2.1 12 (co.1 1 j)) - 1), .int (if false then 1 else (co.2.1 13 (co.1 1 j))), .int (co.2.1 14 (co.1 1 j)), .int (co.2.1 15 (co.1 1 j)), .long (co.2.2.1 2 (co.1 1 j))])) := ⟨_, rfl⟩
              rw [← ef_2] at hP hD
              have hf_2_ad222j : f_2 (ad.2.2.2 j) = .inr (2, [.ref (ad.2.2.1 (co.1 1 j)), .int (co.2.1 17 j), .int 0]) := by rw [ef_2, va_up_ne _ _ (ct_ne hf_1_ad222j hf_1_ad221co11j (by simp))]; exact hf_1_ad222j
              have hf_2_ad1co10co11j : f_2 (ad.1 (co.1 0 (co.1 1 j))) = .inr (1, [.int (co.2.1 0 (co.1 0 (co.1 1 j))), .long (co.2.2.1 0 (co.1 0 (co.1 1 j))), .long (co.2.2.1 1 (co.1 0 (co.1 1 j))), .int (co.2.1 1 (co.1 0 (co.1 1 j))), .int (co.2.1 2 (co.1 0 (co.1 1 j))), .ref (ad.2.1 (co.1 0 (co.1 1 j))), .int (co.2.1 3 (co.1 0 (co.1 1 j))), .int (co.2.1 4 (co.1 0 (co.1 1 j))), .int (co.2.1 5 (co.1 0 (co.1 1 j)))]) := by rw [ef_2, va_up_ne _ _ (ct_ne hf_1_ad1co10co11j hf_1_ad221co11j (by simp))]; exact hf_1_ad1co10co11j
              have hf_2_ad21co10co11j : f_2 (ad.2.1 (co.1 0 (co.1 1 j))) = .inl ((cA 0), 8, .inl (co.2.2.2 (co.1 0 (co.1 1 j)))) := by rw [ef_2, va_up_ne _ _ (ct_ne hf_1_ad21co10co11j hf_1_ad221co11j (by simp))]; exact hf_1_ad21co10co11j
              have hf_2_ad221co11j : f_2 (ad.2.2.1 (co.1 1 j)) = .inr (0, [.int (nI ((co.1 1 j) + 1)), .int (co.2.1 6 (co.1 1 j)), .ref (ad.1 (co.1 0 (co.1 1 j))), .int (co.2.1 7 (co.1 1 j)), .int (co.2.1 8 (co.1 1 j)), .int (co.2.1 9 (co.1 1 j)), .int (co.2.1 10 (co.1 1 j)), .int (co.2.1 11 (co.1 1 j)), .int ((co.2.1 12 (co.1 1 j)) - 1), .int (if false then 1 else (co.2.1 13 (co.1 1 j))), .int (co.2.1 14 (co.1 1 j)), .int (co.2.1 15 (co.1 1 j)), .long (co.2.2.1 2 (co.1 1 j))]) := by rw [ef_2]; exact va_up_self _ _ _
              refine lv_iinc (v := (cn + 1)) (lv' := [(2, .int (cn + 1)), (4, .ref (ad.2.2.2 j)), (0, .ref (Q 0)), (1, .int x1), (3, .int (nI (j + 1)))]) hx hb dX3_tick_71 hl (k := 3) rfl rfl (by decide) rfl (fun ls hl => ?_)
              refine lv_iinc (v := ((nI (j + 1)) + 1)) (lv' := [(3, .int ((nI (j + 1)) + 1)), (2, .int (cn + 1)), (4, .ref (ad.2.2.2 j)), (0, .ref (Q 0)), (1, .int x1)]) hx hb dX3_tick_74 hl (k := 4) rfl rfl (by decide) rfl (fun ls hl => ?_)
              refine lv_goto (tgt := 28) hx hb dX3_tick_77 (by decide) ?_
              have hR5 : re_A cA σ4 n (cs_co co j false) L f_2 ad := by rw [ef_2, ef_1]; exact re_close hR hj38 rfl rfl
              exact ih (cn + 1, cs_co co j false, f_2) H locs ls ⟨lv_sub hl [3, 4, 1, 0] (by rw [nI_succ (j + 1)]; rfl), hR5, by rw [hin, show n.2.2.1 - j = (n.2.2.1 - (j + 1)) + 1 by omega, ti_co, if_pos ⟨c53, Int32.not_le.mp c62⟩], hP, hD, hS⟩
        · rw [hR.1.2.2.2.2.1, nu_s hj (by have := hR.1.2.2.2.2.2.1; omega)] at hm38; cases hm38
    · clear hR4 hP hD hS hl
      obtain ⟨cn, co, f⟩ := u
      obtain ⟨hl, hR, hin, hP, hD, hS⟩ := hin
      dsimp only at hl hR hin hP hD
      refine lv_iload_n hx hb dX3_tick_28 rfl (lv_at hl 3 rfl) ?_
      refine lv_aload_n hx hb dX3_tick_29 rfl (lv_at hl 0 rfl) ?_
      refine va_get (D := (dC, dI)) (ci := 3) (v := .int (σ4.1 2)) (C := RX3) (T := TX3) (N := 16) hx hb hts in0 hown hK hP 0 (xc_W_0 _ _) rfl 5 (by decide) lk2 (fun _ h9 => h9) rfl dX3_tick_30 ?_
      refine lv_icmp_gt (tgt := 80) hx hb dX3_tick_33 (by decide) (fun c33 => ?_) (fun c33 => ?_)
      · refine lv_iload_n hx hb dX3_tick_80 rfl (lv_at hl 2 rfl) ?_
        exact W.iret (v := cn) hx hb hr (fun t ht hW => ⟨⟨cn, (σ4, co), rfl, (hpost _ _ (by rw [hin, Nat.sub_self, ti_co])), σ4.2.2.2.2, n, L, f, ad, Nat.le_succ _, hR, by rw [ht]; exact hP, va_K.moved hW.alike hK, hD⟩, hS.F ht⟩) hS.2.2 dX3_tick_81
      · exact absurd (by rw [hR.1.2.2.2.2.1]; exact nI_lt (by omega) (by have := hR.1.2.2.2.2.2.1; omega)) c33
  · have c13 := of_decide_eq_false (bb_0.mp c13)
    refine lv_bipush (v := (-102)) hx hb dX3_tick_16 (by decide) ?_
    exact W.iret (v := (-102)) hx hb hr (fun t ht hW => ⟨⟨(-102), (σ, co), rfl, (by simp only [kc_tick, if_neg c13]), σ.2.2.2.2, n, L, f, ad, Nat.le_succ _, hR, by rw [ht]; exact hP, va_K.moved hW.alike hK, hD⟩, hS.F ht⟩) hS.2.2 dX3_tick_18
