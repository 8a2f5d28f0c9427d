set_option maxHeartbeats 4000000 in
set_option maxRecDepth 100000 in
/-- mr_tick -/
theorem mr_tick (l : Launch) (dC : Nat → ClassId) (dI : Nat → Nat → Nat) (cA : Nat → ClassId) (sz : Nat) (Q : Nat → Nat) (σ : xs_T) (n : nn_T) (L : List Nat) (f : Nat → va_E) (hV : rm_V σ n) (x1 : Int32) : Met l yX4_tick wsX4_tick ({ frames := 1, cells := 0, slots := 0, locals := 25 }) (va_Pc [.ref (Q 0), .int x1] (ct_M (dC, dI) vwCl (ty_K cA) (xm_W Q cA σ ++ va_pl L f) sz)) (va_Qi (fun r u => (r, u) = kr_tick σ x1) (fun u t => ct_B (dC, dI) vwCl (ty_K cA) (va_A (xm_W Q cA σ ++ va_pl L f) sz) (xm_W Q cA u ++ va_pl L f) t) (va_A (xm_W Q cA σ ++ va_pl L f) sz)) 0 0 (va_A (xm_W Q cA σ ++ va_pl L f) sz) := by
  refine Met.ofW (cc := cX4_tick) (maxL := 4) (ret := (some .int)) (by decide) rfl ?_
  intro p e s m args below meth c s₁ B hml hv
  obtain ⟨rfl, hsz, hP, hK, hD0⟩ := hv
  have hx := B.exec
  have hb := B.bytes
  have hr := B.returns
  have hts := atoms_spec (ws := wsX4_tick) B.pre
  have hown : s.vm.findClass RX4 = some m.cls := findClass_of_methodNamed B.named
  have hlocks := B.notSynchronized
  subst hsz
  have hD := hD0.self (sz := s.heap.size)
  generalize hAe : va_A (xm_W Q cA σ ++ va_pl L f) s.heap.size = A at hD ⊢
  have hA : ∀ q : Nat, s.heap.size ≤ q → A q := fun q h => by rw [← hAe]; exact Or.inr h
  clear hAe hD0
  have hS : va_S A s.heap s.heap [] := va_S.rf
  have hl := lv_entry ([.ref (Q 0), .int x1]) (n := 4) (Nat.le_of_ble_eq_true rfl)
  rw [lg_entry_eq]
  generalize (lg_sl ([.ref (Q 0), .int x1]) ++ List.replicate (4 - (lg_sl ([.ref (Q 0), .int x1])).length) Slot.unset).toArray = ls at hl ⊢
  have hl : lv_has ls 4 [(0, .ref (Q 0)), (1, .int x1)] := hl
  have lk0 := hts (.fieldLink RX4 142 "ClaimRowsModel" "clock" "I") (List.mem_cons_of_mem _ wd_301)
  have lk1 := hts (.constantLong RX4 119 200000) (List.mem_cons_of_mem _ wd_340)
  have lk2 := hts (.fieldLink RX4 145 "ClaimRowsModel" "searches" "I") (List.mem_cons_of_mem _ wd_296)
  have lk3 := hts (.fieldLink RX4 72 "ClaimRowsModel" "found" "[I") (List.mem_cons_of_mem _ wd_299)
  have lk4 := hts (.fieldLink RX4 69 "ClaimRowsModel" "due" "[I") (List.mem_cons_of_mem _ wd_298)
  have in0 : ∀ w ∈ u_ws RX4 TX4 33, w ∈ wsX4_tick := fun w h => List.mem_cons_of_mem _ (wu_X4 w h)
  have hn0 : (σ.1 0).toNatClampNeg = n.1 := by rw [hV.1.1]; exact nI_clamp (by have := hV.1.2.1; omega)
  have hn1 : (σ.1 1).toNatClampNeg = n.2.1 := by rw [hV.1.2.2.1]; exact nI_clamp (by have := hV.1.2.2.2.1; omega)
  have hn2 : (σ.1 2).toNatClampNeg = n.2.2.1 := by rw [hV.1.2.2.2.2.1]; exact nI_clamp (by have := hV.1.2.2.2.2.2.1; omega)
  refine lv_iload_n hx hb dX4_tick_0 rfl (lv_at hl 1 rfl) ?_
  refine lv_i2l (v := (x1 : Int32).toInt64) hx hb dX4_tick_1 rfl ?_
  refine lv_aload_n hx hb dX4_tick_2 rfl (lv_at hl 0 rfl) ?_
  refine va_get (D := (dC, dI)) (ci := 4) (v := .int (σ.1 3)) (C := RX4) (T := TX4) (N := 33) hx hb hts in0 hown hK hP 0 (xm_W_0 _ _) rfl 25 (by decide) lk0 (fun _ h9 => h9) rfl dX4_tick_3 ?_
  refine lv_i2l (v := ((σ.1 3) : Int32).toInt64) hx hb dX4_tick_6 rfl ?_
  refine lv_ldc2 hx hb hown lk1 dX4_tick_7 ?_
  refine vp_callSi (va_Run.run (va_runS (As := [.long ((x1 : Int32).toInt64), .long (((σ.1 3) : Int32).toInt64), .long 200000]) (rest := []) ⟨hx, hb, hml, hown, hts⟩ (mr_isIn l ((x1 : Int32).toInt64) (((σ.1 3) : Int32).toInt64) 200000) (va_cwS 3 hts (al_gS wd_315 wd_316 wd_2 wd_317) rfl rfl rfl (by decide +kernel) ⟨Nat.le_of_ble_eq_true rfl, Nat.le_of_ble_eq_true rfl⟩) ⟨ct_bl0, ct_at0⟩ rfl rfl hl.1 rfl (lv_room (Nat.le_of_ble_eq_true rfl)) dX4_tick_10 ⟨Nat.le_of_ble_eq_true rfl, Nat.le_of_ble_eq_true rfl⟩)) (fun r10 hr10 => ?_)
  subst hr10
  refine lv_if_ne (tgt := 19) hx hb dX4_tick_13 (by decide) (fun c13 => ?_) (fun c13 => ?_)
  · have c13 := of_decide_eq_true (bb_n.mp c13)
    refine lv_aload_n hx hb dX4_tick_19 rfl (lv_at hl 0 rfl) ?_
    refine lv_iload_n hx hb dX4_tick_20 rfl (lv_at hl 1 rfl) ?_
    refine va_put (D := (dC, dI)) (ci := 4) (v := .int x1) (ty := .int) (C := RX4) (T := TX4) (N := 33) hx hb hts in0 tyX4 tyX4_ok nmX4 hown hK hP hD hS 0 (xm_W_0 _ _) rfl 25 (by decide) lk0 (fun _ h9 => h9) rfl (by decide +kernel) rfl rfl (Nat.le_of_ble_eq_true rfl) dX4_tick_21 (fun H locs hP hD hS => ?_)
    have hP : va_P (dC, dI) vwCl (xm_W Q cA (xs_i σ 3 x1) ++ va_pl L f) H := hP
    have hD : va_D A (xm_W Q cA (xs_i σ 3 x1) ++ va_pl L f) := hD
    refine lv_iconst (v := 0) hx hb dX4_tick_24 (by decide) ?_
    refine lv_istore_n (lv' := [(2, .int 0), (0, .ref (Q 0)), (1, .int x1)]) hx hb dX4_tick_25 rfl hl (by decide) rfl (fun ls hl => ?_)
    refine lv_iconst (v := 1) hx hb dX4_tick_26 (by decide) ?_
    refine lv_istore_n (lv' := [(3, .int 1), (2, .int 0), (0, .ref (Q 0)), (1, .int x1)]) hx hb dX4_tick_27 rfl hl (by decide) rfl (fun ls hl => ?_)
    refine wl_M (Inv := fun j (_ : Unit) H locs ls => lv_has ls 4 [(0, .ref (Q 0)), (1, .int x1), (2, .int ((ti_r σ x1 j).1)), (3, .int (nI (j + 1)))] ∧ va_P (dC, dI) vwCl (xm_W Q cA (ti_r σ x1 j).2 ++ va_pl L f) H ∧ va_D A (xm_W Q cA (ti_r σ x1 j).2 ++ va_pl L f) ∧ va_S A s.heap H locs) (N := n.2.2.1) (fun j _ H locs ls hj hin ih => ?_) (fun _ H locs ls hin => ?_) 0 () H locs ls (Nat.zero_le _) ⟨lv_sub hl [2, 3, 1, 0] rfl, hP, hD, hS⟩
    · clear hP hD hS hl
      obtain ⟨hl, hP, hD, hS⟩ := hin
      refine lv_iload_n hx hb dX4_tick_28 rfl (lv_at hl 3 rfl) ?_
      refine lv_aload_n hx hb dX4_tick_29 rfl (lv_at hl 0 rfl) ?_
      refine va_get (D := (dC, dI)) (ci := 4) (v := .int (((ti_r σ x1 j).2).1 2)) (C := RX4) (T := TX4) (N := 33) hx hb hts in0 hown hK hP 0 (xm_W_0 _ _) rfl 20 (by decide) lk2 (fun _ h9 => h9) rfl dX4_tick_30 ?_
      refine lv_icmp_gt (tgt := 74) hx hb dX4_tick_33 (by decide) (fun c33 => ?_) (fun c33 => ?_)
      · exact absurd c33 (by rw [ti_2, hV.1.2.2.2.2.1]; exact nI_nlt (by omega) (by have := hV.1.2.2.2.2.2.1; omega))
      · refine lv_aload_n hx hb dX4_tick_36 rfl (lv_at hl 0 rfl) ?_
        refine va_get (D := (dC, dI)) (ci := 4) (v := .ref (Q 21)) (C := RX4) (T := TX4) (N := 33) hx hb hts in0 hown hK hP 0 (xm_W_0 _ _) rfl 23 (by decide) lk3 (fun _ h9 => h9) rfl dX4_tick_37 ?_
        refine lv_iload_n hx hb dX4_tick_40 rfl (lv_at hl 3 rfl) ?_
        refine va_iald hx hb hK hP 21 0 (xm_W_21 _ _) rfl (vp_in_nI (by have := hV.1.2.2.2.2.2.1; omega) (by decide)) dX4_tick_41 ?_
        refine lv_if_ne (tgt := 68) hx hb dX4_tick_42 (by decide) (fun c42 => ?_) (fun c42 => ?_)
        · refine lv_iinc (v := ((nI (j + 1)) + 1)) (lv' := [(3, .int ((nI (j + 1)) + 1)), (0, .ref (Q 0)), (1, .int x1), (2, .int ((ti_r σ x1 j).1))]) hx hb dX4_tick_68 hl (k := 3) rfl rfl (by decide) rfl (fun ls hl => ?_)
          refine lv_goto (tgt := 28) hx hb dX4_tick_71 (by decide) ?_
          have E9 : ti_r σ x1 (j + 1) = ti_r σ x1 j := by rw [ti_r, if_neg (fun q => c42 q.1)]
          exact ih () H locs ls ⟨lv_sub hl [1, 2, 3, 0] (by rw [nI_succ (j + 1), E9]; rfl), by rw [E9]; exact hP, by rw [E9]; exact hD, hS⟩
        · refine lv_aload_n hx hb dX4_tick_45 rfl (lv_at hl 0 rfl) ?_
          refine va_get (D := (dC, dI)) (ci := 4) (v := .ref (Q 20)) (C := RX4) (T := TX4) (N := 33) hx hb hts in0 hown hK hP 0 (xm_W_0 _ _) rfl 22 (by decide) lk4 (fun _ h9 => h9) rfl dX4_tick_46 ?_
          refine lv_iload_n hx hb dX4_tick_49 rfl (lv_at hl 3 rfl) ?_
          refine va_iald hx hb hK hP 20 0 (xm_W_20 _ _) rfl (vp_in_nI (by have := hV.1.2.2.2.2.2.1; omega) (by decide)) dX4_tick_50 ?_
          refine lv_aload_n hx hb dX4_tick_51 rfl (lv_at hl 0 rfl) ?_
          refine va_get (D := (dC, dI)) (ci := 4) (v := .int (((ti_r σ x1 j).2).1 3)) (C := RX4) (T := TX4) (N := 33) hx hb hts in0 hown hK hP 0 (xm_W_0 _ _) rfl 25 (by decide) lk0 (fun _ h9 => h9) rfl dX4_tick_52 ?_
          refine lv_icmp_ge (tgt := 68) hx hb dX4_tick_55 (by decide) (fun c55 => ?_) (fun c55 => ?_)
          · refine lv_iinc (v := ((nI (j + 1)) + 1)) (lv' := [(3, .int ((nI (j + 1)) + 1)), (0, .ref (Q 0)), (1, .int x1), (2, .int ((ti_r σ x1 j).1))]) hx hb dX4_tick_68 hl (k := 3) rfl rfl (by decide) rfl (fun ls hl => ?_)
            refine lv_goto (tgt := 28) hx hb dX4_tick_71 (by decide) ?_
            have E9 : ti_r σ x1 (j + 1) = ti_r σ x1 j := by rw [ti_r, if_neg (fun q => absurd q.2 (Int32.not_lt.mpr c55))]
            exact ih () H locs ls ⟨lv_sub hl [1, 2, 3, 0] (by rw [nI_succ (j + 1), E9]; rfl), by rw [E9]; exact hP, by rw [E9]; exact hD, hS⟩
          · refine lv_aload_n hx hb dX4_tick_58 rfl (lv_at hl 0 rfl) ?_
            refine va_get (D := (dC, dI)) (ci := 4) (v := .ref (Q 21)) (C := RX4) (T := TX4) (N := 33) hx hb hts in0 hown hK hP 0 (xm_W_0 _ _) rfl 23 (by decide) lk3 (fun _ h9 => h9) rfl dX4_tick_59 ?_
            refine lv_iload_n hx hb dX4_tick_62 rfl (lv_at hl 3 rfl) ?_
            refine lv_iconst (v := 2) hx hb dX4_tick_63 (by decide) ?_
            refine va_iast hx hb hK hP hD hS 21 0 (xm_W_21 _ _) rfl (vp_in_nI (by have := hV.1.2.2.2.2.2.1; omega) (by decide)) dX4_tick_64 (fun H locs hP hD hS => ?_)
            have hP : va_P (dC, dI) vwCl (xm_W Q cA (xs_ai ((ti_r σ x1 j).2) 16 (upd (((ti_r σ x1 j).2).2.2.1 16) ((nI (j + 1))).toNatClampNeg 2)) ++ va_pl L f) H := hP
            have hD : va_D A (xm_W Q cA (xs_ai ((ti_r σ x1 j).2) 16 (upd (((ti_r σ x1 j).2).2.2.1 16) ((nI (j + 1))).toNatClampNeg 2)) ++ va_pl L f) := hD
            refine lv_iinc (v := (((ti_r σ x1 j).1) + 1)) (lv' := [(2, .int (((ti_r σ x1 j).1) + 1)), (0, .ref (Q 0)), (1, .int x1), (3, .int (nI (j + 1)))]) hx hb dX4_tick_65 hl (k := 2) rfl rfl (by decide) rfl (fun ls hl => ?_)
            refine lv_iinc (v := ((nI (j + 1)) + 1)) (lv' := [(3, .int ((nI (j + 1)) + 1)), (2, .int (((ti_r σ x1 j).1) + 1)), (0, .ref (Q 0)), (1, .int x1)]) hx hb dX4_tick_68 hl (k := 3) rfl rfl (by decide) rfl (fun ls hl => ?_)
            refine lv_goto (tgt := 28) hx hb dX4_tick_71 (by decide) ?_
            have E9 : ti_r σ x1 (j + 1) = ((ti_r σ x1 j).1 + 1, xs_ai ((ti_r σ x1 j).2) 16 (upd (((ti_r σ x1 j).2).2.2.1 16) ((nI (j + 1))).toNatClampNeg 2)) := by rw [ti_r, if_pos ⟨c42, Int32.not_le.mp c55⟩]
            exact ih () H locs ls ⟨lv_sub hl [2, 3, 1, 0] (by rw [nI_succ (j + 1), E9]; rfl), by rw [E9]; exact hP, by rw [E9]; exact hD, hS⟩
    · clear hP hD hS hl
      obtain ⟨hl, hP, hD, hS⟩ := hin
      refine lv_iload_n hx hb dX4_tick_28 rfl (lv_at hl 3 rfl) ?_
      refine lv_aload_n hx hb dX4_tick_29 rfl (lv_at hl 0 rfl) ?_
      refine va_get (D := (dC, dI)) (ci := 4) (v := .int (((ti_r σ x1 n.2.2.1).2).1 2)) (C := RX4) (T := TX4) (N := 33) hx hb hts in0 hown hK hP 0 (xm_W_0 _ _) rfl 20 (by decide) lk2 (fun _ h9 => h9) rfl dX4_tick_30 ?_
      refine lv_icmp_gt (tgt := 74) hx hb dX4_tick_33 (by decide) (fun c33 => ?_) (fun c33 => ?_)
      · refine lv_iload_n hx hb dX4_tick_74 rfl (lv_at hl 2 rfl) ?_
        exact W.iret (v := ((ti_r σ x1 n.2.2.1).1)) hx hb hr (fun t ht hW => ⟨⟨((ti_r σ x1 n.2.2.1).1), (ti_r σ x1 n.2.2.1).2, rfl, (by simp only [kr_tick, if_pos c13, hn2]), by rw [ht]; exact hP, va_K.moved hW.alike hK, hD⟩, hS.F ht⟩) hS.2.2 dX4_tick_75
      · exact absurd (by rw [ti_2, hV.1.2.2.2.2.1]; exact nI_lt (by omega) (by have := hV.1.2.2.2.2.2.1; omega)) c33
  · have c13 := of_decide_eq_false (bb_0.mp c13)
    refine lv_bipush (v := (-102)) hx hb dX4_tick_16 (by decide) ?_
    exact W.iret (v := (-102)) hx hb hr (fun t ht hW => ⟨⟨(-102), σ, rfl, (by simp only [kr_tick, if_neg c13]), by rw [ht]; exact hP, va_K.moved hW.alike hK, hD⟩, hS.F ht⟩) hS.2.2 dX4_tick_18
set_option maxHeartbeats 4000000 in
set_option maxRecDepth 100000 in
/-- mr_appeal -/
theorem mr_appeal (l : Launch) (dC : Nat → ClassId) (dI : Nat → Nat → Nat) (cA : Nat → ClassId) (sz : Nat) (Q : Nat → Nat) (σ : xs_T) (n : nn_T) (L : List Nat) (f : Nat → va_E) (hV : rm_V σ n) (x1 : Int32) : Met l yX4_appeal wsX4_appeal ({ frames := 1, cells := 0, slots := 0, locals := 25 }) (va_Pc [.ref (Q 0), .int x1] (ct_M (dC, dI) vwCl (ty_K cA) (xm_W Q cA σ ++ va_pl L f) sz)) (va_Qi (fun r u => (r, u) = kr_appeal σ x1) (fun u t => ct_B (dC, dI) vwCl (ty_K cA) (va_A (xm_W Q cA σ ++ va_pl L f) sz) (xm_W Q cA u ++ va_pl L f) t) (va_A (xm_W Q cA σ ++ va_pl L f) sz)) 0 0 (va_A (xm_W Q cA σ ++ va_pl L f) sz) := by
  refine Met.ofW (cc := cX4_appeal) (maxL := 3) (ret := (some .int)) (by decide) rfl ?_
  intro p e s m args below meth c s₁ B hml hv
  obtain ⟨rfl, hsz, hP, hK, hD0⟩ := hv
  have hx := B.exec
  have hb := B.bytes
  have hr := B.returns
  have hts := atoms_spec (ws := wsX4_appeal) B.pre
  have hown : s.vm.findClass RX4 = some m.cls := findClass_of_methodNamed B.named
  have hlocks := B.notSynchronized
  subst hsz
  have hD := hD0.self (sz := s.heap.size)
  generalize hAe : va_A (xm_W Q cA σ ++ va_pl L f) s.heap.size = A at hD ⊢
  have hA : ∀ q : Nat, s.heap.size ≤ q → A q := fun q h => by rw [← hAe]; exact Or.inr h
  clear hAe hD0
  have hS : va_S A s.heap s.heap [] := va_S.rf
  have hl := lv_entry ([.ref (Q 0), .int x1]) (n := 3) (Nat.le_of_ble_eq_true rfl)
  rw [lg_entry_eq]
  generalize (lg_sl ([.ref (Q 0), .int x1]) ++ List.replicate (3 - (lg_sl ([.ref (Q 0), .int x1])).length) Slot.unset).toArray = ls at hl ⊢
  have hl : lv_has ls 3 [(0, .ref (Q 0)), (1, .int x1)] := hl
  have lk0 := hts (.fieldLink RX4 51 "ClaimRowsModel" "state" "[I") (List.mem_cons_of_mem _ wd_291)
  have lk1 := hts (.fieldLink RX4 57 "ClaimRowsModel" "appealed" "[Z") (List.mem_cons_of_mem _ wd_293)
  have lk2 := hts (.fieldLink RX4 45 "ClaimRowsModel" "itemOf" "[I") (List.mem_cons_of_mem _ wd_289)
  have lk3 := hts (.fieldLink RX4 48 "ClaimRowsModel" "kindOf" "[I") (List.mem_cons_of_mem _ wd_290)
  have lk4 := hts (.fieldLink RX4 145 "ClaimRowsModel" "searches" "I") (List.mem_cons_of_mem _ wd_296)
  have lk5 := hts (.fieldLink RX4 66 "ClaimRowsModel" "claimOf" "[I") (List.mem_cons_of_mem _ wd_297)
  have lk6 := hts (.fieldLink RX4 75 "ClaimRowsModel" "counts" "[Z") (List.mem_cons_of_mem _ wd_300)
  have in0 : ∀ w ∈ u_ws RX4 TX4 33, w ∈ wsX4_appeal := fun w h => List.mem_cons_of_mem _ (wu_X4 w h)
  have hn0 : (σ.1 0).toNatClampNeg = n.1 := by rw [hV.1.1]; exact nI_clamp (by have := hV.1.2.1; omega)
  have hn1 : (σ.1 1).toNatClampNeg = n.2.1 := by rw [hV.1.2.2.1]; exact nI_clamp (by have := hV.1.2.2.2.1; omega)
  have hn2 : (σ.1 2).toNatClampNeg = n.2.2.1 := by rw [hV.1.2.2.2.2.1]; exact nI_clamp (by have := hV.1.2.2.2.2.2.1; omega)
  refine lv_aload_n hx hb dX4_appeal_0 rfl (lv_at hl 0 rfl) ?_
  refine lv_iload_n hx hb dX4_appeal_1 rfl (lv_at hl 1 rfl) ?_
  refine vp_callSi (va_Run.run (va_runV (As := [.int x1]) (rest := []) ⟨hx, hb, hml, hown, hts⟩ (mr_isClaim l dC dI cA Q σ L f x1) (cwV 1 hts (al_gV wd_353 wd_355 wd_354 wd_2 wd_356) rfl rfl rfl (by decide +kernel) ⟨Nat.le_of_ble_eq_true rfl, Nat.le_of_ble_eq_true rfl⟩) ⟨ct_blR, va_recv hK hP (ci := 4) (q0 := 0) rfl (xm_W_0 _ _), ct_atR hP hK⟩ rfl rfl hl.1 rfl (lv_room (Nat.le_of_ble_eq_true rfl)) dX4_appeal_2 ⟨Nat.le_of_ble_eq_true rfl, Nat.le_of_ble_eq_true rfl⟩)) (fun r2 hr2 => ?_)
  subst hr2
  refine lv_if_ne (tgt := 11) hx hb dX4_appeal_5 (by decide) (fun c5 => ?_) (fun c5 => ?_)
  · have c5 := of_decide_eq_true (bb_n.mp c5)
    refine lv_aload_n hx hb dX4_appeal_11 rfl (lv_at hl 0 rfl) ?_
    refine va_get (D := (dC, dI)) (ci := 4) (v := .ref (Q 14)) (C := RX4) (T := TX4) (N := 33) hx hb hts in0 hown hK hP 0 (xm_W_0 _ _) rfl 15 (by decide) lk0 (fun _ h9 => h9) rfl dX4_appeal_12 ?_
    refine lv_iload_n hx hb dX4_appeal_15 rfl (lv_at hl 1 rfl) ?_
    refine va_iald hx hb hK hP 14 0 (xm_W_14 _ _) rfl (rm_c hV c5) dX4_appeal_16 ?_
    refine lv_iconst (v := 2) hx hb dX4_appeal_17 (by decide) ?_
    refine lv_icmp_ne (tgt := 50) hx hb dX4_appeal_18 (by decide) (fun c18 => ?_) (fun c18 => ?_)
    · refine lv_bipush (v := (-103)) hx hb dX4_appeal_50 (by decide) ?_
      exact W.iret (v := (-103)) hx hb hr (fun t ht hW => ⟨⟨(-103), σ, rfl, (by simp only [kr_appeal, if_pos c5, if_neg c18]), by rw [ht]; exact hP, va_K.moved hW.alike hK, hD⟩, hS.F ht⟩) hS.2.2 dX4_appeal_52
    · refine lv_aload_n hx hb dX4_appeal_21 rfl (lv_at hl 0 rfl) ?_
      refine va_get (D := (dC, dI)) (ci := 4) (v := .ref (Q 16)) (C := RX4) (T := TX4) (N := 33) hx hb hts in0 hown hK hP 0 (xm_W_0 _ _) rfl 17 (by decide) lk1 (fun _ h9 => h9) rfl dX4_appeal_22 ?_
      refine lv_iload_n hx hb dX4_appeal_25 rfl (lv_at hl 1 rfl) ?_
      refine va_zald hx hb hK hP 16 2 (xm_W_16 _ _) rfl (rm_c hV c5) dX4_appeal_26 ?_
      refine lv_if_ne (tgt := 50) hx hb dX4_appeal_27 (by decide) (fun c27 => ?_) (fun c27 => ?_)
      · refine lv_bipush (v := (-103)) hx hb dX4_appeal_50 (by decide) ?_
        exact W.iret (v := (-103)) hx hb hr (fun t ht hW => ⟨⟨(-103), σ, rfl, (by simp only [kr_appeal, if_pos c5, if_pos c18, if_neg c27]), by rw [ht]; exact hP, va_K.moved hW.alike hK, hD⟩, hS.F ht⟩) hS.2.2 dX4_appeal_52
      · refine lv_aload_n hx hb dX4_appeal_30 rfl (lv_at hl 0 rfl) ?_
        refine lv_aload_n hx hb dX4_appeal_31 rfl (lv_at hl 0 rfl) ?_
        refine va_get (D := (dC, dI)) (ci := 4) (v := .ref (Q 12)) (C := RX4) (T := TX4) (N := 33) hx hb hts in0 hown hK hP 0 (xm_W_0 _ _) rfl 13 (by decide) lk2 (fun _ h9 => h9) rfl dX4_appeal_32 ?_
        refine lv_iload_n hx hb dX4_appeal_35 rfl (lv_at hl 1 rfl) ?_
        refine va_iald hx hb hK hP 12 0 (xm_W_12 _ _) rfl (rm_c hV c5) dX4_appeal_36 ?_
        refine lv_aload_n hx hb dX4_appeal_37 rfl (lv_at hl 0 rfl) ?_
        refine va_get (D := (dC, dI)) (ci := 4) (v := .ref (Q 13)) (C := RX4) (T := TX4) (N := 33) hx hb hts in0 hown hK hP 0 (xm_W_0 _ _) rfl 14 (by decide) lk3 (fun _ h9 => h9) rfl dX4_appeal_38 ?_
        refine lv_iload_n hx hb dX4_appeal_41 rfl (lv_at hl 1 rfl) ?_
        refine va_iald hx hb hK hP 13 0 (xm_W_13 _ _) rfl (rm_c hV c5) dX4_appeal_42 ?_
        refine lv_iload_n hx hb dX4_appeal_43 rfl (lv_at hl 1 rfl) ?_
        refine vp_callSi (va_Run.run (va_runV (As := [.int ((σ.2.2.1 8) (x1).toNatClampNeg), .int ((σ.2.2.1 9) (x1).toNatClampNeg), .int x1]) (rest := []) ⟨hx, hb, hml, hown, hts⟩ (mr_other l dC dI cA Q σ n L f (show rm_V σ n from hV) ((σ.2.2.1 8) (x1).toNatClampNeg) ((σ.2.2.1 9) (x1).toNatClampNeg) x1 ) (cwV 3 hts (al_gV wd_341 wd_343 wd_342 wd_2 wd_344) rfl rfl rfl (by decide +kernel) ⟨Nat.le_of_ble_eq_true rfl, Nat.le_of_ble_eq_true rfl⟩) ⟨ct_blR, va_recv hK hP (ci := 4) (q0 := 0) rfl (xm_W_0 _ _), ct_atR hP hK⟩ rfl rfl hl.1 rfl (lv_room (Nat.le_of_ble_eq_true rfl)) dX4_appeal_44 ⟨Nat.le_of_ble_eq_true rfl, Nat.le_of_ble_eq_true rfl⟩)) (fun r44 hr44 => ?_)
        subst hr44
        refine lv_if_le (tgt := 53) hx hb dX4_appeal_47 (by decide) (fun c47 => ?_) (fun c47 => ?_)
        · refine lv_aload_n hx hb dX4_appeal_53 rfl (lv_at hl 0 rfl) ?_
          refine va_get (D := (dC, dI)) (ci := 4) (v := .ref (Q 16)) (C := RX4) (T := TX4) (N := 33) hx hb hts in0 hown hK hP 0 (xm_W_0 _ _) rfl 17 (by decide) lk1 (fun _ h9 => h9) rfl dX4_appeal_54 ?_
          refine lv_iload_n hx hb dX4_appeal_57 rfl (lv_at hl 1 rfl) ?_
          refine lv_iconst (v := 1) hx hb dX4_appeal_58 (by decide) ?_
          refine va_zast hx hb hK hP hD hS 16 2 (xm_W_16 _ _) rfl (rm_c hV c5) dX4_appeal_59 (fun H locs hP hD hS => ?_)
          rw [vp_b1] at hP hD
          have hP : va_P (dC, dI) vwCl (xm_W Q cA (xs_ai σ 12 (upd (σ.2.2.1 12) (x1).toNatClampNeg 1)) ++ va_pl L f) H := hP
          have hD : va_D A (xm_W Q cA (xs_ai σ 12 (upd (σ.2.2.1 12) (x1).toNatClampNeg 1)) ++ va_pl L f) := hD
          refine lv_aload_n hx hb dX4_appeal_60 rfl (lv_at hl 0 rfl) ?_
          refine va_get (D := (dC, dI)) (ci := 4) (v := .ref (Q 14)) (C := RX4) (T := TX4) (N := 33) hx hb hts in0 hown hK hP 0 (xm_W_0 _ _) rfl 15 (by decide) lk0 (fun _ h9 => h9) rfl dX4_appeal_61 ?_
          refine lv_iload_n hx hb dX4_appeal_64 rfl (lv_at hl 1 rfl) ?_
          refine lv_iconst (v := 0) hx hb dX4_appeal_65 (by decide) ?_
          refine va_iast hx hb hK hP hD hS 14 0 (xm_W_14 _ _) rfl (rm_c hV c5) dX4_appeal_66 (fun H locs hP hD hS => ?_)
          have hP : va_P (dC, dI) vwCl (xm_W Q cA (xs_ai (xs_ai σ 12 (upd (σ.2.2.1 12) (x1).toNatClampNeg 1)) 10 (upd (σ.2.2.1 10) (x1).toNatClampNeg 0)) ++ va_pl L f) H := hP
          have hD : va_D A (xm_W Q cA (xs_ai (xs_ai σ 12 (upd (σ.2.2.1 12) (x1).toNatClampNeg 1)) 10 (upd (σ.2.2.1 10) (x1).toNatClampNeg 0)) ++ va_pl L f) := hD
          refine lv_iconst (v := 1) hx hb dX4_appeal_67 (by decide) ?_
          refine lv_istore_n (lv' := [(2, .int 1), (0, .ref (Q 0)), (1, .int x1)]) hx hb dX4_appeal_68 rfl hl (by decide) rfl (fun ls hl => ?_)
          refine wl_M (Inv := fun j (_ : Unit) H locs ls => lv_has ls 3 [(0, .ref (Q 0)), (1, .int x1), (2, .int (nI (j + 1)))] ∧ va_P (dC, dI) vwCl (xm_W Q cA (ap_r σ x1 j) ++ va_pl L f) H ∧ va_D A (xm_W Q cA (ap_r σ x1 j) ++ va_pl L f) ∧ va_S A s.heap H locs) (N := n.2.2.1) (fun j _ H locs ls hj hin ih => ?_) (fun _ H locs ls hin => ?_) 0 () H locs ls (Nat.zero_le _) ⟨lv_sub hl [1, 2, 0] rfl, hP, hD, hS⟩
          · clear hP hD hS hl
            obtain ⟨hl, hP, hD, hS⟩ := hin
            refine lv_iload_n hx hb dX4_appeal_69 rfl (lv_at hl 2 rfl) ?_
            refine lv_aload_n hx hb dX4_appeal_70 rfl (lv_at hl 0 rfl) ?_
            refine va_get (D := (dC, dI)) (ci := 4) (v := .int ((ap_r σ x1 j).1 2)) (C := RX4) (T := TX4) (N := 33) hx hb hts in0 hown hK hP 0 (xm_W_0 _ _) rfl 20 (by decide) lk4 (fun _ h9 => h9) rfl dX4_appeal_71 ?_
            refine lv_icmp_gt (tgt := 100) hx hb dX4_appeal_74 (by decide) (fun c74 => ?_) (fun c74 => ?_)
            · exact absurd c74 (by rw [ap_2 σ x1 j 2, hV.1.2.2.2.2.1]; exact nI_nlt (by omega) (by have := hV.1.2.2.2.2.2.1; omega))
            · refine lv_aload_n hx hb dX4_appeal_77 rfl (lv_at hl 0 rfl) ?_
              refine va_get (D := (dC, dI)) (ci := 4) (v := .ref (Q 19)) (C := RX4) (T := TX4) (N := 33) hx hb hts in0 hown hK hP 0 (xm_W_0 _ _) rfl 21 (by decide) lk5 (fun _ h9 => h9) rfl dX4_appeal_78 ?_
              refine lv_iload_n hx hb dX4_appeal_81 rfl (lv_at hl 2 rfl) ?_
              refine va_iald hx hb hK hP 19 0 (xm_W_19 _ _) rfl (vp_in_nI (by have := hV.1.2.2.2.2.2.1; omega) (by decide)) dX4_appeal_82 ?_
              refine lv_iload_n hx hb dX4_appeal_83 rfl (lv_at hl 1 rfl) ?_
              refine lv_icmp_ne (tgt := 94) hx hb dX4_appeal_84 (by decide) (fun c84 => ?_) (fun c84 => ?_)
              · refine lv_iinc (v := ((nI (j + 1)) + 1)) (lv' := [(2, .int ((nI (j + 1)) + 1)), (0, .ref (Q 0)), (1, .int x1)]) hx hb dX4_appeal_94 hl (k := 2) rfl rfl (by decide) rfl (fun ls hl => ?_)
                refine lv_goto (tgt := 69) hx hb dX4_appeal_97 (by decide) ?_
                have E9 : ap_r σ x1 (j + 1) = ap_r σ x1 j := by rw [ap_r, if_neg c84]
                exact ih () H locs ls ⟨lv_sub hl [1, 2, 0] (by rw [nI_succ (j + 1)]; rfl), by rw [E9]; exact hP, by rw [E9]; exact hD, hS⟩
              · refine lv_aload_n hx hb dX4_appeal_87 rfl (lv_at hl 0 rfl) ?_
                refine va_get (D := (dC, dI)) (ci := 4) (v := .ref (Q 22)) (C := RX4) (T := TX4) (N := 33) hx hb hts in0 hown hK hP 0 (xm_W_0 _ _) rfl 24 (by decide) lk6 (fun _ h9 => h9) rfl dX4_appeal_88 ?_
                refine lv_iload_n hx hb dX4_appeal_91 rfl (lv_at hl 2 rfl) ?_
                refine lv_iconst (v := 0) hx hb dX4_appeal_92 (by decide) ?_
                refine va_zast hx hb hK hP hD hS 22 2 (xm_W_22 _ _) rfl (vp_in_nI (by have := hV.1.2.2.2.2.2.1; omega) (by decide)) dX4_appeal_93 (fun H locs hP hD hS => ?_)
                rw [vp_b0] at hP hD
                have hP : va_P (dC, dI) vwCl (xm_W Q cA (xs_ai (ap_r σ x1 j) 17 (upd ((ap_r σ x1 j).2.2.1 17) ((nI (j + 1))).toNatClampNeg 0)) ++ va_pl L f) H := hP
                have hD : va_D A (xm_W Q cA (xs_ai (ap_r σ x1 j) 17 (upd ((ap_r σ x1 j).2.2.1 17) ((nI (j + 1))).toNatClampNeg 0)) ++ va_pl L f) := hD
                refine lv_iinc (v := ((nI (j + 1)) + 1)) (lv' := [(2, .int ((nI (j + 1)) + 1)), (0, .ref (Q 0)), (1, .int x1)]) hx hb dX4_appeal_94 hl (k := 2) rfl rfl (by decide) rfl (fun ls hl => ?_)
                refine lv_goto (tgt := 69) hx hb dX4_appeal_97 (by decide) ?_
                have E9 : ap_r σ x1 (j + 1) = xs_ai (ap_r σ x1 j) 17 (upd ((ap_r σ x1 j).2.2.1 17) ((nI (j + 1))).toNatClampNeg 0) := by rw [ap_r, if_pos c84]
                exact ih () H locs ls ⟨lv_sub hl [1, 2, 0] (by rw [nI_succ (j + 1)]; rfl), by rw [E9]; exact hP, by rw [E9]; exact hD, hS⟩
          · clear hP hD hS hl
            obtain ⟨hl, hP, hD, hS⟩ := hin
            refine lv_iload_n hx hb dX4_appeal_69 rfl (lv_at hl 2 rfl) ?_
            refine lv_aload_n hx hb dX4_appeal_70 rfl (lv_at hl 0 rfl) ?_
            refine va_get (D := (dC, dI)) (ci := 4) (v := .int ((ap_r σ x1 n.2.2.1).1 2)) (C := RX4) (T := TX4) (N := 33) hx hb hts in0 hown hK hP 0 (xm_W_0 _ _) rfl 20 (by decide) lk4 (fun _ h9 => h9) rfl dX4_appeal_71 ?_
            refine lv_icmp_gt (tgt := 100) hx hb dX4_appeal_74 (by decide) (fun c74 => ?_) (fun c74 => ?_)
            · refine lv_aload_n hx hb dX4_appeal_100 rfl (lv_at hl 0 rfl) ?_
              refine lv_iload_n hx hb dX4_appeal_101 rfl (lv_at hl 1 rfl) ?_
              refine lv_bipush (v := 6) hx hb dX4_appeal_102 (by decide) ?_
              have hFc := ct_free hD hS hA
              refine va_callv (va_runV (As := [.int x1, .int 6]) (rest := []) ⟨hx, hb, hml, hown, hts⟩ (mr_send l dC dI cA H.size Q (ap_r σ x1 n.2.2.1) L f n.2.2.2 ((ap_2 σ x1 n.2.2.1 4).trans hV.1.2.2.2.2.2.2.1) (by have := hV.1.2.2.2.2.2.2.2; omega) x1 6) (cwV 2 hts (al_gV wd_345 wd_347 wd_346 wd_2 wd_348) rfl rfl rfl (by decide +kernel) ⟨Nat.le_of_ble_eq_true rfl, Nat.le_of_ble_eq_true rfl⟩) ⟨ct_blM, va_recv hK hP (ci := 4) (q0 := 0) rfl (xm_W_0 _ _), ct_atM hP hK hD⟩ rfl rfl hl.1 rfl (lv_room (Nat.le_of_ble_eq_true rfl)) dX4_appeal_104 ⟨Nat.le_of_ble_eq_true rfl, Nat.le_of_ble_eq_true rfl⟩) hS (fun q _ h => hFc q h) hFc (fun u104 t H1 locs ht hvm hr104 hB hz1 hk1 hS => ?_)
              obtain ⟨hP, -, hD1⟩ := hB
              rw [ht] at hP
              have hD := hD1.weaken (fun _ _ _ h => hFc _ h)
              clear hD1 hk1 hz1 hFc hvm
              generalize H1 = H at hP hS ht ⊢
              clear ht
              refine W.widen (k := 0) (n := 0) (by decide) (by decide) ?_
              subst hr104
              have hP : va_P (dC, dI) vwCl (xm_W Q cA (sm_nd (ap_r σ x1 n.2.2.1) x1 6) ++ va_pl L f) H := hP
              have hD : va_D A (xm_W Q cA (sm_nd (ap_r σ x1 n.2.2.1) x1 6) ++ va_pl L f) := hD
              refine lv_iconst (v := 1) hx hb dX4_appeal_107 (by decide) ?_
              exact W.iret (v := 1) hx hb hr (fun t ht hW => ⟨⟨1, (sm_nd (ap_r σ x1 n.2.2.1) x1 6), rfl, (by simp only [kr_appeal, if_pos c5, if_pos c18, if_pos c27, hn1, if_pos c47, hn2]), by rw [ht]; exact hP, va_K.moved hW.alike hK, hD⟩, hS.F ht⟩) hS.2.2 dX4_appeal_108
            · exact absurd (by rw [ap_2 σ x1 n.2.2.1 2, hV.1.2.2.2.2.1]; exact nI_lt (by omega) (by have := hV.1.2.2.2.2.2.1; omega)) c74
        · refine lv_bipush (v := (-103)) hx hb dX4_appeal_50 (by decide) ?_
          exact W.iret (v := (-103)) hx hb hr (fun t ht hW => ⟨⟨(-103), σ, rfl, (by simp only [kr_appeal, if_pos c5, if_pos c18, if_pos c27, hn1, if_neg c47]), by rw [ht]; exact hP, va_K.moved hW.alike hK, hD⟩, hS.F ht⟩) hS.2.2 dX4_appeal_52
  · have c5 := of_decide_eq_false (bb_0.mp c5)
    refine lv_bipush (v := (-101)) hx hb dX4_appeal_8 (by decide) ?_
    exact W.iret (v := (-101)) hx hb hr (fun t ht hW => ⟨⟨(-101), σ, rfl, (by simp only [kr_appeal, if_neg c5]), by rw [ht]; exact hP, va_K.moved hW.alike hK, hD⟩, hS.F ht⟩) hS.2.2 dX4_appeal_10
set_option maxHeartbeats 4000000 in
set_option maxRecDepth 100000 in
/-- mr_share -/
theorem mr_share (l : Launch) (dC : Nat → ClassId) (dI : Nat → Nat → Nat) (cA : Nat → ClassId) (Q : Nat → Nat) (σ : xs_T) (n : nn_T) (L : List Nat) (f : Nat → va_E) (hV : rm_V σ n) (x1 x2 : Int32) : Met l yX4_share wsX4_share ({ frames := 1, cells := 0, slots := 0, locals := 25 }) (va_Pc [.ref (Q 0), .int x1, .int x2] (ct_R (dC, dI) vwCl (ty_K cA) (xm_W Q cA σ ++ va_pl L f))) (vp_Sl (fun r => r = kr_share σ x1 x2)) 0 0 (fun _ => False) := by
  refine Met.ofW (cc := cX4_share) (maxL := 13) (ret := (some .long)) (by decide) rfl ?_
  intro p e s m args below meth c s₁ B hml hv
  obtain ⟨rfl, hP, hK⟩ := hv
  have hx := B.exec
  have hb := B.bytes
  have hr := B.returns
  have hts := atoms_spec (ws := wsX4_share) B.pre
  have hown : s.vm.findClass RX4 = some m.cls := findClass_of_methodNamed B.named
  have hlocks := B.notSynchronized
  have hl := lv_entry ([.ref (Q 0), .int x1, .int x2]) (n := 13) (Nat.le_of_ble_eq_true rfl)
  rw [lg_entry_eq]
  generalize (lg_sl ([.ref (Q 0), .int x1, .int x2]) ++ List.replicate (13 - (lg_sl ([.ref (Q 0), .int x1, .int x2])).length) Slot.unset).toArray = ls at hl ⊢
  have hl : lv_has ls 13 [(0, .ref (Q 0)), (1, .int x1), (2, .int x2)] := hl
  have lk0 := hts (.constantLong RX4 113 5) (List.mem_cons_of_mem _ wd_329)
  have lk1 := hts (.fieldLink RX4 45 "ClaimRowsModel" "itemOf" "[I") (List.mem_cons_of_mem _ wd_289)
  have lk2 := hts (.fieldLink RX4 26 "ClaimRowsModel" "passes" "[I") (List.mem_cons_of_mem _ wd_282)
  have lk3 := hts (.fieldLink RX4 51 "ClaimRowsModel" "state" "[I") (List.mem_cons_of_mem _ wd_291)
  have lk4 := hts (.fieldLink RX4 32 "ClaimRowsModel" "whole" "[Z") (List.mem_cons_of_mem _ wd_284)
  have lk5 := hts (.fieldLink RX4 63 "ClaimRowsModel" "paidSum" "[J") (List.mem_cons_of_mem _ wd_295)
  have lk6 := hts (.fieldLink RX4 29 "ClaimRowsModel" "posts" "[I") (List.mem_cons_of_mem _ wd_283)
  have lk7 := hts (.constantLong RX4 169 (-102)) (List.mem_cons_of_mem _ wd_404)
  have lk8 := hts (.constantLong RX4 150 (-101)) (List.mem_cons_of_mem _ wd_381)
  have in0 : ∀ w ∈ u_ws RX4 TX4 33, w ∈ wsX4_share := fun w h => List.mem_cons_of_mem _ (wu_X4 w h)
  have hn0 : (σ.1 0).toNatClampNeg = n.1 := by rw [hV.1.1]; exact nI_clamp (by have := hV.1.2.1; omega)
  have hn1 : (σ.1 1).toNatClampNeg = n.2.1 := by rw [hV.1.2.2.1]; exact nI_clamp (by have := hV.1.2.2.2.1; omega)
  have hn2 : (σ.1 2).toNatClampNeg = n.2.2.1 := by rw [hV.1.2.2.2.2.1]; exact nI_clamp (by have := hV.1.2.2.2.2.2.1; omega)
  refine lv_aload_n hx hb dX4_share_0 rfl (lv_at hl 0 rfl) ?_
  refine lv_iload_n hx hb dX4_share_1 rfl (lv_at hl 1 rfl) ?_
  refine vp_callSi (va_Run.run (va_runV (As := [.int x1]) (rest := []) ⟨hx, hb, hml, hown, hts⟩ (mr_isClaim l dC dI cA Q σ L f x1) (cwV 1 hts (al_gV wd_353 wd_355 wd_354 wd_2 wd_356) rfl rfl rfl (by decide +kernel) ⟨Nat.le_of_ble_eq_true rfl, Nat.le_of_ble_eq_true rfl⟩) ⟨ct_blR, va_recv hK hP (ci := 4) (q0 := 0) rfl (xm_W_0 _ _), ct_atR hP hK⟩ rfl rfl hl.1 rfl (lv_room (Nat.le_of_ble_eq_true rfl)) dX4_share_2 ⟨Nat.le_of_ble_eq_true rfl, Nat.le_of_ble_eq_true rfl⟩)) (fun r2 hr2 => ?_)
  subst hr2
  refine lv_if_ne (tgt := 12) hx hb dX4_share_5 (by decide) (fun c5 => ?_) (fun c5 => ?_)
  · have c5 := of_decide_eq_true (bb_n.mp c5)
    refine lv_iload_n hx hb dX4_share_12 rfl (lv_at hl 2 rfl) ?_
    refine lv_i2l (v := (x2 : Int32).toInt64) hx hb dX4_share_13 rfl ?_
    refine lv_lconst (v := 0) hx hb dX4_share_14 (by decide) ?_
    refine lv_ldc2 hx hb hown lk0 dX4_share_15 ?_
    refine vp_callSi (va_Run.run (va_runS (As := [.long ((x2 : Int32).toInt64), .long 0, .long 5]) (rest := []) ⟨hx, hb, hml, hown, hts⟩ (mr_isIn l ((x2 : Int32).toInt64) 0 5) (va_cwS 3 hts (al_gS wd_315 wd_316 wd_2 wd_317) rfl rfl rfl (by decide +kernel) ⟨Nat.le_of_ble_eq_true rfl, Nat.le_of_ble_eq_true rfl⟩) ⟨ct_bl0, ct_at0⟩ rfl rfl hl.1 rfl (lv_room (Nat.le_of_ble_eq_true rfl)) dX4_share_18 ⟨Nat.le_of_ble_eq_true rfl, Nat.le_of_ble_eq_true rfl⟩)) (fun r18 hr18 => ?_)
    subst hr18
    refine lv_if_ne (tgt := 28) hx hb dX4_share_21 (by decide) (fun c21 => ?_) (fun c21 => ?_)
    · have c21 := of_decide_eq_true (bb_n.mp c21)
      refine lv_aload_n hx hb dX4_share_28 rfl (lv_at hl 0 rfl) ?_
      refine va_get (D := (dC, dI)) (ci := 4) (v := .ref (Q 12)) (C := RX4) (T := TX4) (N := 33) hx hb hts in0 hown hK hP 0 (xm_W_0 _ _) rfl 13 (by decide) lk1 (fun _ h9 => h9) rfl dX4_share_29 ?_
      refine lv_iload_n hx hb dX4_share_32 rfl (lv_at hl 1 rfl) ?_
      refine va_iald hx hb hK hP 12 0 (xm_W_12 _ _) rfl (rm_c hV c5) dX4_share_33 ?_
      refine lv_istore_n (lv' := [(3, .int ((σ.2.2.1 8) (x1).toNatClampNeg)), (0, .ref (Q 0)), (1, .int x1), (2, .int x2)]) hx hb dX4_share_34 rfl hl (by decide) rfl (fun ls hl => ?_)
      refine lv_aload_n hx hb dX4_share_35 rfl (lv_at hl 1 rfl) ?_
      refine va_get (D := (dC, dI)) (ci := 4) (v := .ref (Q 6)) (C := RX4) (T := TX4) (N := 33) hx hb hts in0 hown hK hP 0 (xm_W_0 _ _) rfl 6 (by decide) lk2 (fun _ h9 => h9) rfl dX4_share_36 ?_
      refine lv_iload_n hx hb dX4_share_39 rfl (lv_at hl 0 rfl) ?_
      refine va_iald hx hb hK hP 6 0 (xm_W_6 _ _) rfl (rm_io hV c5) dX4_share_40 ?_
      refine lv_istore (lv' := [(4, .int ((σ.2.2.1 3) (((σ.2.2.1 8) (x1).toNatClampNeg)).toNatClampNeg)), (3, .int ((σ.2.2.1 8) (x1).toNatClampNeg)), (0, .ref (Q 0)), (1, .int x1), (2, .int x2)]) hx hb dX4_share_41 hl (by decide) rfl (fun ls hl => ?_)
      refine lv_aload_n hx hb dX4_share_43 rfl (lv_at hl 2 rfl) ?_
      refine va_get (D := (dC, dI)) (ci := 4) (v := .ref (Q 14)) (C := RX4) (T := TX4) (N := 33) hx hb hts in0 hown hK hP 0 (xm_W_0 _ _) rfl 15 (by decide) lk3 (fun _ h9 => h9) rfl dX4_share_44 ?_
      refine lv_iload_n hx hb dX4_share_47 rfl (lv_at hl 3 rfl) ?_
      refine va_iald hx hb hK hP 14 0 (xm_W_14 _ _) rfl (rm_c hV c5) dX4_share_48 ?_
      refine lv_iconst (v := 1) hx hb dX4_share_49 (by decide) ?_
      refine lv_icmp_ne (tgt := 58) hx hb dX4_share_50 (by decide) (fun c50 => ?_) (fun c50 => ?_)
      · refine lv_lconst (v := 0) hx hb dX4_share_58 (by decide) ?_
        exact W.lret (v := 0) hx hb hr (fun t ht hW => ⟨0, rfl, (by simp only [kr_share, if_pos c5, if_pos c21, if_neg c50]), ht⟩) (fun q h => by cases h) dX4_share_59
      · refine lv_iload hx hb dX4_share_53 (lv_at hl 0 rfl) ?_
        refine lv_if_ne (tgt := 60) hx hb dX4_share_55 (by decide) (fun c55 => ?_) (fun c55 => ?_)
        · refine lv_iconst (v := 0) hx hb dX4_share_60 (by decide) ?_
          refine lv_istore (lv' := [(5, .int 0), (4, .int ((σ.2.2.1 3) (((σ.2.2.1 8) (x1).toNatClampNeg)).toNatClampNeg)), (3, .int ((σ.2.2.1 8) (x1).toNatClampNeg)), (0, .ref (Q 0)), (1, .int x1), (2, .int x2)]) hx hb dX4_share_61 hl (by decide) rfl (fun ls hl => ?_)
          refine lv_iconst (v := 0) hx hb dX4_share_63 (by decide) ?_
          refine lv_istore (lv' := [(6, .int 0), (5, .int 0), (4, .int ((σ.2.2.1 3) (((σ.2.2.1 8) (x1).toNatClampNeg)).toNatClampNeg)), (3, .int ((σ.2.2.1 8) (x1).toNatClampNeg)), (0, .ref (Q 0)), (1, .int x1), (2, .int x2)]) hx hb dX4_share_64 hl (by decide) rfl (fun ls hl => ?_)
          obtain ⟨k9, hk9, hk8, ek9⟩ := (hV.2.2 _ (sh_1 hV c5).1 (sh_1 hV c5).2).1
          obtain ⟨v9, hv9, ev9⟩ := (hV.2.1 k9 hk9 hk8).2
          have hN9 : (σ.2.2.1 3 (σ.2.2.1 8 x1.toNatClampNeg).toNatClampNeg) = nI v9 := by rw [ek9, nI_clamp (by have := hV.1.2.1; omega)]; exact ev9
          refine wl_R (Inv := fun j ls => lv_has ls 13 [(0, .ref (Q 0)), (1, .int x1), (2, .int x2), (3, .int (σ.2.2.1 8 x1.toNatClampNeg)), (4, .int (σ.2.2.1 3 (σ.2.2.1 8 x1.toNatClampNeg).toNatClampNeg)), (5, .int (fi_r σ (σ.2.2.1 8 x1.toNatClampNeg) j)), (6, .int (nI j))] ∧ True) (N := v9) (fun j ls hj hin ih => ?_) (fun ls hin => ?_) 0 ls (Nat.zero_le _) ⟨lv_sub hl [4, 5, 6, 3, 2, 1, 0] rfl, trivial⟩
          · obtain ⟨hl, hin⟩ := hin
            refine lv_iload hx hb dX4_share_66 (lv_at hl 6 rfl) ?_
            refine lv_iload hx hb dX4_share_68 (lv_at hl 4 rfl) ?_
            refine lv_icmp_ge (tgt := 101) hx hb dX4_share_70 (by decide) (fun c70 => ?_) (fun c70 => ?_)
            · exact absurd c70 (by rw [hN9]; exact nI_ge hj (by omega))
            · refine lv_aload_n hx hb dX4_share_73 rfl (lv_at hl 0 rfl) ?_
              refine va_get (D := (dC, dI)) (ci := 4) (v := .ref (Q 8)) (C := RX4) (T := TX4) (N := 33) hx hb hts in0 hown hK hP 0 (xm_W_0 _ _) rfl 8 (by decide) lk4 (fun _ h9 => h9) rfl dX4_share_74 ?_
              refine lv_bipush (v := 8) hx hb dX4_share_77 (by decide) ?_
              refine lv_iload_n hx hb dX4_share_79 rfl (lv_at hl 3 rfl) ?_
              refine lv_imul hx hb dX4_share_80 ?_
              refine lv_bipush (v := 8) hx hb dX4_share_81 (by decide) ?_
              refine lv_isub hx hb dX4_share_83 ?_
              refine lv_iload hx hb dX4_share_84 (lv_at hl 6 rfl) ?_
              refine lv_iadd hx hb dX4_share_86 ?_
              refine va_zald hx hb hK hP 8 2 (xm_W_8 _ _) rfl (sh_in hV hk9 hk8 ek9 (by omega)) dX4_share_87 ?_
              refine lv_if_eq (tgt := 95) hx hb dX4_share_88 (by decide) (fun c88 => ?_) (fun c88 => ?_)
              · refine lv_iinc (v := ((nI j) + 1)) (lv' := [(6, .int ((nI j) + 1)), (0, .ref (Q 0)), (1, .int x1), (2, .int x2), (3, .int (σ.2.2.1 8 x1.toNatClampNeg)), (4, .int (σ.2.2.1 3 (σ.2.2.1 8 x1.toNatClampNeg).toNatClampNeg)), (5, .int (fi_r σ (σ.2.2.1 8 x1.toNatClampNeg) j))]) hx hb dX4_share_95 hl (k := 6) rfl rfl (by decide) rfl (fun ls hl => ?_)
                refine lv_goto (tgt := 66) hx hb dX4_share_98 (by decide) ?_
                have E9 : (if σ.2.2.1 5 (8 * (σ.2.2.1 8 x1.toNatClampNeg) - 8 + nI j).toNatClampNeg = 0 then fi_r σ (σ.2.2.1 8 x1.toNatClampNeg) j else nI j) = fi_r σ (σ.2.2.1 8 x1.toNatClampNeg) j := if_pos c88
                exact ih _ ⟨lv_sub hl [1, 2, 3, 4, 5, 6, 0] (by rw [nI_succ j, fi_r, E9]; rfl), trivial⟩
              · refine lv_iload hx hb dX4_share_91 (lv_at hl 6 rfl) ?_
                refine lv_istore (lv' := [(5, .int (nI j)), (0, .ref (Q 0)), (1, .int x1), (2, .int x2), (3, .int (σ.2.2.1 8 x1.toNatClampNeg)), (4, .int (σ.2.2.1 3 (σ.2.2.1 8 x1.toNatClampNeg).toNatClampNeg)), (6, .int (nI j))]) hx hb dX4_share_93 hl (by decide) rfl (fun ls hl => ?_)
                refine lv_iinc (v := ((nI j) + 1)) (lv' := [(6, .int ((nI j) + 1)), (5, .int (nI j)), (0, .ref (Q 0)), (1, .int x1), (2, .int x2), (3, .int (σ.2.2.1 8 x1.toNatClampNeg)), (4, .int (σ.2.2.1 3 (σ.2.2.1 8 x1.toNatClampNeg).toNatClampNeg))]) hx hb dX4_share_95 hl (k := 6) rfl rfl (by decide) rfl (fun ls hl => ?_)
                refine lv_goto (tgt := 66) hx hb dX4_share_98 (by decide) ?_
                have E9 : (if σ.2.2.1 5 (8 * (σ.2.2.1 8 x1.toNatClampNeg) - 8 + nI j).toNatClampNeg = 0 then fi_r σ (σ.2.2.1 8 x1.toNatClampNeg) j else nI j) = nI j := if_neg c88
                exact ih _ ⟨lv_sub hl [2, 3, 4, 5, 6, 1, 0] (by rw [nI_succ j, fi_r, E9]; rfl), trivial⟩
          · obtain ⟨hl, hin⟩ := hin
            refine lv_iload hx hb dX4_share_66 (lv_at hl 6 rfl) ?_
            refine lv_iload hx hb dX4_share_68 (lv_at hl 4 rfl) ?_
            refine lv_icmp_ge (tgt := 101) hx hb dX4_share_70 (by decide) (fun c70 => ?_) (fun c70 => ?_)
            · obtain ⟨f9, hf9, ef9⟩ := fi_lt (σ := σ) (σ.2.2.1 8 x1.toNatClampNeg) (v := v9) (by intro q; exact c55 (by rw [hN9, q]; rfl))
              rw [ef9] at hl
              refine lv_aload_n hx hb dX4_share_101 rfl (lv_at hl 0 rfl) ?_
              refine va_get (D := (dC, dI)) (ci := 4) (v := .ref (Q 18)) (C := RX4) (T := TX4) (N := 33) hx hb hts in0 hown hK hP 0 (xm_W_0 _ _) rfl 19 (by decide) lk5 (fun _ h9 => h9) rfl dX4_share_102 ?_
              refine lv_iload_n hx hb dX4_share_105 rfl (lv_at hl 1 rfl) ?_
              refine va_lald hx hb hK hP 18 1 (xm_W_18 _ _) rfl (rm_c hV c5) dX4_share_106 ?_
              refine lv_iload hx hb dX4_share_107 (lv_at hl 4 rfl) ?_
              refine lv_iload hx hb dX4_share_109 (lv_at hl 5 rfl) ?_
              refine lv_isub hx hb dX4_share_111 ?_
              refine lv_i2l (v := (((σ.2.2.1 3 (σ.2.2.1 8 x1.toNatClampNeg).toNatClampNeg) - (nI f9)) : Int32).toInt64) hx hb dX4_share_112 rfl ?_
              refine lv_ldiv hx hb dX4_share_113 (sh_nz hN9 hf9 (by omega)) ?_
              refine lv_lstore (lv' := [(6, .long (((σ.2.2.2.1 3) (x1).toNatClampNeg) / ((((σ.2.2.1 3 (σ.2.2.1 8 x1.toNatClampNeg).toNatClampNeg) - (nI f9)) : Int32).toInt64))), (0, .ref (Q 0)), (1, .int x1), (2, .int x2), (3, .int (σ.2.2.1 8 x1.toNatClampNeg)), (4, .int (σ.2.2.1 3 (σ.2.2.1 8 x1.toNatClampNeg).toNatClampNeg)), (5, .int (nI f9))]) hx hb dX4_share_114 hl (by decide) rfl (fun ls hl => ?_)
              refine lv_aload_n hx hb dX4_share_116 rfl (lv_at hl 1 rfl) ?_
              refine va_get (D := (dC, dI)) (ci := 4) (v := .ref (Q 18)) (C := RX4) (T := TX4) (N := 33) hx hb hts in0 hown hK hP 0 (xm_W_0 _ _) rfl 19 (by decide) lk5 (fun _ h9 => h9) rfl dX4_share_117 ?_
              refine lv_iload_n hx hb dX4_share_120 rfl (lv_at hl 2 rfl) ?_
              refine va_lald hx hb hK hP 18 1 (xm_W_18 _ _) rfl (rm_c hV c5) dX4_share_121 ?_
              refine lv_lload hx hb dX4_share_122 (lv_at hl 0 rfl) ?_
              refine lv_iload hx hb dX4_share_124 (lv_at hl 5 rfl) ?_
              refine lv_iload hx hb dX4_share_126 (lv_at hl 6 rfl) ?_
              refine lv_isub hx hb dX4_share_128 ?_
              refine lv_i2l (v := (((σ.2.2.1 3 (σ.2.2.1 8 x1.toNatClampNeg).toNatClampNeg) - (nI f9)) : Int32).toInt64) hx hb dX4_share_129 rfl ?_
              refine lv_lmul hx hb dX4_share_130 ?_
              refine lv_lsub hx hb dX4_share_131 ?_
              refine lv_lstore (lv' := [(8, .long (((σ.2.2.2.1 3) (x1).toNatClampNeg) - ((((σ.2.2.2.1 3) (x1).toNatClampNeg) / ((((σ.2.2.1 3 (σ.2.2.1 8 x1.toNatClampNeg).toNatClampNeg) - (nI f9)) : Int32).toInt64)) * ((((σ.2.2.1 3 (σ.2.2.1 8 x1.toNatClampNeg).toNatClampNeg) - (nI f9)) : Int32).toInt64)))), (6, .long (((σ.2.2.2.1 3) (x1).toNatClampNeg) / ((((σ.2.2.1 3 (σ.2.2.1 8 x1.toNatClampNeg).toNatClampNeg) - (nI f9)) : Int32).toInt64))), (0, .ref (Q 0)), (1, .int x1), (2, .int x2), (3, .int (σ.2.2.1 8 x1.toNatClampNeg)), (4, .int (σ.2.2.1 3 (σ.2.2.1 8 x1.toNatClampNeg).toNatClampNeg)), (5, .int (nI f9))]) hx hb dX4_share_132 hl (by decide) rfl (fun ls hl => ?_)
              refine lv_lconst (v := 0) hx hb dX4_share_134 (by decide) ?_
              refine lv_lstore (lv' := [(10, .long 0), (8, .long (((σ.2.2.2.1 3) (x1).toNatClampNeg) - ((((σ.2.2.2.1 3) (x1).toNatClampNeg) / ((((σ.2.2.1 3 (σ.2.2.1 8 x1.toNatClampNeg).toNatClampNeg) - (nI f9)) : Int32).toInt64)) * ((((σ.2.2.1 3 (σ.2.2.1 8 x1.toNatClampNeg).toNatClampNeg) - (nI f9)) : Int32).toInt64)))), (6, .long (((σ.2.2.2.1 3) (x1).toNatClampNeg) / ((((σ.2.2.1 3 (σ.2.2.1 8 x1.toNatClampNeg).toNatClampNeg) - (nI f9)) : Int32).toInt64))), (0, .ref (Q 0)), (1, .int x1), (2, .int x2), (3, .int (σ.2.2.1 8 x1.toNatClampNeg)), (4, .int (σ.2.2.1 3 (σ.2.2.1 8 x1.toNatClampNeg).toNatClampNeg)), (5, .int (nI f9))]) hx hb dX4_share_135 hl (by decide) rfl (fun ls hl => ?_)
              refine lv_iload hx hb dX4_share_137 (lv_at hl 8 rfl) ?_
              refine lv_istore (lv' := [(12, .int (nI f9)), (10, .long 0), (8, .long (((σ.2.2.2.1 3) (x1).toNatClampNeg) - ((((σ.2.2.2.1 3) (x1).toNatClampNeg) / ((((σ.2.2.1 3 (σ.2.2.1 8 x1.toNatClampNeg).toNatClampNeg) - (nI f9)) : Int32).toInt64)) * ((((σ.2.2.1 3 (σ.2.2.1 8 x1.toNatClampNeg).toNatClampNeg) - (nI f9)) : Int32).toInt64)))), (6, .long (((σ.2.2.2.1 3) (x1).toNatClampNeg) / ((((σ.2.2.1 3 (σ.2.2.1 8 x1.toNatClampNeg).toNatClampNeg) - (nI f9)) : Int32).toInt64))), (0, .ref (Q 0)), (1, .int x1), (2, .int x2), (3, .int (σ.2.2.1 8 x1.toNatClampNeg)), (4, .int (σ.2.2.1 3 (σ.2.2.1 8 x1.toNatClampNeg).toNatClampNeg)), (5, .int (nI f9))]) hx hb dX4_share_139 hl (by decide) rfl (fun ls hl => ?_)
              refine wl_R (Inv := fun j ls => lv_has ls 13 [(0, .ref (Q 0)), (1, .int x1), (2, .int x2), (3, .int (σ.2.2.1 8 x1.toNatClampNeg)), (4, .int (σ.2.2.1 3 (σ.2.2.1 8 x1.toNatClampNeg).toNatClampNeg)), (5, .int (nI f9)), (6, .long ((σ.2.2.2.1 3 x1.toNatClampNeg) / ((σ.2.2.1 3 (σ.2.2.1 8 x1.toNatClampNeg).toNatClampNeg) - nI f9).toInt64)), (8, .long ((σ.2.2.2.1 3 x1.toNatClampNeg) - ((σ.2.2.2.1 3 x1.toNatClampNeg) / ((σ.2.2.1 3 (σ.2.2.1 8 x1.toNatClampNeg).toNatClampNeg) - nI f9).toInt64) * ((σ.2.2.1 3 (σ.2.2.1 8 x1.toNatClampNeg).toNatClampNeg) - nI f9).toInt64)), (10, .long (sr_r σ (σ.2.2.1 8 x1.toNatClampNeg) (nI f9) ((σ.2.2.2.1 3 x1.toNatClampNeg) / ((σ.2.2.1 3 (σ.2.2.1 8 x1.toNatClampNeg).toNatClampNeg) - nI f9).toInt64) ((σ.2.2.2.1 3 x1.toNatClampNeg) - ((σ.2.2.2.1 3 x1.toNatClampNeg) / ((σ.2.2.1 3 (σ.2.2.1 8 x1.toNatClampNeg).toNatClampNeg) - nI f9).toInt64) * ((σ.2.2.1 3 (σ.2.2.1 8 x1.toNatClampNeg).toNatClampNeg) - nI f9).toInt64) x2 j)), (12, .int (nI f9 + nI j))] ∧ True) (N := (v9 - f9)) (fun j ls hj hin ih => ?_) (fun ls hin => ?_) 0 ls (Nat.zero_le _) ⟨lv_sub hl [4, 5, 6, 7, 8, 9, 3, 2, 1, 0] (by rw [nI_0, sh_a0]; rfl), trivial⟩
              · obtain ⟨hl, hin⟩ := hin
                refine lv_iload hx hb dX4_share_141 (lv_at hl 9 rfl) ?_
                refine lv_iload hx hb dX4_share_143 (lv_at hl 4 rfl) ?_
                refine lv_icmp_ge (tgt := 199) hx hb dX4_share_145 (by decide) (fun c145 => ?_) (fun c145 => ?_)
                · exact absurd c145 (by rw [hN9, nI_add]; exact nI_ge (by omega) (by omega))
                · refine lv_aload_n hx hb dX4_share_148 rfl (lv_at hl 0 rfl) ?_
                  refine va_get (D := (dC, dI)) (ci := 4) (v := .ref (Q 7)) (C := RX4) (T := TX4) (N := 33) hx hb hts in0 hown hK hP 0 (xm_W_0 _ _) rfl 7 (by decide) lk6 (fun _ h9 => h9) rfl dX4_share_149 ?_
                  refine lv_bipush (v := 8) hx hb dX4_share_152 (by decide) ?_
                  refine lv_iload_n hx hb dX4_share_154 rfl (lv_at hl 3 rfl) ?_
                  refine lv_imul hx hb dX4_share_155 ?_
                  refine lv_bipush (v := 8) hx hb dX4_share_156 (by decide) ?_
                  refine lv_isub hx hb dX4_share_158 ?_
                  refine lv_iload hx hb dX4_share_159 (lv_at hl 9 rfl) ?_
                  refine lv_iadd hx hb dX4_share_161 ?_
                  refine va_iald hx hb hK hP 7 0 (xm_W_7 _ _) rfl (by rw [nI_add]; exact sh_in hV hk9 hk8 ek9 (by omega)) dX4_share_162 ?_
                  refine lv_iload_n hx hb dX4_share_163 rfl (lv_at hl 2 rfl) ?_
                  refine lv_icmp_ne (tgt := 193) hx hb dX4_share_164 (by decide) (fun c164 => ?_) (fun c164 => ?_)
                  · refine lv_iinc (v := ((nI f9 + nI j) + 1)) (lv' := [(12, .int ((nI f9 + nI j) + 1)), (0, .ref (Q 0)), (1, .int x1), (2, .int x2), (3, .int (σ.2.2.1 8 x1.toNatClampNeg)), (4, .int (σ.2.2.1 3 (σ.2.2.1 8 x1.toNatClampNeg).toNatClampNeg)), (5, .int (nI f9)), (6, .long ((σ.2.2.2.1 3 x1.toNatClampNeg) / ((σ.2.2.1 3 (σ.2.2.1 8 x1.toNatClampNeg).toNatClampNeg) - nI f9).toInt64)), (8, .long ((σ.2.2.2.1 3 x1.toNatClampNeg) - ((σ.2.2.2.1 3 x1.toNatClampNeg) / ((σ.2.2.1 3 (σ.2.2.1 8 x1.toNatClampNeg).toNatClampNeg) - nI f9).toInt64) * ((σ.2.2.1 3 (σ.2.2.1 8 x1.toNatClampNeg).toNatClampNeg) - nI f9).toInt64)), (10, .long (sr_r σ (σ.2.2.1 8 x1.toNatClampNeg) (nI f9) ((σ.2.2.2.1 3 x1.toNatClampNeg) / ((σ.2.2.1 3 (σ.2.2.1 8 x1.toNatClampNeg).toNatClampNeg) - nI f9).toInt64) ((σ.2.2.2.1 3 x1.toNatClampNeg) - ((σ.2.2.2.1 3 x1.toNatClampNeg) / ((σ.2.2.1 3 (σ.2.2.1 8 x1.toNatClampNeg).toNatClampNeg) - nI f9).toInt64) * ((σ.2.2.1 3 (σ.2.2.1 8 x1.toNatClampNeg).toNatClampNeg) - nI f9).toInt64) x2 j))]) hx hb dX4_share_193 hl (k := 9) rfl rfl (by decide) rfl (fun ls hl => ?_)
                    refine lv_goto (tgt := 141) hx hb dX4_share_196 (by decide) ?_
                    have E9 : (if σ.2.2.1 4 (8 * (σ.2.2.1 8 x1.toNatClampNeg) - 8 + (nI f9 + nI j)).toNatClampNeg = x2 then (if (nI f9 + nI j - nI f9).toInt64 < ((σ.2.2.2.1 3 x1.toNatClampNeg) - ((σ.2.2.2.1 3 x1.toNatClampNeg) / ((σ.2.2.1 3 (σ.2.2.1 8 x1.toNatClampNeg).toNatClampNeg) - nI f9).toInt64) * ((σ.2.2.1 3 (σ.2.2.1 8 x1.toNatClampNeg).toNatClampNeg) - nI f9).toInt64) then sr_r σ (σ.2.2.1 8 x1.toNatClampNeg) (nI f9) ((σ.2.2.2.1 3 x1.toNatClampNeg) / ((σ.2.2.1 3 (σ.2.2.1 8 x1.toNatClampNeg).toNatClampNeg) - nI f9).toInt64) ((σ.2.2.2.1 3 x1.toNatClampNeg) - ((σ.2.2.2.1 3 x1.toNatClampNeg) / ((σ.2.2.1 3 (σ.2.2.1 8 x1.toNatClampNeg).toNatClampNeg) - nI f9).toInt64) * ((σ.2.2.1 3 (σ.2.2.1 8 x1.toNatClampNeg).toNatClampNeg) - nI f9).toInt64) x2 j + (((σ.2.2.2.1 3 x1.toNatClampNeg) / ((σ.2.2.1 3 (σ.2.2.1 8 x1.toNatClampNeg).toNatClampNeg) - nI f9).toInt64) + 1) else sr_r σ (σ.2.2.1 8 x1.toNatClampNeg) (nI f9) ((σ.2.2.2.1 3 x1.toNatClampNeg) / ((σ.2.2.1 3 (σ.2.2.1 8 x1.toNatClampNeg).toNatClampNeg) - nI f9).toInt64) ((σ.2.2.2.1 3 x1.toNatClampNeg) - ((σ.2.2.2.1 3 x1.toNatClampNeg) / ((σ.2.2.1 3 (σ.2.2.1 8 x1.toNatClampNeg).toNatClampNeg) - nI f9).toInt64) * ((σ.2.2.1 3 (σ.2.2.1 8 x1.toNatClampNeg).toNatClampNeg) - nI f9).toInt64) x2 j + ((σ.2.2.2.1 3 x1.toNatClampNeg) / ((σ.2.2.1 3 (σ.2.2.1 8 x1.toNatClampNeg).toNatClampNeg) - nI f9).toInt64)) else sr_r σ (σ.2.2.1 8 x1.toNatClampNeg) (nI f9) ((σ.2.2.2.1 3 x1.toNatClampNeg) / ((σ.2.2.1 3 (σ.2.2.1 8 x1.toNatClampNeg).toNatClampNeg) - nI f9).toInt64) ((σ.2.2.2.1 3 x1.toNatClampNeg) - ((σ.2.2.2.1 3 x1.toNatClampNeg) / ((σ.2.2.1 3 (σ.2.2.1 8 x1.toNatClampNeg).toNatClampNeg) - nI f9).toInt64) * ((σ.2.2.1 3 (σ.2.2.1 8 x1.toNatClampNeg).toNatClampNeg) - nI f9).toInt64) x2 j) = sr_r σ (σ.2.2.1 8 x1.toNatClampNeg) (nI f9) ((σ.2.2.2.1 3 x1.toNatClampNeg) / ((σ.2.2.1 3 (σ.2.2.1 8 x1.toNatClampNeg).toNatClampNeg) - nI f9).toInt64) ((σ.2.2.2.1 3 x1.toNatClampNeg) - ((σ.2.2.2.1 3 x1.toNatClampNeg) / ((σ.2.2.1 3 (σ.2.2.1 8 x1.toNatClampNeg).toNatClampNeg) - nI f9).toInt64) * ((σ.2.2.1 3 (σ.2.2.1 8 x1.toNatClampNeg).toNatClampNeg) - nI f9).toInt64) x2 j := if_neg c164
                    exact ih _ ⟨lv_sub hl [1, 2, 3, 4, 5, 6, 7, 8, 9, 0] (by rw [nI_succ j, ← sh_as, sr_r, E9]; rfl), trivial⟩
                  · refine lv_lload hx hb dX4_share_167 (lv_at hl 8 rfl) ?_
                    refine lv_iload hx hb dX4_share_169 (lv_at hl 9 rfl) ?_
                    refine lv_iload hx hb dX4_share_171 (lv_at hl 5 rfl) ?_
                    refine lv_isub hx hb dX4_share_173 ?_
                    refine lv_i2l (v := (((nI f9 + nI j) - (nI f9)) : Int32).toInt64) hx hb dX4_share_174 rfl ?_
                    refine lv_lload hx hb dX4_share_175 (lv_at hl 7 rfl) ?_
                    refine W.lcmp hx hb dX4_share_177 ?_
                    refine lv_if_ge (tgt := 188) hx hb dX4_share_178 (by decide) (fun c178 => ?_) (fun c178 => ?_)
                    · refine lv_lload hx hb dX4_share_188 (lv_at hl 6 rfl) ?_
                      refine lv_ladd hx hb dX4_share_190 ?_
                      refine lv_lstore (lv' := [(10, .long ((sr_r σ (σ.2.2.1 8 x1.toNatClampNeg) (nI f9) ((σ.2.2.2.1 3 x1.toNatClampNeg) / ((σ.2.2.1 3 (σ.2.2.1 8 x1.toNatClampNeg).toNatClampNeg) - nI f9).toInt64) ((σ.2.2.2.1 3 x1.toNatClampNeg) - ((σ.2.2.2.1 3 x1.toNatClampNeg) / ((σ.2.2.1 3 (σ.2.2.1 8 x1.toNatClampNeg).toNatClampNeg) - nI f9).toInt64) * ((σ.2.2.1 3 (σ.2.2.1 8 x1.toNatClampNeg).toNatClampNeg) - nI f9).toInt64) x2 j) + ((σ.2.2.2.1 3 x1.toNatClampNeg) / ((σ.2.2.1 3 (σ.2.2.1 8 x1.toNatClampNeg).toNatClampNeg) - nI f9).toInt64))), (0, .ref (Q 0)), (1, .int x1), (2, .int x2), (3, .int (σ.2.2.1 8 x1.toNatClampNeg)), (4, .int (σ.2.2.1 3 (σ.2.2.1 8 x1.toNatClampNeg).toNatClampNeg)), (5, .int (nI f9)), (6, .long ((σ.2.2.2.1 3 x1.toNatClampNeg) / ((σ.2.2.1 3 (σ.2.2.1 8 x1.toNatClampNeg).toNatClampNeg) - nI f9).toInt64)), (8, .long ((σ.2.2.2.1 3 x1.toNatClampNeg) - ((σ.2.2.2.1 3 x1.toNatClampNeg) / ((σ.2.2.1 3 (σ.2.2.1 8 x1.toNatClampNeg).toNatClampNeg) - nI f9).toInt64) * ((σ.2.2.1 3 (σ.2.2.1 8 x1.toNatClampNeg).toNatClampNeg) - nI f9).toInt64)), (12, .int (nI f9 + nI j))]) hx hb dX4_share_191 hl (by decide) rfl (fun ls hl => ?_)
                      refine lv_iinc (v := ((nI f9 + nI j) + 1)) (lv' := [(12, .int ((nI f9 + nI j) + 1)), (10, .long ((sr_r σ (σ.2.2.1 8 x1.toNatClampNeg) (nI f9) ((σ.2.2.2.1 3 x1.toNatClampNeg) / ((σ.2.2.1 3 (σ.2.2.1 8 x1.toNatClampNeg).toNatClampNeg) - nI f9).toInt64) ((σ.2.2.2.1 3 x1.toNatClampNeg) - ((σ.2.2.2.1 3 x1.toNatClampNeg) / ((σ.2.2.1 3 (σ.2.2.1 8 x1.toNatClampNeg).toNatClampNeg) - nI f9).toInt64) * ((σ.2.2.1 3 (σ.2.2.1 8 x1.toNatClampNeg).toNatClampNeg) - nI f9).toInt64) x2 j) + ((σ.2.2.2.1 3 x1.toNatClampNeg) / ((σ.2.2.1 3 (σ.2.2.1 8 x1.toNatClampNeg).toNatClampNeg) - nI f9).toInt64))), (0, .ref (Q 0)), (1, .int x1), (2, .int x2), (3, .int (σ.2.2.1 8 x1.toNatClampNeg)), (4, .int (σ.2.2.1 3 (σ.2.2.1 8 x1.toNatClampNeg).toNatClampNeg)), (5, .int (nI f9)), (6, .long ((σ.2.2.2.1 3 x1.toNatClampNeg) / ((σ.2.2.1 3 (σ.2.2.1 8 x1.toNatClampNeg).toNatClampNeg) - nI f9).toInt64)), (8, .long ((σ.2.2.2.1 3 x1.toNatClampNeg) - ((σ.2.2.2.1 3 x1.toNatClampNeg) / ((σ.2.2.1 3 (σ.2.2.1 8 x1.toNatClampNeg).toNatClampNeg) - nI f9).toInt64) * ((σ.2.2.1 3 (σ.2.2.1 8 x1.toNatClampNeg).toNatClampNeg) - nI f9).toInt64))]) hx hb dX4_share_193 hl (k := 9) rfl rfl (by decide) rfl (fun ls hl => ?_)
                      refine lv_goto (tgt := 141) hx hb dX4_share_196 (by decide) ?_
                      have E9 : (if σ.2.2.1 4 (8 * (σ.2.2.1 8 x1.toNatClampNeg) - 8 + (nI f9 + nI j)).toNatClampNeg = x2 then (if (nI f9 + nI j - nI f9).toInt64 < ((σ.2.2.2.1 3 x1.toNatClampNeg) - ((σ.2.2.2.1 3 x1.toNatClampNeg) / ((σ.2.2.1 3 (σ.2.2.1 8 x1.toNatClampNeg).toNatClampNeg) - nI f9).toInt64) * ((σ.2.2.1 3 (σ.2.2.1 8 x1.toNatClampNeg).toNatClampNeg) - nI f9).toInt64) then sr_r σ (σ.2.2.1 8 x1.toNatClampNeg) (nI f9) ((σ.2.2.2.1 3 x1.toNatClampNeg) / ((σ.2.2.1 3 (σ.2.2.1 8 x1.toNatClampNeg).toNatClampNeg) - nI f9).toInt64) ((σ.2.2.2.1 3 x1.toNatClampNeg) - ((σ.2.2.2.1 3 x1.toNatClampNeg) / ((σ.2.2.1 3 (σ.2.2.1 8 x1.toNatClampNeg).toNatClampNeg) - nI f9).toInt64) * ((σ.2.2.1 3 (σ.2.2.1 8 x1.toNatClampNeg).toNatClampNeg) - nI f9).toInt64) x2 j + (((σ.2.2.2.1 3 x1.toNatClampNeg) / ((σ.2.2.1 3 (σ.2.2.1 8 x1.toNatClampNeg).toNatClampNeg) - nI f9).toInt64) + 1) else sr_r σ (σ.2.2.1 8 x1.toNatClampNeg) (nI f9) ((σ.2.2.2.1 3 x1.toNatClampNeg) / ((σ.2.2.1 3 (σ.2.2.1 8 x1.toNatClampNeg).toNatClampNeg) - nI f9).toInt64) ((σ.2.2.2.1 3 x1.toNatClampNeg) - ((σ.2.2.2.1 3 x1.toNatClampNeg) / ((σ.2.2.1 3 (σ.2.2.1 8 x1.toNatClampNeg).toNatClampNeg) - nI f9).toInt64) * ((σ.2.2.1 3 (σ.2.2.1 8 x1.toNatClampNeg).toNatClampNeg) - nI f9).toInt64) x2 j + ((σ.2.2.2.1 3 x1.toNatClampNeg) / ((σ.2.2.1 3 (σ.2.2.1 8 x1.toNatClampNeg).toNatClampNeg) - nI f9).toInt64)) else sr_r σ (σ.2.2.1 8 x1.toNatClampNeg) (nI f9) ((σ.2.2.2.1 3 x1.toNatClampNeg) / ((σ.2.2.1 3 (σ.2.2.1 8 x1.toNatClampNeg).toNatClampNeg) - nI f9).toInt64) ((σ.2.2.2.1 3 x1.toNatClampNeg) - ((σ.2.2.2.1 3 x1.toNatClampNeg) / ((σ.2.2.1 3 (σ.2.2.1 8 x1.toNatClampNeg).toNatClampNeg) - nI f9).toInt64) * ((σ.2.2.1 3 (σ.2.2.1 8 x1.toNatClampNeg).toNatClampNeg) - nI f9).toInt64) x2 j) = sr_r σ (σ.2.2.1 8 x1.toNatClampNeg) (nI f9) ((σ.2.2.2.1 3 x1.toNatClampNeg) / ((σ.2.2.1 3 (σ.2.2.1 8 x1.toNatClampNeg).toNatClampNeg) - nI f9).toInt64) ((σ.2.2.2.1 3 x1.toNatClampNeg) - ((σ.2.2.2.1 3 x1.toNatClampNeg) / ((σ.2.2.1 3 (σ.2.2.1 8 x1.toNatClampNeg).toNatClampNeg) - nI f9).toInt64) * ((σ.2.2.1 3 (σ.2.2.1 8 x1.toNatClampNeg).toNatClampNeg) - nI f9).toInt64) x2 j + ((σ.2.2.2.1 3 x1.toNatClampNeg) / ((σ.2.2.1 3 (σ.2.2.1 8 x1.toNatClampNeg).toNatClampNeg) - nI f9).toInt64) := by rw [if_pos c164, if_neg (Int64.not_lt.mpr (lc_ge.mp c178))]
                      exact ih _ ⟨lv_sub hl [2, 3, 4, 5, 6, 7, 8, 9, 1, 0] (by rw [nI_succ j, ← sh_as, sr_r, E9]; rfl), trivial⟩
                    · refine lv_lload hx hb dX4_share_181 (lv_at hl 6 rfl) ?_
                      refine lv_lconst (v := 1) hx hb dX4_share_183 (by decide) ?_
                      refine lv_ladd hx hb dX4_share_184 ?_
                      refine lv_goto (tgt := 190) hx hb dX4_share_185 (by decide) ?_
                      refine lv_ladd hx hb dX4_share_190 ?_
                      refine lv_lstore (lv' := [(10, .long ((sr_r σ (σ.2.2.1 8 x1.toNatClampNeg) (nI f9) ((σ.2.2.2.1 3 x1.toNatClampNeg) / ((σ.2.2.1 3 (σ.2.2.1 8 x1.toNatClampNeg).toNatClampNeg) - nI f9).toInt64) ((σ.2.2.2.1 3 x1.toNatClampNeg) - ((σ.2.2.2.1 3 x1.toNatClampNeg) / ((σ.2.2.1 3 (σ.2.2.1 8 x1.toNatClampNeg).toNatClampNeg) - nI f9).toInt64) * ((σ.2.2.1 3 (σ.2.2.1 8 x1.toNatClampNeg).toNatClampNeg) - nI f9).toInt64) x2 j) + (((σ.2.2.2.1 3 x1.toNatClampNeg) / ((σ.2.2.1 3 (σ.2.2.1 8 x1.toNatClampNeg).toNatClampNeg) - nI f9).toInt64) + 1))), (0, .ref (Q 0)), (1, .int x1), (2, .int x2), (3, .int (σ.2.2.1 8 x1.toNatClampNeg)), (4, .int (σ.2.2.1 3 (σ.2.2.1 8 x1.toNatClampNeg).toNatClampNeg)), (5, .int (nI f9)), (6, .long ((σ.2.2.2.1 3 x1.toNatClampNeg) / ((σ.2.2.1 3 (σ.2.2.1 8 x1.toNatClampNeg).toNatClampNeg) - nI f9).toInt64)), (8, .long ((σ.2.2.2.1 3 x1.toNatClampNeg) - ((σ.2.2.2.1 3 x1.toNatClampNeg) / ((σ.2.2.1 3 (σ.2.2.1 8 x1.toNatClampNeg).toNatClampNeg) - nI f9).toInt64) * ((σ.2.2.1 3 (σ.2.2.1 8 x1.toNatClampNeg).toNatClampNeg) - nI f9).toInt64)), (12, .int (nI f9 + nI j))]) hx hb dX4_share_191 hl (by decide) rfl (fun ls hl => ?_)
                      refine lv_iinc (v := ((nI f9 + nI j) + 1)) (lv' := [(12, .int ((nI f9 + nI j) + 1)), (10, .long ((sr_r σ (σ.2.2.1 8 x1.toNatClampNeg) (nI f9) ((σ.2.2.2.1 3 x1.toNatClampNeg) / ((σ.2.2.1 3 (σ.2.2.1 8 x1.toNatClampNeg).toNatClampNeg) - nI f9).toInt64) ((σ.2.2.2.1 3 x1.toNatClampNeg) - ((σ.2.2.2.1 3 x1.toNatClampNeg) / ((σ.2.2.1 3 (σ.2.2.1 8 x1.toNatClampNeg).toNatClampNeg) - nI f9).toInt64) * ((σ.2.2.1 3 (σ.2.2.1 8 x1.toNatClampNeg).toNatClampNeg) - nI f9).toInt64) x2 j) + (((σ.2.2.2.1 3 x1.toNatClampNeg) / ((σ.2.2.1 3 (σ.2.2.1 8 x1.toNatClampNeg).toNatClampNeg) - nI f9).toInt64) + 1))), (0, .ref (Q 0)), (1, .int x1), (2, .int x2), (3, .int (σ.2.2.1 8 x1.toNatClampNeg)), (4, .int (σ.2.2.1 3 (σ.2.2.1 8 x1.toNatClampNeg).toNatClampNeg)), (5, .int (nI f9)), (6, .long ((σ.2.2.2.1 3 x1.toNatClampNeg) / ((σ.2.2.1 3 (σ.2.2.1 8 x1.toNatClampNeg).toNatClampNeg) - nI f9).toInt64)), (8, .long ((σ.2.2.2.1 3 x1.toNatClampNeg) - ((σ.2.2.2.1 3 x1.toNatClampNeg) / ((σ.2.2.1 3 (σ.2.2.1 8 x1.toNatClampNeg).toNatClampNeg) - nI f9).toInt64) * ((σ.2.2.1 3 (σ.2.2.1 8 x1.toNatClampNeg).toNatClampNeg) - nI f9).toInt64))]) hx hb dX4_share_193 hl (k := 9) rfl rfl (by decide) rfl (fun ls hl => ?_)
                      refine lv_goto (tgt := 141) hx hb dX4_share_196 (by decide) ?_
                      have E9 : (if σ.2.2.1 4 (8 * (σ.2.2.1 8 x1.toNatClampNeg) - 8 + (nI f9 + nI j)).toNatClampNeg = x2 then (if (nI f9 + nI j - nI f9).toInt64 < ((σ.2.2.2.1 3 x1.toNatClampNeg) - ((σ.2.2.2.1 3 x1.toNatClampNeg) / ((σ.2.2.1 3 (σ.2.2.1 8 x1.toNatClampNeg).toNatClampNeg) - nI f9).toInt64) * ((σ.2.2.1 3 (σ.2.2.1 8 x1.toNatClampNeg).toNatClampNeg) - nI f9).toInt64) then sr_r σ (σ.2.2.1 8 x1.toNatClampNeg) (nI f9) ((σ.2.2.2.1 3 x1.toNatClampNeg) / ((σ.2.2.1 3 (σ.2.2.1 8 x1.toNatClampNeg).toNatClampNeg) - nI f9).toInt64) ((σ.2.2.2.1 3 x1.toNatClampNeg) - ((σ.2.2.2.1 3 x1.toNatClampNeg) / ((σ.2.2.1 3 (σ.2.2.1 8 x1.toNatClampNeg).toNatClampNeg) - nI f9).toInt64) * ((σ.2.2.1 3 (σ.2.2.1 8 x1.toNatClampNeg).toNatClampNeg) - nI f9).toInt64) x2 j + (((σ.2.2.2.1 3 x1.toNatClampNeg) / ((σ.2.2.1 3 (σ.2.2.1 8 x1.toNatClampNeg).toNatClampNeg) - nI f9).toInt64) + 1) else sr_r σ (σ.2.2.1 8 x1.toNatClampNeg) (nI f9) ((σ.2.2.2.1 3 x1.toNatClampNeg) / ((σ.2.2.1 3 (σ.2.2.1 8 x1.toNatClampNeg).toNatClampNeg) - nI f9).toInt64) ((σ.2.2.2.1 3 x1.toNatClampNeg) - ((σ.2.2.2.1 3 x1.toNatClampNeg) / ((σ.2.2.1 3 (σ.2.2.1 8 x1.toNatClampNeg).toNatClampNeg) - nI f9).toInt64) * ((σ.2.2.1 3 (σ.2.2.1 8 x1.toNatClampNeg).toNatClampNeg) - nI f9).toInt64) x2 j + ((σ.2.2.2.1 3 x1.toNatClampNeg) / ((σ.2.2.1 3 (σ.2.2.1 8 x1.toNatClampNeg).toNatClampNeg) - nI f9).toInt64)) else sr_r σ (σ.2.2.1 8 x1.toNatClampNeg) (nI f9) ((σ.2.2.2.1 3 x1.toNatClampNeg) / ((σ.2.2.1 3 (σ.2.2.1 8 x1.toNatClampNeg).toNatClampNeg) - nI f9).toInt64) ((σ.2.2.2.1 3 x1.toNatClampNeg) - ((σ.2.2.2.1 3 x1.toNatClampNeg) / ((σ.2.2.1 3 (σ.2.2.1 8 x1.toNatClampNeg).toNatClampNeg) - nI f9).toInt64) * ((σ.2.2.1 3 (σ.2.2.1 8 x1.toNatClampNeg).toNatClampNeg) - nI f9).toInt64) x2 j) = sr_r σ (σ.2.2.1 8 x1.toNatClampNeg) (nI f9) ((σ.2.2.2.1 3 x1.toNatClampNeg) / ((σ.2.2.1 3 (σ.2.2.1 8 x1.toNatClampNeg).toNatClampNeg) - nI f9).toInt64) ((σ.2.2.2.1 3 x1.toNatClampNeg) - ((σ.2.2.2.1 3 x1.toNatClampNeg) / ((σ.2.2.1 3 (σ.2.2.1 8 x1.toNatClampNeg).toNatClampNeg) - nI f9).toInt64) * ((σ.2.2.1 3 (σ.2.2.1 8 x1.toNatClampNeg).toNatClampNeg) - nI f9).toInt64) x2 j + (((σ.2.2.2.1 3 x1.toNatClampNeg) / ((σ.2.2.1 3 (σ.2.2.1 8 x1.toNatClampNeg).toNatClampNeg) - nI f9).toInt64) + 1) := by rw [if_pos c164, if_pos (Int64.not_le.mp (fun q => c178 (lc_ge.mpr q)))]
                      exact ih _ ⟨lv_sub hl [2, 3, 4, 5, 6, 7, 8, 9, 1, 0] (by rw [nI_succ j, ← sh_as, sr_r, E9]; rfl), trivial⟩
              · obtain ⟨hl, hin⟩ := hin
                refine lv_iload hx hb dX4_share_141 (lv_at hl 9 rfl) ?_
                refine lv_iload hx hb dX4_share_143 (lv_at hl 4 rfl) ?_
                refine lv_icmp_ge (tgt := 199) hx hb dX4_share_145 (by decide) (fun c145 => ?_) (fun c145 => ?_)
                · refine lv_lload hx hb dX4_share_199 (lv_at hl 8 rfl) ?_
                  exact W.lret (v := (sr_r σ (σ.2.2.1 8 x1.toNatClampNeg) (nI f9) ((σ.2.2.2.1 3 x1.toNatClampNeg) / ((σ.2.2.1 3 (σ.2.2.1 8 x1.toNatClampNeg).toNatClampNeg) - nI f9).toInt64) ((σ.2.2.2.1 3 x1.toNatClampNeg) - ((σ.2.2.2.1 3 x1.toNatClampNeg) / ((σ.2.2.1 3 (σ.2.2.1 8 x1.toNatClampNeg).toNatClampNeg) - nI f9).toInt64) * ((σ.2.2.1 3 (σ.2.2.1 8 x1.toNatClampNeg).toNatClampNeg) - nI f9).toInt64) x2 (v9 - f9))) hx hb hr (fun t ht hW => ⟨(sr_r σ (σ.2.2.1 8 x1.toNatClampNeg) (nI f9) ((σ.2.2.2.1 3 x1.toNatClampNeg) / ((σ.2.2.1 3 (σ.2.2.1 8 x1.toNatClampNeg).toNatClampNeg) - nI f9).toInt64) ((σ.2.2.2.1 3 x1.toNatClampNeg) - ((σ.2.2.2.1 3 x1.toNatClampNeg) / ((σ.2.2.1 3 (σ.2.2.1 8 x1.toNatClampNeg).toNatClampNeg) - nI f9).toInt64) * ((σ.2.2.1 3 (σ.2.2.1 8 x1.toNatClampNeg).toNatClampNeg) - nI f9).toInt64) x2 (v9 - f9)), rfl, (by simp only [kr_share, if_pos c5, if_pos c21, if_pos c50, if_neg c55]; rw [show ((σ.2.2.1 3 (σ.2.2.1 8 x1.toNatClampNeg).toNatClampNeg)).toNatClampNeg = v9 by rw [hN9]; exact nI_clamp (by omega), ef9, show ((σ.2.2.1 3 (σ.2.2.1 8 x1.toNatClampNeg).toNatClampNeg) - nI f9).toNatClampNeg = v9 - f9 by rw [hN9, pk_sub (by omega)]; exact nI_clamp (by omega)]), ht⟩) (fun q h => by cases h) dX4_share_201
                · exact absurd (by rw [hN9, nI_add]; exact nI_le (by omega) (by omega)) c145
            · exact absurd (by rw [hN9]; exact nI_le (Nat.le_refl _) (by omega)) c70
        · refine lv_lconst (v := 0) hx hb dX4_share_58 (by decide) ?_
          exact W.lret (v := 0) hx hb hr (fun t ht hW => ⟨0, rfl, (by simp only [kr_share, if_pos c5, if_pos c21, if_pos c50, if_pos c55]), ht⟩) (fun q h => by cases h) dX4_share_59
    · have c21 := of_decide_eq_false (bb_0.mp c21)
      refine lv_ldc2 hx hb hown lk7 dX4_share_24 ?_
      exact W.lret (v := (-102)) hx hb hr (fun t ht hW => ⟨(-102), rfl, (by simp only [kr_share, if_pos c5, if_neg c21]), ht⟩) (fun q h => by cases h) dX4_share_27
  · have c5 := of_decide_eq_false (bb_0.mp c5)
    refine lv_ldc2 hx hb hown lk8 dX4_share_8 ?_
    exact W.lret (v := (-101)) hx hb hr (fun t ht hW => ⟨(-101), rfl, (by simp only [kr_share, if_neg c5]), ht⟩) (fun q h => by cases h) dX4_share_11
