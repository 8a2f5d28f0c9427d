set_option maxHeartbeats 4000000 in
set_option maxRecDepth 100000 in
/-- mr_other -/
theorem mr_other (l : Launch) (dC : Nat → ClassId) (dI : Nat → Nat → Nat) (cA : Nat → ClassId) (Q : Nat → Nat) (σ : xs_T) (n : nn_T) (L : List Nat) (f : Nat → va_E) (hV : rm_V σ n) (x kd but : Int32) : Met l yX4_other wsX4_other ({ frames := 0, cells := 0, slots := 0, locals := 0 }) (va_Pc [.ref (Q 0), .int x, .int kd, .int but] (ct_R (dC, dI) vwCl (ty_K cA) (xm_W Q cA σ ++ va_pl L f))) (vp_Si (fun r => r = ot_r σ x kd but n.2.1)) 0 0 (fun _ => False) := by
  refine Met.ofW (cc := cX4_other) (maxL := 6) (ret := (some .int)) (by decide) rfl ?_
  intro p e s m args below meth c s₁ B hml hv
  obtain ⟨rfl, hP, hK⟩ := hv
  have hx := B.exec
  have hb := B.bytes
  have hr := B.returns
  have hts := atoms_spec (ws := wsX4_other) B.pre
  have hown : s.vm.findClass RX4 = some m.cls := findClass_of_methodNamed B.named
  have hlocks := B.notSynchronized
  have hl := lv_entry ([.ref (Q 0), .int x, .int kd, .int but]) (n := 6) (Nat.le_of_ble_eq_true rfl)
  rw [lg_entry_eq]
  generalize (lg_sl ([.ref (Q 0), .int x, .int kd, .int but]) ++ List.replicate (6 - (lg_sl ([.ref (Q 0), .int x, .int kd, .int but])).length) Slot.unset).toArray = ls at hl ⊢
  have hl : lv_has ls 6 [(0, .ref (Q 0)), (1, .int x), (2, .int kd), (3, .int but)] := hl
  have lk0 := hts (.fieldLink RX4 91 "ClaimRowsModel" "claims" "I") (List.mem_cons_of_mem _ wd_288)
  have lk1 := hts (.fieldLink RX4 45 "ClaimRowsModel" "itemOf" "[I") (List.mem_cons_of_mem _ wd_289)
  have lk2 := hts (.fieldLink RX4 48 "ClaimRowsModel" "kindOf" "[I") (List.mem_cons_of_mem _ wd_290)
  have lk3 := hts (.fieldLink RX4 51 "ClaimRowsModel" "state" "[I") (List.mem_cons_of_mem _ wd_291)
  have in0 : ∀ w ∈ u_ws RX4 TX4 33, w ∈ wsX4_other := fun w h => List.mem_cons_of_mem _ (wu_X4 w h)
  have hn0 : (σ.1 0).toNatClampNeg = n.1 := by rw [hV.1.1]; exact nI_clamp (by have := hV.1.2.1; omega)
  have hn1 : (σ.1 1).toNatClampNeg = n.2.1 := by rw [hV.1.2.2.1]; exact nI_clamp (by have := hV.1.2.2.2.1; omega)
  have hn2 : (σ.1 2).toNatClampNeg = n.2.2.1 := by rw [hV.1.2.2.2.2.1]; exact nI_clamp (by have := hV.1.2.2.2.2.2.1; omega)
  refine lv_iconst (v := 0) hx hb dX4_other_0 (by decide) ?_
  refine lv_istore (lv' := [(4, .int 0), (0, .ref (Q 0)), (1, .int x), (2, .int kd), (3, .int but)]) hx hb dX4_other_1 hl (by decide) rfl (fun ls hl => ?_)
  refine lv_iconst (v := 1) hx hb dX4_other_3 (by decide) ?_
  refine lv_istore (lv' := [(5, .int 1), (4, .int 0), (0, .ref (Q 0)), (1, .int x), (2, .int kd), (3, .int but)]) hx hb dX4_other_4 hl (by decide) rfl (fun ls hl => ?_)
  refine wl_R (Inv := fun j ls => lv_has ls 6 [(0, .ref (Q 0)), (1, .int x), (2, .int kd), (3, .int but), (4, .int (ot_r σ x kd but j)), (5, .int (nI (j + 1)))] ∧ True) (N := n.2.1) (fun j ls hj hin ih => ?_) (fun ls hin => ?_) 0 ls (Nat.zero_le _) ⟨lv_sub hl [2, 3, 4, 5, 1, 0] rfl, trivial⟩
  · obtain ⟨hl, hin⟩ := hin
    refine lv_iload hx hb dX4_other_6 (lv_at hl 5 rfl) ?_
    refine lv_aload_n hx hb dX4_other_8 rfl (lv_at hl 0 rfl) ?_
    refine va_get (D := (dC, dI)) (ci := 4) (v := .int (σ.1 1)) (C := RX4) (T := TX4) (N := 33) hx hb hts in0 hown hK hP 0 (xm_W_0 _ _) rfl 12 (by decide) lk0 (fun _ h9 => h9) rfl dX4_other_9 ?_
    refine lv_icmp_gt (tgt := 64) hx hb dX4_other_12 (by decide) (fun c12 => ?_) (fun c12 => ?_)
    · exact absurd c12 (by rw [hV.1.2.2.1]; exact nI_nlt (by omega) (by have := hV.1.2.2.2.1; omega))
    · refine lv_iload hx hb dX4_other_15 (lv_at hl 5 rfl) ?_
      refine lv_iload_n hx hb dX4_other_17 rfl (lv_at hl 3 rfl) ?_
      refine lv_icmp_eq (tgt := 58) hx hb dX4_other_18 (by decide) (fun c18 => ?_) (fun c18 => ?_)
      · have E9 : (if ¬ nI (j + 1) = but ∧ σ.2.2.1 8 (nI (j + 1)).toNatClampNeg = x ∧ σ.2.2.1 9 (nI (j + 1)).toNatClampNeg = kd ∧ ¬ σ.2.2.1 10 (nI (j + 1)).toNatClampNeg = 2 then nI (j + 1) else ot_r σ x kd but j) = ot_r σ x kd but j := if_neg (fun q => q.1 c18)
        refine lv_iinc (v := ((nI (j + 1)) + 1)) (lv' := [(5, .int ((nI (j + 1)) + 1)), (0, .ref (Q 0)), (1, .int x), (2, .int kd), (3, .int but), (4, .int (ot_r σ x kd but j))]) hx hb dX4_other_58 hl (k := 5) rfl rfl (by decide) rfl (fun ls hl => ?_)
        refine lv_goto (tgt := 6) hx hb dX4_other_61 (by decide) ?_
        exact ih _ ⟨lv_sub hl [1, 2, 3, 4, 5, 0] (by rw [nI_succ (j + 1), ot_r, E9]; rfl), trivial⟩
      · refine lv_aload_n hx hb dX4_other_21 rfl (lv_at hl 0 rfl) ?_
        refine va_get (D := (dC, dI)) (ci := 4) (v := .ref (Q 12)) (C := RX4) (T := TX4) (N := 33) hx hb hts in0 hown hK hP 0 (xm_W_0 _ _) rfl 13 (by decide) lk1 (fun _ h9 => h9) rfl dX4_other_22 ?_
        refine lv_iload hx hb dX4_other_25 (lv_at hl 5 rfl) ?_
        refine va_iald hx hb hK hP 12 0 (xm_W_12 _ _) rfl (vp_in_nI (by have := hV.1.2.2.2.1; omega) (by decide)) dX4_other_27 ?_
        refine lv_iload_n hx hb dX4_other_28 rfl (lv_at hl 1 rfl) ?_
        refine lv_icmp_ne (tgt := 58) hx hb dX4_other_29 (by decide) (fun c29 => ?_) (fun c29 => ?_)
        · have E9 : (if ¬ nI (j + 1) = but ∧ σ.2.2.1 8 (nI (j + 1)).toNatClampNeg = x ∧ σ.2.2.1 9 (nI (j + 1)).toNatClampNeg = kd ∧ ¬ σ.2.2.1 10 (nI (j + 1)).toNatClampNeg = 2 then nI (j + 1) else ot_r σ x kd but j) = ot_r σ x kd but j := if_neg (fun q => c29 q.2.1)
          refine lv_iinc (v := ((nI (j + 1)) + 1)) (lv' := [(5, .int ((nI (j + 1)) + 1)), (0, .ref (Q 0)), (1, .int x), (2, .int kd), (3, .int but), (4, .int (ot_r σ x kd but j))]) hx hb dX4_other_58 hl (k := 5) rfl rfl (by decide) rfl (fun ls hl => ?_)
          refine lv_goto (tgt := 6) hx hb dX4_other_61 (by decide) ?_
          exact ih _ ⟨lv_sub hl [1, 2, 3, 4, 5, 0] (by rw [nI_succ (j + 1), ot_r, E9]; rfl), trivial⟩
        · refine lv_aload_n hx hb dX4_other_32 rfl (lv_at hl 0 rfl) ?_
          refine va_get (D := (dC, dI)) (ci := 4) (v := .ref (Q 13)) (C := RX4) (T := TX4) (N := 33) hx hb hts in0 hown hK hP 0 (xm_W_0 _ _) rfl 14 (by decide) lk2 (fun _ h9 => h9) rfl dX4_other_33 ?_
          refine lv_iload hx hb dX4_other_36 (lv_at hl 5 rfl) ?_
          refine va_iald hx hb hK hP 13 0 (xm_W_13 _ _) rfl (vp_in_nI (by have := hV.1.2.2.2.1; omega) (by decide)) dX4_other_38 ?_
          refine lv_iload_n hx hb dX4_other_39 rfl (lv_at hl 2 rfl) ?_
          refine lv_icmp_ne (tgt := 58) hx hb dX4_other_40 (by decide) (fun c40 => ?_) (fun c40 => ?_)
          · have E9 : (if ¬ nI (j + 1) = but ∧ σ.2.2.1 8 (nI (j + 1)).toNatClampNeg = x ∧ σ.2.2.1 9 (nI (j + 1)).toNatClampNeg = kd ∧ ¬ σ.2.2.1 10 (nI (j + 1)).toNatClampNeg = 2 then nI (j + 1) else ot_r σ x kd but j) = ot_r σ x kd but j := if_neg (fun q => c40 q.2.2.1)
            refine lv_iinc (v := ((nI (j + 1)) + 1)) (lv' := [(5, .int ((nI (j + 1)) + 1)), (0, .ref (Q 0)), (1, .int x), (2, .int kd), (3, .int but), (4, .int (ot_r σ x kd but j))]) hx hb dX4_other_58 hl (k := 5) rfl rfl (by decide) rfl (fun ls hl => ?_)
            refine lv_goto (tgt := 6) hx hb dX4_other_61 (by decide) ?_
            exact ih _ ⟨lv_sub hl [1, 2, 3, 4, 5, 0] (by rw [nI_succ (j + 1), ot_r, E9]; rfl), trivial⟩
          · refine lv_aload_n hx hb dX4_other_43 rfl (lv_at hl 0 rfl) ?_
            refine va_get (D := (dC, dI)) (ci := 4) (v := .ref (Q 14)) (C := RX4) (T := TX4) (N := 33) hx hb hts in0 hown hK hP 0 (xm_W_0 _ _) rfl 15 (by decide) lk3 (fun _ h9 => h9) rfl dX4_other_44 ?_
            refine lv_iload hx hb dX4_other_47 (lv_at hl 5 rfl) ?_
            refine va_iald hx hb hK hP 14 0 (xm_W_14 _ _) rfl (vp_in_nI (by have := hV.1.2.2.2.1; omega) (by decide)) dX4_other_49 ?_
            refine lv_iconst (v := 2) hx hb dX4_other_50 (by decide) ?_
            refine lv_icmp_eq (tgt := 58) hx hb dX4_other_51 (by decide) (fun c51 => ?_) (fun c51 => ?_)
            · have E9 : (if ¬ nI (j + 1) = but ∧ σ.2.2.1 8 (nI (j + 1)).toNatClampNeg = x ∧ σ.2.2.1 9 (nI (j + 1)).toNatClampNeg = kd ∧ ¬ σ.2.2.1 10 (nI (j + 1)).toNatClampNeg = 2 then nI (j + 1) else ot_r σ x kd but j) = ot_r σ x kd but j := if_neg (fun q => q.2.2.2 c51)
              refine lv_iinc (v := ((nI (j + 1)) + 1)) (lv' := [(5, .int ((nI (j + 1)) + 1)), (0, .ref (Q 0)), (1, .int x), (2, .int kd), (3, .int but), (4, .int (ot_r σ x kd but j))]) hx hb dX4_other_58 hl (k := 5) rfl rfl (by decide) rfl (fun ls hl => ?_)
              refine lv_goto (tgt := 6) hx hb dX4_other_61 (by decide) ?_
              exact ih _ ⟨lv_sub hl [1, 2, 3, 4, 5, 0] (by rw [nI_succ (j + 1), ot_r, E9]; rfl), trivial⟩
            · have E9 : (if ¬ nI (j + 1) = but ∧ σ.2.2.1 8 (nI (j + 1)).toNatClampNeg = x ∧ σ.2.2.1 9 (nI (j + 1)).toNatClampNeg = kd ∧ ¬ σ.2.2.1 10 (nI (j + 1)).toNatClampNeg = 2 then nI (j + 1) else ot_r σ x kd but j) = nI (j + 1) := if_pos ⟨c18, c29, c40, c51⟩
              refine lv_iload hx hb dX4_other_54 (lv_at hl 5 rfl) ?_
              refine lv_istore (lv' := [(4, .int (nI (j + 1))), (0, .ref (Q 0)), (1, .int x), (2, .int kd), (3, .int but), (5, .int (nI (j + 1)))]) hx hb dX4_other_56 hl (by decide) rfl (fun ls hl => ?_)
              refine lv_iinc (v := ((nI (j + 1)) + 1)) (lv' := [(5, .int ((nI (j + 1)) + 1)), (4, .int (nI (j + 1))), (0, .ref (Q 0)), (1, .int x), (2, .int kd), (3, .int but)]) hx hb dX4_other_58 hl (k := 5) rfl rfl (by decide) rfl (fun ls hl => ?_)
              refine lv_goto (tgt := 6) hx hb dX4_other_61 (by decide) ?_
              exact ih _ ⟨lv_sub hl [2, 3, 4, 5, 1, 0] (by rw [nI_succ (j + 1), ot_r, E9]; rfl), trivial⟩
  · obtain ⟨hl, hin⟩ := hin
    refine lv_iload hx hb dX4_other_6 (lv_at hl 5 rfl) ?_
    refine lv_aload_n hx hb dX4_other_8 rfl (lv_at hl 0 rfl) ?_
    refine va_get (D := (dC, dI)) (ci := 4) (v := .int (σ.1 1)) (C := RX4) (T := TX4) (N := 33) hx hb hts in0 hown hK hP 0 (xm_W_0 _ _) rfl 12 (by decide) lk0 (fun _ h9 => h9) rfl dX4_other_9 ?_
    refine lv_icmp_gt (tgt := 64) hx hb dX4_other_12 (by decide) (fun c12 => ?_) (fun c12 => ?_)
    · refine lv_iload hx hb dX4_other_64 (lv_at hl 4 rfl) ?_
      exact W.iret (v := (ot_r σ x kd but n.2.1)) hx hb hr (fun t ht hW => ⟨(ot_r σ x kd but n.2.1), rfl, rfl, ht⟩) (fun q h => by cases h) dX4_other_66
    · exact absurd (by rw [hV.1.2.2.1]; exact nI_lt (by omega) (by have := hV.1.2.2.2.1; omega)) c12
set_option maxHeartbeats 4000000 in
set_option maxRecDepth 100000 in
/-- mr_many -/
theorem mr_many (l : Launch) (dC : Nat → ClassId) (dI : Nat → Nat → Nat) (cA : Nat → ClassId) (Q : Nat → Nat) (σ : xs_T) (n : nn_T) (L : List Nat) (f : Nat → va_E) (hV : rm_V σ n) (x w : Int32) : Met l yX4_many wsX4_many ({ frames := 0, cells := 0, slots := 0, locals := 0 }) (va_Pc [.ref (Q 0), .int x, .int w] (ct_R (dC, dI) vwCl (ty_K cA) (xm_W Q cA σ ++ va_pl L f))) (vp_Si (fun r => r = ma_r σ x w n.2.2.1)) 0 0 (fun _ => False) := by
  refine Met.ofW (cc := cX4_many) (maxL := 5) (ret := (some .int)) (by decide) rfl ?_
  intro p e s m args below meth c s₁ B hml hv
  obtain ⟨rfl, hP, hK⟩ := hv
  have hx := B.exec
  have hb := B.bytes
  have hr := B.returns
  have hts := atoms_spec (ws := wsX4_many) B.pre
  have hown : s.vm.findClass RX4 = some m.cls := findClass_of_methodNamed B.named
  have hlocks := B.notSynchronized
  have hl := lv_entry ([.ref (Q 0), .int x, .int w]) (n := 5) (Nat.le_of_ble_eq_true rfl)
  rw [lg_entry_eq]
  generalize (lg_sl ([.ref (Q 0), .int x, .int w]) ++ List.replicate (5 - (lg_sl ([.ref (Q 0), .int x, .int w])).length) Slot.unset).toArray = ls at hl ⊢
  have hl : lv_has ls 5 [(0, .ref (Q 0)), (1, .int x), (2, .int w)] := hl
  have lk0 := hts (.fieldLink RX4 145 "ClaimRowsModel" "searches" "I") (List.mem_cons_of_mem _ wd_296)
  have lk1 := hts (.fieldLink RX4 66 "ClaimRowsModel" "claimOf" "[I") (List.mem_cons_of_mem _ wd_297)
  have lk2 := hts (.fieldLink RX4 75 "ClaimRowsModel" "counts" "[Z") (List.mem_cons_of_mem _ wd_300)
  have lk3 := hts (.fieldLink RX4 72 "ClaimRowsModel" "found" "[I") (List.mem_cons_of_mem _ wd_299)
  have in0 : ∀ w ∈ u_ws RX4 TX4 33, w ∈ wsX4_many := fun w h => List.mem_cons_of_mem _ (wu_X4 w h)
  have hn0 : (σ.1 0).toNatClampNeg = n.1 := by rw [hV.1.1]; exact nI_clamp (by have := hV.1.2.1; omega)
  have hn1 : (σ.1 1).toNatClampNeg = n.2.1 := by rw [hV.1.2.2.1]; exact nI_clamp (by have := hV.1.2.2.2.1; omega)
  have hn2 : (σ.1 2).toNatClampNeg = n.2.2.1 := by rw [hV.1.2.2.2.2.1]; exact nI_clamp (by have := hV.1.2.2.2.2.2.1; omega)
  refine lv_iconst (v := 0) hx hb dX4_many_0 (by decide) ?_
  refine lv_istore_n (lv' := [(3, .int 0), (0, .ref (Q 0)), (1, .int x), (2, .int w)]) hx hb dX4_many_1 rfl hl (by decide) rfl (fun ls hl => ?_)
  refine lv_iconst (v := 1) hx hb dX4_many_2 (by decide) ?_
  refine lv_istore (lv' := [(4, .int 1), (3, .int 0), (0, .ref (Q 0)), (1, .int x), (2, .int w)]) hx hb dX4_many_3 hl (by decide) rfl (fun ls hl => ?_)
  refine wl_R (Inv := fun j ls => lv_has ls 5 [(0, .ref (Q 0)), (1, .int x), (2, .int w), (3, .int (ma_r σ x w j)), (4, .int (nI (j + 1)))] ∧ True) (N := n.2.2.1) (fun j ls hj hin ih => ?_) (fun ls hin => ?_) 0 ls (Nat.zero_le _) ⟨lv_sub hl [2, 3, 4, 1, 0] rfl, trivial⟩
  · obtain ⟨hl, hin⟩ := hin
    refine lv_iload hx hb dX4_many_5 (lv_at hl 4 rfl) ?_
    refine lv_aload_n hx hb dX4_many_7 rfl (lv_at hl 0 rfl) ?_
    refine va_get (D := (dC, dI)) (ci := 4) (v := .int (σ.1 2)) (C := RX4) (T := TX4) (N := 33) hx hb hts in0 hown hK hP 0 (xm_W_0 _ _) rfl 20 (by decide) lk0 (fun _ h9 => h9) rfl dX4_many_8 ?_
    refine lv_icmp_gt (tgt := 55) hx hb dX4_many_11 (by decide) (fun c11 => ?_) (fun c11 => ?_)
    · exact absurd c11 (by rw [hV.1.2.2.2.2.1]; exact nI_nlt (by omega) (by have := hV.1.2.2.2.2.2.1; omega))
    · refine lv_aload_n hx hb dX4_many_14 rfl (lv_at hl 0 rfl) ?_
      refine va_get (D := (dC, dI)) (ci := 4) (v := .ref (Q 19)) (C := RX4) (T := TX4) (N := 33) hx hb hts in0 hown hK hP 0 (xm_W_0 _ _) rfl 21 (by decide) lk1 (fun _ h9 => h9) rfl dX4_many_15 ?_
      refine lv_iload hx hb dX4_many_18 (lv_at hl 4 rfl) ?_
      refine va_iald hx hb hK hP 19 0 (xm_W_19 _ _) rfl (vp_in_nI (by have := hV.1.2.2.2.2.2.1; omega) (by decide)) dX4_many_20 ?_
      refine lv_iload_n hx hb dX4_many_21 rfl (lv_at hl 1 rfl) ?_
      refine lv_icmp_ne (tgt := 49) hx hb dX4_many_22 (by decide) (fun c22 => ?_) (fun c22 => ?_)
      · have E9 : (if σ.2.2.1 14 (nI (j + 1)).toNatClampNeg = x ∧ ¬ σ.2.2.1 17 (nI (j + 1)).toNatClampNeg = 0 ∧ σ.2.2.1 16 (nI (j + 1)).toNatClampNeg = w then ma_r σ x w j + 1 else ma_r σ x w j) = ma_r σ x w j := if_neg (fun q => c22 q.1)
        refine lv_iinc (v := ((nI (j + 1)) + 1)) (lv' := [(4, .int ((nI (j + 1)) + 1)), (0, .ref (Q 0)), (1, .int x), (2, .int w), (3, .int (ma_r σ x w j))]) hx hb dX4_many_49 hl (k := 4) rfl rfl (by decide) rfl (fun ls hl => ?_)
        refine lv_goto (tgt := 5) hx hb dX4_many_52 (by decide) ?_
        exact ih _ ⟨lv_sub hl [1, 2, 3, 4, 0] (by rw [nI_succ (j + 1), ma_r, E9]; rfl), trivial⟩
      · refine lv_aload_n hx hb dX4_many_25 rfl (lv_at hl 0 rfl) ?_
        refine va_get (D := (dC, dI)) (ci := 4) (v := .ref (Q 22)) (C := RX4) (T := TX4) (N := 33) hx hb hts in0 hown hK hP 0 (xm_W_0 _ _) rfl 24 (by decide) lk2 (fun _ h9 => h9) rfl dX4_many_26 ?_
        refine lv_iload hx hb dX4_many_29 (lv_at hl 4 rfl) ?_
        refine va_zald hx hb hK hP 22 2 (xm_W_22 _ _) rfl (vp_in_nI (by have := hV.1.2.2.2.2.2.1; omega) (by decide)) dX4_many_31 ?_
        refine lv_if_eq (tgt := 49) hx hb dX4_many_32 (by decide) (fun c32 => ?_) (fun c32 => ?_)
        · have E9 : (if σ.2.2.1 14 (nI (j + 1)).toNatClampNeg = x ∧ ¬ σ.2.2.1 17 (nI (j + 1)).toNatClampNeg = 0 ∧ σ.2.2.1 16 (nI (j + 1)).toNatClampNeg = w then ma_r σ x w j + 1 else ma_r σ x w j) = ma_r σ x w j := if_neg (fun q => q.2.1 c32)
          refine lv_iinc (v := ((nI (j + 1)) + 1)) (lv' := [(4, .int ((nI (j + 1)) + 1)), (0, .ref (Q 0)), (1, .int x), (2, .int w), (3, .int (ma_r σ x w j))]) hx hb dX4_many_49 hl (k := 4) rfl rfl (by decide) rfl (fun ls hl => ?_)
          refine lv_goto (tgt := 5) hx hb dX4_many_52 (by decide) ?_
          exact ih _ ⟨lv_sub hl [1, 2, 3, 4, 0] (by rw [nI_succ (j + 1), ma_r, E9]; rfl), trivial⟩
        · refine lv_aload_n hx hb dX4_many_35 rfl (lv_at hl 0 rfl) ?_
          refine va_get (D := (dC, dI)) (ci := 4) (v := .ref (Q 21)) (C := RX4) (T := TX4) (N := 33) hx hb hts in0 hown hK hP 0 (xm_W_0 _ _) rfl 23 (by decide) lk3 (fun _ h9 => h9) rfl dX4_many_36 ?_
          refine lv_iload hx hb dX4_many_39 (lv_at hl 4 rfl) ?_
          refine va_iald hx hb hK hP 21 0 (xm_W_21 _ _) rfl (vp_in_nI (by have := hV.1.2.2.2.2.2.1; omega) (by decide)) dX4_many_41 ?_
          refine lv_iload_n hx hb dX4_many_42 rfl (lv_at hl 2 rfl) ?_
          refine lv_icmp_ne (tgt := 49) hx hb dX4_many_43 (by decide) (fun c43 => ?_) (fun c43 => ?_)
          · have E9 : (if σ.2.2.1 14 (nI (j + 1)).toNatClampNeg = x ∧ ¬ σ.2.2.1 17 (nI (j + 1)).toNatClampNeg = 0 ∧ σ.2.2.1 16 (nI (j + 1)).toNatClampNeg = w then ma_r σ x w j + 1 else ma_r σ x w j) = ma_r σ x w j := if_neg (fun q => c43 q.2.2)
            refine lv_iinc (v := ((nI (j + 1)) + 1)) (lv' := [(4, .int ((nI (j + 1)) + 1)), (0, .ref (Q 0)), (1, .int x), (2, .int w), (3, .int (ma_r σ x w j))]) hx hb dX4_many_49 hl (k := 4) rfl rfl (by decide) rfl (fun ls hl => ?_)
            refine lv_goto (tgt := 5) hx hb dX4_many_52 (by decide) ?_
            exact ih _ ⟨lv_sub hl [1, 2, 3, 4, 0] (by rw [nI_succ (j + 1), ma_r, E9]; rfl), trivial⟩
          · have E9 : (if σ.2.2.1 14 (nI (j + 1)).toNatClampNeg = x ∧ ¬ σ.2.2.1 17 (nI (j + 1)).toNatClampNeg = 0 ∧ σ.2.2.1 16 (nI (j + 1)).toNatClampNeg = w then ma_r σ x w j + 1 else ma_r σ x w j) = ma_r σ x w j + 1 := if_pos ⟨c22, c32, c43⟩
            refine lv_iinc (v := ((ma_r σ x w j) + 1)) (lv' := [(3, .int ((ma_r σ x w j) + 1)), (0, .ref (Q 0)), (1, .int x), (2, .int w), (4, .int (nI (j + 1)))]) hx hb dX4_many_46 hl (k := 3) rfl rfl (by decide) rfl (fun ls hl => ?_)
            refine lv_iinc (v := ((nI (j + 1)) + 1)) (lv' := [(4, .int ((nI (j + 1)) + 1)), (3, .int ((ma_r σ x w j) + 1)), (0, .ref (Q 0)), (1, .int x), (2, .int w)]) hx hb dX4_many_49 hl (k := 4) rfl rfl (by decide) rfl (fun ls hl => ?_)
            refine lv_goto (tgt := 5) hx hb dX4_many_52 (by decide) ?_
            exact ih _ ⟨lv_sub hl [2, 3, 4, 1, 0] (by rw [nI_succ (j + 1), ma_r, E9]; rfl), trivial⟩
  · obtain ⟨hl, hin⟩ := hin
    refine lv_iload hx hb dX4_many_5 (lv_at hl 4 rfl) ?_
    refine lv_aload_n hx hb dX4_many_7 rfl (lv_at hl 0 rfl) ?_
    refine va_get (D := (dC, dI)) (ci := 4) (v := .int (σ.1 2)) (C := RX4) (T := TX4) (N := 33) hx hb hts in0 hown hK hP 0 (xm_W_0 _ _) rfl 20 (by decide) lk0 (fun _ h9 => h9) rfl dX4_many_8 ?_
    refine lv_icmp_gt (tgt := 55) hx hb dX4_many_11 (by decide) (fun c11 => ?_) (fun c11 => ?_)
    · refine lv_iload_n hx hb dX4_many_55 rfl (lv_at hl 3 rfl) ?_
      exact W.iret (v := (ma_r σ x w n.2.2.1)) hx hb hr (fun t ht hW => ⟨(ma_r σ x w n.2.2.1), rfl, rfl, ht⟩) (fun q h => by cases h) dX4_many_56
    · exact absurd (by rw [hV.1.2.2.2.2.1]; exact nI_lt (by omega) (by have := hV.1.2.2.2.2.2.1; omega)) c11
set_option maxHeartbeats 4000000 in
set_option maxRecDepth 100000 in
/-- mr_lacks -/
theorem mr_lacks (l : Launch) (dC : Nat → ClassId) (dI : Nat → Nat → Nat) (cA : Nat → ClassId) (Q : Nat → Nat) (σ : xs_T) (n : nn_T) (L : List Nat) (f : Nat → va_E) (hV : rm_V σ n) (x : Int32) (hc : 1 ≤ x ∧ x ≤ σ.1 1) : Met l yX4_lacks wsX4_lacks ({ frames := 1, cells := 0, slots := 0, locals := 21 }) (va_Pc [.ref (Q 0), .int x] (ct_R (dC, dI) vwCl (ty_K cA) (xm_W Q cA σ ++ va_pl L f))) (vp_Si (fun r => r = la_r σ x 4)) 0 0 (fun _ => False) := by
  refine Met.ofW (cc := cX4_lacks) (maxL := 4) (ret := (some .int)) (by decide) rfl ?_
  intro p e s m args below meth c s₁ B hml hv
  obtain ⟨rfl, hP, hK⟩ := hv
  have hx := B.exec
  have hb := B.bytes
  have hr := B.returns
  have hts := atoms_spec (ws := wsX4_lacks) B.pre
  have hown : s.vm.findClass RX4 = some m.cls := findClass_of_methodNamed B.named
  have hlocks := B.notSynchronized
  have hl := lv_entry ([.ref (Q 0), .int x]) (n := 4) (Nat.le_of_ble_eq_true rfl)
  rw [lg_entry_eq]
  generalize (lg_sl ([.ref (Q 0), .int x]) ++ List.replicate (4 - (lg_sl ([.ref (Q 0), .int x])).length) Slot.unset).toArray = ls at hl ⊢
  have hl : lv_has ls 4 [(0, .ref (Q 0)), (1, .int x)] := hl
  have lk0 := hts (.fieldLink RX4 48 "ClaimRowsModel" "kindOf" "[I") (List.mem_cons_of_mem _ wd_290)
  have lk1 := hts (.fieldLink RX4 54 "ClaimRowsModel" "proofs" "[Z") (List.mem_cons_of_mem _ wd_292)
  have in0 : ∀ w ∈ u_ws RX4 TX4 33, w ∈ wsX4_lacks := fun w h => List.mem_cons_of_mem _ (wu_X4 w h)
  have hn0 : (σ.1 0).toNatClampNeg = n.1 := by rw [hV.1.1]; exact nI_clamp (by have := hV.1.2.1; omega)
  have hn1 : (σ.1 1).toNatClampNeg = n.2.1 := by rw [hV.1.2.2.1]; exact nI_clamp (by have := hV.1.2.2.2.1; omega)
  have hn2 : (σ.1 2).toNatClampNeg = n.2.2.1 := by rw [hV.1.2.2.2.2.1]; exact nI_clamp (by have := hV.1.2.2.2.2.2.1; omega)
  refine lv_iconst (v := 0) hx hb dX4_lacks_0 (by decide) ?_
  refine lv_istore_n (lv' := [(2, .int 0), (0, .ref (Q 0)), (1, .int x)]) hx hb dX4_lacks_1 rfl hl (by decide) rfl (fun ls hl => ?_)
  refine lv_iconst (v := 0) hx hb dX4_lacks_2 (by decide) ?_
  refine lv_istore_n (lv' := [(3, .int 0), (2, .int 0), (0, .ref (Q 0)), (1, .int x)]) hx hb dX4_lacks_3 rfl hl (by decide) rfl (fun ls hl => ?_)
  refine wl_R (Inv := fun j ls => lv_has ls 4 [(0, .ref (Q 0)), (1, .int x), (2, .int (la_r σ x j)), (3, .int (nI j))] ∧ True) (N := 4) (fun j ls hj hin ih => ?_) (fun ls hin => ?_) 0 ls (Nat.zero_le _) ⟨lv_sub hl [2, 3, 1, 0] rfl, trivial⟩
  · obtain ⟨hl, hin⟩ := hin
    refine lv_iload_n hx hb dX4_lacks_4 rfl (lv_at hl 3 rfl) ?_
    refine lv_iconst (v := 4) hx hb dX4_lacks_5 (by decide) ?_
    refine lv_icmp_ge (tgt := 46) hx hb dX4_lacks_6 (by decide) (fun c6 => ?_) (fun c6 => ?_)
    · exact absurd c6 (nI_ge (b := 4) hj (by decide))
    · refine lv_aload_n hx hb dX4_lacks_9 rfl (lv_at hl 0 rfl) ?_
      refine va_get (D := (dC, dI)) (ci := 4) (v := .ref (Q 13)) (C := RX4) (T := TX4) (N := 33) hx hb hts in0 hown hK hP 0 (xm_W_0 _ _) rfl 14 (by decide) lk0 (fun _ h9 => h9) rfl dX4_lacks_10 ?_
      refine lv_iload_n hx hb dX4_lacks_13 rfl (lv_at hl 1 rfl) ?_
      refine va_iald hx hb hK hP 13 0 (xm_W_13 _ _) rfl (rm_c hV hc) dX4_lacks_14 ?_
      refine lv_iload_n hx hb dX4_lacks_15 rfl (lv_at hl 3 rfl) ?_
      refine vp_callSi (va_Run.run (va_runS (As := [.int ((σ.2.2.1 9) (x).toNatClampNeg), .int (nI j)]) (rest := []) ⟨hx, hb, hml, hown, hts⟩ (mr_needs l ((σ.2.2.1 9) (x).toNatClampNeg) (nI j)) (va_cwS 2 hts (al_gS wd_357 wd_358 wd_2 wd_359) rfl rfl rfl (by decide +kernel) ⟨Nat.le_of_ble_eq_true rfl, Nat.le_of_ble_eq_true rfl⟩) ⟨ct_bl0, ct_at0⟩ rfl rfl hl.1 rfl (lv_room (Nat.le_of_ble_eq_true rfl)) dX4_lacks_16 ⟨Nat.le_of_ble_eq_true rfl, Nat.le_of_ble_eq_true rfl⟩)) (fun r16 hr16 => ?_)
      subst hr16
      refine lv_if_eq (tgt := 40) hx hb dX4_lacks_19 (by decide) (fun c19 => ?_) (fun c19 => ?_)
      · have c19 := of_decide_eq_false (bb_0.mp c19)
        have E9 : (if (nI j = 0 ∨ (σ.2.2.1 9 x.toNatClampNeg = 1 ∧ nI j = 1) ∨ (σ.2.2.1 9 x.toNatClampNeg = 2 ∧ nI j = 2) ∨ (σ.2.2.1 9 x.toNatClampNeg = 3 ∧ 2 ≤ nI j)) ∧ σ.2.2.1 11 (4 * x - 4 + nI j).toNatClampNeg = 0 then la_r σ x j + 1 else la_r σ x j) = la_r σ x j := if_neg (fun q => c19 q.1)
        refine lv_iinc (v := ((nI j) + 1)) (lv' := [(3, .int ((nI j) + 1)), (0, .ref (Q 0)), (1, .int x), (2, .int (la_r σ x j))]) hx hb dX4_lacks_40 hl (k := 3) rfl rfl (by decide) rfl (fun ls hl => ?_)
        refine lv_goto (tgt := 4) hx hb dX4_lacks_43 (by decide) ?_
        exact ih _ ⟨lv_sub hl [1, 2, 3, 0] (by rw [nI_succ j, la_r, E9]; rfl), trivial⟩
      · have c19 := of_decide_eq_true (bb_n.mp c19)
        refine lv_aload_n hx hb dX4_lacks_22 rfl (lv_at hl 0 rfl) ?_
        refine va_get (D := (dC, dI)) (ci := 4) (v := .ref (Q 15)) (C := RX4) (T := TX4) (N := 33) hx hb hts in0 hown hK hP 0 (xm_W_0 _ _) rfl 16 (by decide) lk1 (fun _ h9 => h9) rfl dX4_lacks_23 ?_
        refine lv_iconst (v := 4) hx hb dX4_lacks_26 (by decide) ?_
        refine lv_iload_n hx hb dX4_lacks_27 rfl (lv_at hl 1 rfl) ?_
        refine lv_imul hx hb dX4_lacks_28 ?_
        refine lv_iconst (v := 4) hx hb dX4_lacks_29 (by decide) ?_
        refine lv_isub hx hb dX4_lacks_30 ?_
        refine lv_iload_n hx hb dX4_lacks_31 rfl (lv_at hl 3 rfl) ?_
        refine lv_iadd hx hb dX4_lacks_32 ?_
        refine va_zald hx hb hK hP 15 2 (xm_W_15 _ _) rfl (rm_q hV hc hj) dX4_lacks_33 ?_
        refine lv_if_ne (tgt := 40) hx hb dX4_lacks_34 (by decide) (fun c34 => ?_) (fun c34 => ?_)
        · have E9 : (if (nI j = 0 ∨ (σ.2.2.1 9 x.toNatClampNeg = 1 ∧ nI j = 1) ∨ (σ.2.2.1 9 x.toNatClampNeg = 2 ∧ nI j = 2) ∨ (σ.2.2.1 9 x.toNatClampNeg = 3 ∧ 2 ≤ nI j)) ∧ σ.2.2.1 11 (4 * x - 4 + nI j).toNatClampNeg = 0 then la_r σ x j + 1 else la_r σ x j) = la_r σ x j := if_neg (fun q => c34 q.2)
          refine lv_iinc (v := ((nI j) + 1)) (lv' := [(3, .int ((nI j) + 1)), (0, .ref (Q 0)), (1, .int x), (2, .int (la_r σ x j))]) hx hb dX4_lacks_40 hl (k := 3) rfl rfl (by decide) rfl (fun ls hl => ?_)
          refine lv_goto (tgt := 4) hx hb dX4_lacks_43 (by decide) ?_
          exact ih _ ⟨lv_sub hl [1, 2, 3, 0] (by rw [nI_succ j, la_r, E9]; rfl), trivial⟩
        · have E9 : (if (nI j = 0 ∨ (σ.2.2.1 9 x.toNatClampNeg = 1 ∧ nI j = 1) ∨ (σ.2.2.1 9 x.toNatClampNeg = 2 ∧ nI j = 2) ∨ (σ.2.2.1 9 x.toNatClampNeg = 3 ∧ 2 ≤ nI j)) ∧ σ.2.2.1 11 (4 * x - 4 + nI j).toNatClampNeg = 0 then la_r σ x j + 1 else la_r σ x j) = la_r σ x j + 1 := if_pos ⟨c19, c34⟩
          refine lv_iinc (v := ((la_r σ x j) + 1)) (lv' := [(2, .int ((la_r σ x j) + 1)), (0, .ref (Q 0)), (1, .int x), (3, .int (nI j))]) hx hb dX4_lacks_37 hl (k := 2) rfl rfl (by decide) rfl (fun ls hl => ?_)
          refine lv_iinc (v := ((nI j) + 1)) (lv' := [(3, .int ((nI j) + 1)), (2, .int ((la_r σ x j) + 1)), (0, .ref (Q 0)), (1, .int x)]) hx hb dX4_lacks_40 hl (k := 3) rfl rfl (by decide) rfl (fun ls hl => ?_)
          refine lv_goto (tgt := 4) hx hb dX4_lacks_43 (by decide) ?_
          exact ih _ ⟨lv_sub hl [2, 3, 1, 0] (by rw [nI_succ j, la_r, E9]; rfl), trivial⟩
  · obtain ⟨hl, hin⟩ := hin
    refine lv_iload_n hx hb dX4_lacks_4 rfl (lv_at hl 3 rfl) ?_
    refine lv_iconst (v := 4) hx hb dX4_lacks_5 (by decide) ?_
    refine lv_icmp_ge (tgt := 46) hx hb dX4_lacks_6 (by decide) (fun c6 => ?_) (fun c6 => ?_)
    · refine lv_iload_n hx hb dX4_lacks_46 rfl (lv_at hl 2 rfl) ?_
      exact W.iret (v := (la_r σ x 4)) hx hb hr (fun t ht hW => ⟨(la_r σ x 4), rfl, rfl, ht⟩) (fun q h => by cases h) dX4_lacks_47
    · exact absurd (nI_le (a := 4) (b := 4) (Nat.le_refl _) (by decide)) c6
set_option maxHeartbeats 4000000 in
set_option maxRecDepth 100000 in
/-- mr_before -/
theorem mr_before (l : Launch) (dC : Nat → ClassId) (dI : Nat → Nat → Nat) (cA : Nat → ClassId) (Q : Nat → Nat) (σ : xs_T) (n : nn_T) (L : List Nat) (f : Nat → va_E) (hV : rm_V σ n) (x : Int32) (hc : 1 ≤ x ∧ x ≤ σ.1 1) : Met l yX4_before wsX4_before ({ frames := 0, cells := 0, slots := 0, locals := 0 }) (va_Pc [.ref (Q 0), .int x] (ct_R (dC, dI) vwCl (ty_K cA) (xm_W Q cA σ ++ va_pl L f))) (vp_Si (fun r => r = be_r σ x (x - 1).toNatClampNeg)) 0 0 (fun _ => False) := by
  refine Met.ofW (cc := cX4_before) (maxL := 4) (ret := (some .int)) (by decide) rfl ?_
  intro p e s m args below meth c s₁ B hml hv
  obtain ⟨rfl, hP, hK⟩ := hv
  have hx := B.exec
  have hb := B.bytes
  have hr := B.returns
  have hts := atoms_spec (ws := wsX4_before) B.pre
  have hown : s.vm.findClass RX4 = some m.cls := findClass_of_methodNamed B.named
  have hlocks := B.notSynchronized
  have hl := lv_entry ([.ref (Q 0), .int x]) (n := 4) (Nat.le_of_ble_eq_true rfl)
  rw [lg_entry_eq]
  generalize (lg_sl ([.ref (Q 0), .int x]) ++ List.replicate (4 - (lg_sl ([.ref (Q 0), .int x])).length) Slot.unset).toArray = ls at hl ⊢
  have hl : lv_has ls 4 [(0, .ref (Q 0)), (1, .int x)] := hl
  have lk0 := hts (.fieldLink RX4 23 "ClaimRowsModel" "sender" "[I") (List.mem_cons_of_mem _ wd_281)
  have lk1 := hts (.fieldLink RX4 45 "ClaimRowsModel" "itemOf" "[I") (List.mem_cons_of_mem _ wd_289)
  have in0 : ∀ w ∈ u_ws RX4 TX4 33, w ∈ wsX4_before := fun w h => List.mem_cons_of_mem _ (wu_X4 w h)
  have hn0 : (σ.1 0).toNatClampNeg = n.1 := by rw [hV.1.1]; exact nI_clamp (by have := hV.1.2.1; omega)
  have hn1 : (σ.1 1).toNatClampNeg = n.2.1 := by rw [hV.1.2.2.1]; exact nI_clamp (by have := hV.1.2.2.2.1; omega)
  have hn2 : (σ.1 2).toNatClampNeg = n.2.2.1 := by rw [hV.1.2.2.2.2.1]; exact nI_clamp (by have := hV.1.2.2.2.2.2.1; omega)
  obtain ⟨a9, ha9, hb8, ex9⟩ := rm_x hV hc
  have hx1 : (x - 1).toNatClampNeg = a9 - 1 := by rw [ex9, show a9 = (a9 - 1) + 1 by omega, nI_pred, nI_clamp (by have := hV.1.2.2.2.1; omega)]; omega
  rw [hx1]
  refine lv_iconst (v := 0) hx hb dX4_before_0 (by decide) ?_
  refine lv_istore_n (lv' := [(2, .int 0), (0, .ref (Q 0)), (1, .int x)]) hx hb dX4_before_1 rfl hl (by decide) rfl (fun ls hl => ?_)
  refine lv_iconst (v := 1) hx hb dX4_before_2 (by decide) ?_
  refine lv_istore_n (lv' := [(3, .int 1), (2, .int 0), (0, .ref (Q 0)), (1, .int x)]) hx hb dX4_before_3 rfl hl (by decide) rfl (fun ls hl => ?_)
  refine wl_R (Inv := fun j ls => lv_has ls 4 [(0, .ref (Q 0)), (1, .int x), (2, .int (be_r σ x j)), (3, .int (nI (j + 1)))] ∧ True) (N := (a9 - 1)) (fun j ls hj hin ih => ?_) (fun ls hin => ?_) 0 ls (Nat.zero_le _) ⟨lv_sub hl [2, 3, 1, 0] rfl, trivial⟩
  · obtain ⟨hl, hin⟩ := hin
    refine lv_iload_n hx hb dX4_before_4 rfl (lv_at hl 3 rfl) ?_
    refine lv_iload_n hx hb dX4_before_5 rfl (lv_at hl 1 rfl) ?_
    refine lv_icmp_ge (tgt := 43) hx hb dX4_before_6 (by decide) (fun c6 => ?_) (fun c6 => ?_)
    · exact absurd c6 (by rw [ex9]; exact nI_ge (by omega) (by have := hV.1.2.2.2.1; omega))
    · refine lv_aload_n hx hb dX4_before_9 rfl (lv_at hl 0 rfl) ?_
      refine va_get (D := (dC, dI)) (ci := 4) (v := .ref (Q 5)) (C := RX4) (T := TX4) (N := 33) hx hb hts in0 hown hK hP 0 (xm_W_0 _ _) rfl 5 (by decide) lk0 (fun _ h9 => h9) rfl dX4_before_10 ?_
      refine lv_aload_n hx hb dX4_before_13 rfl (lv_at hl 0 rfl) ?_
      refine va_get (D := (dC, dI)) (ci := 4) (v := .ref (Q 12)) (C := RX4) (T := TX4) (N := 33) hx hb hts in0 hown hK hP 0 (xm_W_0 _ _) rfl 13 (by decide) lk1 (fun _ h9 => h9) rfl dX4_before_14 ?_
      refine lv_iload_n hx hb dX4_before_17 rfl (lv_at hl 3 rfl) ?_
      refine va_iald hx hb hK hP 12 0 (xm_W_12 _ _) rfl (vp_in_nI (by have := hV.1.2.2.2.1; omega) (by decide)) dX4_before_18 ?_
      refine va_iald hx hb hK hP 5 0 (xm_W_5 _ _) rfl (rm_io hV (rm_j hV (by omega))) dX4_before_19 ?_
      refine lv_aload_n hx hb dX4_before_20 rfl (lv_at hl 0 rfl) ?_
      refine va_get (D := (dC, dI)) (ci := 4) (v := .ref (Q 5)) (C := RX4) (T := TX4) (N := 33) hx hb hts in0 hown hK hP 0 (xm_W_0 _ _) rfl 5 (by decide) lk0 (fun _ h9 => h9) rfl dX4_before_21 ?_
      refine lv_aload_n hx hb dX4_before_24 rfl (lv_at hl 0 rfl) ?_
      refine va_get (D := (dC, dI)) (ci := 4) (v := .ref (Q 12)) (C := RX4) (T := TX4) (N := 33) hx hb hts in0 hown hK hP 0 (xm_W_0 _ _) rfl 13 (by decide) lk1 (fun _ h9 => h9) rfl dX4_before_25 ?_
      refine lv_iload_n hx hb dX4_before_28 rfl (lv_at hl 1 rfl) ?_
      refine va_iald hx hb hK hP 12 0 (xm_W_12 _ _) rfl (rm_c hV hc) dX4_before_29 ?_
      refine va_iald hx hb hK hP 5 0 (xm_W_5 _ _) rfl (rm_io hV hc) dX4_before_30 ?_
      refine lv_icmp_ne (tgt := 37) hx hb dX4_before_31 (by decide) (fun c31 => ?_) (fun c31 => ?_)
      · have E9 : (if σ.2.2.1 2 (σ.2.2.1 8 (nI (j + 1)).toNatClampNeg).toNatClampNeg = σ.2.2.1 2 (σ.2.2.1 8 x.toNatClampNeg).toNatClampNeg then be_r σ x j + 1 else be_r σ x j) = be_r σ x j := if_neg c31
        refine lv_iinc (v := ((nI (j + 1)) + 1)) (lv' := [(3, .int ((nI (j + 1)) + 1)), (0, .ref (Q 0)), (1, .int x), (2, .int (be_r σ x j))]) hx hb dX4_before_37 hl (k := 3) rfl rfl (by decide) rfl (fun ls hl => ?_)
        refine lv_goto (tgt := 4) hx hb dX4_before_40 (by decide) ?_
        exact ih _ ⟨lv_sub hl [1, 2, 3, 0] (by rw [nI_succ (j + 1), be_r, E9]; rfl), trivial⟩
      · have E9 : (if σ.2.2.1 2 (σ.2.2.1 8 (nI (j + 1)).toNatClampNeg).toNatClampNeg = σ.2.2.1 2 (σ.2.2.1 8 x.toNatClampNeg).toNatClampNeg then be_r σ x j + 1 else be_r σ x j) = be_r σ x j + 1 := if_pos c31
        refine lv_iinc (v := ((be_r σ x j) + 1)) (lv' := [(2, .int ((be_r σ x j) + 1)), (0, .ref (Q 0)), (1, .int x), (3, .int (nI (j + 1)))]) hx hb dX4_before_34 hl (k := 2) rfl rfl (by decide) rfl (fun ls hl => ?_)
        refine lv_iinc (v := ((nI (j + 1)) + 1)) (lv' := [(3, .int ((nI (j + 1)) + 1)), (2, .int ((be_r σ x j) + 1)), (0, .ref (Q 0)), (1, .int x)]) hx hb dX4_before_37 hl (k := 3) rfl rfl (by decide) rfl (fun ls hl => ?_)
        refine lv_goto (tgt := 4) hx hb dX4_before_40 (by decide) ?_
        exact ih _ ⟨lv_sub hl [2, 3, 1, 0] (by rw [nI_succ (j + 1), be_r, E9]; rfl), trivial⟩
  · obtain ⟨hl, hin⟩ := hin
    refine lv_iload_n hx hb dX4_before_4 rfl (lv_at hl 3 rfl) ?_
    refine lv_iload_n hx hb dX4_before_5 rfl (lv_at hl 1 rfl) ?_
    refine lv_icmp_ge (tgt := 43) hx hb dX4_before_6 (by decide) (fun c6 => ?_) (fun c6 => ?_)
    · refine lv_iload_n hx hb dX4_before_43 rfl (lv_at hl 2 rfl) ?_
      exact W.iret (v := (be_r σ x (a9 - 1))) hx hb hr (fun t ht hW => ⟨(be_r σ x (a9 - 1)), rfl, rfl, ht⟩) (fun q h => by cases h) dX4_before_44
    · exact absurd (by rw [ex9, show a9 - 1 + 1 = a9 by omega]; exact nI_le (Nat.le_refl _) (by have := hV.1.2.2.2.1; omega)) c6
set_option maxHeartbeats 4000000 in
set_option maxRecDepth 100000 in
/-- mr_sumNow -/
theorem mr_sumNow (l : Launch) (dC : Nat → ClassId) (dI : Nat → Nat → Nat) (cA : Nat → ClassId) (Q : Nat → Nat) (σ : xs_T) (n : nn_T) (L : List Nat) (f : Nat → va_E) (hV : rm_V σ n) (x : Int32) (hc : 1 ≤ x ∧ x ≤ σ.1 1) : Met l yX4_sumNow wsX4_sumNow ({ frames := 0, cells := 0, slots := 0, locals := 0 }) (va_Pc [.ref (Q 0), .int x] (ct_R (dC, dI) vwCl (ty_K cA) (xm_W Q cA σ ++ va_pl L f))) (vp_Sl (fun r => r = sm_n σ x)) 0 0 (fun _ => False) := by
  refine Met.ofW (cc := cX4_sumNow) (maxL := 8) (ret := (some .long)) (by decide) rfl ?_
  intro p e s m args below meth c s₁ B hml hv
  obtain ⟨rfl, hP, hK⟩ := hv
  have hx := B.exec
  have hb := B.bytes
  have hr := B.returns
  have hts := atoms_spec (ws := wsX4_sumNow) B.pre
  have hown : s.vm.findClass RX4 = some m.cls := findClass_of_methodNamed B.named
  have hlocks := B.notSynchronized
  have hl := lv_entry ([.ref (Q 0), .int x]) (n := 8) (Nat.le_of_ble_eq_true rfl)
  rw [lg_entry_eq]
  generalize (lg_sl ([.ref (Q 0), .int x]) ++ List.replicate (8 - (lg_sl ([.ref (Q 0), .int x])).length) Slot.unset).toArray = ls at hl ⊢
  have hl : lv_has ls 8 [(0, .ref (Q 0)), (1, .int x)] := hl
  have lk0 := hts (.fieldLink RX4 45 "ClaimRowsModel" "itemOf" "[I") (List.mem_cons_of_mem _ wd_289)
  have lk1 := hts (.fieldLink RX4 48 "ClaimRowsModel" "kindOf" "[I") (List.mem_cons_of_mem _ wd_290)
  have lk2 := hts (.fieldLink RX4 17 "ClaimRowsModel" "insured" "[J") (List.mem_cons_of_mem _ wd_279)
  have lk3 := hts (.fieldLink RX4 39 "ClaimRowsModel" "most" "[J") (List.mem_cons_of_mem _ wd_286)
  have lk4 := hts (.fieldLink RX4 7 "ClaimRowsModel" "service" "[I") (List.mem_cons_of_mem _ wd_277)
  have lk5 := hts (.fieldLink RX4 13 "ClaimRowsModel" "value" "[J") (List.mem_cons_of_mem _ wd_278)
  have lk6 := hts (.constantLong RX4 117 2) (List.mem_cons_of_mem _ wd_339)
  have lk7 := hts (.constantLong RX4 148 10) (List.mem_cons_of_mem _ wd_386)
  have in0 : ∀ w ∈ u_ws RX4 TX4 33, w ∈ wsX4_sumNow := fun w h => List.mem_cons_of_mem _ (wu_X4 w h)
  have hn0 : (σ.1 0).toNatClampNeg = n.1 := by rw [hV.1.1]; exact nI_clamp (by have := hV.1.2.1; omega)
  have hn1 : (σ.1 1).toNatClampNeg = n.2.1 := by rw [hV.1.2.2.1]; exact nI_clamp (by have := hV.1.2.2.2.1; omega)
  have hn2 : (σ.1 2).toNatClampNeg = n.2.2.1 := by rw [hV.1.2.2.2.2.1]; exact nI_clamp (by have := hV.1.2.2.2.2.2.1; omega)
  refine lv_aload_n hx hb dX4_sumNow_0 rfl (lv_at hl 0 rfl) ?_
  refine va_get (D := (dC, dI)) (ci := 4) (v := .ref (Q 12)) (C := RX4) (T := TX4) (N := 33) hx hb hts in0 hown hK hP 0 (xm_W_0 _ _) rfl 13 (by decide) lk0 (fun _ h9 => h9) rfl dX4_sumNow_1 ?_
  refine lv_iload_n hx hb dX4_sumNow_4 rfl (lv_at hl 1 rfl) ?_
  refine va_iald hx hb hK hP 12 0 (xm_W_12 _ _) rfl (rm_c hV hc) dX4_sumNow_5 ?_
  refine lv_istore_n (lv' := [(2, .int ((σ.2.2.1 8) (x).toNatClampNeg)), (0, .ref (Q 0)), (1, .int x)]) hx hb dX4_sumNow_6 rfl hl (by decide) rfl (fun ls hl => ?_)
  refine lv_aload_n hx hb dX4_sumNow_7 rfl (lv_at hl 1 rfl) ?_
  refine va_get (D := (dC, dI)) (ci := 4) (v := .ref (Q 13)) (C := RX4) (T := TX4) (N := 33) hx hb hts in0 hown hK hP 0 (xm_W_0 _ _) rfl 14 (by decide) lk1 (fun _ h9 => h9) rfl dX4_sumNow_8 ?_
  refine lv_iload_n hx hb dX4_sumNow_11 rfl (lv_at hl 2 rfl) ?_
  refine va_iald hx hb hK hP 13 0 (xm_W_13 _ _) rfl (rm_c hV hc) dX4_sumNow_12 ?_
  refine lv_istore_n (lv' := [(3, .int ((σ.2.2.1 9) (x).toNatClampNeg)), (2, .int ((σ.2.2.1 8) (x).toNatClampNeg)), (0, .ref (Q 0)), (1, .int x)]) hx hb dX4_sumNow_13 rfl hl (by decide) rfl (fun ls hl => ?_)
  refine lv_aload_n hx hb dX4_sumNow_14 rfl (lv_at hl 2 rfl) ?_
  refine va_get (D := (dC, dI)) (ci := 4) (v := .ref (Q 3)) (C := RX4) (T := TX4) (N := 33) hx hb hts in0 hown hK hP 0 (xm_W_0 _ _) rfl 3 (by decide) lk2 (fun _ h9 => h9) rfl dX4_sumNow_15 ?_
  refine lv_iload_n hx hb dX4_sumNow_18 rfl (lv_at hl 1 rfl) ?_
  refine va_lald hx hb hK hP 3 1 (xm_W_3 _ _) rfl (rm_io hV hc) dX4_sumNow_19 ?_
  refine lv_lconst (v := 0) hx hb dX4_sumNow_20 (by decide) ?_
  refine W.lcmp hx hb dX4_sumNow_21 ?_
  refine lv_if_le (tgt := 34) hx hb dX4_sumNow_22 (by decide) (fun c22 => ?_) (fun c22 => ?_)
  · refine lv_aload_n hx hb dX4_sumNow_34 rfl (lv_at hl 2 rfl) ?_
    refine va_get (D := (dC, dI)) (ci := 4) (v := .ref (Q 10)) (C := RX4) (T := TX4) (N := 33) hx hb hts in0 hown hK hP 0 (xm_W_0 _ _) rfl 10 (by decide) lk3 (fun _ h9 => h9) rfl dX4_sumNow_35 ?_
    refine lv_iconst (v := 4) hx hb dX4_sumNow_38 (by decide) ?_
    refine lv_aload_n hx hb dX4_sumNow_39 rfl (lv_at hl 2 rfl) ?_
    refine va_get (D := (dC, dI)) (ci := 4) (v := .ref (Q 1)) (C := RX4) (T := TX4) (N := 33) hx hb hts in0 hown hK hP 0 (xm_W_0 _ _) rfl 1 (by decide) lk4 (fun _ h9 => h9) rfl dX4_sumNow_40 ?_
    refine lv_iload_n hx hb dX4_sumNow_43 rfl (lv_at hl 1 rfl) ?_
    refine va_iald hx hb hK hP 1 0 (xm_W_1 _ _) rfl (rm_io hV hc) dX4_sumNow_44 ?_
    refine lv_imul hx hb dX4_sumNow_45 ?_
    refine lv_iload_n hx hb dX4_sumNow_46 rfl (lv_at hl 0 rfl) ?_
    refine lv_iadd hx hb dX4_sumNow_47 ?_
    refine va_lald hx hb hK hP 10 1 (xm_W_10 _ _) rfl (rm_k hV hc) dX4_sumNow_48 ?_
    refine lv_lstore (lv' := [(4, .long ((σ.2.2.2.1 2) (((4 * ((σ.2.2.1 0) (((σ.2.2.1 8) (x).toNatClampNeg)).toNatClampNeg)) + ((σ.2.2.1 9) (x).toNatClampNeg))).toNatClampNeg)), (3, .int ((σ.2.2.1 9) (x).toNatClampNeg)), (2, .int ((σ.2.2.1 8) (x).toNatClampNeg)), (0, .ref (Q 0)), (1, .int x)]) hx hb dX4_sumNow_49 hl (by decide) rfl (fun ls hl => ?_)
    refine lv_aload_n hx hb dX4_sumNow_51 rfl (lv_at hl 3 rfl) ?_
    refine va_get (D := (dC, dI)) (ci := 4) (v := .ref (Q 2)) (C := RX4) (T := TX4) (N := 33) hx hb hts in0 hown hK hP 0 (xm_W_0 _ _) rfl 2 (by decide) lk5 (fun _ h9 => h9) rfl dX4_sumNow_52 ?_
    refine lv_iload_n hx hb dX4_sumNow_55 rfl (lv_at hl 2 rfl) ?_
    refine va_lald hx hb hK hP 2 1 (xm_W_2 _ _) rfl (rm_io hV hc) dX4_sumNow_56 ?_
    refine lv_lload hx hb dX4_sumNow_57 (lv_at hl 0 rfl) ?_
    refine W.lcmp hx hb dX4_sumNow_59 ?_
    refine lv_if_ge (tgt := 72) hx hb dX4_sumNow_60 (by decide) (fun c60 => ?_) (fun c60 => ?_)
    · refine lv_lload hx hb dX4_sumNow_72 (lv_at hl 0 rfl) ?_
      refine lv_lstore (lv' := [(6, .long ((σ.2.2.2.1 2) (((4 * ((σ.2.2.1 0) (((σ.2.2.1 8) (x).toNatClampNeg)).toNatClampNeg)) + ((σ.2.2.1 9) (x).toNatClampNeg))).toNatClampNeg)), (4, .long ((σ.2.2.2.1 2) (((4 * ((σ.2.2.1 0) (((σ.2.2.1 8) (x).toNatClampNeg)).toNatClampNeg)) + ((σ.2.2.1 9) (x).toNatClampNeg))).toNatClampNeg)), (3, .int ((σ.2.2.1 9) (x).toNatClampNeg)), (2, .int ((σ.2.2.1 8) (x).toNatClampNeg)), (0, .ref (Q 0)), (1, .int x)]) hx hb dX4_sumNow_74 hl (by decide) rfl (fun ls hl => ?_)
      refine lv_iload_n hx hb dX4_sumNow_76 rfl (lv_at hl 2 rfl) ?_
      refine lv_iconst (v := 1) hx hb dX4_sumNow_77 (by decide) ?_
      refine lv_icmp_ne (tgt := 90) hx hb dX4_sumNow_78 (by decide) (fun c78 => ?_) (fun c78 => ?_)
      · refine lv_iload_n hx hb dX4_sumNow_90 rfl (lv_at hl 2 rfl) ?_
        refine lv_iconst (v := 2) hx hb dX4_sumNow_91 (by decide) ?_
        refine lv_icmp_ne (tgt := 104) hx hb dX4_sumNow_92 (by decide) (fun c92 => ?_) (fun c92 => ?_)
        · refine lv_lload hx hb dX4_sumNow_104 (lv_at hl 0 rfl) ?_
          exact W.lret (v := ((σ.2.2.2.1 2) (((4 * ((σ.2.2.1 0) (((σ.2.2.1 8) (x).toNatClampNeg)).toNatClampNeg)) + ((σ.2.2.1 9) (x).toNatClampNeg))).toNatClampNeg)) hx hb hr (fun t ht hW => ⟨((σ.2.2.2.1 2) (((4 * ((σ.2.2.1 0) (((σ.2.2.1 8) (x).toNatClampNeg)).toNatClampNeg)) + ((σ.2.2.1 9) (x).toNatClampNeg))).toNatClampNeg), rfl, (by unfold sm_n; dsimp only; rw [if_neg (fun q => absurd (lc_gt.mpr q) (Int32.not_lt.mpr c22)), if_neg (Int64.not_lt.mpr (lc_ge.mp c60)), if_neg c78, if_neg c92]), ht⟩) (fun q h => by cases h) dX4_sumNow_106
        · refine lv_lload hx hb dX4_sumNow_95 (lv_at hl 0 rfl) ?_
          refine lv_ldc2 hx hb hown lk6 dX4_sumNow_97 ?_
          refine lv_ldiv hx hb dX4_sumNow_100 (by decide) ?_
          refine lv_goto (tgt := 106) hx hb dX4_sumNow_101 (by decide) ?_
          exact W.lret (v := (((σ.2.2.2.1 2) (((4 * ((σ.2.2.1 0) (((σ.2.2.1 8) (x).toNatClampNeg)).toNatClampNeg)) + ((σ.2.2.1 9) (x).toNatClampNeg))).toNatClampNeg) / 2)) hx hb hr (fun t ht hW => ⟨(((σ.2.2.2.1 2) (((4 * ((σ.2.2.1 0) (((σ.2.2.1 8) (x).toNatClampNeg)).toNatClampNeg)) + ((σ.2.2.1 9) (x).toNatClampNeg))).toNatClampNeg) / 2), rfl, (by unfold sm_n; dsimp only; rw [if_neg (fun q => absurd (lc_gt.mpr q) (Int32.not_lt.mpr c22)), if_neg (Int64.not_lt.mpr (lc_ge.mp c60)), if_neg c78, if_pos c92]), ht⟩) (fun q h => by cases h) dX4_sumNow_106
      · refine lv_lload hx hb dX4_sumNow_81 (lv_at hl 0 rfl) ?_
        refine lv_ldc2 hx hb hown lk7 dX4_sumNow_83 ?_
        refine lv_ldiv hx hb dX4_sumNow_86 (by decide) ?_
        refine lv_goto (tgt := 106) hx hb dX4_sumNow_87 (by decide) ?_
        exact W.lret (v := (((σ.2.2.2.1 2) (((4 * ((σ.2.2.1 0) (((σ.2.2.1 8) (x).toNatClampNeg)).toNatClampNeg)) + ((σ.2.2.1 9) (x).toNatClampNeg))).toNatClampNeg) / 10)) hx hb hr (fun t ht hW => ⟨(((σ.2.2.2.1 2) (((4 * ((σ.2.2.1 0) (((σ.2.2.1 8) (x).toNatClampNeg)).toNatClampNeg)) + ((σ.2.2.1 9) (x).toNatClampNeg))).toNatClampNeg) / 10), rfl, (by unfold sm_n; dsimp only; rw [if_neg (fun q => absurd (lc_gt.mpr q) (Int32.not_lt.mpr c22)), if_neg (Int64.not_lt.mpr (lc_ge.mp c60)), if_pos c78]), ht⟩) (fun q h => by cases h) dX4_sumNow_106
    · refine lv_aload_n hx hb dX4_sumNow_63 rfl (lv_at hl 3 rfl) ?_
      refine va_get (D := (dC, dI)) (ci := 4) (v := .ref (Q 2)) (C := RX4) (T := TX4) (N := 33) hx hb hts in0 hown hK hP 0 (xm_W_0 _ _) rfl 2 (by decide) lk5 (fun _ h9 => h9) rfl dX4_sumNow_64 ?_
      refine lv_iload_n hx hb dX4_sumNow_67 rfl (lv_at hl 2 rfl) ?_
      refine va_lald hx hb hK hP 2 1 (xm_W_2 _ _) rfl (rm_io hV hc) dX4_sumNow_68 ?_
      refine lv_goto (tgt := 74) hx hb dX4_sumNow_69 (by decide) ?_
      refine lv_lstore (lv' := [(6, .long ((σ.2.2.2.1 0) (((σ.2.2.1 8) (x).toNatClampNeg)).toNatClampNeg)), (4, .long ((σ.2.2.2.1 2) (((4 * ((σ.2.2.1 0) (((σ.2.2.1 8) (x).toNatClampNeg)).toNatClampNeg)) + ((σ.2.2.1 9) (x).toNatClampNeg))).toNatClampNeg)), (3, .int ((σ.2.2.1 9) (x).toNatClampNeg)), (2, .int ((σ.2.2.1 8) (x).toNatClampNeg)), (0, .ref (Q 0)), (1, .int x)]) hx hb dX4_sumNow_74 hl (by decide) rfl (fun ls hl => ?_)
      refine lv_iload_n hx hb dX4_sumNow_76 rfl (lv_at hl 2 rfl) ?_
      refine lv_iconst (v := 1) hx hb dX4_sumNow_77 (by decide) ?_
      refine lv_icmp_ne (tgt := 90) hx hb dX4_sumNow_78 (by decide) (fun c78 => ?_) (fun c78 => ?_)
      · refine lv_iload_n hx hb dX4_sumNow_90 rfl (lv_at hl 2 rfl) ?_
        refine lv_iconst (v := 2) hx hb dX4_sumNow_91 (by decide) ?_
        refine lv_icmp_ne (tgt := 104) hx hb dX4_sumNow_92 (by decide) (fun c92 => ?_) (fun c92 => ?_)
        · refine lv_lload hx hb dX4_sumNow_104 (lv_at hl 0 rfl) ?_
          exact W.lret (v := ((σ.2.2.2.1 0) (((σ.2.2.1 8) (x).toNatClampNeg)).toNatClampNeg)) hx hb hr (fun t ht hW => ⟨((σ.2.2.2.1 0) (((σ.2.2.1 8) (x).toNatClampNeg)).toNatClampNeg), rfl, (by unfold sm_n; dsimp only; rw [if_neg (fun q => absurd (lc_gt.mpr q) (Int32.not_lt.mpr c22)), if_pos (Int64.not_le.mp (fun q => c60 (lc_ge.mpr q))), if_neg c78, if_neg c92]), ht⟩) (fun q h => by cases h) dX4_sumNow_106
        · refine lv_lload hx hb dX4_sumNow_95 (lv_at hl 0 rfl) ?_
          refine lv_ldc2 hx hb hown lk6 dX4_sumNow_97 ?_
          refine lv_ldiv hx hb dX4_sumNow_100 (by decide) ?_
          refine lv_goto (tgt := 106) hx hb dX4_sumNow_101 (by decide) ?_
          exact W.lret (v := (((σ.2.2.2.1 0) (((σ.2.2.1 8) (x).toNatClampNeg)).toNatClampNeg) / 2)) hx hb hr (fun t ht hW => ⟨(((σ.2.2.2.1 0) (((σ.2.2.1 8) (x).toNatClampNeg)).toNatClampNeg) / 2), rfl, (by unfold sm_n; dsimp only; rw [if_neg (fun q => absurd (lc_gt.mpr q) (Int32.not_lt.mpr c22)), if_pos (Int64.not_le.mp (fun q => c60 (lc_ge.mpr q))), if_neg c78, if_pos c92]), ht⟩) (fun q h => by cases h) dX4_sumNow_106
      · refine lv_lload hx hb dX4_sumNow_81 (lv_at hl 0 rfl) ?_
        refine lv_ldc2 hx hb hown lk7 dX4_sumNow_83 ?_
        refine lv_ldiv hx hb dX4_sumNow_86 (by decide) ?_
        refine lv_goto (tgt := 106) hx hb dX4_sumNow_87 (by decide) ?_
        exact W.lret (v := (((σ.2.2.2.1 0) (((σ.2.2.1 8) (x).toNatClampNeg)).toNatClampNeg) / 10)) hx hb hr (fun t ht hW => ⟨(((σ.2.2.2.1 0) (((σ.2.2.1 8) (x).toNatClampNeg)).toNatClampNeg) / 10), rfl, (by unfold sm_n; dsimp only; rw [if_neg (fun q => absurd (lc_gt.mpr q) (Int32.not_lt.mpr c22)), if_pos (Int64.not_le.mp (fun q => c60 (lc_ge.mpr q))), if_pos c78]), ht⟩) (fun q h => by cases h) dX4_sumNow_106
  · refine lv_aload_n hx hb dX4_sumNow_25 rfl (lv_at hl 2 rfl) ?_
    refine va_get (D := (dC, dI)) (ci := 4) (v := .ref (Q 3)) (C := RX4) (T := TX4) (N := 33) hx hb hts in0 hown hK hP 0 (xm_W_0 _ _) rfl 3 (by decide) lk2 (fun _ h9 => h9) rfl dX4_sumNow_26 ?_
    refine lv_iload_n hx hb dX4_sumNow_29 rfl (lv_at hl 1 rfl) ?_
    refine va_lald hx hb hK hP 3 1 (xm_W_3 _ _) rfl (rm_io hV hc) dX4_sumNow_30 ?_
    refine lv_goto (tgt := 49) hx hb dX4_sumNow_31 (by decide) ?_
    refine lv_lstore (lv' := [(4, .long ((σ.2.2.2.1 1) (((σ.2.2.1 8) (x).toNatClampNeg)).toNatClampNeg)), (3, .int ((σ.2.2.1 9) (x).toNatClampNeg)), (2, .int ((σ.2.2.1 8) (x).toNatClampNeg)), (0, .ref (Q 0)), (1, .int x)]) hx hb dX4_sumNow_49 hl (by decide) rfl (fun ls hl => ?_)
    refine lv_aload_n hx hb dX4_sumNow_51 rfl (lv_at hl 3 rfl) ?_
    refine va_get (D := (dC, dI)) (ci := 4) (v := .ref (Q 2)) (C := RX4) (T := TX4) (N := 33) hx hb hts in0 hown hK hP 0 (xm_W_0 _ _) rfl 2 (by decide) lk5 (fun _ h9 => h9) rfl dX4_sumNow_52 ?_
    refine lv_iload_n hx hb dX4_sumNow_55 rfl (lv_at hl 2 rfl) ?_
    refine va_lald hx hb hK hP 2 1 (xm_W_2 _ _) rfl (rm_io hV hc) dX4_sumNow_56 ?_
    refine lv_lload hx hb dX4_sumNow_57 (lv_at hl 0 rfl) ?_
    refine W.lcmp hx hb dX4_sumNow_59 ?_
    refine lv_if_ge (tgt := 72) hx hb dX4_sumNow_60 (by decide) (fun c60 => ?_) (fun c60 => ?_)
    · refine lv_lload hx hb dX4_sumNow_72 (lv_at hl 0 rfl) ?_
      refine lv_lstore (lv' := [(6, .long ((σ.2.2.2.1 1) (((σ.2.2.1 8) (x).toNatClampNeg)).toNatClampNeg)), (4, .long ((σ.2.2.2.1 1) (((σ.2.2.1 8) (x).toNatClampNeg)).toNatClampNeg)), (3, .int ((σ.2.2.1 9) (x).toNatClampNeg)), (2, .int ((σ.2.2.1 8) (x).toNatClampNeg)), (0, .ref (Q 0)), (1, .int x)]) hx hb dX4_sumNow_74 hl (by decide) rfl (fun ls hl => ?_)
      refine lv_iload_n hx hb dX4_sumNow_76 rfl (lv_at hl 2 rfl) ?_
      refine lv_iconst (v := 1) hx hb dX4_sumNow_77 (by decide) ?_
      refine lv_icmp_ne (tgt := 90) hx hb dX4_sumNow_78 (by decide) (fun c78 => ?_) (fun c78 => ?_)
      · refine lv_iload_n hx hb dX4_sumNow_90 rfl (lv_at hl 2 rfl) ?_
        refine lv_iconst (v := 2) hx hb dX4_sumNow_91 (by decide) ?_
        refine lv_icmp_ne (tgt := 104) hx hb dX4_sumNow_92 (by decide) (fun c92 => ?_) (fun c92 => ?_)
        · refine lv_lload hx hb dX4_sumNow_104 (lv_at hl 0 rfl) ?_
          exact W.lret (v := ((σ.2.2.2.1 1) (((σ.2.2.1 8) (x).toNatClampNeg)).toNatClampNeg)) hx hb hr (fun t ht hW => ⟨((σ.2.2.2.1 1) (((σ.2.2.1 8) (x).toNatClampNeg)).toNatClampNeg), rfl, (by unfold sm_n; dsimp only; rw [if_pos (lc_gt.mp (Int32.not_le.mp c22)), if_neg (Int64.not_lt.mpr (lc_ge.mp c60)), if_neg c78, if_neg c92]), ht⟩) (fun q h => by cases h) dX4_sumNow_106
        · refine lv_lload hx hb dX4_sumNow_95 (lv_at hl 0 rfl) ?_
          refine lv_ldc2 hx hb hown lk6 dX4_sumNow_97 ?_
          refine lv_ldiv hx hb dX4_sumNow_100 (by decide) ?_
          refine lv_goto (tgt := 106) hx hb dX4_sumNow_101 (by decide) ?_
          exact W.lret (v := (((σ.2.2.2.1 1) (((σ.2.2.1 8) (x).toNatClampNeg)).toNatClampNeg) / 2)) hx hb hr (fun t ht hW => ⟨(((σ.2.2.2.1 1) (((σ.2.2.1 8) (x).toNatClampNeg)).toNatClampNeg) / 2), rfl, (by unfold sm_n; dsimp only; rw [if_pos (lc_gt.mp (Int32.not_le.mp c22)), if_neg (Int64.not_lt.mpr (lc_ge.mp c60)), if_neg c78, if_pos c92]), ht⟩) (fun q h => by cases h) dX4_sumNow_106
      · refine lv_lload hx hb dX4_sumNow_81 (lv_at hl 0 rfl) ?_
        refine lv_ldc2 hx hb hown lk7 dX4_sumNow_83 ?_
        refine lv_ldiv hx hb dX4_sumNow_86 (by decide) ?_
        refine lv_goto (tgt := 106) hx hb dX4_sumNow_87 (by decide) ?_
        exact W.lret (v := (((σ.2.2.2.1 1) (((σ.2.2.1 8) (x).toNatClampNeg)).toNatClampNeg) / 10)) hx hb hr (fun t ht hW => ⟨(((σ.2.2.2.1 1) (((σ.2.2.1 8) (x).toNatClampNeg)).toNatClampNeg) / 10), rfl, (by unfold sm_n; dsimp only; rw [if_pos (lc_gt.mp (Int32.not_le.mp c22)), if_neg (Int64.not_lt.mpr (lc_ge.mp c60)), if_pos c78]), ht⟩) (fun q h => by cases h) dX4_sumNow_106
    · refine lv_aload_n hx hb dX4_sumNow_63 rfl (lv_at hl 3 rfl) ?_
      refine va_get (D := (dC, dI)) (ci := 4) (v := .ref (Q 2)) (C := RX4) (T := TX4) (N := 33) hx hb hts in0 hown hK hP 0 (xm_W_0 _ _) rfl 2 (by decide) lk5 (fun _ h9 => h9) rfl dX4_sumNow_64 ?_
      refine lv_iload_n hx hb dX4_sumNow_67 rfl (lv_at hl 2 rfl) ?_
      refine va_lald hx hb hK hP 2 1 (xm_W_2 _ _) rfl (rm_io hV hc) dX4_sumNow_68 ?_
      refine lv_goto (tgt := 74) hx hb dX4_sumNow_69 (by decide) ?_
      refine lv_lstore (lv' := [(6, .long ((σ.2.2.2.1 0) (((σ.2.2.1 8) (x).toNatClampNeg)).toNatClampNeg)), (4, .long ((σ.2.2.2.1 1) (((σ.2.2.1 8) (x).toNatClampNeg)).toNatClampNeg)), (3, .int ((σ.2.2.1 9) (x).toNatClampNeg)), (2, .int ((σ.2.2.1 8) (x).toNatClampNeg)), (0, .ref (Q 0)), (1, .int x)]) hx hb dX4_sumNow_74 hl (by decide) rfl (fun ls hl => ?_)
      refine lv_iload_n hx hb dX4_sumNow_76 rfl (lv_at hl 2 rfl) ?_
      refine lv_iconst (v := 1) hx hb dX4_sumNow_77 (by decide) ?_
      refine lv_icmp_ne (tgt := 90) hx hb dX4_sumNow_78 (by decide) (fun c78 => ?_) (fun c78 => ?_)
      · refine lv_iload_n hx hb dX4_sumNow_90 rfl (lv_at hl 2 rfl) ?_
        refine lv_iconst (v := 2) hx hb dX4_sumNow_91 (by decide) ?_
        refine lv_icmp_ne (tgt := 104) hx hb dX4_sumNow_92 (by decide) (fun c92 => ?_) (fun c92 => ?_)
        · refine lv_lload hx hb dX4_sumNow_104 (lv_at hl 0 rfl) ?_
          exact W.lret (v := ((σ.2.2.2.1 0) (((σ.2.2.1 8) (x).toNatClampNeg)).toNatClampNeg)) hx hb hr (fun t ht hW => ⟨((σ.2.2.2.1 0) (((σ.2.2.1 8) (x).toNatClampNeg)).toNatClampNeg), rfl, (by unfold sm_n; dsimp only; rw [if_pos (lc_gt.mp (Int32.not_le.mp c22)), if_pos (Int64.not_le.mp (fun q => c60 (lc_ge.mpr q))), if_neg c78, if_neg c92]), ht⟩) (fun q h => by cases h) dX4_sumNow_106
        · refine lv_lload hx hb dX4_sumNow_95 (lv_at hl 0 rfl) ?_
          refine lv_ldc2 hx hb hown lk6 dX4_sumNow_97 ?_
          refine lv_ldiv hx hb dX4_sumNow_100 (by decide) ?_
          refine lv_goto (tgt := 106) hx hb dX4_sumNow_101 (by decide) ?_
          exact W.lret (v := (((σ.2.2.2.1 0) (((σ.2.2.1 8) (x).toNatClampNeg)).toNatClampNeg) / 2)) hx hb hr (fun t ht hW => ⟨(((σ.2.2.2.1 0) (((σ.2.2.1 8) (x).toNatClampNeg)).toNatClampNeg) / 2), rfl, (by unfold sm_n; dsimp only; rw [if_pos (lc_gt.mp (Int32.not_le.mp c22)), if_pos (Int64.not_le.mp (fun q => c60 (lc_ge.mpr q))), if_neg c78, if_pos c92]), ht⟩) (fun q h => by cases h) dX4_sumNow_106
      · refine lv_lload hx hb dX4_sumNow_81 (lv_at hl 0 rfl) ?_
        refine lv_ldc2 hx hb hown lk7 dX4_sumNow_83 ?_
        refine lv_ldiv hx hb dX4_sumNow_86 (by decide) ?_
        refine lv_goto (tgt := 106) hx hb dX4_sumNow_87 (by decide) ?_
        exact W.lret (v := (((σ.2.2.2.1 0) (((σ.2.2.1 8) (x).toNatClampNeg)).toNatClampNeg) / 10)) hx hb hr (fun t ht hW => ⟨(((σ.2.2.2.1 0) (((σ.2.2.1 8) (x).toNatClampNeg)).toNatClampNeg) / 10), rfl, (by unfold sm_n; dsimp only; rw [if_pos (lc_gt.mp (Int32.not_le.mp c22)), if_pos (Int64.not_le.mp (fun q => c60 (lc_ge.mpr q))), if_pos c78]), ht⟩) (fun q h => by cases h) dX4_sumNow_106
set_option maxHeartbeats 4000000 in
set_option maxRecDepth 100000 in
/-- mr_paid -/
theorem mr_paid (l : Launch) (dC : Nat → ClassId) (dI : Nat → Nat → Nat) (cA : Nat → ClassId) (Q : Nat → Nat) (σ : xs_T) (n : nn_T) (L : List Nat) (f : Nat → va_E) (hV : rm_V σ n) (x kd : Int32) : Met l yX4_paid wsX4_paid ({ frames := 0, cells := 0, slots := 0, locals := 0 }) (va_Pc [.ref (Q 0), .int x, .int kd] (ct_R (dC, dI) vwCl (ty_K cA) (xm_W Q cA σ ++ va_pl L f))) (vp_Si (fun r => r = pd_r σ x kd n.2.1)) 0 0 (fun _ => False) := by
  refine Met.ofW (cc := cX4_paid) (maxL := 5) (ret := (some .boolean)) (by decide) rfl ?_
  intro p e s m args below meth c s₁ B hml hv
  obtain ⟨rfl, hP, hK⟩ := hv
  have hx := B.exec
  have hb := B.bytes
  have hr := B.returns
  have hts := atoms_spec (ws := wsX4_paid) B.pre
  have hown : s.vm.findClass RX4 = some m.cls := findClass_of_methodNamed B.named
  have hlocks := B.notSynchronized
  have hl := lv_entry ([.ref (Q 0), .int x, .int kd]) (n := 5) (Nat.le_of_ble_eq_true rfl)
  rw [lg_entry_eq]
  generalize (lg_sl ([.ref (Q 0), .int x, .int kd]) ++ List.replicate (5 - (lg_sl ([.ref (Q 0), .int x, .int kd])).length) Slot.unset).toArray = ls at hl ⊢
  have hl : lv_has ls 5 [(0, .ref (Q 0)), (1, .int x), (2, .int kd)] := hl
  have lk0 := hts (.fieldLink RX4 91 "ClaimRowsModel" "claims" "I") (List.mem_cons_of_mem _ wd_288)
  have lk1 := hts (.fieldLink RX4 45 "ClaimRowsModel" "itemOf" "[I") (List.mem_cons_of_mem _ wd_289)
  have lk2 := hts (.fieldLink RX4 48 "ClaimRowsModel" "kindOf" "[I") (List.mem_cons_of_mem _ wd_290)
  have lk3 := hts (.fieldLink RX4 51 "ClaimRowsModel" "state" "[I") (List.mem_cons_of_mem _ wd_291)
  have in0 : ∀ w ∈ u_ws RX4 TX4 33, w ∈ wsX4_paid := fun w h => List.mem_cons_of_mem _ (wu_X4 w h)
  have hn0 : (σ.1 0).toNatClampNeg = n.1 := by rw [hV.1.1]; exact nI_clamp (by have := hV.1.2.1; omega)
  have hn1 : (σ.1 1).toNatClampNeg = n.2.1 := by rw [hV.1.2.2.1]; exact nI_clamp (by have := hV.1.2.2.2.1; omega)
  have hn2 : (σ.1 2).toNatClampNeg = n.2.2.1 := by rw [hV.1.2.2.2.2.1]; exact nI_clamp (by have := hV.1.2.2.2.2.2.1; omega)
  refine lv_iconst (v := 0) hx hb dX4_paid_0 (by decide) ?_
  refine lv_istore_n (lv' := [(3, .int 0), (0, .ref (Q 0)), (1, .int x), (2, .int kd)]) hx hb dX4_paid_1 rfl hl (by decide) rfl (fun ls hl => ?_)
  refine lv_iconst (v := 1) hx hb dX4_paid_2 (by decide) ?_
  refine lv_istore (lv' := [(4, .int 1), (3, .int 0), (0, .ref (Q 0)), (1, .int x), (2, .int kd)]) hx hb dX4_paid_3 hl (by decide) rfl (fun ls hl => ?_)
  refine wl_R (Inv := fun j ls => lv_has ls 5 [(0, .ref (Q 0)), (1, .int x), (2, .int kd), (3, .int (pd_r σ x kd j)), (4, .int (nI (j + 1)))] ∧ True) (N := n.2.1) (fun j ls hj hin ih => ?_) (fun ls hin => ?_) 0 ls (Nat.zero_le _) ⟨lv_sub hl [2, 3, 4, 1, 0] rfl, trivial⟩
  · obtain ⟨hl, hin⟩ := hin
    refine lv_iload hx hb dX4_paid_5 (lv_at hl 4 rfl) ?_
    refine lv_aload_n hx hb dX4_paid_7 rfl (lv_at hl 0 rfl) ?_
    refine va_get (D := (dC, dI)) (ci := 4) (v := .int (σ.1 1)) (C := RX4) (T := TX4) (N := 33) hx hb hts in0 hown hK hP 0 (xm_W_0 _ _) rfl 12 (by decide) lk0 (fun _ h9 => h9) rfl dX4_paid_8 ?_
    refine lv_icmp_gt (tgt := 63) hx hb dX4_paid_11 (by decide) (fun c11 => ?_) (fun c11 => ?_)
    · exact absurd c11 (by rw [hV.1.2.2.1]; exact nI_nlt (by omega) (by have := hV.1.2.2.2.1; omega))
    · refine lv_iload_n hx hb dX4_paid_14 rfl (lv_at hl 3 rfl) ?_
      refine lv_if_ne (tgt := 51) hx hb dX4_paid_15 (by decide) (fun c15 => ?_) (fun c15 => ?_)
      · have E9 : (if ¬ pd_r σ x kd j = 0 ∨ (σ.2.2.1 8 (nI (j + 1)).toNatClampNeg = x ∧ σ.2.2.1 9 (nI (j + 1)).toNatClampNeg = kd ∧ σ.2.2.1 10 (nI (j + 1)).toNatClampNeg = 1) then (1 : Int32) else 0) = 1 := if_pos (Or.inl c15)
        refine lv_iconst (v := 1) hx hb dX4_paid_51 (by decide) ?_
        refine lv_goto (tgt := 56) hx hb dX4_paid_52 (by decide) ?_
        refine lv_istore_n (lv' := [(3, .int 1), (0, .ref (Q 0)), (1, .int x), (2, .int kd), (4, .int (nI (j + 1)))]) hx hb dX4_paid_56 rfl hl (by decide) rfl (fun ls hl => ?_)
        refine lv_iinc (v := ((nI (j + 1)) + 1)) (lv' := [(4, .int ((nI (j + 1)) + 1)), (3, .int 1), (0, .ref (Q 0)), (1, .int x), (2, .int kd)]) hx hb dX4_paid_57 hl (k := 4) rfl rfl (by decide) rfl (fun ls hl => ?_)
        refine lv_goto (tgt := 5) hx hb dX4_paid_60 (by decide) ?_
        exact ih _ ⟨lv_sub hl [2, 3, 4, 1, 0] (by rw [nI_succ (j + 1), pd_r, E9]; rfl), trivial⟩
      · refine lv_aload_n hx hb dX4_paid_18 rfl (lv_at hl 0 rfl) ?_
        refine va_get (D := (dC, dI)) (ci := 4) (v := .ref (Q 12)) (C := RX4) (T := TX4) (N := 33) hx hb hts in0 hown hK hP 0 (xm_W_0 _ _) rfl 13 (by decide) lk1 (fun _ h9 => h9) rfl dX4_paid_19 ?_
        refine lv_iload hx hb dX4_paid_22 (lv_at hl 4 rfl) ?_
        refine va_iald hx hb hK hP 12 0 (xm_W_12 _ _) rfl (vp_in_nI (by have := hV.1.2.2.2.1; omega) (by decide)) dX4_paid_24 ?_
        refine lv_iload_n hx hb dX4_paid_25 rfl (lv_at hl 1 rfl) ?_
        refine lv_icmp_ne (tgt := 55) hx hb dX4_paid_26 (by decide) (fun c26 => ?_) (fun c26 => ?_)
        · have E9 : (if ¬ pd_r σ x kd j = 0 ∨ (σ.2.2.1 8 (nI (j + 1)).toNatClampNeg = x ∧ σ.2.2.1 9 (nI (j + 1)).toNatClampNeg = kd ∧ σ.2.2.1 10 (nI (j + 1)).toNatClampNeg = 1) then (1 : Int32) else 0) = 0 := if_neg (fun q => q.elim (fun z => z c15) (fun z => c26 z.1))
          refine lv_iconst (v := 0) hx hb dX4_paid_55 (by decide) ?_
          refine lv_istore_n (lv' := [(3, .int 0), (0, .ref (Q 0)), (1, .int x), (2, .int kd), (4, .int (nI (j + 1)))]) hx hb dX4_paid_56 rfl hl (by decide) rfl (fun ls hl => ?_)
          refine lv_iinc (v := ((nI (j + 1)) + 1)) (lv' := [(4, .int ((nI (j + 1)) + 1)), (3, .int 0), (0, .ref (Q 0)), (1, .int x), (2, .int kd)]) hx hb dX4_paid_57 hl (k := 4) rfl rfl (by decide) rfl (fun ls hl => ?_)
          refine lv_goto (tgt := 5) hx hb dX4_paid_60 (by decide) ?_
          exact ih _ ⟨lv_sub hl [2, 3, 4, 1, 0] (by rw [nI_succ (j + 1), pd_r, E9]; rfl), trivial⟩
        · refine lv_aload_n hx hb dX4_paid_29 rfl (lv_at hl 0 rfl) ?_
          refine va_get (D := (dC, dI)) (ci := 4) (v := .ref (Q 13)) (C := RX4) (T := TX4) (N := 33) hx hb hts in0 hown hK hP 0 (xm_W_0 _ _) rfl 14 (by decide) lk2 (fun _ h9 => h9) rfl dX4_paid_30 ?_
          refine lv_iload hx hb dX4_paid_33 (lv_at hl 4 rfl) ?_
          refine va_iald hx hb hK hP 13 0 (xm_W_13 _ _) rfl (vp_in_nI (by have := hV.1.2.2.2.1; omega) (by decide)) dX4_paid_35 ?_
          refine lv_iload_n hx hb dX4_paid_36 rfl (lv_at hl 2 rfl) ?_
          refine lv_icmp_ne (tgt := 55) hx hb dX4_paid_37 (by decide) (fun c37 => ?_) (fun c37 => ?_)
          · have E9 : (if ¬ pd_r σ x kd j = 0 ∨ (σ.2.2.1 8 (nI (j + 1)).toNatClampNeg = x ∧ σ.2.2.1 9 (nI (j + 1)).toNatClampNeg = kd ∧ σ.2.2.1 10 (nI (j + 1)).toNatClampNeg = 1) then (1 : Int32) else 0) = 0 := if_neg (fun q => q.elim (fun z => z c15) (fun z => c37 z.2.1))
            refine lv_iconst (v := 0) hx hb dX4_paid_55 (by decide) ?_
            refine lv_istore_n (lv' := [(3, .int 0), (0, .ref (Q 0)), (1, .int x), (2, .int kd), (4, .int (nI (j + 1)))]) hx hb dX4_paid_56 rfl hl (by decide) rfl (fun ls hl => ?_)
            refine lv_iinc (v := ((nI (j + 1)) + 1)) (lv' := [(4, .int ((nI (j + 1)) + 1)), (3, .int 0), (0, .ref (Q 0)), (1, .int x), (2, .int kd)]) hx hb dX4_paid_57 hl (k := 4) rfl rfl (by decide) rfl (fun ls hl => ?_)
            refine lv_goto (tgt := 5) hx hb dX4_paid_60 (by decide) ?_
            exact ih _ ⟨lv_sub hl [2, 3, 4, 1, 0] (by rw [nI_succ (j + 1), pd_r, E9]; rfl), trivial⟩
          · refine lv_aload_n hx hb dX4_paid_40 rfl (lv_at hl 0 rfl) ?_
            refine va_get (D := (dC, dI)) (ci := 4) (v := .ref (Q 14)) (C := RX4) (T := TX4) (N := 33) hx hb hts in0 hown hK hP 0 (xm_W_0 _ _) rfl 15 (by decide) lk3 (fun _ h9 => h9) rfl dX4_paid_41 ?_
            refine lv_iload hx hb dX4_paid_44 (lv_at hl 4 rfl) ?_
            refine va_iald hx hb hK hP 14 0 (xm_W_14 _ _) rfl (vp_in_nI (by have := hV.1.2.2.2.1; omega) (by decide)) dX4_paid_46 ?_
            refine lv_iconst (v := 1) hx hb dX4_paid_47 (by decide) ?_
            refine lv_icmp_ne (tgt := 55) hx hb dX4_paid_48 (by decide) (fun c48 => ?_) (fun c48 => ?_)
            · have E9 : (if ¬ pd_r σ x kd j = 0 ∨ (σ.2.2.1 8 (nI (j + 1)).toNatClampNeg = x ∧ σ.2.2.1 9 (nI (j + 1)).toNatClampNeg = kd ∧ σ.2.2.1 10 (nI (j + 1)).toNatClampNeg = 1) then (1 : Int32) else 0) = 0 := if_neg (fun q => q.elim (fun z => z c15) (fun z => c48 z.2.2))
              refine lv_iconst (v := 0) hx hb dX4_paid_55 (by decide) ?_
              refine lv_istore_n (lv' := [(3, .int 0), (0, .ref (Q 0)), (1, .int x), (2, .int kd), (4, .int (nI (j + 1)))]) hx hb dX4_paid_56 rfl hl (by decide) rfl (fun ls hl => ?_)
              refine lv_iinc (v := ((nI (j + 1)) + 1)) (lv' := [(4, .int ((nI (j + 1)) + 1)), (3, .int 0), (0, .ref (Q 0)), (1, .int x), (2, .int kd)]) hx hb dX4_paid_57 hl (k := 4) rfl rfl (by decide) rfl (fun ls hl => ?_)
              refine lv_goto (tgt := 5) hx hb dX4_paid_60 (by decide) ?_
              exact ih _ ⟨lv_sub hl [2, 3, 4, 1, 0] (by rw [nI_succ (j + 1), pd_r, E9]; rfl), trivial⟩
            · have E9 : (if ¬ pd_r σ x kd j = 0 ∨ (σ.2.2.1 8 (nI (j + 1)).toNatClampNeg = x ∧ σ.2.2.1 9 (nI (j + 1)).toNatClampNeg = kd ∧ σ.2.2.1 10 (nI (j + 1)).toNatClampNeg = 1) then (1 : Int32) else 0) = 1 := if_pos (Or.inr ⟨c26, c37, c48⟩)
              refine lv_iconst (v := 1) hx hb dX4_paid_51 (by decide) ?_
              refine lv_goto (tgt := 56) hx hb dX4_paid_52 (by decide) ?_
              refine lv_istore_n (lv' := [(3, .int 1), (0, .ref (Q 0)), (1, .int x), (2, .int kd), (4, .int (nI (j + 1)))]) hx hb dX4_paid_56 rfl hl (by decide) rfl (fun ls hl => ?_)
              refine lv_iinc (v := ((nI (j + 1)) + 1)) (lv' := [(4, .int ((nI (j + 1)) + 1)), (3, .int 1), (0, .ref (Q 0)), (1, .int x), (2, .int kd)]) hx hb dX4_paid_57 hl (k := 4) rfl rfl (by decide) rfl (fun ls hl => ?_)
              refine lv_goto (tgt := 5) hx hb dX4_paid_60 (by decide) ?_
              exact ih _ ⟨lv_sub hl [2, 3, 4, 1, 0] (by rw [nI_succ (j + 1), pd_r, E9]; rfl), trivial⟩
  · obtain ⟨hl, hin⟩ := hin
    refine lv_iload hx hb dX4_paid_5 (lv_at hl 4 rfl) ?_
    refine lv_aload_n hx hb dX4_paid_7 rfl (lv_at hl 0 rfl) ?_
    refine va_get (D := (dC, dI)) (ci := 4) (v := .int (σ.1 1)) (C := RX4) (T := TX4) (N := 33) hx hb hts in0 hown hK hP 0 (xm_W_0 _ _) rfl 12 (by decide) lk0 (fun _ h9 => h9) rfl dX4_paid_8 ?_
    refine lv_icmp_gt (tgt := 63) hx hb dX4_paid_11 (by decide) (fun c11 => ?_) (fun c11 => ?_)
    · refine lv_iload_n hx hb dX4_paid_63 rfl (lv_at hl 3 rfl) ?_
      exact W.zret (v := (pd_r σ x kd n.2.1)) hx hb hr pd_nar (fun t ht hW => ⟨(pd_r σ x kd n.2.1), rfl, rfl, ht⟩) (fun q h => by cases h) dX4_paid_64
    · exact absurd (by rw [hV.1.2.2.1]; exact nI_lt (by omega) (by have := hV.1.2.2.2.1; omega)) c11
