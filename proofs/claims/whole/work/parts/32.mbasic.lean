set_option maxHeartbeats 4000000 in
set_option maxRecDepth 100000 in
/-- mr_isIn -/
theorem mr_isIn (l : Launch) (x0 x1 x2 : Int64) : Met l yX4_isIn wsX4_isIn ({ frames := 0, cells := 0, slots := 0, locals := 0 }) (va_Pc [.long x0, .long x1, .long x2] (fun _ => True)) (vp_Si (fun r => r = bb_v (decide (x1 ≤ x0 ∧ x0 ≤ x2)))) 0 0 (fun _ => False) := by
  refine Met.ofW (cc := cX4_isIn) (maxL := 6) (ret := (some .boolean)) (by decide) rfl ?_
  intro p e s m args below meth c s₁ B hml hv
  obtain ⟨rfl, -⟩ := hv
  have hx := B.exec
  have hb := B.bytes
  have hr := B.returns
  have hts := atoms_spec (ws := wsX4_isIn) B.pre
  have hown : s.vm.findClass RX4 = some m.cls := findClass_of_methodNamed B.named
  have hlocks := B.notSynchronized
  have hl := lv_entry ([.long x0, .long x1, .long x2]) (n := 6) (Nat.le_of_ble_eq_true rfl)
  rw [lg_entry_eq]
  generalize (lg_sl ([.long x0, .long x1, .long x2]) ++ List.replicate (6 - (lg_sl ([.long x0, .long x1, .long x2])).length) Slot.unset).toArray = ls at hl ⊢
  have hl : lv_has ls 6 [(0, .long x0), (2, .long x1), (4, .long x2)] := hl
  refine lv_lload_n hx hb dX4_isIn_0 rfl (lv_at hl 0 rfl) ?_
  refine lv_lload_n hx hb dX4_isIn_1 rfl (lv_at hl 1 rfl) ?_
  refine W.lcmp hx hb dX4_isIn_2 ?_
  refine lv_if_lt (tgt := 17) hx hb dX4_isIn_3 (by decide) (fun c3 => ?_) (fun c3 => ?_)
  · refine lv_iconst (v := 0) hx hb dX4_isIn_17 (by decide) ?_
    exact W.zret (v := 0) hx hb hr (by decide) (fun t ht hW => ⟨0, rfl, ((bb_f (fun q => absurd q.1 (Int64.not_le.mpr (lc_lt.mp c3)))).symm), ht⟩) (fun q h => by cases h) dX4_isIn_18
  · refine lv_lload_n hx hb dX4_isIn_6 rfl (lv_at hl 0 rfl) ?_
    refine lv_lload hx hb dX4_isIn_7 (lv_at hl 2 rfl) ?_
    refine W.lcmp hx hb dX4_isIn_9 ?_
    refine lv_if_gt (tgt := 17) hx hb dX4_isIn_10 (by decide) (fun c10 => ?_) (fun c10 => ?_)
    · refine lv_iconst (v := 0) hx hb dX4_isIn_17 (by decide) ?_
      exact W.zret (v := 0) hx hb hr (by decide) (fun t ht hW => ⟨0, rfl, ((bb_f (fun q => absurd q.2 (Int64.not_le.mpr (lc_gt.mp c10)))).symm), ht⟩) (fun q h => by cases h) dX4_isIn_18
    · refine lv_iconst (v := 1) hx hb dX4_isIn_13 (by decide) ?_
      refine lv_goto (tgt := 18) hx hb dX4_isIn_14 (by decide) ?_
      exact W.zret (v := 1) hx hb hr (by decide) (fun t ht hW => ⟨1, rfl, ((bb_t ⟨Int64.not_lt.mp (fun q => c3 (lc_lt.mpr q)), Int64.not_lt.mp (fun q => c10 (lc_gt.mpr q))⟩).symm), ht⟩) (fun q h => by cases h) dX4_isIn_18
set_option maxHeartbeats 4000000 in
set_option maxRecDepth 100000 in
/-- mr_needs -/
theorem mr_needs (l : Launch) (x0 x1 : Int32) : Met l yX4_needs wsX4_needs ({ frames := 0, cells := 0, slots := 0, locals := 0 }) (va_Pc [.int x0, .int x1] (fun _ => True)) (vp_Si (fun r => r = bb_v (decide (x1 = 0 ∨ (x0 = 1 ∧ x1 = 1) ∨ (x0 = 2 ∧ x1 = 2) ∨ (x0 = 3 ∧ 2 ≤ x1))))) 0 0 (fun _ => False) := by
  refine Met.ofW (cc := cX4_needs) (maxL := 2) (ret := (some .boolean)) (by decide) rfl ?_
  intro p e s m args below meth c s₁ B hml hv
  obtain ⟨rfl, -⟩ := hv
  have hx := B.exec
  have hb := B.bytes
  have hr := B.returns
  have hts := atoms_spec (ws := wsX4_needs) B.pre
  have hown : s.vm.findClass RX4 = some m.cls := findClass_of_methodNamed B.named
  have hlocks := B.notSynchronized
  have hl := lv_entry ([.int x0, .int x1]) (n := 2) (Nat.le_of_ble_eq_true rfl)
  rw [lg_entry_eq]
  generalize (lg_sl ([.int x0, .int x1]) ++ List.replicate (2 - (lg_sl ([.int x0, .int x1])).length) Slot.unset).toArray = ls at hl ⊢
  have hl : lv_has ls 2 [(0, .int x0), (1, .int x1)] := hl
  refine lv_iload_n hx hb dX4_needs_0 rfl (lv_at hl 1 rfl) ?_
  refine lv_if_eq (tgt := 34) hx hb dX4_needs_1 (by decide) (fun c1 => ?_) (fun c1 => ?_)
  · refine lv_iconst (v := 1) hx hb dX4_needs_34 (by decide) ?_
    refine lv_goto (tgt := 39) hx hb dX4_needs_35 (by decide) ?_
    exact W.zret (v := 1) hx hb hr (by decide) (fun t ht hW => ⟨1, rfl, ((bb_t (Or.inl c1)).symm), ht⟩) (fun q h => by cases h) dX4_needs_39
  · refine lv_iload_n hx hb dX4_needs_4 rfl (lv_at hl 0 rfl) ?_
    refine lv_iconst (v := 1) hx hb dX4_needs_5 (by decide) ?_
    refine lv_icmp_ne (tgt := 14) hx hb dX4_needs_6 (by decide) (fun c6 => ?_) (fun c6 => ?_)
    · refine lv_iload_n hx hb dX4_needs_14 rfl (lv_at hl 0 rfl) ?_
      refine lv_iconst (v := 2) hx hb dX4_needs_15 (by decide) ?_
      refine lv_icmp_ne (tgt := 24) hx hb dX4_needs_16 (by decide) (fun c16 => ?_) (fun c16 => ?_)
      · refine lv_iload_n hx hb dX4_needs_24 rfl (lv_at hl 0 rfl) ?_
        refine lv_iconst (v := 3) hx hb dX4_needs_25 (by decide) ?_
        refine lv_icmp_ne (tgt := 38) hx hb dX4_needs_26 (by decide) (fun c26 => ?_) (fun c26 => ?_)
        · refine lv_iconst (v := 0) hx hb dX4_needs_38 (by decide) ?_
          exact W.zret (v := 0) hx hb hr (by decide) (fun t ht hW => ⟨0, rfl, ((bb_f (fun q => q.elim c1 (fun q => q.elim (fun q => c6 q.1) (fun q => q.elim (fun q => c16 q.1) (fun q => c26 q.1))))).symm), ht⟩) (fun q h => by cases h) dX4_needs_39
        · refine lv_iload_n hx hb dX4_needs_29 rfl (lv_at hl 1 rfl) ?_
          refine lv_iconst (v := 2) hx hb dX4_needs_30 (by decide) ?_
          refine lv_icmp_lt (tgt := 38) hx hb dX4_needs_31 (by decide) (fun c31 => ?_) (fun c31 => ?_)
          · refine lv_iconst (v := 0) hx hb dX4_needs_38 (by decide) ?_
            exact W.zret (v := 0) hx hb hr (by decide) (fun t ht hW => ⟨0, rfl, ((bb_f (fun q => q.elim c1 (fun q => q.elim (fun q => c6 q.1) (fun q => q.elim (fun q => c16 q.1) (fun q => absurd q.2 (Int32.not_le.mpr c31)))))).symm), ht⟩) (fun q h => by cases h) dX4_needs_39
          · refine lv_iconst (v := 1) hx hb dX4_needs_34 (by decide) ?_
            refine lv_goto (tgt := 39) hx hb dX4_needs_35 (by decide) ?_
            exact W.zret (v := 1) hx hb hr (by decide) (fun t ht hW => ⟨1, rfl, ((bb_t (Or.inr (Or.inr (Or.inr ⟨c26, Int32.not_lt.mp c31⟩)))).symm), ht⟩) (fun q h => by cases h) dX4_needs_39
      · refine lv_iload_n hx hb dX4_needs_19 rfl (lv_at hl 1 rfl) ?_
        refine lv_iconst (v := 2) hx hb dX4_needs_20 (by decide) ?_
        refine lv_icmp_eq (tgt := 34) hx hb dX4_needs_21 (by decide) (fun c21 => ?_) (fun c21 => ?_)
        · refine lv_iconst (v := 1) hx hb dX4_needs_34 (by decide) ?_
          refine lv_goto (tgt := 39) hx hb dX4_needs_35 (by decide) ?_
          exact W.zret (v := 1) hx hb hr (by decide) (fun t ht hW => ⟨1, rfl, ((bb_t (Or.inr (Or.inr (Or.inl ⟨c16, c21⟩)))).symm), ht⟩) (fun q h => by cases h) dX4_needs_39
        · refine lv_iload_n hx hb dX4_needs_24 rfl (lv_at hl 0 rfl) ?_
          refine lv_iconst (v := 3) hx hb dX4_needs_25 (by decide) ?_
          refine lv_icmp_ne (tgt := 38) hx hb dX4_needs_26 (by decide) (fun c26 => ?_) (fun c26 => ?_)
          · refine lv_iconst (v := 0) hx hb dX4_needs_38 (by decide) ?_
            exact W.zret (v := 0) hx hb hr (by decide) (fun t ht hW => ⟨0, rfl, ((bb_f (fun q => q.elim c1 (fun q => q.elim (fun q => c6 q.1) (fun q => q.elim (fun q => c21 q.2) (fun q => c26 q.1))))).symm), ht⟩) (fun q h => by cases h) dX4_needs_39
          · refine lv_iload_n hx hb dX4_needs_29 rfl (lv_at hl 1 rfl) ?_
            refine lv_iconst (v := 2) hx hb dX4_needs_30 (by decide) ?_
            refine lv_icmp_lt (tgt := 38) hx hb dX4_needs_31 (by decide) (fun c31 => ?_) (fun c31 => ?_)
            · refine lv_iconst (v := 0) hx hb dX4_needs_38 (by decide) ?_
              exact W.zret (v := 0) hx hb hr (by decide) (fun t ht hW => ⟨0, rfl, ((bb_f (fun q => q.elim c1 (fun q => q.elim (fun q => c6 q.1) (fun q => q.elim (fun q => c21 q.2) (fun q => absurd q.2 (Int32.not_le.mpr c31)))))).symm), ht⟩) (fun q h => by cases h) dX4_needs_39
            · refine lv_iconst (v := 1) hx hb dX4_needs_34 (by decide) ?_
              refine lv_goto (tgt := 39) hx hb dX4_needs_35 (by decide) ?_
              exact W.zret (v := 1) hx hb hr (by decide) (fun t ht hW => ⟨1, rfl, ((bb_t (Or.inr (Or.inr (Or.inr ⟨c26, Int32.not_lt.mp c31⟩)))).symm), ht⟩) (fun q h => by cases h) dX4_needs_39
    · refine lv_iload_n hx hb dX4_needs_9 rfl (lv_at hl 1 rfl) ?_
      refine lv_iconst (v := 1) hx hb dX4_needs_10 (by decide) ?_
      refine lv_icmp_eq (tgt := 34) hx hb dX4_needs_11 (by decide) (fun c11 => ?_) (fun c11 => ?_)
      · refine lv_iconst (v := 1) hx hb dX4_needs_34 (by decide) ?_
        refine lv_goto (tgt := 39) hx hb dX4_needs_35 (by decide) ?_
        exact W.zret (v := 1) hx hb hr (by decide) (fun t ht hW => ⟨1, rfl, ((bb_t (Or.inr (Or.inl ⟨c6, c11⟩))).symm), ht⟩) (fun q h => by cases h) dX4_needs_39
      · refine lv_iload_n hx hb dX4_needs_14 rfl (lv_at hl 0 rfl) ?_
        refine lv_iconst (v := 2) hx hb dX4_needs_15 (by decide) ?_
        refine lv_icmp_ne (tgt := 24) hx hb dX4_needs_16 (by decide) (fun c16 => ?_) (fun c16 => ?_)
        · refine lv_iload_n hx hb dX4_needs_24 rfl (lv_at hl 0 rfl) ?_
          refine lv_iconst (v := 3) hx hb dX4_needs_25 (by decide) ?_
          refine lv_icmp_ne (tgt := 38) hx hb dX4_needs_26 (by decide) (fun c26 => ?_) (fun c26 => ?_)
          · refine lv_iconst (v := 0) hx hb dX4_needs_38 (by decide) ?_
            exact W.zret (v := 0) hx hb hr (by decide) (fun t ht hW => ⟨0, rfl, ((bb_f (fun q => q.elim c1 (fun q => q.elim (fun q => c11 q.2) (fun q => q.elim (fun q => c16 q.1) (fun q => c26 q.1))))).symm), ht⟩) (fun q h => by cases h) dX4_needs_39
          · refine lv_iload_n hx hb dX4_needs_29 rfl (lv_at hl 1 rfl) ?_
            refine lv_iconst (v := 2) hx hb dX4_needs_30 (by decide) ?_
            refine lv_icmp_lt (tgt := 38) hx hb dX4_needs_31 (by decide) (fun c31 => ?_) (fun c31 => ?_)
            · refine lv_iconst (v := 0) hx hb dX4_needs_38 (by decide) ?_
              exact W.zret (v := 0) hx hb hr (by decide) (fun t ht hW => ⟨0, rfl, ((bb_f (fun q => q.elim c1 (fun q => q.elim (fun q => c11 q.2) (fun q => q.elim (fun q => c16 q.1) (fun q => absurd q.2 (Int32.not_le.mpr c31)))))).symm), ht⟩) (fun q h => by cases h) dX4_needs_39
            · refine lv_iconst (v := 1) hx hb dX4_needs_34 (by decide) ?_
              refine lv_goto (tgt := 39) hx hb dX4_needs_35 (by decide) ?_
              exact W.zret (v := 1) hx hb hr (by decide) (fun t ht hW => ⟨1, rfl, ((bb_t (Or.inr (Or.inr (Or.inr ⟨c26, Int32.not_lt.mp c31⟩)))).symm), ht⟩) (fun q h => by cases h) dX4_needs_39
        · refine lv_iload_n hx hb dX4_needs_19 rfl (lv_at hl 1 rfl) ?_
          refine lv_iconst (v := 2) hx hb dX4_needs_20 (by decide) ?_
          refine lv_icmp_eq (tgt := 34) hx hb dX4_needs_21 (by decide) (fun c21 => ?_) (fun c21 => ?_)
          · refine lv_iconst (v := 1) hx hb dX4_needs_34 (by decide) ?_
            refine lv_goto (tgt := 39) hx hb dX4_needs_35 (by decide) ?_
            exact W.zret (v := 1) hx hb hr (by decide) (fun t ht hW => ⟨1, rfl, ((bb_t (Or.inr (Or.inr (Or.inl ⟨c16, c21⟩)))).symm), ht⟩) (fun q h => by cases h) dX4_needs_39
          · refine lv_iload_n hx hb dX4_needs_24 rfl (lv_at hl 0 rfl) ?_
            refine lv_iconst (v := 3) hx hb dX4_needs_25 (by decide) ?_
            refine lv_icmp_ne (tgt := 38) hx hb dX4_needs_26 (by decide) (fun c26 => ?_) (fun c26 => ?_)
            · refine lv_iconst (v := 0) hx hb dX4_needs_38 (by decide) ?_
              exact W.zret (v := 0) hx hb hr (by decide) (fun t ht hW => ⟨0, rfl, ((bb_f (fun q => q.elim c1 (fun q => q.elim (fun q => c11 q.2) (fun q => q.elim (fun q => c21 q.2) (fun q => c26 q.1))))).symm), ht⟩) (fun q h => by cases h) dX4_needs_39
            · refine lv_iload_n hx hb dX4_needs_29 rfl (lv_at hl 1 rfl) ?_
              refine lv_iconst (v := 2) hx hb dX4_needs_30 (by decide) ?_
              refine lv_icmp_lt (tgt := 38) hx hb dX4_needs_31 (by decide) (fun c31 => ?_) (fun c31 => ?_)
              · refine lv_iconst (v := 0) hx hb dX4_needs_38 (by decide) ?_
                exact W.zret (v := 0) hx hb hr (by decide) (fun t ht hW => ⟨0, rfl, ((bb_f (fun q => q.elim c1 (fun q => q.elim (fun q => c11 q.2) (fun q => q.elim (fun q => c21 q.2) (fun q => absurd q.2 (Int32.not_le.mpr c31)))))).symm), ht⟩) (fun q h => by cases h) dX4_needs_39
              · refine lv_iconst (v := 1) hx hb dX4_needs_34 (by decide) ?_
                refine lv_goto (tgt := 39) hx hb dX4_needs_35 (by decide) ?_
                exact W.zret (v := 1) hx hb hr (by decide) (fun t ht hW => ⟨1, rfl, ((bb_t (Or.inr (Or.inr (Or.inr ⟨c26, Int32.not_lt.mp c31⟩)))).symm), ht⟩) (fun q h => by cases h) dX4_needs_39
set_option maxHeartbeats 4000000 in
set_option maxRecDepth 100000 in
/-- mr_isItem -/
theorem mr_isItem (l : Launch) (dC : Nat → ClassId) (dI : Nat → Nat → Nat) (cA : Nat → ClassId) (Q : Nat → Nat) (σ : xs_T) (L : List Nat) (f : Nat → va_E) (x : Int32) : Met l yX4_isItem wsX4_isItem ({ frames := 0, cells := 0, slots := 0, locals := 0 }) (va_Pc [.ref (Q 0), .int x] (ct_R (dC, dI) vwCl (ty_K cA) (xm_W Q cA σ ++ va_pl L f))) (vp_Si (fun r => r = bb_v (decide (1 ≤ x ∧ x ≤ σ.1 0)))) 0 0 (fun _ => False) := by
  refine Met.ofW (cc := cX4_isItem) (maxL := 2) (ret := (some .boolean)) (by decide) rfl ?_
  intro p e s m args below meth c s₁ B hml hv
  obtain ⟨rfl, hP, hK⟩ := hv
  have hx := B.exec
  have hb := B.bytes
  have hr := B.returns
  have hts := atoms_spec (ws := wsX4_isItem) B.pre
  have hown : s.vm.findClass RX4 = some m.cls := findClass_of_methodNamed B.named
  have hlocks := B.notSynchronized
  have hl := lv_entry ([.ref (Q 0), .int x]) (n := 2) (Nat.le_of_ble_eq_true rfl)
  rw [lg_entry_eq]
  generalize (lg_sl ([.ref (Q 0), .int x]) ++ List.replicate (2 - (lg_sl ([.ref (Q 0), .int x])).length) Slot.unset).toArray = ls at hl ⊢
  have hl : lv_has ls 2 [(0, .ref (Q 0)), (1, .int x)] := hl
  have lk0 := hts (.fieldLink RX4 87 "ClaimRowsModel" "items" "I") (List.mem_cons_of_mem _ wd_276)
  have in0 : ∀ w ∈ u_ws RX4 TX4 33, w ∈ wsX4_isItem := fun w h => List.mem_cons_of_mem _ (wu_X4 w h)
  refine lv_iload_n hx hb dX4_isItem_0 rfl (lv_at hl 1 rfl) ?_
  refine lv_iconst (v := 1) hx hb dX4_isItem_1 (by decide) ?_
  refine lv_icmp_lt (tgt := 17) hx hb dX4_isItem_2 (by decide) (fun c2 => ?_) (fun c2 => ?_)
  · refine lv_iconst (v := 0) hx hb dX4_isItem_17 (by decide) ?_
    exact W.zret (v := 0) hx hb hr (by decide) (fun t ht hW => ⟨0, rfl, ((bb_f (fun q => absurd q.1 (Int32.not_le.mpr c2))).symm), ht⟩) (fun q h => by cases h) dX4_isItem_18
  · refine lv_iload_n hx hb dX4_isItem_5 rfl (lv_at hl 1 rfl) ?_
    refine lv_aload_n hx hb dX4_isItem_6 rfl (lv_at hl 0 rfl) ?_
    refine va_get (D := (dC, dI)) (ci := 4) (v := .int (σ.1 0)) (C := RX4) (T := TX4) (N := 33) hx hb hts in0 hown hK hP 0 (xm_W_0 _ _) rfl 0 (by decide) lk0 (fun _ h9 => h9) rfl dX4_isItem_7 ?_
    refine lv_icmp_gt (tgt := 17) hx hb dX4_isItem_10 (by decide) (fun c10 => ?_) (fun c10 => ?_)
    · refine lv_iconst (v := 0) hx hb dX4_isItem_17 (by decide) ?_
      exact W.zret (v := 0) hx hb hr (by decide) (fun t ht hW => ⟨0, rfl, ((bb_f (fun q => absurd q.2 (Int32.not_le.mpr c10))).symm), ht⟩) (fun q h => by cases h) dX4_isItem_18
    · refine lv_iconst (v := 1) hx hb dX4_isItem_13 (by decide) ?_
      refine lv_goto (tgt := 18) hx hb dX4_isItem_14 (by decide) ?_
      exact W.zret (v := 1) hx hb hr (by decide) (fun t ht hW => ⟨1, rfl, ((bb_t ⟨Int32.not_lt.mp c2, Int32.not_lt.mp c10⟩).symm), ht⟩) (fun q h => by cases h) dX4_isItem_18
set_option maxHeartbeats 4000000 in
set_option maxRecDepth 100000 in
/-- mr_isClaim -/
theorem mr_isClaim (l : Launch) (dC : Nat → ClassId) (dI : Nat → Nat → Nat) (cA : Nat → ClassId) (Q : Nat → Nat) (σ : xs_T) (L : List Nat) (f : Nat → va_E) (x : Int32) : Met l yX4_isClaim wsX4_isClaim ({ frames := 0, cells := 0, slots := 0, locals := 0 }) (va_Pc [.ref (Q 0), .int x] (ct_R (dC, dI) vwCl (ty_K cA) (xm_W Q cA σ ++ va_pl L f))) (vp_Si (fun r => r = bb_v (decide (1 ≤ x ∧ x ≤ σ.1 1)))) 0 0 (fun _ => False) := by
  refine Met.ofW (cc := cX4_isClaim) (maxL := 2) (ret := (some .boolean)) (by decide) rfl ?_
  intro p e s m args below meth c s₁ B hml hv
  obtain ⟨rfl, hP, hK⟩ := hv
  have hx := B.exec
  have hb := B.bytes
  have hr := B.returns
  have hts := atoms_spec (ws := wsX4_isClaim) B.pre
  have hown : s.vm.findClass RX4 = some m.cls := findClass_of_methodNamed B.named
  have hlocks := B.notSynchronized
  have hl := lv_entry ([.ref (Q 0), .int x]) (n := 2) (Nat.le_of_ble_eq_true rfl)
  rw [lg_entry_eq]
  generalize (lg_sl ([.ref (Q 0), .int x]) ++ List.replicate (2 - (lg_sl ([.ref (Q 0), .int x])).length) Slot.unset).toArray = ls at hl ⊢
  have hl : lv_has ls 2 [(0, .ref (Q 0)), (1, .int x)] := hl
  have lk0 := hts (.fieldLink RX4 91 "ClaimRowsModel" "claims" "I") (List.mem_cons_of_mem _ wd_288)
  have in0 : ∀ w ∈ u_ws RX4 TX4 33, w ∈ wsX4_isClaim := fun w h => List.mem_cons_of_mem _ (wu_X4 w h)
  refine lv_iload_n hx hb dX4_isClaim_0 rfl (lv_at hl 1 rfl) ?_
  refine lv_iconst (v := 1) hx hb dX4_isClaim_1 (by decide) ?_
  refine lv_icmp_lt (tgt := 17) hx hb dX4_isClaim_2 (by decide) (fun c2 => ?_) (fun c2 => ?_)
  · refine lv_iconst (v := 0) hx hb dX4_isClaim_17 (by decide) ?_
    exact W.zret (v := 0) hx hb hr (by decide) (fun t ht hW => ⟨0, rfl, ((bb_f (fun q => absurd q.1 (Int32.not_le.mpr c2))).symm), ht⟩) (fun q h => by cases h) dX4_isClaim_18
  · refine lv_iload_n hx hb dX4_isClaim_5 rfl (lv_at hl 1 rfl) ?_
    refine lv_aload_n hx hb dX4_isClaim_6 rfl (lv_at hl 0 rfl) ?_
    refine va_get (D := (dC, dI)) (ci := 4) (v := .int (σ.1 1)) (C := RX4) (T := TX4) (N := 33) hx hb hts in0 hown hK hP 0 (xm_W_0 _ _) rfl 12 (by decide) lk0 (fun _ h9 => h9) rfl dX4_isClaim_7 ?_
    refine lv_icmp_gt (tgt := 17) hx hb dX4_isClaim_10 (by decide) (fun c10 => ?_) (fun c10 => ?_)
    · refine lv_iconst (v := 0) hx hb dX4_isClaim_17 (by decide) ?_
      exact W.zret (v := 0) hx hb hr (by decide) (fun t ht hW => ⟨0, rfl, ((bb_f (fun q => absurd q.2 (Int32.not_le.mpr c10))).symm), ht⟩) (fun q h => by cases h) dX4_isClaim_18
    · refine lv_iconst (v := 1) hx hb dX4_isClaim_13 (by decide) ?_
      refine lv_goto (tgt := 18) hx hb dX4_isClaim_14 (by decide) ?_
      exact W.zret (v := 1) hx hb hr (by decide) (fun t ht hW => ⟨1, rfl, ((bb_t ⟨Int32.not_lt.mp c2, Int32.not_lt.mp c10⟩).symm), ht⟩) (fun q h => by cases h) dX4_isClaim_18
set_option maxHeartbeats 4000000 in
set_option maxRecDepth 100000 in
/-- mr_send -/
theorem mr_send (l : Launch) (dC : Nat → ClassId) (dI : Nat → Nat → Nat) (cA : Nat → ClassId) (sz : Nat) (Q : Nat → Nat) (σ : xs_T) (L : List Nat) (f : Nat → va_E) (mq : Nat) (hm : σ.1 4 = nI mq) (hb9 : mq < 1000000) (x k : Int32) : Met l yX4_send wsX4_send ({ frames := 0, cells := 0, slots := 0, locals := 0 }) (va_Pc [.ref (Q 0), .int x, .int k] (ct_M (dC, dI) vwCl (ty_K cA) (xm_W Q cA σ ++ va_pl L f) sz)) (va_Qv (fun u => u = sm_nd σ x k) (fun u t => ct_B (dC, dI) vwCl (ty_K cA) (va_A (xm_W Q cA σ ++ va_pl L f) sz) (xm_W Q cA u ++ va_pl L f) t) (va_A (xm_W Q cA σ ++ va_pl L f) sz)) 0 0 (va_A (xm_W Q cA σ ++ va_pl L f) sz) := by
  refine Met.ofW (cc := cX4_send) (maxL := 3) (ret := none) (by decide) rfl ?_
  intro p e s m args below meth c s₁ B hml hv
  obtain ⟨rfl, hsz, hP, hK, hD0⟩ := hv
  have hx := B.exec
  have hb := B.bytes
  have hr := B.returns
  have hts := atoms_spec (ws := wsX4_send) B.pre
  have hown : s.vm.findClass RX4 = some m.cls := findClass_of_methodNamed B.named
  have hlocks := B.notSynchronized
  subst hsz
  have hD := hD0.self (sz := s.heap.size)
  generalize hAe : va_A (xm_W Q cA σ ++ va_pl L f) s.heap.size = A at hD ⊢
  have hA : ∀ q : Nat, s.heap.size ≤ q → A q := fun q h => by rw [← hAe]; exact Or.inr h
  clear hAe hD0
  have hS : va_S A s.heap s.heap [] := va_S.rf
  have hl := lv_entry ([.ref (Q 0), .int x, .int k]) (n := 3) (Nat.le_of_ble_eq_true rfl)
  rw [lg_entry_eq]
  generalize (lg_sl ([.ref (Q 0), .int x, .int k]) ++ List.replicate (3 - (lg_sl ([.ref (Q 0), .int x, .int k])).length) Slot.unset).toArray = ls at hl ⊢
  have hl : lv_has ls 3 [(0, .ref (Q 0)), (1, .int x), (2, .int k)] := hl
  have lk0 := hts (.fieldLink RX4 94 "ClaimRowsModel" "letters" "I") (List.mem_cons_of_mem _ wd_303)
  have lk1 := hts (.fieldLink RX4 81 "ClaimRowsModel" "letterClaims" "[I") (List.mem_cons_of_mem _ wd_304)
  have lk2 := hts (.fieldLink RX4 84 "ClaimRowsModel" "letterKinds" "[I") (List.mem_cons_of_mem _ wd_305)
  have in0 : ∀ w ∈ u_ws RX4 TX4 33, w ∈ wsX4_send := fun w h => List.mem_cons_of_mem _ (wu_X4 w h)
  refine lv_aload_n hx hb dX4_send_0 rfl (lv_at hl 0 rfl) ?_
  refine va_get (D := (dC, dI)) (ci := 4) (v := .int (σ.1 4)) (C := RX4) (T := TX4) (N := 33) hx hb hts in0 hown hK hP 0 (xm_W_0 _ _) rfl 27 (by decide) lk0 (fun _ h9 => h9) rfl dX4_send_1 ?_
  refine lv_sipush (v := 200) hx hb dX4_send_4 (by decide) ?_
  refine lv_icmp_ge (tgt := 30) hx hb dX4_send_7 (by decide) (fun c7 => ?_) (fun c7 => ?_)
  · refine lv_aload_n hx hb dX4_send_30 rfl (lv_at hl 0 rfl) ?_
    refine lv_dup hx hb dX4_send_31 rfl ?_
    refine va_get (D := (dC, dI)) (ci := 4) (v := .int (σ.1 4)) (C := RX4) (T := TX4) (N := 33) hx hb hts in0 hown hK hP 0 (xm_W_0 _ _) rfl 27 (by decide) lk0 (fun _ h9 => h9) rfl dX4_send_32 ?_
    refine lv_iconst (v := 1) hx hb dX4_send_35 (by decide) ?_
    refine lv_iadd hx hb dX4_send_36 ?_
    refine va_put (D := (dC, dI)) (ci := 4) (v := .int ((σ.1 4) + 1)) (ty := .int) (C := RX4) (T := TX4) (N := 33) hx hb hts in0 tyX4 tyX4_ok nmX4 hown hK hP hD hS 0 (xm_W_0 _ _) rfl 27 (by decide) lk0 (fun _ h9 => h9) rfl (by decide +kernel) rfl rfl (Nat.le_of_ble_eq_true rfl) dX4_send_37 (fun H locs hP hD hS => ?_)
    have hP : va_P (dC, dI) vwCl (xm_W Q cA (xs_i σ 4 ((σ.1 4) + 1)) ++ va_pl L f) H := hP
    have hD : va_D A (xm_W Q cA (xs_i σ 4 ((σ.1 4) + 1)) ++ va_pl L f) := hD
    exact W.vret hx hb hr (fun t ht hW => ⟨⟨xs_i σ 4 ((σ.1 4) + 1), rfl, (by rw [sm_nd, if_neg (Int32.not_lt.mpr c7)]), by rw [ht]; exact hP, va_K.moved hW.alike hK, hD⟩, hS.F ht⟩) hS.2.2 dX4_send_40
  · refine lv_aload_n hx hb dX4_send_10 rfl (lv_at hl 0 rfl) ?_
    refine va_get (D := (dC, dI)) (ci := 4) (v := .ref (Q 24)) (C := RX4) (T := TX4) (N := 33) hx hb hts in0 hown hK hP 0 (xm_W_0 _ _) rfl 28 (by decide) lk1 (fun _ h9 => h9) rfl dX4_send_11 ?_
    refine lv_aload_n hx hb dX4_send_14 rfl (lv_at hl 0 rfl) ?_
    refine va_get (D := (dC, dI)) (ci := 4) (v := .int (σ.1 4)) (C := RX4) (T := TX4) (N := 33) hx hb hts in0 hown hK hP 0 (xm_W_0 _ _) rfl 27 (by decide) lk0 (fun _ h9 => h9) rfl dX4_send_15 ?_
    refine lv_iload_n hx hb dX4_send_18 rfl (lv_at hl 1 rfl) ?_
    refine va_iast hx hb hK hP hD hS 24 0 (xm_W_24 _ _) rfl (sd_in hm hb9 c7) dX4_send_19 (fun H locs hP hD hS => ?_)
    have hP : va_P (dC, dI) vwCl (xm_W Q cA (xs_ai σ 18 (upd (σ.2.2.1 18) ((σ.1 4)).toNatClampNeg x)) ++ va_pl L f) H := hP
    have hD : va_D A (xm_W Q cA (xs_ai σ 18 (upd (σ.2.2.1 18) ((σ.1 4)).toNatClampNeg x)) ++ va_pl L f) := hD
    refine lv_aload_n hx hb dX4_send_20 rfl (lv_at hl 0 rfl) ?_
    refine va_get (D := (dC, dI)) (ci := 4) (v := .ref (Q 25)) (C := RX4) (T := TX4) (N := 33) hx hb hts in0 hown hK hP 0 (xm_W_0 _ _) rfl 29 (by decide) lk2 (fun _ h9 => h9) rfl dX4_send_21 ?_
    refine lv_aload_n hx hb dX4_send_24 rfl (lv_at hl 0 rfl) ?_
    refine va_get (D := (dC, dI)) (ci := 4) (v := .int (σ.1 4)) (C := RX4) (T := TX4) (N := 33) hx hb hts in0 hown hK hP 0 (xm_W_0 _ _) rfl 27 (by decide) lk0 (fun _ h9 => h9) rfl dX4_send_25 ?_
    refine lv_iload_n hx hb dX4_send_28 rfl (lv_at hl 2 rfl) ?_
    refine va_iast hx hb hK hP hD hS 25 0 (xm_W_25 _ _) rfl (sd_in hm hb9 c7) dX4_send_29 (fun H locs hP hD hS => ?_)
    have hP : va_P (dC, dI) vwCl (xm_W Q cA (xs_ai (xs_ai σ 18 (upd (σ.2.2.1 18) ((σ.1 4)).toNatClampNeg x)) 19 (upd (σ.2.2.1 19) ((σ.1 4)).toNatClampNeg k)) ++ va_pl L f) H := hP
    have hD : va_D A (xm_W Q cA (xs_ai (xs_ai σ 18 (upd (σ.2.2.1 18) ((σ.1 4)).toNatClampNeg x)) 19 (upd (σ.2.2.1 19) ((σ.1 4)).toNatClampNeg k)) ++ va_pl L f) := hD
    refine lv_aload_n hx hb dX4_send_30 rfl (lv_at hl 0 rfl) ?_
    refine lv_dup hx hb dX4_send_31 rfl ?_
    refine va_get (D := (dC, dI)) (ci := 4) (v := .int (σ.1 4)) (C := RX4) (T := TX4) (N := 33) hx hb hts in0 hown hK hP 0 (xm_W_0 _ _) rfl 27 (by decide) lk0 (fun _ h9 => h9) rfl dX4_send_32 ?_
    refine lv_iconst (v := 1) hx hb dX4_send_35 (by decide) ?_
    refine lv_iadd hx hb dX4_send_36 ?_
    refine va_put (D := (dC, dI)) (ci := 4) (v := .int ((σ.1 4) + 1)) (ty := .int) (C := RX4) (T := TX4) (N := 33) hx hb hts in0 tyX4 tyX4_ok nmX4 hown hK hP hD hS 0 (xm_W_0 _ _) rfl 27 (by decide) lk0 (fun _ h9 => h9) rfl (by decide +kernel) rfl rfl (Nat.le_of_ble_eq_true rfl) dX4_send_37 (fun H locs hP hD hS => ?_)
    have hP : va_P (dC, dI) vwCl (xm_W Q cA (xs_i (xs_ai (xs_ai σ 18 (upd (σ.2.2.1 18) ((σ.1 4)).toNatClampNeg x)) 19 (upd (σ.2.2.1 19) ((σ.1 4)).toNatClampNeg k)) 4 ((σ.1 4) + 1)) ++ va_pl L f) H := hP
    have hD : va_D A (xm_W Q cA (xs_i (xs_ai (xs_ai σ 18 (upd (σ.2.2.1 18) ((σ.1 4)).toNatClampNeg x)) 19 (upd (σ.2.2.1 19) ((σ.1 4)).toNatClampNeg k)) 4 ((σ.1 4) + 1)) ++ va_pl L f) := hD
    exact W.vret hx hb hr (fun t ht hW => ⟨⟨xs_i (xs_ai (xs_ai σ 18 (upd (σ.2.2.1 18) ((σ.1 4)).toNatClampNeg x)) 19 (upd (σ.2.2.1 19) ((σ.1 4)).toNatClampNeg k)) 4 ((σ.1 4) + 1), rfl, (by rw [sm_nd, if_pos (Int32.not_le.mp c7)]), by rw [ht]; exact hP, va_K.moved hW.alike hK, hD⟩, hS.F ht⟩) hS.2.2 dX4_send_40
