set_option maxHeartbeats 4000000 in
set_option maxRecDepth 100000 in
/-- mt_isWithin -/
theorem mt_isWithin (l : Launch) (x0 x1 x2 : Int64) : Met l yX3_isWithin wsX3_isWithin ({ frames := 0, cells := 0, slots := 0, locals := 0 }) (va_Pc [.long x0, .long x1, .long x2] (fun _ => True)) (vp_Si (fun r => r = bb_v (decide (x1 ≤ x0 ∧ x0 ≤ x2)))) 0 0 (fun _ => False) := by
  refine Met.ofW (cc := cX3_isWithin) (maxL := 6) (ret := (some .boolean)) (by decide) rfl ?_
  intro p e s m args below meth c s₁ B hml hv
  obtain ⟨rfl, -⟩ := hv
  have hx := B.exec
  have hb := B.bytes
  have hr := B.returns
  have hts := atoms_spec (ws := wsX3_isWithin) B.pre
  have hown : s.vm.findClass RX3 = some m.cls := findClass_of_methodNamed B.named
  have hlocks := B.notSynchronized
  have hl := lv_entry ([.long x0, .long x1, .long x2]) (n := 6) (Nat.le_of_ble_eq_true rfl)
  rw [lg_entry_eq]
  generalize (lg_sl ([.long x0, .long x1, .long x2]) ++ List.replicate (6 - (lg_sl ([.long x0, .long x1, .long x2])).length) Slot.unset).toArray = ls at hl ⊢
  have hl : lv_has ls 6 [(0, .long x0), (2, .long x1), (4, .long x2)] := hl
  refine lv_lload_n hx hb dX3_isWithin_0 rfl (lv_at hl 0 rfl) ?_
  refine lv_lload_n hx hb dX3_isWithin_1 rfl (lv_at hl 1 rfl) ?_
  refine W.lcmp hx hb dX3_isWithin_2 ?_
  refine lv_if_lt (tgt := 17) hx hb dX3_isWithin_3 (by decide) (fun c3 => ?_) (fun c3 => ?_)
  · refine lv_iconst (v := 0) hx hb dX3_isWithin_17 (by decide) ?_
    exact W.zret (v := 0) hx hb hr (by decide) (fun t ht hW => ⟨0, rfl, ((bb_f (fun q => absurd q.1 (Int64.not_le.mpr (lc_lt.mp c3)))).symm), ht⟩) (fun q h => by cases h) dX3_isWithin_18
  · refine lv_lload_n hx hb dX3_isWithin_6 rfl (lv_at hl 0 rfl) ?_
    refine lv_lload hx hb dX3_isWithin_7 (lv_at hl 2 rfl) ?_
    refine W.lcmp hx hb dX3_isWithin_9 ?_
    refine lv_if_gt (tgt := 17) hx hb dX3_isWithin_10 (by decide) (fun c10 => ?_) (fun c10 => ?_)
    · refine lv_iconst (v := 0) hx hb dX3_isWithin_17 (by decide) ?_
      exact W.zret (v := 0) hx hb hr (by decide) (fun t ht hW => ⟨0, rfl, ((bb_f (fun q => absurd q.2 (Int64.not_le.mpr (lc_gt.mp c10)))).symm), ht⟩) (fun q h => by cases h) dX3_isWithin_18
    · refine lv_iconst (v := 1) hx hb dX3_isWithin_13 (by decide) ?_
      refine lv_goto (tgt := 18) hx hb dX3_isWithin_14 (by decide) ?_
      exact W.zret (v := 1) hx hb hr (by decide) (fun t ht hW => ⟨1, rfl, ((bb_t ⟨Int64.not_lt.mp (fun q => c3 (lc_lt.mpr q)), Int64.not_lt.mp (fun q => c10 (lc_gt.mpr q))⟩).symm), ht⟩) (fun q h => by cases h) dX3_isWithin_18
set_option maxHeartbeats 4000000 in
set_option maxRecDepth 100000 in
/-- mt_isBelow -/
theorem mt_isBelow (l : Launch) (x0 x1 : Int32) : Met l yX3_isBelow wsX3_isBelow ({ frames := 0, cells := 0, slots := 0, locals := 0 }) (va_Pc [.int x0, .int x1] (fun _ => True)) (vp_Si (fun r => r = bb_v (decide (0 ≤ x0 ∧ x0 < x1)))) 0 0 (fun _ => False) := by
  refine Met.ofW (cc := cX3_isBelow) (maxL := 2) (ret := (some .boolean)) (by decide) rfl ?_
  intro p e s m args below meth c s₁ B hml hv
  obtain ⟨rfl, -⟩ := hv
  have hx := B.exec
  have hb := B.bytes
  have hr := B.returns
  have hts := atoms_spec (ws := wsX3_isBelow) B.pre
  have hown : s.vm.findClass RX3 = some m.cls := findClass_of_methodNamed B.named
  have hlocks := B.notSynchronized
  have hl := lv_entry ([.int x0, .int x1]) (n := 2) (Nat.le_of_ble_eq_true rfl)
  rw [lg_entry_eq]
  generalize (lg_sl ([.int x0, .int x1]) ++ List.replicate (2 - (lg_sl ([.int x0, .int x1])).length) Slot.unset).toArray = ls at hl ⊢
  have hl : lv_has ls 2 [(0, .int x0), (1, .int x1)] := hl
  refine lv_iload_n hx hb dX3_isBelow_0 rfl (lv_at hl 0 rfl) ?_
  refine lv_if_lt (tgt := 13) hx hb dX3_isBelow_1 (by decide) (fun c1 => ?_) (fun c1 => ?_)
  · refine lv_iconst (v := 0) hx hb dX3_isBelow_13 (by decide) ?_
    exact W.zret (v := 0) hx hb hr (by decide) (fun t ht hW => ⟨0, rfl, ((bb_f (fun q => absurd q.1 (Int32.not_le.mpr c1))).symm), ht⟩) (fun q h => by cases h) dX3_isBelow_14
  · refine lv_iload_n hx hb dX3_isBelow_4 rfl (lv_at hl 0 rfl) ?_
    refine lv_iload_n hx hb dX3_isBelow_5 rfl (lv_at hl 1 rfl) ?_
    refine lv_icmp_ge (tgt := 13) hx hb dX3_isBelow_6 (by decide) (fun c6 => ?_) (fun c6 => ?_)
    · refine lv_iconst (v := 0) hx hb dX3_isBelow_13 (by decide) ?_
      exact W.zret (v := 0) hx hb hr (by decide) (fun t ht hW => ⟨0, rfl, ((bb_f (fun q => absurd q.2 (Int32.not_lt.mpr c6))).symm), ht⟩) (fun q h => by cases h) dX3_isBelow_14
    · refine lv_iconst (v := 1) hx hb dX3_isBelow_9 (by decide) ?_
      refine lv_goto (tgt := 14) hx hb dX3_isBelow_10 (by decide) ?_
      exact W.zret (v := 1) hx hb hr (by decide) (fun t ht hW => ⟨1, rfl, ((bb_t ⟨Int32.not_lt.mp c1, Int32.not_le.mp c6⟩).symm), ht⟩) (fun q h => by cases h) dX3_isBelow_14
set_option maxHeartbeats 4000000 in
set_option maxRecDepth 100000 in
/-- mt_areCents -/
theorem mt_areCents (l : Launch) (x0 : Int64) : Met l yX3_areCents wsX3_areCents ({ frames := 1, cells := 0, slots := 0, locals := 25 }) (va_Pc [.long x0] (fun _ => True)) (vp_Si (fun r => r = bb_v (decide (0 ≤ x0 ∧ x0 ≤ 10000000)))) 0 0 (fun _ => False) := by
  refine Met.ofW (cc := cX3_areCents) (maxL := 2) (ret := (some .boolean)) (by decide) rfl ?_
  intro p e s m args below meth c s₁ B hml hv
  obtain ⟨rfl, -⟩ := hv
  have hx := B.exec
  have hb := B.bytes
  have hr := B.returns
  have hts := atoms_spec (ws := wsX3_areCents) B.pre
  have hown : s.vm.findClass RX3 = some m.cls := findClass_of_methodNamed B.named
  have hlocks := B.notSynchronized
  have hl := lv_entry ([.long x0]) (n := 2) (Nat.le_of_ble_eq_true rfl)
  rw [lg_entry_eq]
  generalize (lg_sl ([.long x0]) ++ List.replicate (2 - (lg_sl ([.long x0])).length) Slot.unset).toArray = ls at hl ⊢
  have hl : lv_has ls 2 [(0, .long x0)] := hl
  have lk0 := hts (.constantLong RX3 236 10000000) (List.mem_cons_of_mem _ wd_47)
  refine lv_lload_n hx hb dX3_areCents_0 rfl (lv_at hl 0 rfl) ?_
  refine lv_lconst (v := 0) hx hb dX3_areCents_1 (by decide) ?_
  refine lv_ldc2 hx hb hown lk0 dX3_areCents_2 ?_
  refine vp_callSi (va_Run.run (va_runS (As := [.long x0, .long 0, .long 10000000]) (rest := []) ⟨hx, hb, hml, hown, hts⟩ (mt_isWithin l x0 0 10000000) (va_cwS 3 hts (al_gS wd_48 wd_49 wd_1 wd_50) rfl rfl rfl (by decide +kernel) ⟨Nat.le_of_ble_eq_true rfl, Nat.le_of_ble_eq_true rfl⟩) ⟨ct_bl0, ct_at0⟩ rfl rfl hl.1 rfl (lv_room (Nat.le_of_ble_eq_true rfl)) dX3_areCents_5 ⟨Nat.le_of_ble_eq_true rfl, Nat.le_of_ble_eq_true rfl⟩)) (fun r5 hr5 => ?_)
  subst hr5
  exact W.zret (v := (bb_v (decide (0 ≤ x0 ∧ x0 ≤ 10000000)))) hx hb hr bb_nar (fun t ht hW => ⟨(bb_v (decide (0 ≤ x0 ∧ x0 ≤ 10000000))), rfl, rfl, ht⟩) (fun q h => by cases h) dX3_areCents_8
set_option maxHeartbeats 4000000 in
set_option maxRecDepth 100000 in
/-- mt_rowOf -/
theorem mt_rowOf (l : Launch) (x0 x1 : Int32) : Met l yX3_rowOf wsX3_rowOf ({ frames := 0, cells := 0, slots := 0, locals := 0 }) (va_Pc [.int x0, .int x1] (fun _ => True)) (vp_Si (fun r => r = x0 * 4 + x1)) 0 0 (fun _ => False) := by
  refine Met.ofW (cc := cX3_rowOf) (maxL := 2) (ret := (some .int)) (by decide) rfl ?_
  intro p e s m args below meth c s₁ B hml hv
  obtain ⟨rfl, -⟩ := hv
  have hx := B.exec
  have hb := B.bytes
  have hr := B.returns
  have hts := atoms_spec (ws := wsX3_rowOf) B.pre
  have hown : s.vm.findClass RX3 = some m.cls := findClass_of_methodNamed B.named
  have hlocks := B.notSynchronized
  have hl := lv_entry ([.int x0, .int x1]) (n := 2) (Nat.le_of_ble_eq_true rfl)
  rw [lg_entry_eq]
  generalize (lg_sl ([.int x0, .int x1]) ++ List.replicate (2 - (lg_sl ([.int x0, .int x1])).length) Slot.unset).toArray = ls at hl ⊢
  have hl : lv_has ls 2 [(0, .int x0), (1, .int x1)] := hl
  refine lv_iload_n hx hb dX3_rowOf_0 rfl (lv_at hl 0 rfl) ?_
  refine lv_iconst (v := 4) hx hb dX3_rowOf_1 (by decide) ?_
  refine lv_imul hx hb dX3_rowOf_2 ?_
  refine lv_iload_n hx hb dX3_rowOf_3 rfl (lv_at hl 1 rfl) ?_
  refine lv_iadd hx hb dX3_rowOf_4 ?_
  exact W.iret (v := ((x0 * 4) + x1)) hx hb hr (fun t ht hW => ⟨((x0 * 4) + x1), rfl, rfl, ht⟩) (fun q h => by cases h) dX3_rowOf_5
set_option maxHeartbeats 4000000 in
set_option maxRecDepth 100000 in
/-- mt_mayClaim -/
theorem mt_mayClaim (l : Launch) (x0 x1 : Int32) : Met l yX3_mayClaim wsX3_mayClaim ({ frames := 0, cells := 0, slots := 0, locals := 0 }) (va_Pc [.int x0, .int x1] (fun _ => True)) (vp_Si (fun r => r = bb_v (decide (x1 = 0 ∨ (x1 = 1 ∧ (x0 = 1 ∨ x0 = 2)))))) 0 0 (fun _ => False) := by
  refine Met.ofW (cc := cX3_mayClaim) (maxL := 2) (ret := (some .boolean)) (by decide) rfl ?_
  intro p e s m args below meth c s₁ B hml hv
  obtain ⟨rfl, -⟩ := hv
  have hx := B.exec
  have hb := B.bytes
  have hr := B.returns
  have hts := atoms_spec (ws := wsX3_mayClaim) B.pre
  have hown : s.vm.findClass RX3 = some m.cls := findClass_of_methodNamed B.named
  have hlocks := B.notSynchronized
  have hl := lv_entry ([.int x0, .int x1]) (n := 2) (Nat.le_of_ble_eq_true rfl)
  rw [lg_entry_eq]
  generalize (lg_sl ([.int x0, .int x1]) ++ List.replicate (2 - (lg_sl ([.int x0, .int x1])).length) Slot.unset).toArray = ls at hl ⊢
  have hl : lv_has ls 2 [(0, .int x0), (1, .int x1)] := hl
  refine lv_iload_n hx hb dX3_mayClaim_0 rfl (lv_at hl 1 rfl) ?_
  refine lv_if_ne (tgt := 6) hx hb dX3_mayClaim_1 (by decide) (fun c1 => ?_) (fun c1 => ?_)
  · refine lv_iload_n hx hb dX3_mayClaim_6 rfl (lv_at hl 1 rfl) ?_
    refine lv_iconst (v := 1) hx hb dX3_mayClaim_7 (by decide) ?_
    refine lv_icmp_ne (tgt := 25) hx hb dX3_mayClaim_8 (by decide) (fun c8 => ?_) (fun c8 => ?_)
    · refine lv_iconst (v := 0) hx hb dX3_mayClaim_25 (by decide) ?_
      exact W.zret (v := 0) hx hb hr (by decide) (fun t ht hW => ⟨0, rfl, (by simp_all [bb_v]), ht⟩) (fun q h => by cases h) dX3_mayClaim_26
    · refine lv_iload_n hx hb dX3_mayClaim_11 rfl (lv_at hl 0 rfl) ?_
      refine lv_iconst (v := 1) hx hb dX3_mayClaim_12 (by decide) ?_
      refine lv_icmp_eq (tgt := 21) hx hb dX3_mayClaim_13 (by decide) (fun c13 => ?_) (fun c13 => ?_)
      · refine lv_iconst (v := 1) hx hb dX3_mayClaim_21 (by decide) ?_
        refine lv_goto (tgt := 26) hx hb dX3_mayClaim_22 (by decide) ?_
        exact W.zret (v := 1) hx hb hr (by decide) (fun t ht hW => ⟨1, rfl, (by simp_all [bb_v]), ht⟩) (fun q h => by cases h) dX3_mayClaim_26
      · refine lv_iload_n hx hb dX3_mayClaim_16 rfl (lv_at hl 0 rfl) ?_
        refine lv_iconst (v := 2) hx hb dX3_mayClaim_17 (by decide) ?_
        refine lv_icmp_ne (tgt := 25) hx hb dX3_mayClaim_18 (by decide) (fun c18 => ?_) (fun c18 => ?_)
        · refine lv_iconst (v := 0) hx hb dX3_mayClaim_25 (by decide) ?_
          exact W.zret (v := 0) hx hb hr (by decide) (fun t ht hW => ⟨0, rfl, (by simp_all [bb_v]), ht⟩) (fun q h => by cases h) dX3_mayClaim_26
        · refine lv_iconst (v := 1) hx hb dX3_mayClaim_21 (by decide) ?_
          refine lv_goto (tgt := 26) hx hb dX3_mayClaim_22 (by decide) ?_
          exact W.zret (v := 1) hx hb hr (by decide) (fun t ht hW => ⟨1, rfl, (by simp_all [bb_v]), ht⟩) (fun q h => by cases h) dX3_mayClaim_26
  · refine lv_iconst (v := 1) hx hb dX3_mayClaim_4 (by decide) ?_
    exact W.zret (v := 1) hx hb hr (by decide) (fun t ht hW => ⟨1, rfl, (by simp_all [bb_v]), ht⟩) (fun q h => by cases h) dX3_mayClaim_5
