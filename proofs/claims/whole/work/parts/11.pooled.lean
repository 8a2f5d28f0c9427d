set_option maxHeartbeats 4000000 in
set_option maxRecDepth 100000 in
/-- mt_addSearch -/
theorem mt_addSearch (l : Launch) (dC : Nat → ClassId) (dI : Nat → Nat → Nat) (cA : Nat → ClassId) (sz : Nat) (X : va_W) (L : List Nat) (f : Nat → va_E) (a : Nat) (ha : a ∈ L) (v0 : Int32) (v1 : Int32) (v2 : Nat) (v3 : Int32) (v4 : Int32) (v5 : Int32) (v6 : Int32) (v7 : Int32) (v8 : Int32) (v9 : Int32) (v10 : Int32) (v11 : Int32) (v12 : Int64) (hf : f a = .inr (0, [.int v0, .int v1, .ref v2, .int v3, .int v4, .int v5, .int v6, .int v7, .int v8, .int v9, .int v10, .int v11, .long v12]))  : Met l yX0_addSearch wsX0_addSearch ({ frames := 0, cells := 0, slots := 0, locals := 0 }) (va_Pc [.ref a] (ct_M (dC, dI) vwCl (ty_K cA) (X ++ va_pl L f) sz)) (va_Qv (fun u => u = (L, va_up f a (.inr (0, [.int v0, .int v1, .ref v2, .int v3, .int v4, .int v5, .int v6, .int (v7 + 1), .int (v8 + 1), .int v9, .int v10, .int v11, .long v12])))) (fun u t => ct_B (dC, dI) vwCl (ty_K cA) (va_A (X ++ va_pl L f) sz) (X ++ va_pl u.1 u.2) t) (va_A (X ++ va_pl L f) sz)) 0 0 (va_A (X ++ va_pl L f) sz) := by
  refine Met.ofW (cc := cX0_addSearch) (maxL := 1) (ret := none) (by decide) rfl ?_
  intro p e s m args below meth c s₁ B hml hv
  obtain ⟨rfl, hsz, hP, hK, hD0⟩ := hv
  have hx := B.exec
  have hb := B.bytes
  have hr := B.returns
  have hts := atoms_spec (ws := wsX0_addSearch) B.pre
  have hown : s.vm.findClass RX0 = some m.cls := findClass_of_methodNamed B.named
  have hlocks := B.notSynchronized
  subst hsz
  have hD := hD0.self (sz := s.heap.size)
  generalize hAe : va_A (X ++ va_pl L f) s.heap.size = A at hD ⊢
  have hA : ∀ q : Nat, s.heap.size ≤ q → A q := fun q h => by rw [← hAe]; exact Or.inr h
  clear hAe hD0
  have hS : va_S A s.heap s.heap [] := va_S.rf
  have hl := lv_entry ([.ref a]) (n := 1) (Nat.le_of_ble_eq_true rfl)
  rw [lg_entry_eq]
  generalize (lg_sl ([.ref a]) ++ List.replicate (1 - (lg_sl ([.ref a])).length) Slot.unset).toArray = ls at hl ⊢
  have hl : lv_has ls 1 [(0, .ref a)] := hl
  have lk0 := hts (.fieldLink RX0 42 "ClaimRows$Claim" "searched" "I") (List.mem_cons_of_mem _ wd_132)
  have lk1 := hts (.fieldLink RX0 45 "ClaimRows$Claim" "unanswered" "I") (List.mem_cons_of_mem _ wd_133)
  have in0 : ∀ w ∈ u_ws RX0 TX0 13, w ∈ wsX0_addSearch := fun w h => List.mem_cons_of_mem _ (wu_X0 w h)
  refine lv_aload_n hx hb dX0_addSearch_0 rfl (lv_at hl 0 rfl) ?_
  refine lv_dup hx hb dX0_addSearch_1 rfl ?_
  refine hp_get (D := (dC, dI)) (ci := 0) (v := .int v7) (C := RX0) (T := TX0) (N := 13) hx hb hts in0 hown hK hP ha hf rfl 7 (by decide) lk0 (fun _ h9 => h9) rfl dX0_addSearch_2 ?_
  refine lv_iconst (v := 1) hx hb dX0_addSearch_5 (by decide) ?_
  refine lv_iadd hx hb dX0_addSearch_6 ?_
  refine hp_put (D := (dC, dI)) (ci := 0) (v := .int (v7 + 1)) (ty := .int) (C := RX0) (T := TX0) (N := 13) hx hb hts in0 tyX0 tyX0_ok nmX0 hown hK hP hD hS ha hf rfl 7 (by decide) lk0 (fun _ h9 => h9) rfl (by decide +kernel) rfl rfl (Nat.le_of_ble_eq_true rfl) dX0_addSearch_7 (fs' := [.int v0, .int v1, .ref v2, .int v3, .int v4, .int v5, .int v6, .int (v7 + 1), .int v8, .int v9, .int v10, .int v11, .long v12]) rfl (fun H locs hP hD hS => ?_)
  obtain ⟨f_1, ef_1⟩ : ∃ y9, y9 = va_up f a (.inr (0, [.int v0, .int v1, .ref v2, .int v3, .int v4, .int v5, .int v6, .int (v7 + 1), .int v8, .int v9, .int v10, .int v11, .long v12])) := ⟨_, rfl⟩
  rw [← ef_1] at hP hD
  have hf_1_a : f_1 a = .inr (0, [.int v0, .int v1, .ref v2, .int v3, .int v4, .int v5, .int v6, .int (v7 + 1), .int v8, .int v9, .int v10, .int v11, .long v12]) := by rw [ef_1]; exact va_up_self _ _ _
  refine lv_aload_n hx hb dX0_addSearch_10 rfl (lv_at hl 0 rfl) ?_
  refine lv_dup hx hb dX0_addSearch_11 rfl ?_
  refine hp_get (D := (dC, dI)) (ci := 0) (v := .int v8) (C := RX0) (T := TX0) (N := 13) hx hb hts in0 hown hK hP ha hf_1_a rfl 8 (by decide) lk1 (fun _ h9 => h9) rfl dX0_addSearch_12 ?_
  refine lv_iconst (v := 1) hx hb dX0_addSearch_15 (by decide) ?_
  refine lv_iadd hx hb dX0_addSearch_16 ?_
  refine hp_put (D := (dC, dI)) (ci := 0) (v := .int (v8 + 1)) (ty := .int) (C := RX0) (T := TX0) (N := 13) hx hb hts in0 tyX0 tyX0_ok nmX0 hown hK hP hD hS ha hf_1_a rfl 8 (by decide) lk1 (fun _ h9 => h9) rfl (by decide +kernel) rfl rfl (Nat.le_of_ble_eq_true rfl) dX0_addSearch_17 (fs' := [.int v0, .int v1, .ref v2, .int v3, .int v4, .int v5, .int v6, .int (v7 + 1), .int (v8 + 1), .int v9, .int v10, .int v11, .long v12]) rfl (fun H locs hP hD hS => ?_)
  obtain ⟨f_2, ef_2⟩ : ∃ y9, y9 = va_up f_1 a (.inr (0, [.int v0, .int v1, .ref v2, .int v3, .int v4, .int v5, .int v6, .int (v7 + 1), .int (v8 + 1), .int v9, .int v10, .int v11, .long v12])) := ⟨_, rfl⟩
  rw [← ef_2] at hP hD
  have hf_2_a : f_2 a = .inr (0, [.int v0, .int v1, .ref v2, .int v3, .int v4, .int v5, .int v6, .int (v7 + 1), .int (v8 + 1), .int v9, .int v10, .int v11, .long v12]) := by rw [ef_2]; exact va_up_self _ _ _
  exact W.vret hx hb hr (fun t ht hW => ⟨⟨(L, f_2), rfl, (by rw [ef_2, ef_1]; rw [bx_uu]), by rw [ht]; exact hP, va_K.moved hW.alike hK, hD⟩, hS.F ht⟩) hS.2.2 dX0_addSearch_20
set_option maxHeartbeats 4000000 in
set_option maxRecDepth 100000 in
/-- mt_endSearch -/
theorem mt_endSearch (l : Launch) (dC : Nat → ClassId) (dI : Nat → Nat → Nat) (cA : Nat → ClassId) (sz : Nat) (X : va_W) (L : List Nat) (f : Nat → va_E) (a : Nat) (ha : a ∈ L) (v0 : Int32) (v1 : Int32) (v2 : Nat) (v3 : Int32) (v4 : Int32) (v5 : Int32) (v6 : Int32) (v7 : Int32) (v8 : Int32) (v9 : Int32) (v10 : Int32) (v11 : Int32) (v12 : Int64) (hf : f a = .inr (0, [.int v0, .int v1, .ref v2, .int v3, .int v4, .int v5, .int v6, .int v7, .int v8, .int v9, .int v10, .int v11, .long v12])) (b : Bool) : Met l yX0_endSearch wsX0_endSearch ({ frames := 0, cells := 0, slots := 0, locals := 0 }) (va_Pc [.ref a, .int (bb_v b)] (ct_M (dC, dI) vwCl (ty_K cA) (X ++ va_pl L f) sz)) (va_Qv (fun u => u = (L, va_up f a (.inr (0, [.int v0, .int v1, .ref v2, .int v3, .int v4, .int v5, .int v6, .int v7, .int (v8 - 1), .int (if b then 1 else v9), .int v10, .int v11, .long v12])))) (fun u t => ct_B (dC, dI) vwCl (ty_K cA) (va_A (X ++ va_pl L f) sz) (X ++ va_pl u.1 u.2) t) (va_A (X ++ va_pl L f) sz)) 0 0 (va_A (X ++ va_pl L f) sz) := by
  refine Met.ofW (cc := cX0_endSearch) (maxL := 2) (ret := none) (by decide) rfl ?_
  intro p e s m args below meth c s₁ B hml hv
  obtain ⟨rfl, hsz, hP, hK, hD0⟩ := hv
  have hx := B.exec
  have hb := B.bytes
  have hr := B.returns
  have hts := atoms_spec (ws := wsX0_endSearch) B.pre
  have hown : s.vm.findClass RX0 = some m.cls := findClass_of_methodNamed B.named
  have hlocks := B.notSynchronized
  subst hsz
  have hD := hD0.self (sz := s.heap.size)
  generalize hAe : va_A (X ++ va_pl L f) s.heap.size = A at hD ⊢
  have hA : ∀ q : Nat, s.heap.size ≤ q → A q := fun q h => by rw [← hAe]; exact Or.inr h
  clear hAe hD0
  have hS : va_S A s.heap s.heap [] := va_S.rf
  have hl := lv_entry ([.ref a, .int (bb_v b)]) (n := 2) (Nat.le_of_ble_eq_true rfl)
  rw [lg_entry_eq]
  generalize (lg_sl ([.ref a, .int (bb_v b)]) ++ List.replicate (2 - (lg_sl ([.ref a, .int (bb_v b)])).length) Slot.unset).toArray = ls at hl ⊢
  have hl : lv_has ls 2 [(0, .ref a), (1, .int (bb_v b))] := hl
  have lk0 := hts (.fieldLink RX0 45 "ClaimRows$Claim" "unanswered" "I") (List.mem_cons_of_mem _ wd_133)
  have lk1 := hts (.fieldLink RX0 48 "ClaimRows$Claim" "seenWhole" "Z") (List.mem_cons_of_mem _ wd_135)
  have in0 : ∀ w ∈ u_ws RX0 TX0 13, w ∈ wsX0_endSearch := fun w h => List.mem_cons_of_mem _ (wu_X0 w h)
  refine lv_aload_n hx hb dX0_endSearch_0 rfl (lv_at hl 0 rfl) ?_
  refine lv_dup hx hb dX0_endSearch_1 rfl ?_
  refine hp_get (D := (dC, dI)) (ci := 0) (v := .int v8) (C := RX0) (T := TX0) (N := 13) hx hb hts in0 hown hK hP ha hf rfl 8 (by decide) lk0 (fun _ h9 => h9) rfl dX0_endSearch_2 ?_
  refine lv_iconst (v := 1) hx hb dX0_endSearch_5 (by decide) ?_
  refine lv_isub hx hb dX0_endSearch_6 ?_
  refine hp_put (D := (dC, dI)) (ci := 0) (v := .int (v8 - 1)) (ty := .int) (C := RX0) (T := TX0) (N := 13) hx hb hts in0 tyX0 tyX0_ok nmX0 hown hK hP hD hS ha hf rfl 8 (by decide) lk0 (fun _ h9 => h9) rfl (by decide +kernel) rfl rfl (Nat.le_of_ble_eq_true rfl) dX0_endSearch_7 (fs' := [.int v0, .int v1, .ref v2, .int v3, .int v4, .int v5, .int v6, .int v7, .int (v8 - 1), .int v9, .int v10, .int v11, .long v12]) rfl (fun H locs hP hD hS => ?_)
  obtain ⟨f_1, ef_1⟩ : ∃ y9, y9 = va_up f a (.inr (0, [.int v0, .int v1, .ref v2, .int v3, .int v4, .int v5, .int v6, .int v7, .int (v8 - 1), .int v9, .int v10, .int v11, .long v12])) := ⟨_, rfl⟩
  rw [← ef_1] at hP hD
  have hf_1_a : f_1 a = .inr (0, [.int v0, .int v1, .ref v2, .int v3, .int v4, .int v5, .int v6, .int v7, .int (v8 - 1), .int v9, .int v10, .int v11, .long v12]) := by rw [ef_1]; exact va_up_self _ _ _
  refine lv_iload_n hx hb dX0_endSearch_10 rfl (lv_at hl 1 rfl) ?_
  refine lv_if_eq (tgt := 19) hx hb dX0_endSearch_11 (by decide) (fun c11 => ?_) (fun c11 => ?_)
  · have c11 := bb_0.mp c11
    exact W.vret hx hb hr (fun t ht hW => ⟨⟨(L, f_1), rfl, (by subst c11; rw [ef_1]; (try simp only [bx_uu]); all_goals rfl), by rw [ht]; exact hP, va_K.moved hW.alike hK, hD⟩, hS.F ht⟩) hS.2.2 dX0_endSearch_19
  · have c11 := bb_n.mp c11
    refine lv_aload_n hx hb dX0_endSearch_14 rfl (lv_at hl 0 rfl) ?_
    refine lv_iconst (v := 1) hx hb dX0_endSearch_15 (by decide) ?_
    refine hp_put (D := (dC, dI)) (ci := 0) (v := .int 1) (ty := .boolean) (C := RX0) (T := TX0) (N := 13) hx hb hts in0 tyX0 tyX0_ok nmX0 hown hK hP hD hS ha hf_1_a rfl 9 (by decide) lk1 (fun _ h9 => h9) rfl (by decide +kernel) (by decide) rfl (Nat.le_of_ble_eq_true rfl) dX0_endSearch_16 (fs' := [.int v0, .int v1, .ref v2, .int v3, .int v4, .int v5, .int v6, .int v7, .int (v8 - 1), .int 1, .int v10, .int v11, .long v12]) rfl (fun H locs hP hD hS => ?_)
    obtain ⟨f_2, ef_2⟩ : ∃ y9, y9 = va_up f_1 a (.inr (0, [.int v0, .int v1, .ref v2, .int v3, .int v4, .int v5, .int v6, .int v7, .int (v8 - 1), .int 1, .int v10, .int v11, .long v12])) := ⟨_, rfl⟩
    rw [← ef_2] at hP hD
    have hf_2_a : f_2 a = .inr (0, [.int v0, .int v1, .ref v2, .int v3, .int v4, .int v5, .int v6, .int v7, .int (v8 - 1), .int 1, .int v10, .int v11, .long v12]) := by rw [ef_2]; exact va_up_self _ _ _
    exact W.vret hx hb hr (fun t ht hW => ⟨⟨(L, f_2), rfl, (by subst c11; rw [ef_2, ef_1]; (try simp only [bx_uu]); all_goals rfl), by rw [ht]; exact hP, va_K.moved hW.alike hK, hD⟩, hS.F ht⟩) hS.2.2 dX0_endSearch_19
set_option maxHeartbeats 4000000 in
set_option maxRecDepth 100000 in
/-- mt_reopen -/
theorem mt_reopen (l : Launch) (dC : Nat → ClassId) (dI : Nat → Nat → Nat) (cA : Nat → ClassId) (sz : Nat) (X : va_W) (L : List Nat) (f : Nat → va_E) (a : Nat) (ha : a ∈ L) (v0 : Int32) (v1 : Int32) (v2 : Nat) (v3 : Int32) (v4 : Int32) (v5 : Int32) (v6 : Int32) (v7 : Int32) (v8 : Int32) (v9 : Int32) (v10 : Int32) (v11 : Int32) (v12 : Int64) (hf : f a = .inr (0, [.int v0, .int v1, .ref v2, .int v3, .int v4, .int v5, .int v6, .int v7, .int v8, .int v9, .int v10, .int v11, .long v12]))  : Met l yX0_reopen wsX0_reopen ({ frames := 0, cells := 0, slots := 0, locals := 0 }) (va_Pc [.ref a] (ct_M (dC, dI) vwCl (ty_K cA) (X ++ va_pl L f) sz)) (va_Qv (fun u => u = (L, va_up f a (.inr (0, [.int v0, .int v1, .ref v2, .int v3, .int v4, .int 0, .int v6, .int 0, .int v8, .int 0, .int 1, .int v11, .long v12])))) (fun u t => ct_B (dC, dI) vwCl (ty_K cA) (va_A (X ++ va_pl L f) sz) (X ++ va_pl u.1 u.2) t) (va_A (X ++ va_pl L f) sz)) 0 0 (va_A (X ++ va_pl L f) sz) := by
  refine Met.ofW (cc := cX0_reopen) (maxL := 1) (ret := none) (by decide) rfl ?_
  intro p e s m args below meth c s₁ B hml hv
  obtain ⟨rfl, hsz, hP, hK, hD0⟩ := hv
  have hx := B.exec
  have hb := B.bytes
  have hr := B.returns
  have hts := atoms_spec (ws := wsX0_reopen) B.pre
  have hown : s.vm.findClass RX0 = some m.cls := findClass_of_methodNamed B.named
  have hlocks := B.notSynchronized
  subst hsz
  have hD := hD0.self (sz := s.heap.size)
  generalize hAe : va_A (X ++ va_pl L f) s.heap.size = A at hD ⊢
  have hA : ∀ q : Nat, s.heap.size ≤ q → A q := fun q h => by rw [← hAe]; exact Or.inr h
  clear hAe hD0
  have hS : va_S A s.heap s.heap [] := va_S.rf
  have hl := lv_entry ([.ref a]) (n := 1) (Nat.le_of_ble_eq_true rfl)
  rw [lg_entry_eq]
  generalize (lg_sl ([.ref a]) ++ List.replicate (1 - (lg_sl ([.ref a])).length) Slot.unset).toArray = ls at hl ⊢
  have hl : lv_has ls 1 [(0, .ref a)] := hl
  have lk0 := hts (.fieldLink RX0 9 "ClaimRows$Claim" "state" "I") (List.mem_cons_of_mem _ wd_128)
  have lk1 := hts (.fieldLink RX0 52 "ClaimRows$Claim" "appealed" "Z") (List.mem_cons_of_mem _ wd_137)
  have lk2 := hts (.fieldLink RX0 42 "ClaimRows$Claim" "searched" "I") (List.mem_cons_of_mem _ wd_132)
  have lk3 := hts (.fieldLink RX0 48 "ClaimRows$Claim" "seenWhole" "Z") (List.mem_cons_of_mem _ wd_135)
  have in0 : ∀ w ∈ u_ws RX0 TX0 13, w ∈ wsX0_reopen := fun w h => List.mem_cons_of_mem _ (wu_X0 w h)
  refine lv_aload_n hx hb dX0_reopen_0 rfl (lv_at hl 0 rfl) ?_
  refine lv_iconst (v := 0) hx hb dX0_reopen_1 (by decide) ?_
  refine hp_put (D := (dC, dI)) (ci := 0) (v := .int 0) (ty := .int) (C := RX0) (T := TX0) (N := 13) hx hb hts in0 tyX0 tyX0_ok nmX0 hown hK hP hD hS ha hf rfl 5 (by decide) lk0 (fun _ h9 => h9) rfl (by decide +kernel) rfl rfl (Nat.le_of_ble_eq_true rfl) dX0_reopen_2 (fs' := [.int v0, .int v1, .ref v2, .int v3, .int v4, .int 0, .int v6, .int v7, .int v8, .int v9, .int v10, .int v11, .long v12]) rfl (fun H locs hP hD hS => ?_)
  obtain ⟨f_1, ef_1⟩ : ∃ y9, y9 = va_up f a (.inr (0, [.int v0, .int v1, .ref v2, .int v3, .int v4, .int 0, .int v6, .int v7, .int v8, .int v9, .int v10, .int v11, .long v12])) := ⟨_, rfl⟩
  rw [← ef_1] at hP hD
  have hf_1_a : f_1 a = .inr (0, [.int v0, .int v1, .ref v2, .int v3, .int v4, .int 0, .int v6, .int v7, .int v8, .int v9, .int v10, .int v11, .long v12]) := by rw [ef_1]; exact va_up_self _ _ _
  refine lv_aload_n hx hb dX0_reopen_5 rfl (lv_at hl 0 rfl) ?_
  refine lv_iconst (v := 1) hx hb dX0_reopen_6 (by decide) ?_
  refine hp_put (D := (dC, dI)) (ci := 0) (v := .int 1) (ty := .boolean) (C := RX0) (T := TX0) (N := 13) hx hb hts in0 tyX0 tyX0_ok nmX0 hown hK hP hD hS ha hf_1_a rfl 10 (by decide) lk1 (fun _ h9 => h9) rfl (by decide +kernel) (by decide) rfl (Nat.le_of_ble_eq_true rfl) dX0_reopen_7 (fs' := [.int v0, .int v1, .ref v2, .int v3, .int v4, .int 0, .int v6, .int v7, .int v8, .int v9, .int 1, .int v11, .long v12]) rfl (fun H locs hP hD hS => ?_)
  obtain ⟨f_2, ef_2⟩ : ∃ y9, y9 = va_up f_1 a (.inr (0, [.int v0, .int v1, .ref v2, .int v3, .int v4, .int 0, .int v6, .int v7, .int v8, .int v9, .int 1, .int v11, .long v12])) := ⟨_, rfl⟩
  rw [← ef_2] at hP hD
  have hf_2_a : f_2 a = .inr (0, [.int v0, .int v1, .ref v2, .int v3, .int v4, .int 0, .int v6, .int v7, .int v8, .int v9, .int 1, .int v11, .long v12]) := by rw [ef_2]; exact va_up_self _ _ _
  refine lv_aload_n hx hb dX0_reopen_10 rfl (lv_at hl 0 rfl) ?_
  refine lv_iconst (v := 0) hx hb dX0_reopen_11 (by decide) ?_
  refine hp_put (D := (dC, dI)) (ci := 0) (v := .int 0) (ty := .int) (C := RX0) (T := TX0) (N := 13) hx hb hts in0 tyX0 tyX0_ok nmX0 hown hK hP hD hS ha hf_2_a rfl 7 (by decide) lk2 (fun _ h9 => h9) rfl (by decide +kernel) rfl rfl (Nat.le_of_ble_eq_true rfl) dX0_reopen_12 (fs' := [.int v0, .int v1, .ref v2, .int v3, .int v4, .int 0, .int v6, .int 0, .int v8, .int v9, .int 1, .int v11, .long v12]) rfl (fun H locs hP hD hS => ?_)
  obtain ⟨f_3, ef_3⟩ : ∃ y9, y9 = va_up f_2 a (.inr (0, [.int v0, .int v1, .ref v2, .int v3, .int v4, .int 0, .int v6, .int 0, .int v8, .int v9, .int 1, .int v11, .long v12])) := ⟨_, rfl⟩
  rw [← ef_3] at hP hD
  have hf_3_a : f_3 a = .inr (0, [.int v0, .int v1, .ref v2, .int v3, .int v4, .int 0, .int v6, .int 0, .int v8, .int v9, .int 1, .int v11, .long v12]) := by rw [ef_3]; exact va_up_self _ _ _
  refine lv_aload_n hx hb dX0_reopen_15 rfl (lv_at hl 0 rfl) ?_
  refine lv_iconst (v := 0) hx hb dX0_reopen_16 (by decide) ?_
  refine hp_put (D := (dC, dI)) (ci := 0) (v := .int 0) (ty := .boolean) (C := RX0) (T := TX0) (N := 13) hx hb hts in0 tyX0 tyX0_ok nmX0 hown hK hP hD hS ha hf_3_a rfl 9 (by decide) lk3 (fun _ h9 => h9) rfl (by decide +kernel) (by decide) rfl (Nat.le_of_ble_eq_true rfl) dX0_reopen_17 (fs' := [.int v0, .int v1, .ref v2, .int v3, .int v4, .int 0, .int v6, .int 0, .int v8, .int 0, .int 1, .int v11, .long v12]) rfl (fun H locs hP hD hS => ?_)
  obtain ⟨f_4, ef_4⟩ : ∃ y9, y9 = va_up f_3 a (.inr (0, [.int v0, .int v1, .ref v2, .int v3, .int v4, .int 0, .int v6, .int 0, .int v8, .int 0, .int 1, .int v11, .long v12])) := ⟨_, rfl⟩
  rw [← ef_4] at hP hD
  have hf_4_a : f_4 a = .inr (0, [.int v0, .int v1, .ref v2, .int v3, .int v4, .int 0, .int v6, .int 0, .int v8, .int 0, .int 1, .int v11, .long v12]) := by rw [ef_4]; exact va_up_self _ _ _
  exact W.vret hx hb hr (fun t ht hW => ⟨⟨(L, f_4), rfl, (by rw [ef_4, ef_3, ef_2, ef_1]; rw [bx_uu]; rw [bx_uu]; rw [bx_uu]), by rw [ht]; exact hP, va_K.moved hW.alike hK, hD⟩, hS.F ht⟩) hS.2.2 dX0_reopen_20
set_option maxHeartbeats 4000000 in
set_option maxRecDepth 100000 in
/-- mt_isReady -/
theorem mt_isReady (l : Launch) (dC : Nat → ClassId) (dI : Nat → Nat → Nat) (cA : Nat → ClassId) (X : va_W) (L : List Nat) (f : Nat → va_E) (a : Nat) (ha : a ∈ L) (v0 : Int32) (v1 : Int32) (v2 : Nat) (v3 : Int32) (v4 : Int32) (v5 : Int32) (v6 : Int32) (v7 : Int32) (v8 : Int32) (v9 : Int32) (v10 : Int32) (v11 : Int32) (v12 : Int64) (hf : f a = .inr (0, [.int v0, .int v1, .ref v2, .int v3, .int v4, .int v5, .int v6, .int v7, .int v8, .int v9, .int v10, .int v11, .long v12]))  : Met l yX0_isReady wsX0_isReady ({ frames := 0, cells := 0, slots := 0, locals := 0 }) (va_Pc [.ref a] (ct_R (dC, dI) vwCl (ty_K cA) (X ++ va_pl L f))) (vp_Si (fun r => r = bb_v (decide (v5 = 0 ∧ v6 = 0 ∧ (¬ v3 = 0 ∨ (0 < v7 ∧ v8 = 0)))))) 0 0 (fun _ => False) := by
  refine Met.ofW (cc := cX0_isReady) (maxL := 1) (ret := (some .boolean)) (by decide) rfl ?_
  intro p e s m args below meth c s₁ B hml hv
  obtain ⟨rfl, hP, hK⟩ := hv
  have hx := B.exec
  have hb := B.bytes
  have hr := B.returns
  have hts := atoms_spec (ws := wsX0_isReady) B.pre
  have hown : s.vm.findClass RX0 = some m.cls := findClass_of_methodNamed B.named
  have hlocks := B.notSynchronized
  have hl := lv_entry ([.ref a]) (n := 1) (Nat.le_of_ble_eq_true rfl)
  rw [lg_entry_eq]
  generalize (lg_sl ([.ref a]) ++ List.replicate (1 - (lg_sl ([.ref a])).length) Slot.unset).toArray = ls at hl ⊢
  have hl : lv_has ls 1 [(0, .ref a)] := hl
  have lk0 := hts (.fieldLink RX0 9 "ClaimRows$Claim" "state" "I") (List.mem_cons_of_mem _ wd_128)
  have lk1 := hts (.fieldLink RX0 39 "ClaimRows$Claim" "lacking" "I") (List.mem_cons_of_mem _ wd_130)
  have lk2 := hts (.fieldLink RX0 25 "ClaimRows$Claim" "kind" "I") (List.mem_cons_of_mem _ wd_124)
  have lk3 := hts (.fieldLink RX0 42 "ClaimRows$Claim" "searched" "I") (List.mem_cons_of_mem _ wd_132)
  have lk4 := hts (.fieldLink RX0 45 "ClaimRows$Claim" "unanswered" "I") (List.mem_cons_of_mem _ wd_133)
  have in0 : ∀ w ∈ u_ws RX0 TX0 13, w ∈ wsX0_isReady := fun w h => List.mem_cons_of_mem _ (wu_X0 w h)
  refine lv_aload_n hx hb dX0_isReady_0 rfl (lv_at hl 0 rfl) ?_
  refine hp_get (D := (dC, dI)) (ci := 0) (v := .int v5) (C := RX0) (T := TX0) (N := 13) hx hb hts in0 hown hK hP ha hf rfl 5 (by decide) lk0 (fun _ h9 => h9) rfl dX0_isReady_1 ?_
  refine lv_if_ne (tgt := 14) hx hb dX0_isReady_4 (by decide) (fun c4 => ?_) (fun c4 => ?_)
  · refine lv_iconst (v := 0) hx hb dX0_isReady_14 (by decide) ?_
    exact W.zret (v := 0) hx hb hr (by decide) (fun t ht hW => ⟨0, rfl, ((bb_f (fun q => c4 q.1)).symm), ht⟩) (fun q h => by cases h) dX0_isReady_15
  · refine lv_aload_n hx hb dX0_isReady_7 rfl (lv_at hl 0 rfl) ?_
    refine hp_get (D := (dC, dI)) (ci := 0) (v := .int v6) (C := RX0) (T := TX0) (N := 13) hx hb hts in0 hown hK hP ha hf rfl 6 (by decide) lk1 (fun _ h9 => h9) rfl dX0_isReady_8 ?_
    refine lv_if_eq (tgt := 16) hx hb dX0_isReady_11 (by decide) (fun c11 => ?_) (fun c11 => ?_)
    · refine lv_aload_n hx hb dX0_isReady_16 rfl (lv_at hl 0 rfl) ?_
      refine hp_get (D := (dC, dI)) (ci := 0) (v := .int v3) (C := RX0) (T := TX0) (N := 13) hx hb hts in0 hown hK hP ha hf rfl 3 (by decide) lk2 (fun _ h9 => h9) rfl dX0_isReady_17 ?_
      refine lv_if_ne (tgt := 37) hx hb dX0_isReady_20 (by decide) (fun c20 => ?_) (fun c20 => ?_)
      · refine lv_iconst (v := 1) hx hb dX0_isReady_37 (by decide) ?_
        refine lv_goto (tgt := 42) hx hb dX0_isReady_38 (by decide) ?_
        exact W.zret (v := 1) hx hb hr (by decide) (fun t ht hW => ⟨1, rfl, ((bb_t ⟨c4, c11, Or.inl c20⟩).symm), ht⟩) (fun q h => by cases h) dX0_isReady_42
      · refine lv_aload_n hx hb dX0_isReady_23 rfl (lv_at hl 0 rfl) ?_
        refine hp_get (D := (dC, dI)) (ci := 0) (v := .int v7) (C := RX0) (T := TX0) (N := 13) hx hb hts in0 hown hK hP ha hf rfl 7 (by decide) lk3 (fun _ h9 => h9) rfl dX0_isReady_24 ?_
        refine lv_if_le (tgt := 41) hx hb dX0_isReady_27 (by decide) (fun c27 => ?_) (fun c27 => ?_)
        · refine lv_iconst (v := 0) hx hb dX0_isReady_41 (by decide) ?_
          exact W.zret (v := 0) hx hb hr (by decide) (fun t ht hW => ⟨0, rfl, ((bb_f (fun q => q.2.2.elim (fun z => z c20) (fun z => absurd z.1 (Int32.not_lt.mpr c27)))).symm), ht⟩) (fun q h => by cases h) dX0_isReady_42
        · refine lv_aload_n hx hb dX0_isReady_30 rfl (lv_at hl 0 rfl) ?_
          refine hp_get (D := (dC, dI)) (ci := 0) (v := .int v8) (C := RX0) (T := TX0) (N := 13) hx hb hts in0 hown hK hP ha hf rfl 8 (by decide) lk4 (fun _ h9 => h9) rfl dX0_isReady_31 ?_
          refine lv_if_ne (tgt := 41) hx hb dX0_isReady_34 (by decide) (fun c34 => ?_) (fun c34 => ?_)
          · refine lv_iconst (v := 0) hx hb dX0_isReady_41 (by decide) ?_
            exact W.zret (v := 0) hx hb hr (by decide) (fun t ht hW => ⟨0, rfl, ((bb_f (fun q => q.2.2.elim (fun z => z c20) (fun z => c34 z.2))).symm), ht⟩) (fun q h => by cases h) dX0_isReady_42
          · refine lv_iconst (v := 1) hx hb dX0_isReady_37 (by decide) ?_
            refine lv_goto (tgt := 42) hx hb dX0_isReady_38 (by decide) ?_
            exact W.zret (v := 1) hx hb hr (by decide) (fun t ht hW => ⟨1, rfl, ((bb_t ⟨c4, c11, Or.inr ⟨Int32.not_le.mp c27, c34⟩⟩).symm), ht⟩) (fun q h => by cases h) dX0_isReady_42
    · refine lv_iconst (v := 0) hx hb dX0_isReady_14 (by decide) ?_
      exact W.zret (v := 0) hx hb hr (by decide) (fun t ht hW => ⟨0, rfl, ((bb_f (fun q => c11 q.2.1)).symm), ht⟩) (fun q h => by cases h) dX0_isReady_15
set_option maxHeartbeats 4000000 in
set_option maxRecDepth 100000 in
/-- mt_close -/
theorem mt_close (l : Launch) (dC : Nat → ClassId) (dI : Nat → Nat → Nat) (cA : Nat → ClassId) (sz : Nat) (X : va_W) (L : List Nat) (f : Nat → va_E) (a : Nat) (ha : a ∈ L) (cq : Nat) (hc : cq ∈ L) (s1 s2 : Int32) (hf : f a = .inr (2, [.ref cq, .int s1, .int s2])) (v0 : Int32) (v1 : Int32) (v2 : Nat) (v3 : Int32) (v4 : Int32) (v5 : Int32) (v6 : Int32) (v7 : Int32) (v8 : Int32) (v9 : Int32) (v10 : Int32) (v11 : Int32) (v12 : Int64) (hg : f cq = .inr (0, [.int v0, .int v1, .ref v2, .int v3, .int v4, .int v5, .int v6, .int v7, .int v8, .int v9, .int v10, .int v11, .long v12])) (b : Bool) : Met l yX2_close wsX2_close ({ frames := 1, cells := 0, slots := 0, locals := 21 }) (va_Pc [.ref a, .int (bb_v b)] (ct_M (dC, dI) vwCl (ty_K cA) (X ++ va_pl L f) sz)) (va_Qv (fun u => u = (L, va_up (va_up f a (.inr (2, [.ref cq, .int s1, .int 0]))) cq (.inr (0, [.int v0, .int v1, .ref v2, .int v3, .int v4, .int v5, .int v6, .int v7, .int (v8 - 1), .int (if b then 1 else v9), .int v10, .int v11, .long v12])))) (fun u t => ct_B (dC, dI) vwCl (ty_K cA) (va_A (X ++ va_pl L f) sz) (X ++ va_pl u.1 u.2) t) (va_A (X ++ va_pl L f) sz)) 0 0 (va_A (X ++ va_pl L f) sz) := by
  refine Met.ofW (cc := cX2_close) (maxL := 2) (ret := none) (by decide) rfl ?_
  intro p e s m args below meth c s₁ B hml hv
  obtain ⟨rfl, hsz, hP, hK, hD0⟩ := hv
  have hx := B.exec
  have hb := B.bytes
  have hr := B.returns
  have hts := atoms_spec (ws := wsX2_close) B.pre
  have hown : s.vm.findClass RX2 = some m.cls := findClass_of_methodNamed B.named
  have hlocks := B.notSynchronized
  subst hsz
  have hD := hD0.self (sz := s.heap.size)
  generalize hAe : va_A (X ++ va_pl L f) s.heap.size = A at hD ⊢
  have hA : ∀ q : Nat, s.heap.size ≤ q → A q := fun q h => by rw [← hAe]; exact Or.inr h
  clear hAe hD0
  have hS : va_S A s.heap s.heap [] := va_S.rf
  have hl := lv_entry ([.ref a, .int (bb_v b)]) (n := 2) (Nat.le_of_ble_eq_true rfl)
  rw [lg_entry_eq]
  generalize (lg_sl ([.ref a, .int (bb_v b)]) ++ List.replicate (2 - (lg_sl ([.ref a, .int (bb_v b)])).length) Slot.unset).toArray = ls at hl ⊢
  have hl : lv_has ls 2 [(0, .ref a), (1, .int (bb_v b))] := hl
  have lk0 := hts (.fieldLink RX2 7 "ClaimRows$Search" "unanswered" "Z") (List.mem_cons_of_mem _ wd_167)
  have lk1 := hts (.fieldLink RX2 13 "ClaimRows$Search" "claim" "LClaimRows$Claim;") (List.mem_cons_of_mem _ wd_164)
  have in0 : ∀ w ∈ u_ws RX2 TX2 3, w ∈ wsX2_close := fun w h => List.mem_cons_of_mem _ (wu_X2 w h)
  refine lv_aload_n hx hb dX2_close_0 rfl (lv_at hl 0 rfl) ?_
  refine lv_iconst (v := 0) hx hb dX2_close_1 (by decide) ?_
  refine hp_put (D := (dC, dI)) (ci := 2) (v := .int 0) (ty := .boolean) (C := RX2) (T := TX2) (N := 3) hx hb hts in0 tyX2 tyX2_ok nmX2 hown hK hP hD hS ha hf rfl 2 (by decide) lk0 (fun _ h9 => h9) rfl (by decide +kernel) (by decide) rfl (Nat.le_of_ble_eq_true rfl) dX2_close_2 (fs' := [.ref cq, .int s1, .int 0]) rfl (fun H locs hP hD hS => ?_)
  obtain ⟨f_1, ef_1⟩ : ∃ y9, y9 = va_up f a (.inr (2, [.ref cq, .int s1, .int 0])) := ⟨_, rfl⟩
  rw [← ef_1] at hP hD
  have hf_1_cq : f_1 cq = .inr (0, [.int v0, .int v1, .ref v2, .int v3, .int v4, .int v5, .int v6, .int v7, .int v8, .int v9, .int v10, .int v11, .long v12]) := by rw [ef_1, va_up_ne _ _ (ct_ne hg hf (by simp))]; exact hg
  have hf_1_a : f_1 a = .inr (2, [.ref cq, .int s1, .int 0]) := by rw [ef_1]; exact va_up_self _ _ _
  refine lv_aload_n hx hb dX2_close_5 rfl (lv_at hl 0 rfl) ?_
  refine hp_get (D := (dC, dI)) (ci := 2) (v := .ref cq) (C := RX2) (T := TX2) (N := 3) hx hb hts in0 hown hK hP ha hf_1_a rfl 0 (by decide) lk1 (fun _ h9 => h9) rfl dX2_close_6 ?_
  refine lv_iload_n hx hb dX2_close_9 rfl (lv_at hl 1 rfl) ?_
  have hFc := ct_free hD hS hA
  refine va_callv (va_runV (As := [.int (bb_v b)]) (rest := []) ⟨hx, hb, hml, hown, hts⟩ (mt_endSearch l dC dI cA H.size X L f_1 cq hc v0 v1 v2 v3 v4 v5 v6 v7 v8 v9 v10 v11 v12 hf_1_cq b) (cwV 1 hts (al_gV wd_185 wd_186 wd_187 wd_4 wd_188) rfl rfl rfl (by decide +kernel) ⟨Nat.le_of_ble_eq_true rfl, Nat.le_of_ble_eq_true rfl⟩) ⟨ct_blM, hp_recv hK hP (ci := 0) rfl hc hf_1_cq, ct_atM hP hK hD⟩ rfl rfl hl.1 rfl (lv_room (Nat.le_of_ble_eq_true rfl)) dX2_close_10 ⟨Nat.le_of_ble_eq_true rfl, Nat.le_of_ble_eq_true rfl⟩) hS (fun q _ h => hFc q h) hFc (fun u10 t H1 locs ht hvm hr10 hB hz1 hk1 hS => ?_)
  obtain ⟨hP, -, hD1⟩ := hB
  rw [ht] at hP
  have hD := hD1.weaken (fun _ _ _ h => hFc _ h)
  clear hD1 hk1 hz1 hFc hvm
  generalize H1 = H at hP hS ht ⊢
  clear ht
  refine W.widen (k := 0) (n := 0) (by decide) (by decide) ?_
  subst hr10
  have hP : va_P (dC, dI) vwCl (X ++ va_pl L (va_up f_1 cq (.inr (0, [.int v0, .int v1, .ref v2, .int v3, .int v4, .int v5, .int v6, .int v7, .int (v8 - 1), .int (if b then 1 else v9), .int v10, .int v11, .long v12])))) H := hP
  have hD : va_D A (X ++ va_pl L (va_up f_1 cq (.inr (0, [.int v0, .int v1, .ref v2, .int v3, .int v4, .int v5, .int v6, .int v7, .int (v8 - 1), .int (if b then 1 else v9), .int v10, .int v11, .long v12])))) := hD
  obtain ⟨f_2, ef_2⟩ : ∃ y9, y9 = va_up f_1 cq (.inr (0, [.int v0, .int v1, .ref v2, .int v3, .int v4, .int v5, .int v6, .int v7, .int (v8 - 1), .int (if b then 1 else v9), .int v10, .int v11, .long v12])) := ⟨_, rfl⟩
  rw [← ef_2] at hP hD
  have hf_2_a : f_2 a = .inr (2, [.ref cq, .int s1, .int 0]) := by rw [ef_2, va_up_ne _ _ (ct_ne hf_1_a hf_1_cq (by simp))]; exact hf_1_a
  have hf_2_cq : f_2 cq = .inr (0, [.int v0, .int v1, .ref v2, .int v3, .int v4, .int v5, .int v6, .int v7, .int (v8 - 1), .int (if b then 1 else v9), .int v10, .int v11, .long v12]) := by rw [ef_2]; exact va_up_self _ _ _
  exact W.vret hx hb hr (fun t ht hW => ⟨⟨(L, f_2), rfl, (by rw [ef_2, ef_1]), by rw [ht]; exact hP, va_K.moved hW.alike hK, hD⟩, hS.F ht⟩) hS.2.2 dX2_close_13
set_option maxHeartbeats 4000000 in
set_option maxRecDepth 100000 in
/-- mt_Item_init -/
theorem mt_Item_init (l : Launch) (dC : Nat → ClassId) (dI : Nat → Nat → Nat) (cA : Nat → ClassId) (sz : Nat) (X : va_W) (L : List Nat) (f : Nat → va_E) (a : Nat) (ha : a ∈ L) (hf : f a = .inr (1, [.int 0, .long 0, .long 0, .int 0, .int 0, .null, .int 0, .int 0, .int 0])) (x1 : Int32) (x2 x3 : Int64) (x4 x5 : Int32) : Met l yX1_init wsX1_init ({ frames := 1, cells := 1, slots := 8, locals := 12 }) (va_Pc [.ref a, .int x1, .long x2, .long x3, .int x4, .int x5] (ct_M (dC, dI) vwCl (ty_K cA) (X ++ va_pl L f) sz)) (va_Qv (fun u => ∃ p : Nat, p ∉ L ∧ u = (L ++ [p], va_up (va_up f p (.inl (cA 0, 8, .inl (fun _ => 0)))) a (.inr (1, [.int x1, .long x2, .long x3, .int x4, .int x5, .ref p, .int 0, .int 0, .int 0])))) (fun u t => ct_B (dC, dI) vwCl (ty_K cA) (va_A (X ++ va_pl L f) sz) (X ++ va_pl u.1 u.2) t) (va_A (X ++ va_pl L f) sz)) 1 8 (va_A (X ++ va_pl L f) sz) := by
  refine Met.ofW (cc := cX1_init) (maxL := 8) (ret := none) (by decide) rfl ?_
  intro p e s m args below meth c s₁ B hml hv
  obtain ⟨rfl, hsz, hP, hK, hD0⟩ := hv
  have hx := B.exec
  have hb := B.bytes
  have hr := B.returns
  have hts := atoms_spec (ws := wsX1_init) B.pre
  have hown : s.vm.findClass RX1 = some m.cls := findClass_of_methodNamed B.named
  have hlocks := B.notSynchronized
  have hin : meth.name = "<init>" := (name_of_methodNamed B.named B.method).1
  subst hsz
  have hD := hD0.self (sz := s.heap.size)
  generalize hAe : va_A (X ++ va_pl L f) s.heap.size = A at hD ⊢
  have hA : ∀ q : Nat, s.heap.size ≤ q → A q := fun q h => by rw [← hAe]; exact Or.inr h
  clear hAe hD0
  have hS : va_S A s.heap s.heap [] := va_S.rf
  have hl := lv_entry ([.ref a, .int x1, .long x2, .long x3, .int x4, .int x5]) (n := 8) (Nat.le_of_ble_eq_true rfl)
  rw [lg_entry_eq]
  generalize (lg_sl ([.ref a, .int x1, .long x2, .long x3, .int x4, .int x5]) ++ List.replicate (8 - (lg_sl ([.ref a, .int x1, .long x2, .long x3, .int x4, .int x5])).length) Slot.unset).toArray = ls at hl ⊢
  have hl : lv_has ls 8 [(0, .ref a), (1, .int x1), (2, .long x2), (4, .long x3), (6, .int x4), (7, .int x5)] := hl
  have lk0 := hts (.methodLink RX1 3 objectInit) (List.mem_cons_of_mem _ wd_56)
  have lk1 := hts (.instanceMethod objectInit) (List.mem_cons_of_mem _ wd_14)
  have lk2 := hts (.code objectInit ⟨#[0xb1]⟩ 1 none) (List.mem_cons_of_mem _ wd_15)
  have lk3 := hts (.arrayClass .int) (List.mem_cons_of_mem _ wd_36)
  have lk4 := hts (.fieldLink RX1 9 "ClaimRows$Item" "posts" "[I") (List.mem_cons_of_mem _ wd_67)
  have lk5 := hts (.fieldLink RX1 15 "ClaimRows$Item" "service" "I") (List.mem_cons_of_mem _ wd_57)
  have lk6 := hts (.fieldLink RX1 19 "ClaimRows$Item" "value" "J") (List.mem_cons_of_mem _ wd_59)
  have lk7 := hts (.fieldLink RX1 23 "ClaimRows$Item" "insured" "J") (List.mem_cons_of_mem _ wd_61)
  have lk8 := hts (.fieldLink RX1 26 "ClaimRows$Item" "day" "I") (List.mem_cons_of_mem _ wd_63)
  have lk9 := hts (.fieldLink RX1 29 "ClaimRows$Item" "sender" "I") (List.mem_cons_of_mem _ wd_65)
  have in0 : ∀ w ∈ u_ws RX1 TX1 9, w ∈ wsX1_init := fun w h => List.mem_cons_of_mem _ (wu_X1 w h)
  refine lv_aload_n hx hb dX1_init_0 rfl (lv_at hl 0 rfl) ?_
  refine W.objInit hx hb hown lk0 lk1 lk2 rfl (by rw [hml]; exact hl.1) rfl dX1_init_1 (Nat.le_of_ble_eq_true rfl) (Nat.le_of_ble_eq_true rfl) ?_
  refine W.eq (g2 := F0 m 4 ls []) rfl ?_
  refine lv_aload_n hx hb dX1_init_4 rfl (lv_at hl 0 rfl) ?_
  refine lv_bipush (v := 8) hx hb dX1_init_5 (by decide) ?_
  refine hp_newi hx hb lk3 hK 0 rfl hP hD hS hA (N' := 8) (by decide) rfl (by decide) (Nat.le_of_ble_eq_true rfl) (Nat.le_of_ble_eq_true rfl) dX1_init_7 (fun q7 H hq7 hP hD hS => ?_)
  obtain ⟨f_1, ef_1⟩ : ∃ y9, y9 = va_up f q7 (.inl ((cA 0), 8, .inl (fun _ => 0))) := ⟨_, rfl⟩
  rw [← ef_1] at hP hD
  have hf_1_a : f_1 a = .inr (1, [.int 0, .long 0, .long 0, .int 0, .int 0, .null, .int 0, .int 0, .int 0]) := by rw [ef_1, va_up_ne _ _ (ct_nq ha hq7)]; exact hf
  have hf_1_q7 : f_1 q7 = .inl ((cA 0), 8, .inl (fun _ => 0)) := by rw [ef_1]; exact va_up_self _ _ _
  refine W.widen (k := 1) (n := 8) (by decide) (by decide) ?_
  refine hp_putF (D := (dC, dI)) (ci := 1) (v := .ref q7) (ty := .array .int) (C := RX1) (T := TX1) (N := 9) hx hb hts in0 tyX1 tyX1_ok nmX1 hown hK hP hD hS (List.mem_append_left _ ha) hf_1_a rfl 5 (by decide) lk4 (fun _ h9 => h9) rfl hin rfl (by decide +kernel) rfl rfl (Nat.le_of_ble_eq_true rfl) dX1_init_9 (fs' := [.int 0, .long 0, .long 0, .int 0, .int 0, .ref q7, .int 0, .int 0, .int 0]) rfl (fun H locs hP hD hS => ?_)
  obtain ⟨f_2, ef_2⟩ : ∃ y9, y9 = va_up f_1 a (.inr (1, [.int 0, .long 0, .long 0, .int 0, .int 0, .ref q7, .int 0, .int 0, .int 0])) := ⟨_, rfl⟩
  rw [← ef_2] at hP hD
  have hf_2_q7 : f_2 q7 = .inl ((cA 0), 8, .inl (fun _ => 0)) := by rw [ef_2, va_up_ne _ _ (Ne.symm (ct_nq ha hq7))]; exact hf_1_q7
  have hf_2_a : f_2 a = .inr (1, [.int 0, .long 0, .long 0, .int 0, .int 0, .ref q7, .int 0, .int 0, .int 0]) := by rw [ef_2]; exact va_up_self _ _ _
  refine lv_aload_n hx hb dX1_init_12 rfl (lv_at hl 0 rfl) ?_
  refine lv_iload_n hx hb dX1_init_13 rfl (lv_at hl 1 rfl) ?_
  refine hp_putF (D := (dC, dI)) (ci := 1) (v := .int x1) (ty := .int) (C := RX1) (T := TX1) (N := 9) hx hb hts in0 tyX1 tyX1_ok nmX1 hown hK hP hD hS (List.mem_append_left _ ha) hf_2_a rfl 0 (by decide) lk5 (fun _ h9 => h9) rfl hin rfl (by decide +kernel) rfl rfl (Nat.le_of_ble_eq_true rfl) dX1_init_14 (fs' := [.int x1, .long 0, .long 0, .int 0, .int 0, .ref q7, .int 0, .int 0, .int 0]) rfl (fun H locs hP hD hS => ?_)
  obtain ⟨f_3, ef_3⟩ : ∃ y9, y9 = va_up f_2 a (.inr (1, [.int x1, .long 0, .long 0, .int 0, .int 0, .ref q7, .int 0, .int 0, .int 0])) := ⟨_, rfl⟩
  rw [← ef_3] at hP hD
  have hf_3_q7 : f_3 q7 = .inl ((cA 0), 8, .inl (fun _ => 0)) := by rw [ef_3, va_up_ne _ _ (Ne.symm (ct_nq ha hq7))]; exact hf_2_q7
  have hf_3_a : f_3 a = .inr (1, [.int x1, .long 0, .long 0, .int 0, .int 0, .ref q7, .int 0, .int 0, .int 0]) := by rw [ef_3]; exact va_up_self _ _ _
  refine lv_aload_n hx hb dX1_init_17 rfl (lv_at hl 0 rfl) ?_
  refine lv_lload_n hx hb dX1_init_18 rfl (lv_at hl 2 rfl) ?_
  refine hp_putF (D := (dC, dI)) (ci := 1) (v := .long x2) (ty := .long) (C := RX1) (T := TX1) (N := 9) hx hb hts in0 tyX1 tyX1_ok nmX1 hown hK hP hD hS (List.mem_append_left _ ha) hf_3_a rfl 1 (by decide) lk6 (fun _ h9 => h9) rfl hin rfl (by decide +kernel) rfl rfl (Nat.le_of_ble_eq_true rfl) dX1_init_19 (fs' := [.int x1, .long x2, .long 0, .int 0, .int 0, .ref q7, .int 0, .int 0, .int 0]) rfl (fun H locs hP hD hS => ?_)
  obtain ⟨f_4, ef_4⟩ : ∃ y9, y9 = va_up f_3 a (.inr (1, [.int x1, .long x2, .long 0, .int 0, .int 0, .ref q7, .int 0, .int 0, .int 0])) := ⟨_, rfl⟩
  rw [← ef_4] at hP hD
  have hf_4_q7 : f_4 q7 = .inl ((cA 0), 8, .inl (fun _ => 0)) := by rw [ef_4, va_up_ne _ _ (Ne.symm (ct_nq ha hq7))]; exact hf_3_q7
  have hf_4_a : f_4 a = .inr (1, [.int x1, .long x2, .long 0, .int 0, .int 0, .ref q7, .int 0, .int 0, .int 0]) := by rw [ef_4]; exact va_up_self _ _ _
  refine lv_aload_n hx hb dX1_init_22 rfl (lv_at hl 0 rfl) ?_
  refine lv_lload hx hb dX1_init_23 (lv_at hl 3 rfl) ?_
  refine hp_putF (D := (dC, dI)) (ci := 1) (v := .long x3) (ty := .long) (C := RX1) (T := TX1) (N := 9) hx hb hts in0 tyX1 tyX1_ok nmX1 hown hK hP hD hS (List.mem_append_left _ ha) hf_4_a rfl 2 (by decide) lk7 (fun _ h9 => h9) rfl hin rfl (by decide +kernel) rfl rfl (Nat.le_of_ble_eq_true rfl) dX1_init_25 (fs' := [.int x1, .long x2, .long x3, .int 0, .int 0, .ref q7, .int 0, .int 0, .int 0]) rfl (fun H locs hP hD hS => ?_)
  obtain ⟨f_5, ef_5⟩ : ∃ y9, y9 = va_up f_4 a (.inr (1, [.int x1, .long x2, .long x3, .int 0, .int 0, .ref q7, .int 0, .int 0, .int 0])) := ⟨_, rfl⟩
  rw [← ef_5] at hP hD
  have hf_5_q7 : f_5 q7 = .inl ((cA 0), 8, .inl (fun _ => 0)) := by rw [ef_5, va_up_ne _ _ (Ne.symm (ct_nq ha hq7))]; exact hf_4_q7
  have hf_5_a : f_5 a = .inr (1, [.int x1, .long x2, .long x3, .int 0, .int 0, .ref q7, .int 0, .int 0, .int 0]) := by rw [ef_5]; exact va_up_self _ _ _
  refine lv_aload_n hx hb dX1_init_28 rfl (lv_at hl 0 rfl) ?_
  refine lv_iload hx hb dX1_init_29 (lv_at hl 4 rfl) ?_
  refine hp_putF (D := (dC, dI)) (ci := 1) (v := .int x4) (ty := .int) (C := RX1) (T := TX1) (N := 9) hx hb hts in0 tyX1 tyX1_ok nmX1 hown hK hP hD hS (List.mem_append_left _ ha) hf_5_a rfl 3 (by decide) lk8 (fun _ h9 => h9) rfl hin rfl (by decide +kernel) rfl rfl (Nat.le_of_ble_eq_true rfl) dX1_init_31 (fs' := [.int x1, .long x2, .long x3, .int x4, .int 0, .ref q7, .int 0, .int 0, .int 0]) rfl (fun H locs hP hD hS => ?_)
  obtain ⟨f_6, ef_6⟩ : ∃ y9, y9 = va_up f_5 a (.inr (1, [.int x1, .long x2, .long x3, .int x4, .int 0, .ref q7, .int 0, .int 0, .int 0])) := ⟨_, rfl⟩
  rw [← ef_6] at hP hD
  have hf_6_q7 : f_6 q7 = .inl ((cA 0), 8, .inl (fun _ => 0)) := by rw [ef_6, va_up_ne _ _ (Ne.symm (ct_nq ha hq7))]; exact hf_5_q7
  have hf_6_a : f_6 a = .inr (1, [.int x1, .long x2, .long x3, .int x4, .int 0, .ref q7, .int 0, .int 0, .int 0]) := by rw [ef_6]; exact va_up_self _ _ _
  refine lv_aload_n hx hb dX1_init_34 rfl (lv_at hl 0 rfl) ?_
  refine lv_iload hx hb dX1_init_35 (lv_at hl 5 rfl) ?_
  refine hp_putF (D := (dC, dI)) (ci := 1) (v := .int x5) (ty := .int) (C := RX1) (T := TX1) (N := 9) hx hb hts in0 tyX1 tyX1_ok nmX1 hown hK hP hD hS (List.mem_append_left _ ha) hf_6_a rfl 4 (by decide) lk9 (fun _ h9 => h9) rfl hin rfl (by decide +kernel) rfl rfl (Nat.le_of_ble_eq_true rfl) dX1_init_37 (fs' := [.int x1, .long x2, .long x3, .int x4, .int x5, .ref q7, .int 0, .int 0, .int 0]) rfl (fun H locs hP hD hS => ?_)
  obtain ⟨f_7, ef_7⟩ : ∃ y9, y9 = va_up f_6 a (.inr (1, [.int x1, .long x2, .long x3, .int x4, .int x5, .ref q7, .int 0, .int 0, .int 0])) := ⟨_, rfl⟩
  rw [← ef_7] at hP hD
  have hf_7_q7 : f_7 q7 = .inl ((cA 0), 8, .inl (fun _ => 0)) := by rw [ef_7, va_up_ne _ _ (Ne.symm (ct_nq ha hq7))]; exact hf_6_q7
  have hf_7_a : f_7 a = .inr (1, [.int x1, .long x2, .long x3, .int x4, .int x5, .ref q7, .int 0, .int 0, .int 0]) := by rw [ef_7]; exact va_up_self _ _ _
  exact W.vret hx hb hr (fun t ht hW => ⟨⟨((L ++ [q7]), f_7), rfl, ⟨q7, hq7, by rw [ef_7, ef_6, ef_5, ef_4, ef_3, ef_2, ef_1]; simp only [bx_uu]⟩, by rw [ht]; exact hP, va_K.moved hW.alike hK, hD⟩, hS.F ht⟩) hS.2.2 dX1_init_40
set_option maxHeartbeats 4000000 in
set_option maxRecDepth 100000 in
/-- mt_addPost -/
theorem mt_addPost (l : Launch) (dC : Nat → ClassId) (dI : Nat → Nat → Nat) (cA : Nat → ClassId) (sz : Nat) (X : va_W) (L : List Nat) (f : Nat → va_E) (a pq : Nat) (ha : a ∈ L) (hp : pq ∈ L) (v0 : Int32) (v1 v2 : Int64) (v3 v4 v6 v7 v8 : Int32) (hf : f a = .inr (1, [.int v0, .long v1, .long v2, .int v3, .int v4, .ref pq, .int v6, .int v7, .int v8])) (g : Nat → Int32) (hg : f pq = .inl (cA 0, 8, .inl g)) (k : Nat) (hk : v6 = nI k) (hk8 : k < 8) (x : Int32) (b : Bool) : Met l yX1_addPost wsX1_addPost ({ frames := 0, cells := 0, slots := 0, locals := 0 }) (va_Pc [.ref a, .int x, .int (bb_v b)] (ct_M (dC, dI) vwCl (ty_K cA) (X ++ va_pl L f) sz)) (va_Qv (fun u => u = (L, va_up (va_up f pq (.inl (cA 0, 8, .inl (upd g v6.toNatClampNeg x)))) a (.inr (1, [.int v0, .long v1, .long v2, .int v3, .int v4, .ref pq, .int (v6 + 1), .int (if b then v6 else v7), .int v8])))) (fun u t => ct_B (dC, dI) vwCl (ty_K cA) (va_A (X ++ va_pl L f) sz) (X ++ va_pl u.1 u.2) t) (va_A (X ++ va_pl L f) sz)) 0 0 (va_A (X ++ va_pl L f) sz) := by
  refine Met.ofW (cc := cX1_addPost) (maxL := 3) (ret := none) (by decide) rfl ?_
  intro p e s m args below meth c s₁ B hml hv
  obtain ⟨rfl, hsz, hP, hK, hD0⟩ := hv
  have hx := B.exec
  have hb := B.bytes
  have hr := B.returns
  have hts := atoms_spec (ws := wsX1_addPost) B.pre
  have hown : s.vm.findClass RX1 = some m.cls := findClass_of_methodNamed B.named
  have hlocks := B.notSynchronized
  subst hsz
  have hD := hD0.self (sz := s.heap.size)
  generalize hAe : va_A (X ++ va_pl L f) s.heap.size = A at hD ⊢
  have hA : ∀ q : Nat, s.heap.size ≤ q → A q := fun q h => by rw [← hAe]; exact Or.inr h
  clear hAe hD0
  have hS : va_S A s.heap s.heap [] := va_S.rf
  have hl := lv_entry ([.ref a, .int x, .int (bb_v b)]) (n := 3) (Nat.le_of_ble_eq_true rfl)
  rw [lg_entry_eq]
  generalize (lg_sl ([.ref a, .int x, .int (bb_v b)]) ++ List.replicate (3 - (lg_sl ([.ref a, .int x, .int (bb_v b)])).length) Slot.unset).toArray = ls at hl ⊢
  have hl : lv_has ls 3 [(0, .ref a), (1, .int x), (2, .int (bb_v b))] := hl
  have lk0 := hts (.fieldLink RX1 32 "ClaimRows$Item" "passed" "I") (List.mem_cons_of_mem _ wd_68)
  have lk1 := hts (.fieldLink RX1 9 "ClaimRows$Item" "posts" "[I") (List.mem_cons_of_mem _ wd_67)
  have lk2 := hts (.fieldLink RX1 35 "ClaimRows$Item" "sharesFrom" "I") (List.mem_cons_of_mem _ wd_70)
  have in0 : ∀ w ∈ u_ws RX1 TX1 9, w ∈ wsX1_addPost := fun w h => List.mem_cons_of_mem _ (wu_X1 w h)
  refine lv_aload_n hx hb dX1_addPost_0 rfl (lv_at hl 0 rfl) ?_
  refine hp_get (D := (dC, dI)) (ci := 1) (v := .int v6) (C := RX1) (T := TX1) (N := 9) hx hb hts in0 hown hK hP ha hf rfl 6 (by decide) lk0 (fun _ h9 => h9) rfl dX1_addPost_1 ?_
  refine lv_bipush (v := 8) hx hb dX1_addPost_4 (by decide) ?_
  refine lv_icmp_lt (tgt := 10) hx hb dX1_addPost_6 (by decide) (fun c6 => ?_) (fun c6 => ?_)
  · refine lv_aload_n hx hb dX1_addPost_10 rfl (lv_at hl 0 rfl) ?_
    refine hp_get (D := (dC, dI)) (ci := 1) (v := .ref pq) (C := RX1) (T := TX1) (N := 9) hx hb hts in0 hown hK hP ha hf rfl 5 (by decide) lk1 (fun _ h9 => h9) rfl dX1_addPost_11 ?_
    refine lv_aload_n hx hb dX1_addPost_14 rfl (lv_at hl 0 rfl) ?_
    refine hp_get (D := (dC, dI)) (ci := 1) (v := .int v6) (C := RX1) (T := TX1) (N := 9) hx hb hts in0 hown hK hP ha hf rfl 6 (by decide) lk0 (fun _ h9 => h9) rfl dX1_addPost_15 ?_
    refine lv_iload_n hx hb dX1_addPost_18 rfl (lv_at hl 1 rfl) ?_
    refine hp_iast hx hb hK hP hD hS hp 0 hg rfl (by rw [hk]; exact vp_in_nI hk8 (by decide)) dX1_addPost_19 (fun H locs hP hD hS => ?_)
    obtain ⟨f_1, ef_1⟩ : ∃ y9, y9 = va_up f pq (.inl ((cA 0), 8, .inl (upd g (v6).toNatClampNeg x))) := ⟨_, rfl⟩
    rw [← ef_1] at hP hD
    have hf_1_a : f_1 a = .inr (1, [.int v0, .long v1, .long v2, .int v3, .int v4, .ref pq, .int v6, .int v7, .int v8]) := by rw [ef_1, va_up_ne _ _ (ct_ne hf hg (by simp))]; exact hf
    have hf_1_pq : f_1 pq = .inl ((cA 0), 8, .inl (upd g (v6).toNatClampNeg x)) := by rw [ef_1]; exact va_up_self _ _ _
    refine lv_iload_n hx hb dX1_addPost_20 rfl (lv_at hl 2 rfl) ?_
    refine lv_if_eq (tgt := 32) hx hb dX1_addPost_21 (by decide) (fun c21 => ?_) (fun c21 => ?_)
    · have c21 := bb_0.mp c21
      refine lv_aload_n hx hb dX1_addPost_32 rfl (lv_at hl 0 rfl) ?_
      refine lv_dup hx hb dX1_addPost_33 rfl ?_
      refine hp_get (D := (dC, dI)) (ci := 1) (v := .int v6) (C := RX1) (T := TX1) (N := 9) hx hb hts in0 hown hK hP ha hf_1_a rfl 6 (by decide) lk0 (fun _ h9 => h9) rfl dX1_addPost_34 ?_
      refine lv_iconst (v := 1) hx hb dX1_addPost_37 (by decide) ?_
      refine lv_iadd hx hb dX1_addPost_38 ?_
      refine hp_put (D := (dC, dI)) (ci := 1) (v := .int (v6 + 1)) (ty := .int) (C := RX1) (T := TX1) (N := 9) hx hb hts in0 tyX1 tyX1_ok nmX1 hown hK hP hD hS ha hf_1_a rfl 6 (by decide) lk0 (fun _ h9 => h9) rfl (by decide +kernel) rfl rfl (Nat.le_of_ble_eq_true rfl) dX1_addPost_39 (fs' := [.int v0, .long v1, .long v2, .int v3, .int v4, .ref pq, .int (v6 + 1), .int v7, .int v8]) rfl (fun H locs hP hD hS => ?_)
      obtain ⟨f_2, ef_2⟩ : ∃ y9, y9 = va_up f_1 a (.inr (1, [.int v0, .long v1, .long v2, .int v3, .int v4, .ref pq, .int (v6 + 1), .int v7, .int v8])) := ⟨_, rfl⟩
      rw [← ef_2] at hP hD
      have hf_2_pq : f_2 pq = .inl ((cA 0), 8, .inl (upd g (v6).toNatClampNeg x)) := by rw [ef_2, va_up_ne _ _ (ct_ne hf_1_pq hf_1_a (by simp))]; exact hf_1_pq
      have hf_2_a : f_2 a = .inr (1, [.int v0, .long v1, .long v2, .int v3, .int v4, .ref pq, .int (v6 + 1), .int v7, .int v8]) := by rw [ef_2]; exact va_up_self _ _ _
      exact W.vret hx hb hr (fun t ht hW => ⟨⟨(L, f_2), rfl, (by subst c21; rw [ef_2, ef_1]; (try simp only [bx_uu]); all_goals rfl), by rw [ht]; exact hP, va_K.moved hW.alike hK, hD⟩, hS.F ht⟩) hS.2.2 dX1_addPost_42
    · have c21 := bb_n.mp c21
      refine lv_aload_n hx hb dX1_addPost_24 rfl (lv_at hl 0 rfl) ?_
      refine lv_aload_n hx hb dX1_addPost_25 rfl (lv_at hl 0 rfl) ?_
      refine hp_get (D := (dC, dI)) (ci := 1) (v := .int v6) (C := RX1) (T := TX1) (N := 9) hx hb hts in0 hown hK hP ha hf_1_a rfl 6 (by decide) lk0 (fun _ h9 => h9) rfl dX1_addPost_26 ?_
      refine hp_put (D := (dC, dI)) (ci := 1) (v := .int v6) (ty := .int) (C := RX1) (T := TX1) (N := 9) hx hb hts in0 tyX1 tyX1_ok nmX1 hown hK hP hD hS ha hf_1_a rfl 7 (by decide) lk2 (fun _ h9 => h9) rfl (by decide +kernel) rfl rfl (Nat.le_of_ble_eq_true rfl) dX1_addPost_29 (fs' := [.int v0, .long v1, .long v2, .int v3, .int v4, .ref pq, .int v6, .int v6, .int v8]) rfl (fun H locs hP hD hS => ?_)
      obtain ⟨f_3, ef_3⟩ : ∃ y9, y9 = va_up f_1 a (.inr (1, [.int v0, .long v1, .long v2, .int v3, .int v4, .ref pq, .int v6, .int v6, .int v8])) := ⟨_, rfl⟩
      rw [← ef_3] at hP hD
      have hf_3_pq : f_3 pq = .inl ((cA 0), 8, .inl (upd g (v6).toNatClampNeg x)) := by rw [ef_3, va_up_ne _ _ (ct_ne hf_1_pq hf_1_a (by simp))]; exact hf_1_pq
      have hf_3_a : f_3 a = .inr (1, [.int v0, .long v1, .long v2, .int v3, .int v4, .ref pq, .int v6, .int v6, .int v8]) := by rw [ef_3]; exact va_up_self _ _ _
      refine lv_aload_n hx hb dX1_addPost_32 rfl (lv_at hl 0 rfl) ?_
      refine lv_dup hx hb dX1_addPost_33 rfl ?_
      refine hp_get (D := (dC, dI)) (ci := 1) (v := .int v6) (C := RX1) (T := TX1) (N := 9) hx hb hts in0 hown hK hP ha hf_3_a rfl 6 (by decide) lk0 (fun _ h9 => h9) rfl dX1_addPost_34 ?_
      refine lv_iconst (v := 1) hx hb dX1_addPost_37 (by decide) ?_
      refine lv_iadd hx hb dX1_addPost_38 ?_
      refine hp_put (D := (dC, dI)) (ci := 1) (v := .int (v6 + 1)) (ty := .int) (C := RX1) (T := TX1) (N := 9) hx hb hts in0 tyX1 tyX1_ok nmX1 hown hK hP hD hS ha hf_3_a rfl 6 (by decide) lk0 (fun _ h9 => h9) rfl (by decide +kernel) rfl rfl (Nat.le_of_ble_eq_true rfl) dX1_addPost_39 (fs' := [.int v0, .long v1, .long v2, .int v3, .int v4, .ref pq, .int (v6 + 1), .int v6, .int v8]) rfl (fun H locs hP hD hS => ?_)
      obtain ⟨f_4, ef_4⟩ : ∃ y9, y9 = va_up f_3 a (.inr (1, [.int v0, .long v1, .long v2, .int v3, .int v4, .ref pq, .int (v6 + 1), .int v6, .int v8])) := ⟨_, rfl⟩
      rw [← ef_4] at hP hD
      have hf_4_pq : f_4 pq = .inl ((cA 0), 8, .inl (upd g (v6).toNatClampNeg x)) := by rw [ef_4, va_up_ne _ _ (ct_ne hf_3_pq hf_3_a (by simp))]; exact hf_3_pq
      have hf_4_a : f_4 a = .inr (1, [.int v0, .long v1, .long v2, .int v3, .int v4, .ref pq, .int (v6 + 1), .int v6, .int v8]) := by rw [ef_4]; exact va_up_self _ _ _
      exact W.vret hx hb hr (fun t ht hW => ⟨⟨(L, f_4), rfl, (by subst c21; rw [ef_4, ef_3, ef_1]; (try simp only [bx_uu]); all_goals rfl), by rw [ht]; exact hP, va_K.moved hW.alike hK, hD⟩, hS.F ht⟩) hS.2.2 dX1_addPost_42
  · exact absurd (by rw [hk]; exact nI_lt (b := 8) hk8 (by decide)) c6
set_option maxHeartbeats 4000000 in
set_option maxRecDepth 100000 in
/-- mt_Search_init -/
theorem mt_Search_init (l : Launch) (dC : Nat → ClassId) (dI : Nat → Nat → Nat) (cA : Nat → ClassId) (sz : Nat) (X : va_W) (L : List Nat) (f : Nat → va_E) (a : Nat) (ha : a ∈ L) (hf : f a = .inr (2, [.null, .int 0, .int 0])) (cq : Nat) (x : Int32) : Met l yX2_init wsX2_init ({ frames := 1, cells := 0, slots := 0, locals := 12 }) (va_Pc [.ref a, .ref cq, .int x] (ct_M (dC, dI) vwCl (ty_K cA) (X ++ va_pl L f) sz)) (va_Qv (fun u => u = (L, va_up f a (.inr (2, [.ref cq, .int x, .int 1])))) (fun u t => ct_B (dC, dI) vwCl (ty_K cA) (va_A (X ++ va_pl L f) sz) (X ++ va_pl u.1 u.2) t) (va_A (X ++ va_pl L f) sz)) 0 0 (va_A (X ++ va_pl L f) sz) := by
  refine Met.ofW (cc := cX2_init) (maxL := 3) (ret := none) (by decide) rfl ?_
  intro p e s m args below meth c s₁ B hml hv
  obtain ⟨rfl, hsz, hP, hK, hD0⟩ := hv
  have hx := B.exec
  have hb := B.bytes
  have hr := B.returns
  have hts := atoms_spec (ws := wsX2_init) B.pre
  have hown : s.vm.findClass RX2 = some m.cls := findClass_of_methodNamed B.named
  have hlocks := B.notSynchronized
  have hin : meth.name = "<init>" := (name_of_methodNamed B.named B.method).1
  subst hsz
  have hD := hD0.self (sz := s.heap.size)
  generalize hAe : va_A (X ++ va_pl L f) s.heap.size = A at hD ⊢
  have hA : ∀ q : Nat, s.heap.size ≤ q → A q := fun q h => by rw [← hAe]; exact Or.inr h
  clear hAe hD0
  have hS : va_S A s.heap s.heap [] := va_S.rf
  have hl := lv_entry ([.ref a, .ref cq, .int x]) (n := 3) (Nat.le_of_ble_eq_true rfl)
  rw [lg_entry_eq]
  generalize (lg_sl ([.ref a, .ref cq, .int x]) ++ List.replicate (3 - (lg_sl ([.ref a, .ref cq, .int x])).length) Slot.unset).toArray = ls at hl ⊢
  have hl : lv_has ls 3 [(0, .ref a), (1, .ref cq), (2, .int x)] := hl
  have lk0 := hts (.methodLink RX2 1 objectInit) (List.mem_cons_of_mem _ wd_163)
  have lk1 := hts (.instanceMethod objectInit) (List.mem_cons_of_mem _ wd_14)
  have lk2 := hts (.code objectInit ⟨#[0xb1]⟩ 1 none) (List.mem_cons_of_mem _ wd_15)
  have lk3 := hts (.fieldLink RX2 7 "ClaimRows$Search" "unanswered" "Z") (List.mem_cons_of_mem _ wd_167)
  have lk4 := hts (.fieldLink RX2 13 "ClaimRows$Search" "claim" "LClaimRows$Claim;") (List.mem_cons_of_mem _ wd_164)
  have lk5 := hts (.fieldLink RX2 17 "ClaimRows$Search" "due" "I") (List.mem_cons_of_mem _ wd_165)
  have in0 : ∀ w ∈ u_ws RX2 TX2 3, w ∈ wsX2_init := fun w h => List.mem_cons_of_mem _ (wu_X2 w h)
  refine lv_aload_n hx hb dX2_init_0 rfl (lv_at hl 0 rfl) ?_
  refine W.objInit hx hb hown lk0 lk1 lk2 rfl (by rw [hml]; exact hl.1) rfl dX2_init_1 (Nat.le_of_ble_eq_true rfl) (Nat.le_of_ble_eq_true rfl) ?_
  refine W.eq (g2 := F0 m 4 ls []) rfl ?_
  refine lv_aload_n hx hb dX2_init_4 rfl (lv_at hl 0 rfl) ?_
  refine lv_iconst (v := 1) hx hb dX2_init_5 (by decide) ?_
  refine hp_put (D := (dC, dI)) (ci := 2) (v := .int 1) (ty := .boolean) (C := RX2) (T := TX2) (N := 3) hx hb hts in0 tyX2 tyX2_ok nmX2 hown hK hP hD hS ha hf rfl 2 (by decide) lk3 (fun _ h9 => h9) rfl (by decide +kernel) (by decide) rfl (Nat.le_of_ble_eq_true rfl) dX2_init_6 (fs' := [.null, .int 0, .int 1]) rfl (fun H locs hP hD hS => ?_)
  obtain ⟨f_1, ef_1⟩ : ∃ y9, y9 = va_up f a (.inr (2, [.null, .int 0, .int 1])) := ⟨_, rfl⟩
  rw [← ef_1] at hP hD
  have hf_1_a : f_1 a = .inr (2, [.null, .int 0, .int 1]) := by rw [ef_1]; exact va_up_self _ _ _
  refine lv_aload_n hx hb dX2_init_9 rfl (lv_at hl 0 rfl) ?_
  refine lv_aload_n hx hb dX2_init_10 rfl (lv_at hl 1 rfl) ?_
  refine hp_putF (D := (dC, dI)) (ci := 2) (v := .ref cq) (ty := .object "ClaimRows$Claim") (C := RX2) (T := TX2) (N := 3) hx hb hts in0 tyX2 tyX2_ok nmX2 hown hK hP hD hS ha hf_1_a rfl 0 (by decide) lk4 (fun _ h9 => h9) rfl hin rfl (by decide +kernel) rfl rfl (Nat.le_of_ble_eq_true rfl) dX2_init_11 (fs' := [.ref cq, .int 0, .int 1]) rfl (fun H locs hP hD hS => ?_)
  obtain ⟨f_2, ef_2⟩ : ∃ y9, y9 = va_up f_1 a (.inr (2, [.ref cq, .int 0, .int 1])) := ⟨_, rfl⟩
  rw [← ef_2] at hP hD
  have hf_2_a : f_2 a = .inr (2, [.ref cq, .int 0, .int 1]) := by rw [ef_2]; exact va_up_self _ _ _
  refine lv_aload_n hx hb dX2_init_14 rfl (lv_at hl 0 rfl) ?_
  refine lv_iload_n hx hb dX2_init_15 rfl (lv_at hl 2 rfl) ?_
  refine hp_putF (D := (dC, dI)) (ci := 2) (v := .int x) (ty := .int) (C := RX2) (T := TX2) (N := 3) hx hb hts in0 tyX2 tyX2_ok nmX2 hown hK hP hD hS ha hf_2_a rfl 1 (by decide) lk5 (fun _ h9 => h9) rfl hin rfl (by decide +kernel) rfl rfl (Nat.le_of_ble_eq_true rfl) dX2_init_16 (fs' := [.ref cq, .int x, .int 1]) rfl (fun H locs hP hD hS => ?_)
  obtain ⟨f_3, ef_3⟩ : ∃ y9, y9 = va_up f_2 a (.inr (2, [.ref cq, .int x, .int 1])) := ⟨_, rfl⟩
  rw [← ef_3] at hP hD
  have hf_3_a : f_3 a = .inr (2, [.ref cq, .int x, .int 1]) := by rw [ef_3]; exact va_up_self _ _ _
  exact W.vret hx hb hr (fun t ht hW => ⟨⟨(L, f_3), rfl, (by rw [ef_3, ef_2, ef_1]; simp only [bx_uu]), by rw [ht]; exact hP, va_K.moved hW.alike hK, hD⟩, hS.F ht⟩) hS.2.2 dX2_init_19
set_option maxHeartbeats 4000000 in
set_option maxRecDepth 100000 in
/-- mt_partOf -/
theorem mt_partOf (l : Launch) (dC : Nat → ClassId) (dI : Nat → Nat → Nat) (cA : Nat → ClassId) (X : va_W) (L : List Nat) (f : Nat → va_E) (a pq : Nat) (ha : a ∈ L) (hp : pq ∈ L) (v0 : Int32) (v1 v2 : Int64) (v3 v4 v6 v7 v8 : Int32) (hf : f a = .inr (1, [.int v0, .long v1, .long v2, .int v3, .int v4, .ref pq, .int v6, .int v7, .int v8])) (g : Nat → Int32) (hg : f pq = .inl (cA 0, 8, .inl g)) (k w : Nat) (hk : v6 = nI k) (hw : v7 = nI w) (hk8 : k ≤ 8) (hwk : w ≤ k) (z : Int64) (x : Int32) : Met l yX1_partOf wsX1_partOf ({ frames := 0, cells := 0, slots := 0, locals := 0 }) (va_Pc [.ref a, .long z, .int x] (ct_R (dC, dI) vwCl (ty_K cA) (X ++ va_pl L f))) (vp_Sl (fun r => r = (if 0 < v6 - v7 then sh_s g v7.toNatClampNeg (z / (v6 - v7).toInt64) (z - z / (v6 - v7).toInt64 * (v6 - v7).toInt64) x (v6 - v7).toNatClampNeg else 0))) 0 0 (fun _ => False) := by
  refine Met.ofW (cc := cX1_partOf) (maxL := 12) (ret := (some .long)) (by decide) rfl ?_
  intro p e s m args below meth c s₁ B hml hv
  obtain ⟨rfl, hP, hK⟩ := hv
  have hx := B.exec
  have hb := B.bytes
  have hr := B.returns
  have hts := atoms_spec (ws := wsX1_partOf) B.pre
  have hown : s.vm.findClass RX1 = some m.cls := findClass_of_methodNamed B.named
  have hlocks := B.notSynchronized
  have hl := lv_entry ([.ref a, .long z, .int x]) (n := 12) (Nat.le_of_ble_eq_true rfl)
  rw [lg_entry_eq]
  generalize (lg_sl ([.ref a, .long z, .int x]) ++ List.replicate (12 - (lg_sl ([.ref a, .long z, .int x])).length) Slot.unset).toArray = ls at hl ⊢
  have hl : lv_has ls 12 [(0, .ref a), (1, .long z), (3, .int x)] := hl
  have lk0 := hts (.fieldLink RX1 32 "ClaimRows$Item" "passed" "I") (List.mem_cons_of_mem _ wd_68)
  have lk1 := hts (.fieldLink RX1 35 "ClaimRows$Item" "sharesFrom" "I") (List.mem_cons_of_mem _ wd_70)
  have lk2 := hts (.fieldLink RX1 9 "ClaimRows$Item" "posts" "[I") (List.mem_cons_of_mem _ wd_67)
  have in0 : ∀ w ∈ u_ws RX1 TX1 9, w ∈ wsX1_partOf := fun w h => List.mem_cons_of_mem _ (wu_X1 w h)
  have hs : v6 - v7 = nI (k - w) := by rw [hk, hw]; exact pk_sub hwk
  have hsc : (v6 - v7).toNatClampNeg = k - w := by rw [hs]; exact nI_clamp (by omega)
  have hwc : v7.toNatClampNeg = w := by rw [hw]; exact nI_clamp (by omega)
  refine lv_aload_n hx hb dX1_partOf_0 rfl (lv_at hl 0 rfl) ?_
  refine hp_get (D := (dC, dI)) (ci := 1) (v := .int v6) (C := RX1) (T := TX1) (N := 9) hx hb hts in0 hown hK hP ha hf rfl 6 (by decide) lk0 (fun _ h9 => h9) rfl dX1_partOf_1 ?_
  refine lv_aload_n hx hb dX1_partOf_4 rfl (lv_at hl 0 rfl) ?_
  refine hp_get (D := (dC, dI)) (ci := 1) (v := .int v7) (C := RX1) (T := TX1) (N := 9) hx hb hts in0 hown hK hP ha hf rfl 7 (by decide) lk1 (fun _ h9 => h9) rfl dX1_partOf_5 ?_
  refine lv_isub hx hb dX1_partOf_8 ?_
  refine lv_istore (lv' := [(4, .int (v6 - v7)), (0, .ref a), (1, .long z), (3, .int x)]) hx hb dX1_partOf_9 hl (by decide) rfl (fun ls hl => ?_)
  refine lv_iload hx hb dX1_partOf_11 (lv_at hl 0 rfl) ?_
  refine lv_if_gt (tgt := 18) hx hb dX1_partOf_13 (by decide) (fun c13 => ?_) (fun c13 => ?_)
  · refine lv_lload_n hx hb dX1_partOf_18 rfl (lv_at hl 2 rfl) ?_
    refine lv_iload hx hb dX1_partOf_19 (lv_at hl 0 rfl) ?_
    refine lv_i2l (v := ((v6 - v7) : Int32).toInt64) hx hb dX1_partOf_21 rfl ?_
    refine lv_ldiv hx hb dX1_partOf_22 (po_nz hs (by omega) c13) ?_
    refine lv_lstore (lv' := [(5, .long (z / (((v6 - v7) : Int32).toInt64))), (4, .int (v6 - v7)), (0, .ref a), (1, .long z), (3, .int x)]) hx hb dX1_partOf_23 hl (by decide) rfl (fun ls hl => ?_)
    refine lv_lload_n hx hb dX1_partOf_25 rfl (lv_at hl 3 rfl) ?_
    refine lv_iload hx hb dX1_partOf_26 (lv_at hl 1 rfl) ?_
    refine lv_i2l (v := ((v6 - v7) : Int32).toInt64) hx hb dX1_partOf_28 rfl ?_
    refine lv_lrem hx hb dX1_partOf_29 (po_nz hs (by omega) c13) ?_
    refine lv_lstore (lv' := [(7, .long (z - (z / (((v6 - v7) : Int32).toInt64)) * (((v6 - v7) : Int32).toInt64))), (5, .long (z / (((v6 - v7) : Int32).toInt64))), (4, .int (v6 - v7)), (0, .ref a), (1, .long z), (3, .int x)]) hx hb dX1_partOf_30 hl (by decide) rfl (fun ls hl => ?_)
    refine lv_lconst (v := 0) hx hb dX1_partOf_32 (by decide) ?_
    refine lv_lstore (lv' := [(9, .long 0), (7, .long (z - (z / (((v6 - v7) : Int32).toInt64)) * (((v6 - v7) : Int32).toInt64))), (5, .long (z / (((v6 - v7) : Int32).toInt64))), (4, .int (v6 - v7)), (0, .ref a), (1, .long z), (3, .int x)]) hx hb dX1_partOf_33 hl (by decide) rfl (fun ls hl => ?_)
    refine lv_iconst (v := 0) hx hb dX1_partOf_35 (by decide) ?_
    refine lv_istore (lv' := [(11, .int 0), (9, .long 0), (7, .long (z - (z / (((v6 - v7) : Int32).toInt64)) * (((v6 - v7) : Int32).toInt64))), (5, .long (z / (((v6 - v7) : Int32).toInt64))), (4, .int (v6 - v7)), (0, .ref a), (1, .long z), (3, .int x)]) hx hb dX1_partOf_36 hl (by decide) rfl (fun ls hl => ?_)
    refine wl_R (Inv := fun j ls => lv_has ls 12 [(0, .ref a), (1, .long z), (3, .int x), (4, .int (v6 - v7)), (5, .long (z / (v6 - v7).toInt64)), (7, .long (z - z / (v6 - v7).toInt64 * (v6 - v7).toInt64)), (9, .long (sh_s g w (z / (v6 - v7).toInt64) (z - z / (v6 - v7).toInt64 * (v6 - v7).toInt64) x j)), (11, .int (nI j))] ∧ True) (N := (k - w)) (fun j ls hj hin ih => ?_) (fun ls hin => ?_) 0 ls (Nat.zero_le _) ⟨lv_sub hl [5, 6, 7, 4, 3, 2, 1, 0] rfl, trivial⟩
    · obtain ⟨hl, hin⟩ := hin
      refine lv_iload hx hb dX1_partOf_38 (lv_at hl 7 rfl) ?_
      refine lv_iload hx hb dX1_partOf_40 (lv_at hl 3 rfl) ?_
      refine lv_icmp_ge (tgt := 90) hx hb dX1_partOf_42 (by decide) (fun c42 => ?_) (fun c42 => ?_)
      · exact absurd c42 (by rw [hs]; exact nI_ge hj (by omega))
      · refine lv_aload_n hx hb dX1_partOf_45 rfl (lv_at hl 0 rfl) ?_
        refine hp_get (D := (dC, dI)) (ci := 1) (v := .ref pq) (C := RX1) (T := TX1) (N := 9) hx hb hts in0 hown hK hP ha hf rfl 5 (by decide) lk2 (fun _ h9 => h9) rfl dX1_partOf_46 ?_
        refine lv_aload_n hx hb dX1_partOf_49 rfl (lv_at hl 0 rfl) ?_
        refine hp_get (D := (dC, dI)) (ci := 1) (v := .int v7) (C := RX1) (T := TX1) (N := 9) hx hb hts in0 hown hK hP ha hf rfl 7 (by decide) lk1 (fun _ h9 => h9) rfl dX1_partOf_50 ?_
        refine lv_iload hx hb dX1_partOf_53 (lv_at hl 7 rfl) ?_
        refine lv_iadd hx hb dX1_partOf_55 ?_
        refine hp_iald hx hb hK hP hp 0 hg rfl (by rw [hw, nI_add]; exact vp_in_nI (by omega) (by decide)) dX1_partOf_56 ?_
        refine lv_iload_n hx hb dX1_partOf_57 rfl (lv_at hl 2 rfl) ?_
        refine lv_icmp_ne (tgt := 84) hx hb dX1_partOf_58 (by decide) (fun c58 => ?_) (fun c58 => ?_)
        · have hgx : (v7 + nI j).toNatClampNeg = w + j := by rw [hw, nI_add]; exact nI_clamp (by omega)
          rw [hgx] at c58
          have E9 : (if g (w + j) = x then (if (nI j).toInt64 < (z - z / (v6 - v7).toInt64 * (v6 - v7).toInt64) then sh_s g w (z / (v6 - v7).toInt64) (z - z / (v6 - v7).toInt64 * (v6 - v7).toInt64) x j + ((z / (v6 - v7).toInt64) + 1) else sh_s g w (z / (v6 - v7).toInt64) (z - z / (v6 - v7).toInt64 * (v6 - v7).toInt64) x j + (z / (v6 - v7).toInt64)) else sh_s g w (z / (v6 - v7).toInt64) (z - z / (v6 - v7).toInt64 * (v6 - v7).toInt64) x j) = sh_s g w (z / (v6 - v7).toInt64) (z - z / (v6 - v7).toInt64 * (v6 - v7).toInt64) x j := if_neg c58
          refine lv_iinc (v := ((nI j) + 1)) (lv' := [(11, .int ((nI j) + 1)), (0, .ref a), (1, .long z), (3, .int x), (4, .int (v6 - v7)), (5, .long (z / (v6 - v7).toInt64)), (7, .long (z - z / (v6 - v7).toInt64 * (v6 - v7).toInt64)), (9, .long (sh_s g w (z / (v6 - v7).toInt64) (z - z / (v6 - v7).toInt64 * (v6 - v7).toInt64) x j))]) hx hb dX1_partOf_84 hl (k := 7) rfl rfl (by decide) rfl (fun ls hl => ?_)
          refine lv_goto (tgt := 38) hx hb dX1_partOf_87 (by decide) ?_
          exact ih _ ⟨lv_sub hl [1, 2, 3, 4, 5, 6, 7, 0] (by rw [nI_succ j, sh_s, E9]; rfl), trivial⟩
        · have hgx : (v7 + nI j).toNatClampNeg = w + j := by rw [hw, nI_add]; exact nI_clamp (by omega)
          rw [hgx] at c58
          refine lv_lload hx hb dX1_partOf_61 (lv_at hl 6 rfl) ?_
          refine lv_iload hx hb dX1_partOf_63 (lv_at hl 7 rfl) ?_
          refine lv_i2l (v := ((nI j) : Int32).toInt64) hx hb dX1_partOf_65 rfl ?_
          refine lv_lload hx hb dX1_partOf_66 (lv_at hl 5 rfl) ?_
          refine W.lcmp hx hb dX1_partOf_68 ?_
          refine lv_if_ge (tgt := 79) hx hb dX1_partOf_69 (by decide) (fun c69 => ?_) (fun c69 => ?_)
          · have E9 : (if g (w + j) = x then (if (nI j).toInt64 < (z - z / (v6 - v7).toInt64 * (v6 - v7).toInt64) then sh_s g w (z / (v6 - v7).toInt64) (z - z / (v6 - v7).toInt64 * (v6 - v7).toInt64) x j + ((z / (v6 - v7).toInt64) + 1) else sh_s g w (z / (v6 - v7).toInt64) (z - z / (v6 - v7).toInt64 * (v6 - v7).toInt64) x j + (z / (v6 - v7).toInt64)) else sh_s g w (z / (v6 - v7).toInt64) (z - z / (v6 - v7).toInt64 * (v6 - v7).toInt64) x j) = sh_s g w (z / (v6 - v7).toInt64) (z - z / (v6 - v7).toInt64 * (v6 - v7).toInt64) x j + (z / (v6 - v7).toInt64) := by rw [if_pos c58, if_neg (Int64.not_lt.mpr (lc_ge.mp c69))]
            refine lv_lload hx hb dX1_partOf_79 (lv_at hl 4 rfl) ?_
            refine lv_ladd hx hb dX1_partOf_81 ?_
            refine lv_lstore (lv' := [(9, .long ((sh_s g w (z / (v6 - v7).toInt64) (z - z / (v6 - v7).toInt64 * (v6 - v7).toInt64) x j) + (z / (v6 - v7).toInt64))), (0, .ref a), (1, .long z), (3, .int x), (4, .int (v6 - v7)), (5, .long (z / (v6 - v7).toInt64)), (7, .long (z - z / (v6 - v7).toInt64 * (v6 - v7).toInt64)), (11, .int (nI j))]) hx hb dX1_partOf_82 hl (by decide) rfl (fun ls hl => ?_)
            refine lv_iinc (v := ((nI j) + 1)) (lv' := [(11, .int ((nI j) + 1)), (9, .long ((sh_s g w (z / (v6 - v7).toInt64) (z - z / (v6 - v7).toInt64 * (v6 - v7).toInt64) x j) + (z / (v6 - v7).toInt64))), (0, .ref a), (1, .long z), (3, .int x), (4, .int (v6 - v7)), (5, .long (z / (v6 - v7).toInt64)), (7, .long (z - z / (v6 - v7).toInt64 * (v6 - v7).toInt64))]) hx hb dX1_partOf_84 hl (k := 7) rfl rfl (by decide) rfl (fun ls hl => ?_)
            refine lv_goto (tgt := 38) hx hb dX1_partOf_87 (by decide) ?_
            exact ih _ ⟨lv_sub hl [2, 3, 4, 5, 6, 7, 1, 0] (by rw [nI_succ j, sh_s, E9]; rfl), trivial⟩
          · have E9 : (if g (w + j) = x then (if (nI j).toInt64 < (z - z / (v6 - v7).toInt64 * (v6 - v7).toInt64) then sh_s g w (z / (v6 - v7).toInt64) (z - z / (v6 - v7).toInt64 * (v6 - v7).toInt64) x j + ((z / (v6 - v7).toInt64) + 1) else sh_s g w (z / (v6 - v7).toInt64) (z - z / (v6 - v7).toInt64 * (v6 - v7).toInt64) x j + (z / (v6 - v7).toInt64)) else sh_s g w (z / (v6 - v7).toInt64) (z - z / (v6 - v7).toInt64 * (v6 - v7).toInt64) x j) = sh_s g w (z / (v6 - v7).toInt64) (z - z / (v6 - v7).toInt64 * (v6 - v7).toInt64) x j + ((z / (v6 - v7).toInt64) + 1) := by rw [if_pos c58, if_pos (Int64.not_le.mp (fun q => c69 (lc_ge.mpr q)))]
            refine lv_lload hx hb dX1_partOf_72 (lv_at hl 4 rfl) ?_
            refine lv_lconst (v := 1) hx hb dX1_partOf_74 (by decide) ?_
            refine lv_ladd hx hb dX1_partOf_75 ?_
            refine lv_goto (tgt := 81) hx hb dX1_partOf_76 (by decide) ?_
            refine lv_ladd hx hb dX1_partOf_81 ?_
            refine lv_lstore (lv' := [(9, .long ((sh_s g w (z / (v6 - v7).toInt64) (z - z / (v6 - v7).toInt64 * (v6 - v7).toInt64) x j) + ((z / (v6 - v7).toInt64) + 1))), (0, .ref a), (1, .long z), (3, .int x), (4, .int (v6 - v7)), (5, .long (z / (v6 - v7).toInt64)), (7, .long (z - z / (v6 - v7).toInt64 * (v6 - v7).toInt64)), (11, .int (nI j))]) hx hb dX1_partOf_82 hl (by decide) rfl (fun ls hl => ?_)
            refine lv_iinc (v := ((nI j) + 1)) (lv' := [(11, .int ((nI j) + 1)), (9, .long ((sh_s g w (z / (v6 - v7).toInt64) (z - z / (v6 - v7).toInt64 * (v6 - v7).toInt64) x j) + ((z / (v6 - v7).toInt64) + 1))), (0, .ref a), (1, .long z), (3, .int x), (4, .int (v6 - v7)), (5, .long (z / (v6 - v7).toInt64)), (7, .long (z - z / (v6 - v7).toInt64 * (v6 - v7).toInt64))]) hx hb dX1_partOf_84 hl (k := 7) rfl rfl (by decide) rfl (fun ls hl => ?_)
            refine lv_goto (tgt := 38) hx hb dX1_partOf_87 (by decide) ?_
            exact ih _ ⟨lv_sub hl [2, 3, 4, 5, 6, 7, 1, 0] (by rw [nI_succ j, sh_s, E9]; rfl), trivial⟩
    · obtain ⟨hl, hin⟩ := hin
      refine lv_iload hx hb dX1_partOf_38 (lv_at hl 7 rfl) ?_
      refine lv_iload hx hb dX1_partOf_40 (lv_at hl 3 rfl) ?_
      refine lv_icmp_ge (tgt := 90) hx hb dX1_partOf_42 (by decide) (fun c42 => ?_) (fun c42 => ?_)
      · refine lv_lload hx hb dX1_partOf_90 (lv_at hl 6 rfl) ?_
        exact W.lret (v := (sh_s g w (z / (v6 - v7).toInt64) (z - z / (v6 - v7).toInt64 * (v6 - v7).toInt64) x (k - w))) hx hb hr (fun t ht hW => ⟨(sh_s g w (z / (v6 - v7).toInt64) (z - z / (v6 - v7).toInt64 * (v6 - v7).toInt64) x (k - w)), rfl, (by rw [if_pos c13, hsc, hwc]), ht⟩) (fun q h => by cases h) dX1_partOf_92
      · exact absurd (by rw [hs]; exact nI_le (Nat.le_refl _) (by omega)) c42
  · refine lv_lconst (v := 0) hx hb dX1_partOf_16 (by decide) ?_
    exact W.lret (v := 0) hx hb hr (fun t ht hW => ⟨0, rfl, (by rw [if_neg (fun q => c13 q)]), ht⟩) (fun q h => by cases h) dX1_partOf_17
