set_option maxHeartbeats 4000000 in
set_option maxRecDepth 100000 in
theorem mt_ClaimRows_init (l : Launch) (dC : Nat → ClassId) (dI : Nat → Nat → Nat) (cA : Nat → ClassId) (sz : Nat) (o : Nat) : Met l yX3_init wsX3_init ({ frames := 1, cells := 8, slots := 702, locals := 12 }) (va_Pc [.ref o] (fun U => ct_M (dC, dI) vwCl (ty_K cA) [(o, .inr (3, [.null, .int 0, .null, .int 0, .null, .int 0, .null, .null, .null, .null, .null, .int 0, .int 0, .long 0, .long 0, .int 0]))] sz U ∧ va_AO "ClaimRows$Item" U ∧ va_AO "ClaimRows$Claim" U ∧ va_AO "ClaimRows$Search" U)) (va_Qv (fun Q : Nat → Nat => Q 0 = o) (fun Q t => ct_B (dC, dI) vwCl (ty_K cA) (va_A [(o, .inr (3, [.null, .int 0, .null, .int 0, .null, .int 0, .null, .null, .null, .null, .null, .int 0, .int 0, .long 0, .long 0, .int 0]))] sz) (xc_W Q cA xs_0) t) (va_A [(o, .inr (3, [.null, .int 0, .null, .int 0, .null, .int 0, .null, .null, .null, .null, .null, .int 0, .int 0, .long 0, .long 0, .int 0]))] sz)) 8 702 (va_A [(o, .inr (3, [.null, .int 0, .null, .int 0, .null, .int 0, .null, .null, .null, .null, .null, .int 0, .int 0, .long 0, .long 0, .int 0]))] sz) := by
  refine Met.ofW (cc := cX3_init) (maxL := 1) (ret := none) (by decide) rfl ?_
  intro p e s m args below meth c s₁ B hml hv
  obtain ⟨rfl, ⟨hsz, hP, hK, hD0⟩, hAO_X1, hAO_X0, hAO_X2⟩ := hv
  have hx := B.exec
  have hb := B.bytes
  have hr := B.returns
  have hts := atoms_spec (ws := wsX3_init) B.pre
  have hown : s.vm.findClass RX3 = some m.cls := findClass_of_methodNamed B.named
  have hlocks := B.notSynchronized
  have hin : meth.name = "<init>" := (name_of_methodNamed B.named B.method).1
  subst hsz
  have hD := hD0.self (sz := s.heap.size)
  generalize hAe : va_A [(o, .inr (3, [.null, .int 0, .null, .int 0, .null, .int 0, .null, .null, .null, .null, .null, .int 0, .int 0, .long 0, .long 0, .int 0]))] s.heap.size = A at hD ⊢
  have hA : ∀ q : Nat, s.heap.size ≤ q → A q := fun q h => by rw [← hAe]; exact Or.inr h
  clear hAe hD0
  have hS : va_S A s.heap s.heap [] := va_S.rf
  have hl := lv_entry ([.ref o]) (n := 1) (Nat.le_of_ble_eq_true rfl)
  rw [lg_entry_eq]
  generalize (lg_sl ([.ref o]) ++ List.replicate (1 - (lg_sl ([.ref o])).length) Slot.unset).toArray = ls at hl ⊢
  have hl : lv_has ls 1 [(0, .ref o)] := hl
  have lk0 := hts (.methodLink RX3 1 objectInit) (List.mem_cons_of_mem _ wd_13)
  have lk1 := hts (.instanceMethod objectInit) (List.mem_cons_of_mem _ wd_14)
  have lk2 := hts (.code objectInit ⟨#[0xb1]⟩ 1 none) (List.mem_cons_of_mem _ wd_15)
  have lk3 := hts (.classLink RX3 9 RX1) (List.mem_cons_of_mem _ wd_16)
  have lk4 := hts (.fieldLink RX3 11 "ClaimRows" "items" "[LClaimRows$Item;") (List.mem_cons_of_mem _ wd_19)
  have lk5 := hts (.classLink RX3 15 RX0) (List.mem_cons_of_mem _ wd_17)
  have lk6 := hts (.fieldLink RX3 17 "ClaimRows" "claims" "[LClaimRows$Claim;") (List.mem_cons_of_mem _ wd_21)
  have lk7 := hts (.classLink RX3 21 RX2) (List.mem_cons_of_mem _ wd_18)
  have lk8 := hts (.fieldLink RX3 23 "ClaimRows" "searches" "[LClaimRows$Search;") (List.mem_cons_of_mem _ wd_23)
  have lk9 := hts (.arrayClass .long) (List.mem_cons_of_mem _ wd_35)
  have lk10 := hts (.fieldLink RX3 27 "ClaimRows" "tableMost" "[J") (List.mem_cons_of_mem _ wd_25)
  have lk11 := hts (.arrayClass .int) (List.mem_cons_of_mem _ wd_36)
  have lk12 := hts (.fieldLink RX3 31 "ClaimRows" "tableDays" "[I") (List.mem_cons_of_mem _ wd_26)
  have lk13 := hts (.fieldLink RX3 35 "ClaimRows" "limits" "[J") (List.mem_cons_of_mem _ wd_27)
  have lk14 := hts (.fieldLink RX3 38 "ClaimRows" "letterClaims" "[I") (List.mem_cons_of_mem _ wd_28)
  have lk15 := hts (.fieldLink RX3 41 "ClaimRows" "letterKinds" "[I") (List.mem_cons_of_mem _ wd_29)
  have in0 : ∀ w ∈ u_ws RX3 TX3 16, w ∈ wsX3_init := fun w h => List.mem_cons_of_mem _ (wu_X3 w h)
  refine lv_aload_n hx hb dX3_init_0 rfl (lv_at hl 0 rfl) ?_
  refine W.objInit hx hb hown lk0 lk1 lk2 rfl (by rw [hml]; exact hl.1) rfl dX3_init_1 (Nat.le_of_ble_eq_true rfl) (Nat.le_of_ble_eq_true rfl) ?_
  refine W.eq (g2 := F0 m 4 ls []) rfl ?_
  refine lv_aload_n hx hb dX3_init_4 rfl (lv_at hl 0 rfl) ?_
  refine lv_bipush (v := 100) hx hb dX3_init_5 (by decide) ?_
  refine va_newq hx hb hown lk3 (hAO_X1) hK hP hD hS hA (by decide) rfl (by decide) (Nat.le_of_ble_eq_true rfl) (Nat.le_of_ble_eq_true rfl) dX3_init_7 (fun q7 cB H hK1 hP hD hS => ?_)
  obtain rfl : cB = cA 3 := ct_K1 hK1 (i := 6) (j := 3) rfl rfl
  clear hK1
  have hP : va_P (dC, dI) vwCl [(o, .inr (3, [.null, .int 0, .null, .int 0, .null, .int 0, .null, .null, .null, .null, .null, .int 0, .int 0, .long 0, .long 0, .int 0])), (q7, .inl (cA 3, 100, .inr (.inr (.inr (.inr (fun _ => none))))))] H := hP
  have hD : va_D A [(o, .inr (3, [.null, .int 0, .null, .int 0, .null, .int 0, .null, .null, .null, .null, .null, .int 0, .int 0, .long 0, .long 0, .int 0])), (q7, .inl (cA 3, 100, .inr (.inr (.inr (.inr (fun _ => none))))))] := hD
  refine W.widen (k := 1) (n := 100) (by decide) (by decide) ?_
  refine va_putF (D := (dC, dI)) (ci := 3) (v := .ref q7) (ty := .array (.object "ClaimRows$Item")) (C := RX3) (T := TX3) (N := 16) hx hb hts in0 tyX3 tyX3_ok nmX3 hown hK hP hD hS 0 rfl rfl 0 (by decide) lk4 (fun _ h9 => h9) rfl hin rfl (by decide +kernel) rfl rfl (Nat.le_of_ble_eq_true rfl) dX3_init_10 (fun H locs hP hD hS => ?_)
  have hP : va_P (dC, dI) vwCl [(o, .inr (3, [.ref q7, .int 0, .null, .int 0, .null, .int 0, .null, .null, .null, .null, .null, .int 0, .int 0, .long 0, .long 0, .int 0])), (q7, .inl (cA 3, 100, .inr (.inr (.inr (.inr (fun _ => none))))))] H := hP
  have hD : va_D A [(o, .inr (3, [.ref q7, .int 0, .null, .int 0, .null, .int 0, .null, .null, .null, .null, .null, .int 0, .int 0, .long 0, .long 0, .int 0])), (q7, .inl (cA 3, 100, .inr (.inr (.inr (.inr (fun _ => none))))))] := hD
  refine lv_aload_n hx hb dX3_init_13 rfl (lv_at hl 0 rfl) ?_
  refine lv_bipush (v := 60) hx hb dX3_init_14 (by decide) ?_
  refine va_newq hx hb hown lk5 (hAO_X0) hK hP hD hS hA (by decide) rfl (by decide) (Nat.le_of_ble_eq_true rfl) (Nat.le_of_ble_eq_true rfl) dX3_init_16 (fun q16 cB H hK1 hP hD hS => ?_)
  obtain rfl : cB = cA 4 := ct_K1 hK1 (i := 6) (j := 4) rfl rfl
  clear hK1
  have hP : va_P (dC, dI) vwCl [(o, .inr (3, [.ref q7, .int 0, .null, .int 0, .null, .int 0, .null, .null, .null, .null, .null, .int 0, .int 0, .long 0, .long 0, .int 0])), (q7, .inl (cA 3, 100, .inr (.inr (.inr (.inr (fun _ => none)))))), (q16, .inl (cA 4, 60, .inr (.inr (.inr (.inr (fun _ => none))))))] H := hP
  have hD : va_D A [(o, .inr (3, [.ref q7, .int 0, .null, .int 0, .null, .int 0, .null, .null, .null, .null, .null, .int 0, .int 0, .long 0, .long 0, .int 0])), (q7, .inl (cA 3, 100, .inr (.inr (.inr (.inr (fun _ => none)))))), (q16, .inl (cA 4, 60, .inr (.inr (.inr (.inr (fun _ => none))))))] := hD
  refine W.widen (k := 2) (n := 160) (by decide) (by decide) ?_
  refine va_putF (D := (dC, dI)) (ci := 3) (v := .ref q16) (ty := .array (.object "ClaimRows$Claim")) (C := RX3) (T := TX3) (N := 16) hx hb hts in0 tyX3 tyX3_ok nmX3 hown hK hP hD hS 0 rfl rfl 2 (by decide) lk6 (fun _ h9 => h9) rfl hin rfl (by decide +kernel) rfl rfl (Nat.le_of_ble_eq_true rfl) dX3_init_19 (fun H locs hP hD hS => ?_)
  have hP : va_P (dC, dI) vwCl [(o, .inr (3, [.ref q7, .int 0, .ref q16, .int 0, .null, .int 0, .null, .null, .null, .null, .null, .int 0, .int 0, .long 0, .long 0, .int 0])), (q7, .inl (cA 3, 100, .inr (.inr (.inr (.inr (fun _ => none)))))), (q16, .inl (cA 4, 60, .inr (.inr (.inr (.inr (fun _ => none))))))] H := hP
  have hD : va_D A [(o, .inr (3, [.ref q7, .int 0, .ref q16, .int 0, .null, .int 0, .null, .null, .null, .null, .null, .int 0, .int 0, .long 0, .long 0, .int 0])), (q7, .inl (cA 3, 100, .inr (.inr (.inr (.inr (fun _ => none)))))), (q16, .inl (cA 4, 60, .inr (.inr (.inr (.inr (fun _ => none))))))] := hD
  refine lv_aload_n hx hb dX3_init_22 rfl (lv_at hl 0 rfl) ?_
  refine lv_bipush (v := 100) hx hb dX3_init_23 (by decide) ?_
  refine va_newq hx hb hown lk7 (hAO_X2) hK hP hD hS hA (by decide) rfl (by decide) (Nat.le_of_ble_eq_true rfl) (Nat.le_of_ble_eq_true rfl) dX3_init_25 (fun q25 cB H hK1 hP hD hS => ?_)
  obtain rfl : cB = cA 5 := ct_K1 hK1 (i := 6) (j := 5) rfl rfl
  clear hK1
  have hP : va_P (dC, dI) vwCl [(o, .inr (3, [.ref q7, .int 0, .ref q16, .int 0, .null, .int 0, .null, .null, .null, .null, .null, .int 0, .int 0, .long 0, .long 0, .int 0])), (q7, .inl (cA 3, 100, .inr (.inr (.inr (.inr (fun _ => none)))))), (q16, .inl (cA 4, 60, .inr (.inr (.inr (.inr (fun _ => none)))))), (q25, .inl (cA 5, 100, .inr (.inr (.inr (.inr (fun _ => none))))))] H := hP
  have hD : va_D A [(o, .inr (3, [.ref q7, .int 0, .ref q16, .int 0, .null, .int 0, .null, .null, .null, .null, .null, .int 0, .int 0, .long 0, .long 0, .int 0])), (q7, .inl (cA 3, 100, .inr (.inr (.inr (.inr (fun _ => none)))))), (q16, .inl (cA 4, 60, .inr (.inr (.inr (.inr (fun _ => none)))))), (q25, .inl (cA 5, 100, .inr (.inr (.inr (.inr (fun _ => none))))))] := hD
  refine W.widen (k := 3) (n := 260) (by decide) (by decide) ?_
  refine va_putF (D := (dC, dI)) (ci := 3) (v := .ref q25) (ty := .array (.object "ClaimRows$Search")) (C := RX3) (T := TX3) (N := 16) hx hb hts in0 tyX3 tyX3_ok nmX3 hown hK hP hD hS 0 rfl rfl 4 (by decide) lk8 (fun _ h9 => h9) rfl hin rfl (by decide +kernel) rfl rfl (Nat.le_of_ble_eq_true rfl) dX3_init_28 (fun H locs hP hD hS => ?_)
  have hP : va_P (dC, dI) vwCl [(o, .inr (3, [.ref q7, .int 0, .ref q16, .int 0, .ref q25, .int 0, .null, .null, .null, .null, .null, .int 0, .int 0, .long 0, .long 0, .int 0])), (q7, .inl (cA 3, 100, .inr (.inr (.inr (.inr (fun _ => none)))))), (q16, .inl (cA 4, 60, .inr (.inr (.inr (.inr (fun _ => none)))))), (q25, .inl (cA 5, 100, .inr (.inr (.inr (.inr (fun _ => none))))))] H := hP
  have hD : va_D A [(o, .inr (3, [.ref q7, .int 0, .ref q16, .int 0, .ref q25, .int 0, .null, .null, .null, .null, .null, .int 0, .int 0, .long 0, .long 0, .int 0])), (q7, .inl (cA 3, 100, .inr (.inr (.inr (.inr (fun _ => none)))))), (q16, .inl (cA 4, 60, .inr (.inr (.inr (.inr (fun _ => none)))))), (q25, .inl (cA 5, 100, .inr (.inr (.inr (.inr (fun _ => none))))))] := hD
  refine lv_aload_n hx hb dX3_init_31 rfl (lv_at hl 0 rfl) ?_
  refine lv_bipush (v := 16) hx hb dX3_init_32 (by decide) ?_
  refine va_newa (atype := .long) (ty := .long) hx hb lk9 rfl hK hP hD hS hA (a0 := (16, .inr (.inl (fun _ => 0)))) (fun _ => rfl) (by decide) rfl (by decide) (Nat.le_of_ble_eq_true rfl) (Nat.le_of_ble_eq_true rfl) dX3_init_34 (fun q34 cB H hK1 hP hD hS => ?_)
  obtain rfl : cB = cA 1 := ct_K1 hK1 (i := 6) (j := 1) rfl rfl
  clear hK1
  have hP : va_P (dC, dI) vwCl [(o, .inr (3, [.ref q7, .int 0, .ref q16, .int 0, .ref q25, .int 0, .null, .null, .null, .null, .null, .int 0, .int 0, .long 0, .long 0, .int 0])), (q7, .inl (cA 3, 100, .inr (.inr (.inr (.inr (fun _ => none)))))), (q16, .inl (cA 4, 60, .inr (.inr (.inr (.inr (fun _ => none)))))), (q25, .inl (cA 5, 100, .inr (.inr (.inr (.inr (fun _ => none)))))), (q34, .inl (cA 1, 16, .inr (.inl (fun _ => 0))))] H := hP
  have hD : va_D A [(o, .inr (3, [.ref q7, .int 0, .ref q16, .int 0, .ref q25, .int 0, .null, .null, .null, .null, .null, .int 0, .int 0, .long 0, .long 0, .int 0])), (q7, .inl (cA 3, 100, .inr (.inr (.inr (.inr (fun _ => none)))))), (q16, .inl (cA 4, 60, .inr (.inr (.inr (.inr (fun _ => none)))))), (q25, .inl (cA 5, 100, .inr (.inr (.inr (.inr (fun _ => none)))))), (q34, .inl (cA 1, 16, .inr (.inl (fun _ => 0))))] := hD
  refine W.widen (k := 4) (n := 276) (by decide) (by decide) ?_
  refine va_putF (D := (dC, dI)) (ci := 3) (v := .ref q34) (ty := .array .long) (C := RX3) (T := TX3) (N := 16) hx hb hts in0 tyX3 tyX3_ok nmX3 hown hK hP hD hS 0 rfl rfl 6 (by decide) lk10 (fun _ h9 => h9) rfl hin rfl (by decide +kernel) rfl rfl (Nat.le_of_ble_eq_true rfl) dX3_init_36 (fun H locs hP hD hS => ?_)
  have hP : va_P (dC, dI) vwCl [(o, .inr (3, [.ref q7, .int 0, .ref q16, .int 0, .ref q25, .int 0, .ref q34, .null, .null, .null, .null, .int 0, .int 0, .long 0, .long 0, .int 0])), (q7, .inl (cA 3, 100, .inr (.inr (.inr (.inr (fun _ => none)))))), (q16, .inl (cA 4, 60, .inr (.inr (.inr (.inr (fun _ => none)))))), (q25, .inl (cA 5, 100, .inr (.inr (.inr (.inr (fun _ => none)))))), (q34, .inl (cA 1, 16, .inr (.inl (fun _ => 0))))] H := hP
  have hD : va_D A [(o, .inr (3, [.ref q7, .int 0, .ref q16, .int 0, .ref q25, .int 0, .ref q34, .null, .null, .null, .null, .int 0, .int 0, .long 0, .long 0, .int 0])), (q7, .inl (cA 3, 100, .inr (.inr (.inr (.inr (fun _ => none)))))), (q16, .inl (cA 4, 60, .inr (.inr (.inr (.inr (fun _ => none)))))), (q25, .inl (cA 5, 100, .inr (.inr (.inr (.inr (fun _ => none)))))), (q34, .inl (cA 1, 16, .inr (.inl (fun _ => 0))))] := hD
  refine lv_aload_n hx hb dX3_init_39 rfl (lv_at hl 0 rfl) ?_
  refine lv_bipush (v := 16) hx hb dX3_init_40 (by decide) ?_
  refine va_newa (atype := .int) (ty := .int) hx hb lk11 rfl hK hP hD hS hA (a0 := (16, .inl (fun _ => 0))) (fun _ => rfl) (by decide) rfl (by decide) (Nat.le_of_ble_eq_true rfl) (Nat.le_of_ble_eq_true rfl) dX3_init_42 (fun q42 cB H hK1 hP hD hS => ?_)
  obtain rfl : cB = cA 0 := ct_K1 hK1 (i := 6) (j := 0) rfl rfl
  clear hK1
  have hP : va_P (dC, dI) vwCl [(o, .inr (3, [.ref q7, .int 0, .ref q16, .int 0, .ref q25, .int 0, .ref q34, .null, .null, .null, .null, .int 0, .int 0, .long 0, .long 0, .int 0])), (q7, .inl (cA 3, 100, .inr (.inr (.inr (.inr (fun _ => none)))))), (q16, .inl (cA 4, 60, .inr (.inr (.inr (.inr (fun _ => none)))))), (q25, .inl (cA 5, 100, .inr (.inr (.inr (.inr (fun _ => none)))))), (q34, .inl (cA 1, 16, .inr (.inl (fun _ => 0)))), (q42, .inl (cA 0, 16, .inl (fun _ => 0)))] H := hP
  have hD : va_D A [(o, .inr (3, [.ref q7, .int 0, .ref q16, .int 0, .ref q25, .int 0, .ref q34, .null, .null, .null, .null, .int 0, .int 0, .long 0, .long 0, .int 0])), (q7, .inl (cA 3, 100, .inr (.inr (.inr (.inr (fun _ => none)))))), (q16, .inl (cA 4, 60, .inr (.inr (.inr (.inr (fun _ => none)))))), (q25, .inl (cA 5, 100, .inr (.inr (.inr (.inr (fun _ => none)))))), (q34, .inl (cA 1, 16, .inr (.inl (fun _ => 0)))), (q42, .inl (cA 0, 16, .inl (fun _ => 0)))] := hD
  refine W.widen (k := 5) (n := 292) (by decide) (by decide) ?_
  refine va_putF (D := (dC, dI)) (ci := 3) (v := .ref q42) (ty := .array .int) (C := RX3) (T := TX3) (N := 16) hx hb hts in0 tyX3 tyX3_ok nmX3 hown hK hP hD hS 0 rfl rfl 7 (by decide) lk12 (fun _ h9 => h9) rfl hin rfl (by decide +kernel) rfl rfl (Nat.le_of_ble_eq_true rfl) dX3_init_44 (fun H locs hP hD hS => ?_)
  have hP : va_P (dC, dI) vwCl [(o, .inr (3, [.ref q7, .int 0, .ref q16, .int 0, .ref q25, .int 0, .ref q34, .ref q42, .null, .null, .null, .int 0, .int 0, .long 0, .long 0, .int 0])), (q7, .inl (cA 3, 100, .inr (.inr (.inr (.inr (fun _ => none)))))), (q16, .inl (cA 4, 60, .inr (.inr (.inr (.inr (fun _ => none)))))), (q25, .inl (cA 5, 100, .inr (.inr (.inr (.inr (fun _ => none)))))), (q34, .inl (cA 1, 16, .inr (.inl (fun _ => 0)))), (q42, .inl (cA 0, 16, .inl (fun _ => 0)))] H := hP
  have hD : va_D A [(o, .inr (3, [.ref q7, .int 0, .ref q16, .int 0, .ref q25, .int 0, .ref q34, .ref q42, .null, .null, .null, .int 0, .int 0, .long 0, .long 0, .int 0])), (q7, .inl (cA 3, 100, .inr (.inr (.inr (.inr (fun _ => none)))))), (q16, .inl (cA 4, 60, .inr (.inr (.inr (.inr (fun _ => none)))))), (q25, .inl (cA 5, 100, .inr (.inr (.inr (.inr (fun _ => none)))))), (q34, .inl (cA 1, 16, .inr (.inl (fun _ => 0)))), (q42, .inl (cA 0, 16, .inl (fun _ => 0)))] := hD
  refine lv_aload_n hx hb dX3_init_47 rfl (lv_at hl 0 rfl) ?_
  refine lv_bipush (v := 10) hx hb dX3_init_48 (by decide) ?_
  refine va_newa (atype := .long) (ty := .long) hx hb lk9 rfl hK hP hD hS hA (a0 := (10, .inr (.inl (fun _ => 0)))) (fun _ => rfl) (by decide) rfl (by decide) (Nat.le_of_ble_eq_true rfl) (Nat.le_of_ble_eq_true rfl) dX3_init_50 (fun q50 cB H hK1 hP hD hS => ?_)
  obtain rfl : cB = cA 1 := ct_K1 hK1 (i := 6) (j := 1) rfl rfl
  clear hK1
  have hP : va_P (dC, dI) vwCl [(o, .inr (3, [.ref q7, .int 0, .ref q16, .int 0, .ref q25, .int 0, .ref q34, .ref q42, .null, .null, .null, .int 0, .int 0, .long 0, .long 0, .int 0])), (q7, .inl (cA 3, 100, .inr (.inr (.inr (.inr (fun _ => none)))))), (q16, .inl (cA 4, 60, .inr (.inr (.inr (.inr (fun _ => none)))))), (q25, .inl (cA 5, 100, .inr (.inr (.inr (.inr (fun _ => none)))))), (q34, .inl (cA 1, 16, .inr (.inl (fun _ => 0)))), (q42, .inl (cA 0, 16, .inl (fun _ => 0))), (q50, .inl (cA 1, 10, .inr (.inl (fun _ => 0))))] H := hP
  have hD : va_D A [(o, .inr (3, [.ref q7, .int 0, .ref q16, .int 0, .ref q25, .int 0, .ref q34, .ref q42, .null, .null, .null, .int 0, .int 0, .long 0, .long 0, .int 0])), (q7, .inl (cA 3, 100, .inr (.inr (.inr (.inr (fun _ => none)))))), (q16, .inl (cA 4, 60, .inr (.inr (.inr (.inr (fun _ => none)))))), (q25, .inl (cA 5, 100, .inr (.inr (.inr (.inr (fun _ => none)))))), (q34, .inl (cA 1, 16, .inr (.inl (fun _ => 0)))), (q42, .inl (cA 0, 16, .inl (fun _ => 0))), (q50, .inl (cA 1, 10, .inr (.inl (fun _ => 0))))] := hD
  refine W.widen (k := 6) (n := 302) (by decide) (by decide) ?_
  refine va_putF (D := (dC, dI)) (ci := 3) (v := .ref q50) (ty := .array .long) (C := RX3) (T := TX3) (N := 16) hx hb hts in0 tyX3 tyX3_ok nmX3 hown hK hP hD hS 0 rfl rfl 8 (by decide) lk13 (fun _ h9 => h9) rfl hin rfl (by decide +kernel) rfl rfl (Nat.le_of_ble_eq_true rfl) dX3_init_52 (fun H locs hP hD hS => ?_)
  have hP : va_P (dC, dI) vwCl [(o, .inr (3, [.ref q7, .int 0, .ref q16, .int 0, .ref q25, .int 0, .ref q34, .ref q42, .ref q50, .null, .null, .int 0, .int 0, .long 0, .long 0, .int 0])), (q7, .inl (cA 3, 100, .inr (.inr (.inr (.inr (fun _ => none)))))), (q16, .inl (cA 4, 60, .inr (.inr (.inr (.inr (fun _ => none)))))), (q25, .inl (cA 5, 100, .inr (.inr (.inr (.inr (fun _ => none)))))), (q34, .inl (cA 1, 16, .inr (.inl (fun _ => 0)))), (q42, .inl (cA 0, 16, .inl (fun _ => 0))), (q50, .inl (cA 1, 10, .inr (.inl (fun _ => 0))))] H := hP
  have hD : va_D A [(o, .inr (3, [.ref q7, .int 0, .ref q16, .int 0, .ref q25, .int 0, .ref q34, .ref q42, .ref q50, .null, .null, .int 0, .int 0, .long 0, .long 0, .int 0])), (q7, .inl (cA 3, 100, .inr (.inr (.inr (.inr (fun _ => none)))))), (q16, .inl (cA 4, 60, .inr (.inr (.inr (.inr (fun _ => none)))))), (q25, .inl (cA 5, 100, .inr (.inr (.inr (.inr (fun _ => none)))))), (q34, .inl (cA 1, 16, .inr (.inl (fun _ => 0)))), (q42, .inl (cA 0, 16, .inl (fun _ => 0))), (q50, .inl (cA 1, 10, .inr (.inl (fun _ => 0))))] := hD
  refine lv_aload_n hx hb dX3_init_55 rfl (lv_at hl 0 rfl) ?_
  refine lv_sipush (v := 200) hx hb dX3_init_56 (by decide) ?_
  refine va_newa (atype := .int) (ty := .int) hx hb lk11 rfl hK hP hD hS hA (a0 := (200, .inl (fun _ => 0))) (fun _ => rfl) (by decide) rfl (by decide) (Nat.le_of_ble_eq_true rfl) (Nat.le_of_ble_eq_true rfl) dX3_init_59 (fun q59 cB H hK1 hP hD hS => ?_)
  obtain rfl : cB = cA 0 := ct_K1 hK1 (i := 6) (j := 0) rfl rfl
  clear hK1
  have hP : va_P (dC, dI) vwCl [(o, .inr (3, [.ref q7, .int 0, .ref q16, .int 0, .ref q25, .int 0, .ref q34, .ref q42, .ref q50, .null, .null, .int 0, .int 0, .long 0, .long 0, .int 0])), (q7, .inl (cA 3, 100, .inr (.inr (.inr (.inr (fun _ => none)))))), (q16, .inl (cA 4, 60, .inr (.inr (.inr (.inr (fun _ => none)))))), (q25, .inl (cA 5, 100, .inr (.inr (.inr (.inr (fun _ => none)))))), (q34, .inl (cA 1, 16, .inr (.inl (fun _ => 0)))), (q42, .inl (cA 0, 16, .inl (fun _ => 0))), (q50, .inl (cA 1, 10, .inr (.inl (fun _ => 0)))), (q59, .inl (cA 0, 200, .inl (fun _ => 0)))] H := hP
  have hD : va_D A [(o, .inr (3, [.ref q7, .int 0, .ref q16, .int 0, .ref q25, .int 0, .ref q34, .ref q42, .ref q50, .null, .null, .int 0, .int 0, .long 0, .long 0, .int 0])), (q7, .inl (cA 3, 100, .inr (.inr (.inr (.inr (fun _ => none)))))), (q16, .inl (cA 4, 60, .inr (.inr (.inr (.inr (fun _ => none)))))), (q25, .inl (cA 5, 100, .inr (.inr (.inr (.inr (fun _ => none)))))), (q34, .inl (cA 1, 16, .inr (.inl (fun _ => 0)))), (q42, .inl (cA 0, 16, .inl (fun _ => 0))), (q50, .inl (cA 1, 10, .inr (.inl (fun _ => 0)))), (q59, .inl (cA 0, 200, .inl (fun _ => 0)))] := hD
  refine W.widen (k := 7) (n := 502) (by decide) (by decide) ?_
  refine va_putF (D := (dC, dI)) (ci := 3) (v := .ref q59) (ty := .array .int) (C := RX3) (T := TX3) (N := 16) hx hb hts in0 tyX3 tyX3_ok nmX3 hown hK hP hD hS 0 rfl rfl 9 (by decide) lk14 (fun _ h9 => h9) rfl hin rfl (by decide +kernel) rfl rfl (Nat.le_of_ble_eq_true rfl) dX3_init_61 (fun H locs hP hD hS => ?_)
  have hP : va_P (dC, dI) vwCl [(o, .inr (3, [.ref q7, .int 0, .ref q16, .int 0, .ref q25, .int 0, .ref q34, .ref q42, .ref q50, .ref q59, .null, .int 0, .int 0, .long 0, .long 0, .int 0])), (q7, .inl (cA 3, 100, .inr (.inr (.inr (.inr (fun _ => none)))))), (q16, .inl (cA 4, 60, .inr (.inr (.inr (.inr (fun _ => none)))))), (q25, .inl (cA 5, 100, .inr (.inr (.inr (.inr (fun _ => none)))))), (q34, .inl (cA 1, 16, .inr (.inl (fun _ => 0)))), (q42, .inl (cA 0, 16, .inl (fun _ => 0))), (q50, .inl (cA 1, 10, .inr (.inl (fun _ => 0)))), (q59, .inl (cA 0, 200, .inl (fun _ => 0)))] H := hP
  have hD : va_D A [(o, .inr (3, [.ref q7, .int 0, .ref q16, .int 0, .ref q25, .int 0, .ref q34, .ref q42, .ref q50, .ref q59, .null, .int 0, .int 0, .long 0, .long 0, .int 0])), (q7, .inl (cA 3, 100, .inr (.inr (.inr (.inr (fun _ => none)))))), (q16, .inl (cA 4, 60, .inr (.inr (.inr (.inr (fun _ => none)))))), (q25, .inl (cA 5, 100, .inr (.inr (.inr (.inr (fun _ => none)))))), (q34, .inl (cA 1, 16, .inr (.inl (fun _ => 0)))), (q42, .inl (cA 0, 16, .inl (fun _ => 0))), (q50, .inl (cA 1, 10, .inr (.inl (fun _ => 0)))), (q59, .inl (cA 0, 200, .inl (fun _ => 0)))] := hD
  refine lv_aload_n hx hb dX3_init_64 rfl (lv_at hl 0 rfl) ?_
  refine lv_sipush (v := 200) hx hb dX3_init_65 (by decide) ?_
  refine va_newa (atype := .int) (ty := .int) hx hb lk11 rfl hK hP hD hS hA (a0 := (200, .inl (fun _ => 0))) (fun _ => rfl) (by decide) rfl (by decide) (Nat.le_of_ble_eq_true rfl) (Nat.le_of_ble_eq_true rfl) dX3_init_68 (fun q68 cB H hK1 hP hD hS => ?_)
  obtain rfl : cB = cA 0 := ct_K1 hK1 (i := 6) (j := 0) rfl rfl
  clear hK1
  have hP : va_P (dC, dI) vwCl [(o, .inr (3, [.ref q7, .int 0, .ref q16, .int 0, .ref q25, .int 0, .ref q34, .ref q42, .ref q50, .ref q59, .null, .int 0, .int 0, .long 0, .long 0, .int 0])), (q7, .inl (cA 3, 100, .inr (.inr (.inr (.inr (fun _ => none)))))), (q16, .inl (cA 4, 60, .inr (.inr (.inr (.inr (fun _ => none)))))), (q25, .inl (cA 5, 100, .inr (.inr (.inr (.inr (fun _ => none)))))), (q34, .inl (cA 1, 16, .inr (.inl (fun _ => 0)))), (q42, .inl (cA 0, 16, .inl (fun _ => 0))), (q50, .inl (cA 1, 10, .inr (.inl (fun _ => 0)))), (q59, .inl (cA 0, 200, .inl (fun _ => 0))), (q68, .inl (cA 0, 200, .inl (fun _ => 0)))] H := hP
  have hD : va_D A [(o, .inr (3, [.ref q7, .int 0, .ref q16, .int 0, .ref q25, .int 0, .ref q34, .ref q42, .ref q50, .ref q59, .null, .int 0, .int 0, .long 0, .long 0, .int 0])), (q7, .inl (cA 3, 100, .inr (.inr (.inr (.inr (fun _ => none)))))), (q16, .inl (cA 4, 60, .inr (.inr (.inr (.inr (fun _ => none)))))), (q25, .inl (cA 5, 100, .inr (.inr (.inr (.inr (fun _ => none)))))), (q34, .inl (cA 1, 16, .inr (.inl (fun _ => 0)))), (q42, .inl (cA 0, 16, .inl (fun _ => 0))), (q50, .inl (cA 1, 10, .inr (.inl (fun _ => 0)))), (q59, .inl (cA 0, 200, .inl (fun _ => 0))), (q68, .inl (cA 0, 200, .inl (fun _ => 0)))] := hD
  refine W.widen (k := 8) (n := 702) (by decide) (by decide) ?_
  refine va_putF (D := (dC, dI)) (ci := 3) (v := .ref q68) (ty := .array .int) (C := RX3) (T := TX3) (N := 16) hx hb hts in0 tyX3 tyX3_ok nmX3 hown hK hP hD hS 0 rfl rfl 10 (by decide) lk15 (fun _ h9 => h9) rfl hin rfl (by decide +kernel) rfl rfl (Nat.le_of_ble_eq_true rfl) dX3_init_70 (fun H locs hP hD hS => ?_)
  have hP : va_P (dC, dI) vwCl [(o, .inr (3, [.ref q7, .int 0, .ref q16, .int 0, .ref q25, .int 0, .ref q34, .ref q42, .ref q50, .ref q59, .ref q68, .int 0, .int 0, .long 0, .long 0, .int 0])), (q7, .inl (cA 3, 100, .inr (.inr (.inr (.inr (fun _ => none)))))), (q16, .inl (cA 4, 60, .inr (.inr (.inr (.inr (fun _ => none)))))), (q25, .inl (cA 5, 100, .inr (.inr (.inr (.inr (fun _ => none)))))), (q34, .inl (cA 1, 16, .inr (.inl (fun _ => 0)))), (q42, .inl (cA 0, 16, .inl (fun _ => 0))), (q50, .inl (cA 1, 10, .inr (.inl (fun _ => 0)))), (q59, .inl (cA 0, 200, .inl (fun _ => 0))), (q68, .inl (cA 0, 200, .inl (fun _ => 0)))] H := hP
  have hD : va_D A [(o, .inr (3, [.ref q7, .int 0, .ref q16, .int 0, .ref q25, .int 0, .ref q34, .ref q42, .ref q50, .ref q59, .ref q68, .int 0, .int 0, .long 0, .long 0, .int 0])), (q7, .inl (cA 3, 100, .inr (.inr (.inr (.inr (fun _ => none)))))), (q16, .inl (cA 4, 60, .inr (.inr (.inr (.inr (fun _ => none)))))), (q25, .inl (cA 5, 100, .inr (.inr (.inr (.inr (fun _ => none)))))), (q34, .inl (cA 1, 16, .inr (.inl (fun _ => 0)))), (q42, .inl (cA 0, 16, .inl (fun _ => 0))), (q50, .inl (cA 1, 10, .inr (.inl (fun _ => 0)))), (q59, .inl (cA 0, 200, .inl (fun _ => 0))), (q68, .inl (cA 0, 200, .inl (fun _ => 0)))] := hD
  exact W.vret hx hb hr (fun t ht hW => ⟨⟨(fun k => if k = 0 then o else if k = 1 then q7 else if k = 2 then q16 else if k = 3 then q25 else if k = 4 then q34 else if k = 5 then q42 else if k = 6 then q50 else if k = 7 then q59 else q68), rfl, rfl, by rw [ht]; exact hP, va_K.moved hW.alike hK, hD⟩, hS.F ht⟩) hS.2.2 dX3_init_73
