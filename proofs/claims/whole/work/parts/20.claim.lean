set_option maxHeartbeats 4000000 in
set_option maxRecDepth 100000 in
/-- mt_Claim_init -/
theorem mt_Claim_init (l : Launch) (dC : Nat → ClassId) (dI : Nat → Nat → Nat) (cA : Nat → ClassId) (sz : Nat) (X : va_W) (L : List Nat) (f : Nat → va_E) (tN : Nat) (a : Nat) (ha : a ∈ L) (hf : f a = .inr (0, [.int 0, .int 0, .null, .int 0, .int 0, .int 0, .int 0, .int 0, .int 0, .int 0, .int 0, .int 0, .long 0])) (x1 x2 : Int32) (x3 : Nat) (x4 x5 : Int32) (hx4 : 0 ≤ x4 ∧ x4 < 4) : Met l yX0_init wsX0_init ({ frames := 1, cells := 0, slots := 0, locals := 21 }) (va_Pc [.ref a, .int x1, .int x2, .ref x3, .int x4, .int x5] (fun U => ct_M (dC, dI) vwCl (ty_K cA) (X ++ va_pl L f) sz U ∧ sx_Z tN (va_A (X ++ va_pl L f) sz) U)) (va_Qv (fun u => u = (L, va_up f a (.inr (0, [.int x1, .int x2, .ref x3, .int x4, .int x5, .int 0, .int (ne_ed x4), .int 0, .int 0, .int 0, .int 0, .int 0, .long 0])))) (fun u t => ct_B (dC, dI) vwCl (ty_K cA) (va_A (X ++ va_pl L f) sz) (X ++ va_pl u.1 u.2) t) (va_A (X ++ va_pl L f) sz)) 0 0 (va_A (X ++ va_pl L f) sz) := by
  refine Met.ofW (cc := cX0_init) (maxL := 6) (ret := none) (by decide) rfl ?_
  intro p e s m args below meth c s₁ B hml hv
  obtain ⟨rfl, ⟨hsz, hP, hK, hD0⟩, hN1, hN2, hZ, hTN⟩ := hv
  have hx := B.exec
  have hb := B.bytes
  have hr := B.returns
  have hts := atoms_spec (ws := wsX0_init) B.pre
  have hown : s.vm.findClass RX0 = some m.cls := findClass_of_methodNamed B.named
  have hlocks := B.notSynchronized
  have hin : meth.name = "<init>" := (name_of_methodNamed B.named B.method).1
  subst hsz
  have hD := hD0.self (sz := s.heap.size)
  generalize hAe : va_A (X ++ va_pl L f) s.heap.size = A at hD hZ hTN ⊢
  have hA : ∀ q : Nat, s.heap.size ≤ q → A q := fun q h => by rw [← hAe]; exact Or.inr h
  clear hAe hD0
  have hS : va_S A s.heap s.heap [] := va_S.rf
  have hl := lv_entry ([.ref a, .int x1, .int x2, .ref x3, .int x4, .int x5]) (n := 6) (Nat.le_of_ble_eq_true rfl)
  rw [lg_entry_eq]
  generalize (lg_sl ([.ref a, .int x1, .int x2, .ref x3, .int x4, .int x5]) ++ List.replicate (6 - (lg_sl ([.ref a, .int x1, .int x2, .ref x3, .int x4, .int x5])).length) Slot.unset).toArray = ls at hl ⊢
  have hl : lv_has ls 6 [(0, .ref a), (1, .int x1), (2, .int x2), (3, .ref x3), (4, .int x4), (5, .int x5)] := hl
  have lk0 := hts (.methodLink RX0 3 objectInit) (List.mem_cons_of_mem _ wd_117)
  have lk1 := hts (.instanceMethod objectInit) (List.mem_cons_of_mem _ wd_14)
  have lk2 := hts (.code objectInit ⟨#[0xb1]⟩ 1 none) (List.mem_cons_of_mem _ wd_15)
  have lk3 := hts (.fieldLink RX0 9 "ClaimRows$Claim" "state" "I") (List.mem_cons_of_mem _ wd_128)
  have lk4 := hts (.fieldLink RX0 15 "ClaimRows$Claim" "number" "I") (List.mem_cons_of_mem _ wd_118)
  have lk5 := hts (.fieldLink RX0 18 "ClaimRows$Claim" "itemNumber" "I") (List.mem_cons_of_mem _ wd_120)
  have lk6 := hts (.fieldLink RX0 21 "ClaimRows$Claim" "item" "LClaimRows$Item;") (List.mem_cons_of_mem _ wd_122)
  have lk7 := hts (.fieldLink RX0 25 "ClaimRows$Claim" "kind" "I") (List.mem_cons_of_mem _ wd_124)
  have lk8 := hts (.fieldLink RX0 28 "ClaimRows$Claim" "earlier" "I") (List.mem_cons_of_mem _ wd_126)
  have lk9 := hts (.initialized RX3) (List.mem_cons_of_mem _ wd_1)
  have lk10 := hts (.static yX3_isBelow) (List.mem_cons_of_mem _ wd_42)
  have lk11 := hts (.fieldLink RX0 39 "ClaimRows$Claim" "lacking" "I") (List.mem_cons_of_mem _ wd_130)
  have in0 : ∀ w ∈ u_ws RX0 TX0 13, w ∈ wsX0_init := fun w h => List.mem_cons_of_mem _ (wu_X0 w h)
  refine lv_aload_n hx hb dX0_init_0 rfl (lv_at hl 0 rfl) ?_
  refine W.objInit hx hb hown lk0 lk1 lk2 rfl (by rw [hml]; exact hl.1) rfl dX0_init_1 (Nat.le_of_ble_eq_true rfl) (Nat.le_of_ble_eq_true rfl) ?_
  refine W.eq (g2 := F0 m 4 ls []) rfl ?_
  refine lv_aload_n hx hb dX0_init_4 rfl (lv_at hl 0 rfl) ?_
  refine lv_iconst (v := 0) hx hb dX0_init_5 (by decide) ?_
  refine hp_put (D := (dC, dI)) (ci := 0) (v := .int 0) (ty := .int) (C := RX0) (T := TX0) (N := 13) hx hb hts in0 tyX0 tyX0_ok nmX0 hown hK hP hD hS ha hf rfl 5 (by decide) lk3 (fun _ h9 => h9) rfl (by decide +kernel) rfl rfl (Nat.le_of_ble_eq_true rfl) dX0_init_6 (fs' := [.int 0, .int 0, .null, .int 0, .int 0, .int 0, .int 0, .int 0, .int 0, .int 0, .int 0, .int 0, .long 0]) rfl (fun H locs hP hD hS => ?_)
  obtain ⟨f_1, ef_1⟩ : ∃ y9, y9 = va_up f a (.inr (0, [.int 0, .int 0, .null, .int 0, .int 0, .int 0, .int 0, .int 0, .int 0, .int 0, .int 0, .int 0, .long 0])) := ⟨_, rfl⟩
  rw [← ef_1] at hP hD
  have hf_1_a : f_1 a = .inr (0, [.int 0, .int 0, .null, .int 0, .int 0, .int 0, .int 0, .int 0, .int 0, .int 0, .int 0, .int 0, .long 0]) := by rw [ef_1]; exact va_up_self _ _ _
  refine lv_aload_n hx hb dX0_init_9 rfl (lv_at hl 0 rfl) ?_
  refine lv_iload_n hx hb dX0_init_10 rfl (lv_at hl 1 rfl) ?_
  refine hp_putF (D := (dC, dI)) (ci := 0) (v := .int x1) (ty := .int) (C := RX0) (T := TX0) (N := 13) hx hb hts in0 tyX0 tyX0_ok nmX0 hown hK hP hD hS ha hf_1_a rfl 0 (by decide) lk4 (fun _ h9 => h9) rfl hin rfl (by decide +kernel) rfl rfl (Nat.le_of_ble_eq_true rfl) dX0_init_11 (fs' := [.int x1, .int 0, .null, .int 0, .int 0, .int 0, .int 0, .int 0, .int 0, .int 0, .int 0, .int 0, .long 0]) rfl (fun H locs hP hD hS => ?_)
  obtain ⟨f_2, ef_2⟩ : ∃ y9, y9 = va_up f_1 a (.inr (0, [.int x1, .int 0, .null, .int 0, .int 0, .int 0, .int 0, .int 0, .int 0, .int 0, .int 0, .int 0, .long 0])) := ⟨_, rfl⟩
  rw [← ef_2] at hP hD
  have hf_2_a : f_2 a = .inr (0, [.int x1, .int 0, .null, .int 0, .int 0, .int 0, .int 0, .int 0, .int 0, .int 0, .int 0, .int 0, .long 0]) := by rw [ef_2]; exact va_up_self _ _ _
  refine lv_aload_n hx hb dX0_init_14 rfl (lv_at hl 0 rfl) ?_
  refine lv_iload_n hx hb dX0_init_15 rfl (lv_at hl 2 rfl) ?_
  refine hp_putF (D := (dC, dI)) (ci := 0) (v := .int x2) (ty := .int) (C := RX0) (T := TX0) (N := 13) hx hb hts in0 tyX0 tyX0_ok nmX0 hown hK hP hD hS ha hf_2_a rfl 1 (by decide) lk5 (fun _ h9 => h9) rfl hin rfl (by decide +kernel) rfl rfl (Nat.le_of_ble_eq_true rfl) dX0_init_16 (fs' := [.int x1, .int x2, .null, .int 0, .int 0, .int 0, .int 0, .int 0, .int 0, .int 0, .int 0, .int 0, .long 0]) rfl (fun H locs hP hD hS => ?_)
  obtain ⟨f_3, ef_3⟩ : ∃ y9, y9 = va_up f_2 a (.inr (0, [.int x1, .int x2, .null, .int 0, .int 0, .int 0, .int 0, .int 0, .int 0, .int 0, .int 0, .int 0, .long 0])) := ⟨_, rfl⟩
  rw [← ef_3] at hP hD
  have hf_3_a : f_3 a = .inr (0, [.int x1, .int x2, .null, .int 0, .int 0, .int 0, .int 0, .int 0, .int 0, .int 0, .int 0, .int 0, .long 0]) := by rw [ef_3]; exact va_up_self _ _ _
  refine lv_aload_n hx hb dX0_init_19 rfl (lv_at hl 0 rfl) ?_
  refine lv_aload_n hx hb dX0_init_20 rfl (lv_at hl 3 rfl) ?_
  refine hp_putF (D := (dC, dI)) (ci := 0) (v := .ref x3) (ty := .object "ClaimRows$Item") (C := RX0) (T := TX0) (N := 13) hx hb hts in0 tyX0 tyX0_ok nmX0 hown hK hP hD hS ha hf_3_a rfl 2 (by decide) lk6 (fun _ h9 => h9) rfl hin rfl (by decide +kernel) rfl rfl (Nat.le_of_ble_eq_true rfl) dX0_init_21 (fs' := [.int x1, .int x2, .ref x3, .int 0, .int 0, .int 0, .int 0, .int 0, .int 0, .int 0, .int 0, .int 0, .long 0]) rfl (fun H locs hP hD hS => ?_)
  obtain ⟨f_4, ef_4⟩ : ∃ y9, y9 = va_up f_3 a (.inr (0, [.int x1, .int x2, .ref x3, .int 0, .int 0, .int 0, .int 0, .int 0, .int 0, .int 0, .int 0, .int 0, .long 0])) := ⟨_, rfl⟩
  rw [← ef_4] at hP hD
  have hf_4_a : f_4 a = .inr (0, [.int x1, .int x2, .ref x3, .int 0, .int 0, .int 0, .int 0, .int 0, .int 0, .int 0, .int 0, .int 0, .long 0]) := by rw [ef_4]; exact va_up_self _ _ _
  refine lv_aload_n hx hb dX0_init_24 rfl (lv_at hl 0 rfl) ?_
  refine lv_iload hx hb dX0_init_25 (lv_at hl 4 rfl) ?_
  refine hp_putF (D := (dC, dI)) (ci := 0) (v := .int x4) (ty := .int) (C := RX0) (T := TX0) (N := 13) hx hb hts in0 tyX0 tyX0_ok nmX0 hown hK hP hD hS ha hf_4_a rfl 3 (by decide) lk7 (fun _ h9 => h9) rfl hin rfl (by decide +kernel) rfl rfl (Nat.le_of_ble_eq_true rfl) dX0_init_27 (fs' := [.int x1, .int x2, .ref x3, .int x4, .int 0, .int 0, .int 0, .int 0, .int 0, .int 0, .int 0, .int 0, .long 0]) rfl (fun H locs hP hD hS => ?_)
  obtain ⟨f_5, ef_5⟩ : ∃ y9, y9 = va_up f_4 a (.inr (0, [.int x1, .int x2, .ref x3, .int x4, .int 0, .int 0, .int 0, .int 0, .int 0, .int 0, .int 0, .int 0, .long 0])) := ⟨_, rfl⟩
  rw [← ef_5] at hP hD
  have hf_5_a : f_5 a = .inr (0, [.int x1, .int x2, .ref x3, .int x4, .int 0, .int 0, .int 0, .int 0, .int 0, .int 0, .int 0, .int 0, .long 0]) := by rw [ef_5]; exact va_up_self _ _ _
  refine lv_aload_n hx hb dX0_init_30 rfl (lv_at hl 0 rfl) ?_
  refine lv_iload hx hb dX0_init_31 (lv_at hl 5 rfl) ?_
  refine hp_putF (D := (dC, dI)) (ci := 0) (v := .int x5) (ty := .int) (C := RX0) (T := TX0) (N := 13) hx hb hts in0 tyX0 tyX0_ok nmX0 hown hK hP hD hS ha hf_5_a rfl 4 (by decide) lk8 (fun _ h9 => h9) rfl hin rfl (by decide +kernel) rfl rfl (Nat.le_of_ble_eq_true rfl) dX0_init_33 (fs' := [.int x1, .int x2, .ref x3, .int x4, .int x5, .int 0, .int 0, .int 0, .int 0, .int 0, .int 0, .int 0, .long 0]) rfl (fun H locs hP hD hS => ?_)
  obtain ⟨f_6, ef_6⟩ : ∃ y9, y9 = va_up f_5 a (.inr (0, [.int x1, .int x2, .ref x3, .int x4, .int x5, .int 0, .int 0, .int 0, .int 0, .int 0, .int 0, .int 0, .long 0])) := ⟨_, rfl⟩
  rw [← ef_6] at hP hD
  have hf_6_a : f_6 a = .inr (0, [.int x1, .int x2, .ref x3, .int x4, .int x5, .int 0, .int 0, .int 0, .int 0, .int 0, .int 0, .int 0, .long 0]) := by rw [ef_6]; exact va_up_self _ _ _
  refine lv_aload_n hx hb dX0_init_36 rfl (lv_at hl 0 rfl) ?_
  refine lv_iload hx hb dX0_init_37 (lv_at hl 4 rfl) ?_
  refine va_getsN hx hb hZ hS hown (va_Nw.use rfl hN2) (fun _ h9 => h9) dX0_init_39 ?_
  refine va_tlen (v := 4) hx hb hTN hS rfl dX0_init_42 ?_
  refine vp_callSi (va_Run.run (va_runSN (As := [.int x4, .int 4]) (rest := [.ref a]) ⟨hx, hb, hml, hown, hts⟩ (mt_isBelow l x4 4) ⟨va_cnB 2 hts (al_g wd_43) rfl rfl rfl hN1 lk9 (by decide +kernel) ⟨Nat.le_of_ble_eq_true rfl, Nat.le_of_ble_eq_true rfl⟩, lk10, trivial⟩ ⟨ct_bl0, ct_at0⟩ rfl rfl hl.1 rfl (lv_room (Nat.le_of_ble_eq_true rfl)) dX0_init_43 ⟨Nat.le_of_ble_eq_true rfl, Nat.le_of_ble_eq_true rfl⟩)) (fun r43 hr43 => ?_)
  subst hr43
  refine lv_if_eq (tgt := 58) hx hb dX0_init_46 (by decide) (fun c46 => ?_) (fun c46 => ?_)
  · exact absurd hx4 (of_decide_eq_false (bb_0.mp c46))
  · have c46 := of_decide_eq_true (bb_n.mp c46)
    refine va_getsN hx hb hZ hS hown (va_Nw.use rfl hN2) (fun _ h9 => h9) dX0_init_49 ?_
    refine lv_iload hx hb dX0_init_52 (lv_at hl 4 rfl) ?_
    refine va_ti hx hb hTN hS (nu_b (b := 4) hx4) rfl dX0_init_54 ?_
    refine lv_goto (tgt := 59) hx hb dX0_init_55 (by decide) ?_
    refine hp_put (D := (dC, dI)) (ci := 0) (v := .int (nd_t (x4).toNatClampNeg)) (ty := .int) (C := RX0) (T := TX0) (N := 13) hx hb hts in0 tyX0 tyX0_ok nmX0 hown hK hP hD hS ha hf_6_a rfl 6 (by decide) lk11 (fun _ h9 => h9) rfl (by decide +kernel) rfl rfl (Nat.le_of_ble_eq_true rfl) dX0_init_59 (fs' := [.int x1, .int x2, .ref x3, .int x4, .int x5, .int 0, .int (nd_t (x4).toNatClampNeg), .int 0, .int 0, .int 0, .int 0, .int 0, .long 0]) rfl (fun H locs hP hD hS => ?_)
    obtain ⟨f_7, ef_7⟩ : ∃ y9, y9 = va_up f_6 a (.inr (0, [.int x1, .int x2, .ref x3, .int x4, .int x5, .int 0, .int (nd_t (x4).toNatClampNeg), .int 0, .int 0, .int 0, .int 0, .int 0, .long 0])) := ⟨_, rfl⟩
    rw [← ef_7] at hP hD
    have hf_7_a : f_7 a = .inr (0, [.int x1, .int x2, .ref x3, .int x4, .int x5, .int 0, .int (nd_t (x4).toNatClampNeg), .int 0, .int 0, .int 0, .int 0, .int 0, .long 0]) := by rw [ef_7]; exact va_up_self _ _ _
    exact W.vret hx hb hr (fun t ht hW => ⟨⟨(L, f_7), rfl, (by rw [ef_7, ef_6, ef_5, ef_4, ef_3, ef_2, ef_1]; simp only [bx_uu, nd_ne hx4]), by rw [ht]; exact hP, va_K.moved hW.alike hK, hD⟩, hS.F ht⟩) hS.2.2 dX0_init_62
set_option maxHeartbeats 4000000 in
set_option maxRecDepth 100000 in
/-- mt_claim -/
theorem mt_claim (l : Launch) (dC : Nat → ClassId) (dI : Nat → Nat → Nat) (cA : Nat → ClassId) (sz : Nat) (Q : Nat → Nat) (σ : xs_T) (n : nn_T) (co : co_T) (L : List Nat) (f : Nat → va_E) (ad : ad_T) (hR : re_A cA σ n co L f ad) (hT : n.2.2.2 < 100000) (tN : Nat) (x1 x2 x3 x4 : Int32) : Met l yX3_claim wsX3_claim ({ frames := 3, cells := 1, slots := 13, locals := 70 }) (va_Pc [.ref (Q 0), .int x1, .int x2, .int x3, .int x4] (fun U => ct_M (dC, dI) vwCl (ty_K cA) (xc_W Q cA σ ++ va_pl L f) sz U ∧ sx_Z tN (va_A (xc_W Q cA σ ++ va_pl L f) sz) U)) (va_Qi (fun r u => (r, u) = kc_claim (σ, co) x1 x2 x3 x4) (fun u t => ∃ (ra : Nat → Nat → Option Nat) (n' : nn_T) (L' : List Nat) (f' : Nat → va_E) (ad' : ad_T), n'.2.2.2 ≤ n.2.2.2 + 1 ∧ re_A cA (xs_r u.1 ra) n' u.2 L' f' ad' ∧ ct_B (dC, dI) vwCl (ty_K cA) (va_A (xc_W Q cA σ ++ va_pl L f) sz) (xc_W Q cA (xs_r u.1 ra) ++ va_pl L' f') t) (va_A (xc_W Q cA σ ++ va_pl L f) sz)) 1 13 (va_A (xc_W Q cA σ ++ va_pl L f) sz) := by
  refine Met.ofW (cc := cX3_claim) (maxL := 7) (ret := (some .int)) (by decide) rfl ?_
  intro p e s m args below meth c s₁ B hml hv
  obtain ⟨rfl, ⟨hsz, hP, hK, hD0⟩, hN1, hN2, hZ, hTN⟩ := hv
  have hx := B.exec
  have hb := B.bytes
  have hr := B.returns
  have hts := atoms_spec (ws := wsX3_claim) B.pre
  have hown : s.vm.findClass RX3 = some m.cls := findClass_of_methodNamed B.named
  have hlocks := B.notSynchronized
  subst hsz
  have hD := hD0.self (sz := s.heap.size)
  generalize hAe : va_A (xc_W Q cA σ ++ va_pl L f) s.heap.size = A at hD hZ hTN ⊢
  have hA : ∀ q : Nat, s.heap.size ≤ q → A q := fun q h => by rw [← hAe]; exact Or.inr h
  clear hAe hD0
  have hS : va_S A s.heap s.heap [] := va_S.rf
  have hl := lv_entry ([.ref (Q 0), .int x1, .int x2, .int x3, .int x4]) (n := 7) (Nat.le_of_ble_eq_true rfl)
  rw [lg_entry_eq]
  generalize (lg_sl ([.ref (Q 0), .int x1, .int x2, .int x3, .int x4]) ++ List.replicate (7 - (lg_sl ([.ref (Q 0), .int x1, .int x2, .int x3, .int x4])).length) Slot.unset).toArray = ls at hl ⊢
  have hl : lv_has ls 7 [(0, .ref (Q 0)), (1, .int x1), (2, .int x2), (3, .int x3), (4, .int x4)] := hl
  have lk0 := hts (.constantLong RX3 82 2) (List.mem_cons_of_mem _ wd_96)
  have lk1 := hts (.constantLong RX3 84 200000) (List.mem_cons_of_mem _ wd_97)
  have lk2 := hts (.fieldLink RX3 89 "ClaimRows$Item" "day" "I") (List.mem_cons_of_mem _ wd_64)
  have lk3 := hts (.fieldLink RX3 31 "ClaimRows" "tableDays" "[I") (List.mem_cons_of_mem _ wd_26)
  have lk4 := hts (.fieldLink RX3 92 "ClaimRows$Item" "service" "I") (List.mem_cons_of_mem _ wd_58)
  have lk5 := hts (.fieldLink RX3 99 "ClaimRows" "claimCount" "I") (List.mem_cons_of_mem _ wd_22)
  have lk6 := hts (.fieldLink RX3 102 "ClaimRows$Item" "sender" "I") (List.mem_cons_of_mem _ wd_66)
  have lk7 := hts (.fieldLink RX3 17 "ClaimRows" "claims" "[LClaimRows$Claim;") (List.mem_cons_of_mem _ wd_21)
  have lk8 := hts (.classLink RX3 15 RX0) (List.mem_cons_of_mem _ wd_17)
  have lk9 := hts (.instantiable RX0 13) (List.mem_cons_of_mem _ wd_113)
  have lk10 := hts (.initialized RX0) (List.mem_cons_of_mem _ wd_4)
  have lk11 := hts (.methodLink RX3 109 yX0_init) (List.mem_cons_of_mem _ wd_114)
  have lk12 := hts (.instanceMethod yX0_init) (List.mem_cons_of_mem _ wd_115)
  have in0 : ∀ w ∈ u_ws RX1 TX1 9, w ∈ wsX3_claim := fun w h => List.mem_cons_of_mem _ (wu_X1 w h)
  have in1 : ∀ w ∈ u_ws RX3 TX3 16, w ∈ wsX3_claim := fun w h => List.mem_cons_of_mem _ (wu_X3 w h)
  have in2 : ∀ w ∈ u_ws RX0 TX0 13, w ∈ wsX3_claim := fun w h => List.mem_cons_of_mem _ (wu_X0 w h)
  have hn0 : (σ.1 0).toNatClampNeg = n.1 := by rw [hR.1.1]; exact nI_clamp (by have := hR.1.2.1; omega)
  have hn1 : (σ.1 1).toNatClampNeg = n.2.1 := by rw [hR.1.2.2.1]; exact nI_clamp (by have := hR.1.2.2.2.1; omega)
  have hn2 : (σ.1 2).toNatClampNeg = n.2.2.1 := by rw [hR.1.2.2.2.2.1]; exact nI_clamp (by have := hR.1.2.2.2.2.2.1; omega)
  refine lv_aload_n hx hb dX3_claim_0 rfl (lv_at hl 0 rfl) ?_
  refine lv_iload_n hx hb dX3_claim_1 rfl (lv_at hl 1 rfl) ?_
  refine va_csq (va_Run.run (va_runV (As := [.int x1]) (rest := []) ⟨hx, hb, hml, hown, hts⟩ (mt_itemNumbered l dC dI cA Q σ n co L f ad hR x1) (cwV 1 hts (al_gV wd_76 wd_78 wd_77 wd_1 wd_79) rfl rfl rfl (by decide +kernel) ⟨Nat.le_of_ble_eq_true rfl, Nat.le_of_ble_eq_true rfl⟩) ⟨ct_blR, va_recv hK hP (ci := 3) (q0 := 0) rfl (xc_W_0 _ _), ct_atR hP hK⟩ rfl rfl hl.1 rfl (lv_room (Nat.le_of_ble_eq_true rfl)) dX3_claim_2 ⟨Nat.le_of_ble_eq_true rfl, Nat.le_of_ble_eq_true rfl⟩)) (fun r2 hr2 => ?_)
  rcases hr2 with ⟨j2, hj2, hm2, ex2, rfl⟩ | ⟨hm2, rfl⟩
  · have hI1 := hR.2.1 j2 hj2
    have hI1a : f (ad.1 j2) = .inr (1, [.int (co.2.1 0 j2), .long (co.2.2.1 0 j2), .long (co.2.2.1 1 j2), .int (co.2.1 1 j2), .int (co.2.1 2 j2), .ref (ad.2.1 j2), .int (co.2.1 3 j2), .int (co.2.1 4 j2), .int (co.2.1 5 j2)]) := hI1.2.2.1
    have hI1p : f (ad.2.1 j2) = .inl ((cA 0), 8, .inl (co.2.2.2 j2)) := hI1.2.2.2.2
    refine lv_astore (lv' := [(5, .ref (ad.1 j2)), (0, .ref (Q 0)), (1, .int x1), (2, .int x2), (3, .int x3), (4, .int x4)]) hx hb dX3_claim_5 hl (by decide) rfl (fun ls hl => ?_)
    refine lv_aload hx hb dX3_claim_7 (lv_at hl 0 rfl) ?_
    refine lv_ifnonnull (tgt := 15) hx hb dX3_claim_9 (by decide) ?_
    refine lv_iload_n hx hb dX3_claim_15 rfl (lv_at hl 3 rfl) ?_
    refine lv_iconst (v := 4) hx hb dX3_claim_16 (by decide) ?_
    refine vp_callSi (va_Run.run (va_runS (As := [.int x2, .int 4]) (rest := []) ⟨hx, hb, hml, hown, hts⟩ (mt_isBelow l x2 4) (va_cwS 2 hts (al_gS wd_41 wd_42 wd_1 wd_43) rfl rfl rfl (by decide +kernel) ⟨Nat.le_of_ble_eq_true rfl, Nat.le_of_ble_eq_true rfl⟩) ⟨ct_bl0, ct_at0⟩ rfl rfl hl.1 rfl (lv_room (Nat.le_of_ble_eq_true rfl)) dX3_claim_17 ⟨Nat.le_of_ble_eq_true rfl, Nat.le_of_ble_eq_true rfl⟩)) (fun r17 hr17 => ?_)
    subst hr17
    refine lv_if_eq (tgt := 48) hx hb dX3_claim_20 (by decide) (fun c20 => ?_) (fun c20 => ?_)
    · have c20 := of_decide_eq_false (bb_0.mp c20)
      refine lv_bipush (v := (-102)) hx hb dX3_claim_48 (by decide) ?_
      refine W.widen (k := 1) (n := 13) (by decide) (by decide) ?_
      exact W.iret (v := (-102)) hx hb hr (fun t ht hW => ⟨⟨(-102), (σ, co), rfl, (by simp only [kc_claim, hm2, if_neg c20, Option.elim, hn0, hn1, hn2]), σ.2.2.2.2, n, L, f, ad, Nat.le_succ _, hR, by rw [ht]; exact hP, va_K.moved hW.alike hK, hD⟩, hS.F ht⟩) hS.2.2 dX3_claim_50
    · have c20 := of_decide_eq_true (bb_n.mp c20)
      refine lv_iload_n hx hb dX3_claim_23 rfl (lv_at hl 4 rfl) ?_
      refine lv_i2l (v := (x3 : Int32).toInt64) hx hb dX3_claim_24 rfl ?_
      refine lv_lconst (v := 0) hx hb dX3_claim_25 (by decide) ?_
      refine lv_ldc2 hx hb hown lk0 dX3_claim_26 ?_
      refine vp_callSi (va_Run.run (va_runS (As := [.long ((x3 : Int32).toInt64), .long 0, .long 2]) (rest := []) ⟨hx, hb, hml, hown, hts⟩ (mt_isWithin l ((x3 : Int32).toInt64) 0 2) (va_cwS 3 hts (al_gS wd_48 wd_49 wd_1 wd_50) rfl rfl rfl (by decide +kernel) ⟨Nat.le_of_ble_eq_true rfl, Nat.le_of_ble_eq_true rfl⟩) ⟨ct_bl0, ct_at0⟩ rfl rfl hl.1 rfl (lv_room (Nat.le_of_ble_eq_true rfl)) dX3_claim_29 ⟨Nat.le_of_ble_eq_true rfl, Nat.le_of_ble_eq_true rfl⟩)) (fun r29 hr29 => ?_)
      subst hr29
      refine lv_if_eq (tgt := 48) hx hb dX3_claim_32 (by decide) (fun c32 => ?_) (fun c32 => ?_)
      · have c32 := of_decide_eq_false (bb_0.mp c32)
        refine lv_bipush (v := (-102)) hx hb dX3_claim_48 (by decide) ?_
        refine W.widen (k := 1) (n := 13) (by decide) (by decide) ?_
        exact W.iret (v := (-102)) hx hb hr (fun t ht hW => ⟨⟨(-102), (σ, co), rfl, (by simp only [kc_claim, hm2, if_pos c20, if_neg c32, Option.elim, hn0, hn1, hn2]), σ.2.2.2.2, n, L, f, ad, Nat.le_succ _, hR, by rw [ht]; exact hP, va_K.moved hW.alike hK, hD⟩, hS.F ht⟩) hS.2.2 dX3_claim_50
      · have c32 := of_decide_eq_true (bb_n.mp c32)
        refine lv_iload hx hb dX3_claim_35 (lv_at hl 5 rfl) ?_
        refine lv_i2l (v := (x4 : Int32).toInt64) hx hb dX3_claim_37 rfl ?_
        refine lv_lconst (v := 0) hx hb dX3_claim_38 (by decide) ?_
        refine lv_ldc2 hx hb hown lk1 dX3_claim_39 ?_
        refine vp_callSi (va_Run.run (va_runS (As := [.long ((x4 : Int32).toInt64), .long 0, .long 200000]) (rest := []) ⟨hx, hb, hml, hown, hts⟩ (mt_isWithin l ((x4 : Int32).toInt64) 0 200000) (va_cwS 3 hts (al_gS wd_48 wd_49 wd_1 wd_50) rfl rfl rfl (by decide +kernel) ⟨Nat.le_of_ble_eq_true rfl, Nat.le_of_ble_eq_true rfl⟩) ⟨ct_bl0, ct_at0⟩ rfl rfl hl.1 rfl (lv_room (Nat.le_of_ble_eq_true rfl)) dX3_claim_42 ⟨Nat.le_of_ble_eq_true rfl, Nat.le_of_ble_eq_true rfl⟩)) (fun r42 hr42 => ?_)
        subst hr42
        refine lv_if_ne (tgt := 51) hx hb dX3_claim_45 (by decide) (fun c45 => ?_) (fun c45 => ?_)
        · have c45 := of_decide_eq_true (bb_n.mp c45)
          refine lv_iload_n hx hb dX3_claim_51 rfl (lv_at hl 3 rfl) ?_
          refine lv_iload_n hx hb dX3_claim_52 rfl (lv_at hl 4 rfl) ?_
          refine vp_callSi (va_Run.run (va_runS (As := [.int x2, .int x3]) (rest := []) ⟨hx, hb, hml, hown, hts⟩ (mt_mayClaim l x2 x3) (va_cwS 2 hts (al_gS wd_98 wd_99 wd_1 wd_100) rfl rfl rfl (by decide +kernel) ⟨Nat.le_of_ble_eq_true rfl, Nat.le_of_ble_eq_true rfl⟩) ⟨ct_bl0, ct_at0⟩ rfl rfl hl.1 rfl (lv_room (Nat.le_of_ble_eq_true rfl)) dX3_claim_53 ⟨Nat.le_of_ble_eq_true rfl, Nat.le_of_ble_eq_true rfl⟩)) (fun r53 hr53 => ?_)
          subst hr53
          refine lv_if_ne (tgt := 62) hx hb dX3_claim_56 (by decide) (fun c56 => ?_) (fun c56 => ?_)
          · have c56 := of_decide_eq_true (bb_n.mp c56)
            refine lv_iload hx hb dX3_claim_62 (lv_at hl 5 rfl) ?_
            refine lv_aload hx hb dX3_claim_64 (lv_at hl 0 rfl) ?_
            refine hp_get (D := (dC, dI)) (ci := 1) (v := .int (co.2.1 1 j2)) (C := RX1) (T := TX1) (N := 9) hx hb hts in0 hown hK hP hI1.2.1 hI1a rfl 3 (by decide) lk2 (fun _ h9 => h9) rfl dX3_claim_66 ?_
            refine lv_aload_n hx hb dX3_claim_69 rfl (lv_at hl 1 rfl) ?_
            refine va_get (D := (dC, dI)) (ci := 3) (v := .ref (Q 5)) (C := RX3) (T := TX3) (N := 16) hx hb hts in1 hown hK hP 0 (xc_W_0 _ _) rfl 7 (by decide) lk3 (fun _ h9 => h9) rfl dX3_claim_70 ?_
            refine lv_aload hx hb dX3_claim_73 (lv_at hl 0 rfl) ?_
            refine hp_get (D := (dC, dI)) (ci := 1) (v := .int (co.2.1 0 j2)) (C := RX1) (T := TX1) (N := 9) hx hb hts in0 hown hK hP hI1.2.1 hI1a rfl 0 (by decide) lk4 (fun _ h9 => h9) rfl dX3_claim_75 ?_
            refine lv_iload_n hx hb dX3_claim_78 rfl (lv_at hl 3 rfl) ?_
            refine vp_callSi (va_Run.run (va_runS (As := [.int (co.2.1 0 j2), .int x2]) (rest := [.ref (Q 5), .int (co.2.1 1 j2), .int x4]) ⟨hx, hb, hml, hown, hts⟩ (mt_rowOf l (co.2.1 0 j2) x2) (va_cwS 2 hts (al_gS wd_89 wd_90 wd_1 wd_91) rfl rfl rfl (by decide +kernel) ⟨Nat.le_of_ble_eq_true rfl, Nat.le_of_ble_eq_true rfl⟩) ⟨ct_bl0, ct_at0⟩ rfl rfl hl.1 rfl (lv_room (Nat.le_of_ble_eq_true rfl)) dX3_claim_79 ⟨Nat.le_of_ble_eq_true rfl, Nat.le_of_ble_eq_true rfl⟩)) (fun r79 hr79 => ?_)
            subst hr79
            refine va_iald hx hb hK hP 5 0 (xc_W_5 _ _) rfl (rw_in (hR.2.2.2.2.1.1 j2 hj2).1 (nu_4 c20)) dX3_claim_82 ?_
            refine lv_iadd hx hb dX3_claim_83 ?_
            refine lv_icmp_le (tgt := 90) hx hb dX3_claim_84 (by decide) (fun c84 => ?_) (fun c84 => ?_)
            · refine lv_aload_n hx hb dX3_claim_90 rfl (lv_at hl 1 rfl) ?_
              refine lv_iload_n hx hb dX3_claim_91 rfl (lv_at hl 2 rfl) ?_
              refine lv_iload_n hx hb dX3_claim_92 rfl (lv_at hl 3 rfl) ?_
              refine va_csq (va_Run.run (va_runV (As := [.int x1, .int x2]) (rest := []) ⟨hx, hb, hml, hown, hts⟩ (mt_standingClaim l dC dI cA Q σ n co L f ad hR x1 x2) (cwV 2 hts (al_gV wd_101 wd_103 wd_102 wd_1 wd_104) rfl rfl rfl (by decide +kernel) ⟨Nat.le_of_ble_eq_true rfl, Nat.le_of_ble_eq_true rfl⟩) ⟨ct_blR, va_recv hK hP (ci := 3) (q0 := 0) rfl (xc_W_0 _ _), ct_atR hP hK⟩ rfl rfl hl.1 rfl (lv_room (Nat.le_of_ble_eq_true rfl)) dX3_claim_93 ⟨Nat.le_of_ble_eq_true rfl, Nat.le_of_ble_eq_true rfl⟩)) (fun r93 hr93 => ?_)
              rcases hr93 with ⟨j93, hj93, hm93, rfl⟩ | ⟨hm93, rfl⟩
              · have hC2 := hR.2.2.1 j93 hj93
                have hC2v := hR.2.2.2.2.1.2.1 j93 hj93
                have hC2a : f (ad.2.2.1 j93) = .inr (0, [.int (nI (j93 + 1)), .int (co.2.1 6 j93), .ref (ad.1 (co.1 0 j93)), .int (co.2.1 7 j93), .int (co.2.1 8 j93), .int (co.2.1 9 j93), .int (co.2.1 10 j93), .int (co.2.1 11 j93), .int (co.2.1 12 j93), .int (co.2.1 13 j93), .int (co.2.1 14 j93), .int (co.2.1 15 j93), .long (co.2.2.1 2 j93)]) := hC2.2.2
                have hI3 := hR.2.1 (co.1 0 j93) hC2v.1
                have hI3a : f (ad.1 (co.1 0 j93)) = .inr (1, [.int (co.2.1 0 (co.1 0 j93)), .long (co.2.2.1 0 (co.1 0 j93)), .long (co.2.2.1 1 (co.1 0 j93)), .int (co.2.1 1 (co.1 0 j93)), .int (co.2.1 2 (co.1 0 j93)), .ref (ad.2.1 (co.1 0 j93)), .int (co.2.1 3 (co.1 0 j93)), .int (co.2.1 4 (co.1 0 j93)), .int (co.2.1 5 (co.1 0 j93))]) := hI3.2.2.1
                have hI3p : f (ad.2.1 (co.1 0 j93)) = .inl ((cA 0), 8, .inl (co.2.2.2 (co.1 0 j93))) := hI3.2.2.2.2
                refine lv_ifnull hx hb dX3_claim_96 ?_
                refine lv_bipush (v := (-103)) hx hb dX3_claim_99 (by decide) ?_
                refine W.widen (k := 1) (n := 13) (by decide) (by decide) ?_
                exact W.iret (v := (-103)) hx hb hr (fun t ht hW => ⟨⟨(-103), (σ, co), rfl, (by simp only [kc_claim, hm2, if_pos c20, if_pos c32, if_pos c45, if_pos c56, if_pos c84, hm93, Option.elim, hn0, hn1, hn2]), σ.2.2.2.2, n, L, f, ad, Nat.le_succ _, hR, by rw [ht]; exact hP, va_K.moved hW.alike hK, hD⟩, hS.F ht⟩) hS.2.2 dX3_claim_101
              · skip
                refine lv_ifnullN (tgt := 102) hx hb dX3_claim_96 (by decide) ?_
                refine lv_aload_n hx hb dX3_claim_102 rfl (lv_at hl 1 rfl) ?_
                refine va_get (D := (dC, dI)) (ci := 3) (v := .int (σ.1 1)) (C := RX3) (T := TX3) (N := 16) hx hb hts in1 hown hK hP 0 (xc_W_0 _ _) rfl 3 (by decide) lk5 (fun _ h9 => h9) rfl dX3_claim_103 ?_
                refine lv_bipush (v := 60) hx hb dX3_claim_106 (by decide) ?_
                refine lv_icmp_lt (tgt := 114) hx hb dX3_claim_108 (by decide) (fun c108 => ?_) (fun c108 => ?_)
                · refine lv_aload_n hx hb dX3_claim_114 rfl (lv_at hl 1 rfl) ?_
                  refine lv_aload hx hb dX3_claim_115 (lv_at hl 0 rfl) ?_
                  refine hp_get (D := (dC, dI)) (ci := 1) (v := .int (co.2.1 2 j2)) (C := RX1) (T := TX1) (N := 9) hx hb hts in0 hown hK hP hI1.2.1 hI1a rfl 4 (by decide) lk6 (fun _ h9 => h9) rfl dX3_claim_117 ?_
                  refine vp_callSi (va_Run.run (va_runV (As := [.int (co.2.1 2 j2)]) (rest := []) ⟨hx, hb, hml, hown, hts⟩ (mt_claimsOfSender l dC dI cA Q σ n co L f ad hR (co.2.1 2 j2)) (cwV 1 hts (al_gV wd_109 wd_111 wd_110 wd_1 wd_112) rfl rfl rfl (by decide +kernel) ⟨Nat.le_of_ble_eq_true rfl, Nat.le_of_ble_eq_true rfl⟩) ⟨ct_blR, va_recv hK hP (ci := 3) (q0 := 0) rfl (xc_W_0 _ _), ct_atR hP hK⟩ rfl rfl hl.1 rfl (lv_room (Nat.le_of_ble_eq_true rfl)) dX3_claim_120 ⟨Nat.le_of_ble_eq_true rfl, Nat.le_of_ble_eq_true rfl⟩)) (fun r120 hr120 => ?_)
                  subst hr120
                  refine lv_istore (lv' := [(6, .int (se_cl co (co.2.1 2 j2) n.2.1)), (5, .ref (ad.1 j2)), (0, .ref (Q 0)), (1, .int x1), (2, .int x2), (3, .int x3), (4, .int x4)]) hx hb dX3_claim_123 hl (by decide) rfl (fun ls hl => ?_)
                  refine lv_aload_n hx hb dX3_claim_125 rfl (lv_at hl 2 rfl) ?_
                  refine va_get (D := (dC, dI)) (ci := 3) (v := .ref (Q 2)) (C := RX3) (T := TX3) (N := 16) hx hb hts in1 hown hK hP 0 (xc_W_0 _ _) rfl 2 (by decide) lk7 (fun _ h9 => h9) rfl dX3_claim_126 ?_
                  refine lv_aload_n hx hb dX3_claim_129 rfl (lv_at hl 2 rfl) ?_
                  refine va_get (D := (dC, dI)) (ci := 3) (v := .int (σ.1 1)) (C := RX3) (T := TX3) (N := 16) hx hb hts in1 hown hK hP 0 (xc_W_0 _ _) rfl 3 (by decide) lk5 (fun _ h9 => h9) rfl dX3_claim_130 ?_
                  refine hp_new (ci := 0) (fs := [.int 0, .int 0, .null, .int 0, .int 0, .int 0, .int 0, .int 0, .int 0, .int 0, .int 0, .int 0, .long 0]) (C := RX0) (T := TX0) (N := 13) hx hb hts in2 tyX0 tyX0_ok hown lk8 lk9 lk10 hK hP hD hS hA rfl (fun j hj => by rcases (show j = 0 ∨ j = 1 ∨ j = 2 ∨ j = 3 ∨ j = 4 ∨ j = 5 ∨ j = 6 ∨ j = 7 ∨ j = 8 ∨ j = 9 ∨ j = 10 ∨ j = 11 ∨ j = 12 by omega) with rfl | rfl | rfl | rfl | rfl | rfl | rfl | rfl | rfl | rfl | rfl | rfl | rfl <;> rfl) (Nat.le_of_ble_eq_true rfl) (Nat.le_of_ble_eq_true rfl) dX3_claim_133 (fun q133 H hq133 hP hD hS => ?_)
                  obtain ⟨f_1, ef_1⟩ : ∃ y9, y9 = va_up f q133 (.inr (0, [.int 0, .int 0, .null, .int 0, .int 0, .int 0, .int 0, .int 0, .int 0, .int 0, .int 0, .int 0, .long 0])) := ⟨_, rfl⟩
                  rw [← ef_1] at hP hD
                  have hf_1_ad1j2 : f_1 (ad.1 j2) = .inr (1, [.int (co.2.1 0 j2), .long (co.2.2.1 0 j2), .long (co.2.2.1 1 j2), .int (co.2.1 1 j2), .int (co.2.1 2 j2), .ref (ad.2.1 j2), .int (co.2.1 3 j2), .int (co.2.1 4 j2), .int (co.2.1 5 j2)]) := by rw [ef_1, va_up_ne _ _ (ct_nq hI1.2.1 hq133)]; exact hI1a
                  have hf_1_ad21j2 : f_1 (ad.2.1 j2) = .inl ((cA 0), 8, .inl (co.2.2.2 j2)) := by rw [ef_1, va_up_ne _ _ (ct_nq hI1.2.2.2.1 hq133)]; exact hI1p
                  have hf_1_q133 : f_1 q133 = .inr (0, [.int 0, .int 0, .null, .int 0, .int 0, .int 0, .int 0, .int 0, .int 0, .int 0, .int 0, .int 0, .long 0]) := by rw [ef_1]; exact va_up_self _ _ _
                  refine W.widen (k := 1) (n := 13) (by decide) (by decide) ?_
                  refine lv_dup hx hb dX3_claim_136 rfl ?_
                  refine lv_aload_n hx hb dX3_claim_137 rfl (lv_at hl 2 rfl) ?_
                  refine va_get (D := (dC, dI)) (ci := 3) (v := .int (σ.1 1)) (C := RX3) (T := TX3) (N := 16) hx hb hts in1 hown hK hP 0 (xc_W_0 _ _) rfl 3 (by decide) lk5 (fun _ h9 => h9) rfl dX3_claim_138 ?_
                  refine lv_iconst (v := 1) hx hb dX3_claim_141 (by decide) ?_
                  refine lv_iadd hx hb dX3_claim_142 ?_
                  refine lv_iload_n hx hb dX3_claim_143 rfl (lv_at hl 3 rfl) ?_
                  refine lv_aload hx hb dX3_claim_144 (lv_at hl 1 rfl) ?_
                  refine lv_iload_n hx hb dX3_claim_146 rfl (lv_at hl 4 rfl) ?_
                  refine lv_iload hx hb dX3_claim_147 (lv_at hl 0 rfl) ?_
                  have hFc := ct_free hD hS hA
                  refine va_callv (va_runI (As := [.int ((σ.1 1) + 1), .int x1, .ref (ad.1 j2), .int x2, .int (se_cl co (co.2.1 2 j2) n.2.1)]) (rest := [.ref q133, .int (σ.1 1), .ref (Q 2)]) ⟨hx, hb, hml, hown, hts⟩ (mt_Claim_init l dC dI cA H.size (xc_W Q cA σ) (L ++ [q133]) f_1 tN q133 (List.mem_append_right _ (List.mem_singleton.mpr rfl)) hf_1_q133 ((σ.1 1) + 1) x1 (ad.1 j2) x2 (se_cl co (co.2.1 2 j2) n.2.1) c20) (cwI 5 hts (al_g wd_116) rfl rfl rfl lk10 lk11 lk12 rfl (by decide +kernel) ⟨Nat.le_of_ble_eq_true rfl, Nat.le_of_ble_eq_true rfl⟩) ⟨sx_bl, sx_at hP hK hD hS hA hN1 hN2 hZ hTN⟩ rfl rfl hl.1 rfl (lv_room (Nat.le_of_ble_eq_true rfl)) dX3_claim_149 ⟨Nat.le_of_ble_eq_true rfl, Nat.le_of_ble_eq_true rfl⟩) hS (fun q _ h => hFc q h) hFc (fun u149 t H1 locs ht hvm hr149 hB hz1 hk1 hS => ?_)
                  obtain ⟨hP, -, hD1⟩ := hB
                  rw [ht] at hP
                  have hD := hD1.weaken (fun _ _ _ h => hFc _ h)
                  clear hD1 hk1 hz1 hFc hvm
                  generalize H1 = H at hP hS ht ⊢
                  clear ht
                  refine W.widen (k := 1) (n := 13) (by decide) (by decide) ?_
                  subst hr149
                  have hP : va_P (dC, dI) vwCl (xc_W Q cA σ ++ va_pl (L ++ [q133]) (va_up f_1 q133 (.inr (0, [.int ((σ.1 1) + 1), .int x1, .ref (ad.1 j2), .int x2, .int (se_cl co (co.2.1 2 j2) n.2.1), .int 0, .int (ne_ed x2), .int 0, .int 0, .int 0, .int 0, .int 0, .long 0])))) H := hP
                  have hD : va_D A (xc_W Q cA σ ++ va_pl (L ++ [q133]) (va_up f_1 q133 (.inr (0, [.int ((σ.1 1) + 1), .int x1, .ref (ad.1 j2), .int x2, .int (se_cl co (co.2.1 2 j2) n.2.1), .int 0, .int (ne_ed x2), .int 0, .int 0, .int 0, .int 0, .int 0, .long 0])))) := hD
                  obtain ⟨f_2, ef_2⟩ : ∃ y9, y9 = va_up f_1 q133 (.inr (0, [.int ((σ.1 1) + 1), .int x1, .ref (ad.1 j2), .int x2, .int (se_cl co (co.2.1 2 j2) n.2.1), .int 0, .int (ne_ed x2), .int 0, .int 0, .int 0, .int 0, .int 0, .long 0])) := ⟨_, rfl⟩
                  rw [← ef_2] at hP hD
                  have hf_2_ad1j2 : f_2 (ad.1 j2) = .inr (1, [.int (co.2.1 0 j2), .long (co.2.2.1 0 j2), .long (co.2.2.1 1 j2), .int (co.2.1 1 j2), .int (co.2.1 2 j2), .ref (ad.2.1 j2), .int (co.2.1 3 j2), .int (co.2.1 4 j2), .int (co.2.1 5 j2)]) := by rw [ef_2, va_up_ne _ _ (ct_nq hI1.2.1 hq133)]; exact hf_1_ad1j2
                  have hf_2_ad21j2 : f_2 (ad.2.1 j2) = .inl ((cA 0), 8, .inl (co.2.2.2 j2)) := by rw [ef_2, va_up_ne _ _ (ct_nq hI1.2.2.2.1 hq133)]; exact hf_1_ad21j2
                  have hf_2_q133 : f_2 q133 = .inr (0, [.int ((σ.1 1) + 1), .int x1, .ref (ad.1 j2), .int x2, .int (se_cl co (co.2.1 2 j2) n.2.1), .int 0, .int (ne_ed x2), .int 0, .int 0, .int 0, .int 0, .int 0, .long 0]) := by rw [ef_2]; exact va_up_self _ _ _
                  obtain ⟨k9, hk9⟩ := va_pl_get (X := xc_W Q cA σ) (f := f_2) (List.mem_append_right _ (List.mem_singleton.mpr rfl))
                  rw [hf_2_q133] at hk9
                  refine va_astq hx hb hK hP hD hS 2 4 k9 0 (xc_W_2 _ _) rfl hk9 rfl (nu_ix hR.1.2.2.1 (nu_lt hR.1.2.2.1 hR.1.2.2.2.1 c108) (by decide)) dX3_claim_152 (fun H locs hP hD hS => ?_)
                  have hP : va_P (dC, dI) vwCl (xc_W Q cA (xs_ar σ 1 (va_up (σ.2.2.2.2 1) ((σ.1 1)).toNatClampNeg (some q133))) ++ va_pl (L ++ [q133]) f_2) H := hP
                  have hD : va_D A (xc_W Q cA (xs_ar σ 1 (va_up (σ.2.2.2.2 1) ((σ.1 1)).toNatClampNeg (some q133))) ++ va_pl (L ++ [q133]) f_2) := hD
                  refine lv_aload_n hx hb dX3_claim_153 rfl (lv_at hl 2 rfl) ?_
                  refine lv_dup hx hb dX3_claim_154 rfl ?_
                  refine va_get (D := (dC, dI)) (ci := 3) (v := .int (σ.1 1)) (C := RX3) (T := TX3) (N := 16) hx hb hts in1 hown hK hP 0 (xc_W_0 _ _) rfl 3 (by decide) lk5 (fun _ h9 => h9) rfl dX3_claim_155 ?_
                  refine lv_iconst (v := 1) hx hb dX3_claim_158 (by decide) ?_
                  refine lv_iadd hx hb dX3_claim_159 ?_
                  refine va_put (D := (dC, dI)) (ci := 3) (v := .int ((σ.1 1) + 1)) (ty := .int) (C := RX3) (T := TX3) (N := 16) hx hb hts in1 tyX3 tyX3_ok nmX3 hown hK hP hD hS 0 (xc_W_0 _ _) rfl 3 (by decide) lk5 (fun _ h9 => h9) rfl (by decide +kernel) rfl rfl (Nat.le_of_ble_eq_true rfl) dX3_claim_160 (fun H locs hP hD hS => ?_)
                  have hP : va_P (dC, dI) vwCl (xc_W Q cA (xs_i (xs_ar σ 1 (va_up (σ.2.2.2.2 1) ((σ.1 1)).toNatClampNeg (some q133))) 1 ((σ.1 1) + 1)) ++ va_pl (L ++ [q133]) f_2) H := hP
                  have hD : va_D A (xc_W Q cA (xs_i (xs_ar σ 1 (va_up (σ.2.2.2.2 1) ((σ.1 1)).toNatClampNeg (some q133))) 1 ((σ.1 1) + 1)) ++ va_pl (L ++ [q133]) f_2) := hD
                  refine lv_aload_n hx hb dX3_claim_163 rfl (lv_at hl 2 rfl) ?_
                  refine lv_aload_n hx hb dX3_claim_164 rfl (lv_at hl 2 rfl) ?_
                  refine va_get (D := (dC, dI)) (ci := 3) (v := .int ((σ.1 1) + 1)) (C := RX3) (T := TX3) (N := 16) hx hb hts in1 hown hK hP 0 (xc_W_0 _ _) rfl 3 (by decide) lk5 (fun _ h9 => h9) rfl dX3_claim_165 ?_
                  refine lv_iconst (v := 1) hx hb dX3_claim_168 (by decide) ?_
                  have hFc := ct_free hD hS hA
                  refine va_callv (va_runV (As := [.int ((σ.1 1) + 1), .int 1]) (rest := []) ⟨hx, hb, hml, hown, hts⟩ (mt_send l dC dI cA H.size Q (xs_i (xs_ar σ 1 (va_up (σ.2.2.2.2 1) ((σ.1 1)).toNatClampNeg (some q133))) 1 ((σ.1 1) + 1)) (L ++ [q133]) f_2 n.2.2.2 (show (xs_i (xs_ar σ 1 (va_up (σ.2.2.2.2 1) ((σ.1 1)).toNatClampNeg (some q133))) 1 ((σ.1 1) + 1)).1 3 = nI n.2.2.2 from hR.1.2.2.2.2.2.2) (by omega) ((σ.1 1) + 1) 1) (cwV 2 hts (al_gV wd_141 wd_143 wd_142 wd_1 wd_144) rfl rfl rfl (by decide +kernel) ⟨Nat.le_of_ble_eq_true rfl, Nat.le_of_ble_eq_true rfl⟩) ⟨ct_blM, va_recv hK hP (ci := 3) (q0 := 0) rfl (xc_W_0 _ _), ct_atM hP hK hD⟩ rfl rfl hl.1 rfl (lv_room (Nat.le_of_ble_eq_true rfl)) dX3_claim_169 ⟨Nat.le_of_ble_eq_true rfl, Nat.le_of_ble_eq_true rfl⟩) hS (fun q _ h => hFc q h) hFc (fun u169 t H1 locs ht hvm hr169 hB hz1 hk1 hS => ?_)
                  obtain ⟨hP, -, hD1⟩ := hB
                  rw [ht] at hP
                  have hD := hD1.weaken (fun _ _ _ h => hFc _ h)
                  clear hD1 hk1 hz1 hFc hvm
                  generalize H1 = H at hP hS ht ⊢
                  clear ht
                  refine W.widen (k := 1) (n := 13) (by decide) (by decide) ?_
                  subst hr169
                  have hP : va_P (dC, dI) vwCl (xc_W Q cA (se_nd (xs_i (xs_ar σ 1 (va_up (σ.2.2.2.2 1) ((σ.1 1)).toNatClampNeg (some q133))) 1 ((σ.1 1) + 1)) ((σ.1 1) + 1) 1) ++ va_pl (L ++ [q133]) f_2) H := hP
                  have hD : va_D A (xc_W Q cA (se_nd (xs_i (xs_ar σ 1 (va_up (σ.2.2.2.2 1) ((σ.1 1)).toNatClampNeg (some q133))) 1 ((σ.1 1) + 1)) ((σ.1 1) + 1) 1) ++ va_pl (L ++ [q133]) f_2) := hD
                  rw [sn_ar] at hP hD
                  have hP : va_P (dC, dI) vwCl (xc_W Q cA (xs_r (se_nd (xs_i σ 1 (σ.1 1 + 1)) (σ.1 1 + 1) 1) (va_up σ.2.2.2.2 1 (va_up (σ.2.2.2.2 1) (σ.1 1).toNatClampNeg (some q133)))) ++ va_pl (L ++ [q133]) f_2) H := hP
                  have hD : va_D A (xc_W Q cA (xs_r (se_nd (xs_i σ 1 (σ.1 1 + 1)) (σ.1 1 + 1) 1) (va_up σ.2.2.2.2 1 (va_up (σ.2.2.2.2 1) (σ.1 1).toNatClampNeg (some q133)))) ++ va_pl (L ++ [q133]) f_2) := hD
                  refine lv_aload_n hx hb dX3_claim_172 rfl (lv_at hl 2 rfl) ?_
                  refine va_get (D := (dC, dI)) (ci := 3) (v := .int ((xs_r (se_nd (xs_i σ 1 (σ.1 1 + 1)) (σ.1 1 + 1) 1) (va_up σ.2.2.2.2 1 (va_up (σ.2.2.2.2 1) (σ.1 1).toNatClampNeg (some q133)))).1 1)) (C := RX3) (T := TX3) (N := 16) hx hb hts in1 hown hK hP 0 (xc_W_0 _ _) rfl 3 (by decide) lk5 (fun _ h9 => h9) rfl dX3_claim_173 ?_
                  exact W.iret (v := ((xs_r (se_nd (xs_i σ 1 (σ.1 1 + 1)) (σ.1 1 + 1) 1) (va_up σ.2.2.2.2 1 (va_up (σ.2.2.2.2 1) (σ.1 1).toNatClampNeg (some q133)))).1 1)) hx hb hr (fun t ht hW => ⟨⟨((xs_r (se_nd (xs_i σ 1 (σ.1 1 + 1)) (σ.1 1 + 1) 1) (va_up σ.2.2.2.2 1 (va_up (σ.2.2.2.2 1) (σ.1 1).toNatClampNeg (some q133)))).1 1), (se_nd (xs_i σ 1 (σ.1 1 + 1)) (σ.1 1 + 1) 1, nc_co co n.2.1 j2 x1 x2 (se_cl co (co.2.1 2 j2) n.2.1)), rfl, (by rw [show ((xs_r (se_nd (xs_i σ 1 (σ.1 1 + 1)) (σ.1 1 + 1) 1) (va_up σ.2.2.2.2 1 (va_up (σ.2.2.2.2 1) (σ.1 1).toNatClampNeg (some q133)))).1 1) = σ.1 1 + 1 from sn_0 (xs_i σ 1 (σ.1 1 + 1)) (σ.1 1 + 1) 1 1 (by decide)]; simp only [kc_claim, hm2, if_pos c20, if_pos c32, if_pos c45, if_pos c56, if_pos c84, hm93, if_pos c108, Option.elim, hn1]), va_up σ.2.2.2.2 1 (va_up (σ.2.2.2.2 1) (σ.1 1).toNatClampNeg (some q133)), (n.1, n.2.1 + 1, n.2.2.1, n.2.2.2 + 1), L ++ [q133], f_2, (ad.1, ad.2.1, va_up ad.2.2.1 n.2.1 q133, ad.2.2.2), Nat.le_refl _, re_x (σ := xs_i (xs_ar σ 1 (va_up (σ.2.2.2.2 1) (σ.1 1).toNatClampNeg (some q133))) 1 (σ.1 1 + 1)) (n := (n.1, n.2.1 + 1, n.2.2)) (by rw [ex2]; exact re_newC (σ' := xs_i (xs_ar σ 1 (va_up (σ.2.2.2.2 1) (σ.1 1).toNatClampNeg (some q133))) 1 (σ.1 1 + 1)) (f' := f_2) (L' := L ++ [q133]) hR hq133 (fun a h => List.mem_append_left _ h) (List.mem_append_right _ (List.mem_singleton.mpr rfl)) (fun a h => by rw [ef_2, va_up_ne _ _ (ct_nq h hq133), ef_1, va_up_ne _ _ (ct_nq h hq133)]) hj2 (nu_4 c20) (by rw [hf_2_q133]; exact nc_ce hR.1.2.2.1 ex2) (nu_lt hR.1.2.2.1 hR.1.2.2.2.1 c108) rfl (by show σ.1 1 + 1 = _; rw [hR.1.2.2.1]; exact nI_1 _) rfl rfl rfl (by show va_up (σ.2.2.2.2 1) (σ.1 1).toNatClampNeg (some q133) = _; rw [hn1]) rfl) (n.2.2.2 + 1) (sn_0 (xs_i σ 1 (σ.1 1 + 1)) _ _ 0 (by decide)) (sn_0 (xs_i σ 1 (σ.1 1 + 1)) _ _ 1 (by decide)) (sn_0 (xs_i σ 1 (σ.1 1 + 1)) _ _ 2 (by decide)) (sn_3 (σ := (xs_i σ 1 (σ.1 1 + 1))) hR.1.2.2.2.2.2.2 _ _) rfl, by rw [ht]; exact hP, va_K.moved hW.alike hK, hD⟩, hS.F ht⟩) hS.2.2 dX3_claim_176
                · refine lv_bipush (v := (-104)) hx hb dX3_claim_111 (by decide) ?_
                  refine W.widen (k := 1) (n := 13) (by decide) (by decide) ?_
                  exact W.iret (v := (-104)) hx hb hr (fun t ht hW => ⟨⟨(-104), (σ, co), rfl, (by simp only [kc_claim, hm2, if_pos c20, if_pos c32, if_pos c45, if_pos c56, if_pos c84, hm93, if_neg c108, Option.elim, hn0, hn1, hn2]), σ.2.2.2.2, n, L, f, ad, Nat.le_succ _, hR, by rw [ht]; exact hP, va_K.moved hW.alike hK, hD⟩, hS.F ht⟩) hS.2.2 dX3_claim_113
            · refine lv_bipush (v := (-106)) hx hb dX3_claim_87 (by decide) ?_
              refine W.widen (k := 1) (n := 13) (by decide) (by decide) ?_
              exact W.iret (v := (-106)) hx hb hr (fun t ht hW => ⟨⟨(-106), (σ, co), rfl, (by simp only [kc_claim, hm2, if_pos c20, if_pos c32, if_pos c45, if_pos c56, if_neg c84, Option.elim, hn0, hn1, hn2]), σ.2.2.2.2, n, L, f, ad, Nat.le_succ _, hR, by rw [ht]; exact hP, va_K.moved hW.alike hK, hD⟩, hS.F ht⟩) hS.2.2 dX3_claim_89
          · have c56 := of_decide_eq_false (bb_0.mp c56)
            refine lv_bipush (v := (-105)) hx hb dX3_claim_59 (by decide) ?_
            refine W.widen (k := 1) (n := 13) (by decide) (by decide) ?_
            exact W.iret (v := (-105)) hx hb hr (fun t ht hW => ⟨⟨(-105), (σ, co), rfl, (by simp only [kc_claim, hm2, if_pos c20, if_pos c32, if_pos c45, if_neg c56, Option.elim, hn0, hn1, hn2]), σ.2.2.2.2, n, L, f, ad, Nat.le_succ _, hR, by rw [ht]; exact hP, va_K.moved hW.alike hK, hD⟩, hS.F ht⟩) hS.2.2 dX3_claim_61
        · have c45 := of_decide_eq_false (bb_0.mp c45)
          refine lv_bipush (v := (-102)) hx hb dX3_claim_48 (by decide) ?_
          refine W.widen (k := 1) (n := 13) (by decide) (by decide) ?_
          exact W.iret (v := (-102)) hx hb hr (fun t ht hW => ⟨⟨(-102), (σ, co), rfl, (by simp only [kc_claim, hm2, if_pos c20, if_pos c32, if_neg c45, Option.elim, hn0, hn1, hn2]), σ.2.2.2.2, n, L, f, ad, Nat.le_succ _, hR, by rw [ht]; exact hP, va_K.moved hW.alike hK, hD⟩, hS.F ht⟩) hS.2.2 dX3_claim_50
  · skip
    refine lv_astoreN (lv' := [(5, .null), (0, .ref (Q 0)), (1, .int x1), (2, .int x2), (3, .int x3), (4, .int x4)]) hx hb dX3_claim_5 hl (by decide) rfl (fun ls hl => ?_)
    refine lv_aloadN hx hb dX3_claim_7 (lv_at hl 0 rfl) ?_
    refine lv_ifnonnullN hx hb dX3_claim_9 ?_
    refine lv_bipush (v := (-101)) hx hb dX3_claim_12 (by decide) ?_
    refine W.widen (k := 1) (n := 13) (by decide) (by decide) ?_
    exact W.iret (v := (-101)) hx hb hr (fun t ht hW => ⟨⟨(-101), (σ, co), rfl, (by simp only [kc_claim, hm2, Option.elim, hn0, hn1, hn2]), σ.2.2.2.2, n, L, f, ad, Nat.le_succ _, hR, by rw [ht]; exact hP, va_K.moved hW.alike hK, hD⟩, hS.F ht⟩) hS.2.2 dX3_claim_14
