/-! What holds at the law's entry: classes, arrays' classes, statics; the states at the start. -/
def co_0 : co_T := (fun _ _ => 0, fun _ _ => 0, fun _ _ => 0, fun _ _ => 0)
theorem re_0 (cA : Nat → ClassId) (f : Nat → va_E) (ad : ad_T) : re_A cA xs_0 (0, 0, 0, 0) co_0 [] f ad :=
  ⟨⟨rfl, by decide, rfl, by decide, rfl, by decide, rfl⟩, fun i hi => absurd hi (Nat.not_lt_zero i), fun i hi => absurd hi (Nat.not_lt_zero i), fun i hi => absurd hi (Nat.not_lt_zero i), ⟨fun i hi => absurd hi (Nat.not_lt_zero i), fun i hi => absurd hi (Nat.not_lt_zero i), fun i hi => absurd hi (Nat.not_lt_zero i)⟩, ⟨fun i _ hi => absurd hi (Nat.not_lt_zero i), fun i _ hi => absurd hi (Nat.not_lt_zero i), fun i _ hi => absurd hi (Nat.not_lt_zero i), fun i _ hi => absurd hi (Nat.not_lt_zero i)⟩⟩
theorem rl_0 : rl_A xs_0 co_0 xs_0 (0, 0, 0, 0) :=
  ⟨⟨⟨rfl, by decide, rfl, by decide, rfl, by decide, rfl, by decide⟩, fun i h1 h2 => absurd (Nat.lt_of_lt_of_le h1 h2) (Nat.lt_irrefl 0), fun i h1 h2 => absurd (Nat.lt_of_lt_of_le h1 h2) (Nat.lt_irrefl 0)⟩, ⟨rfl, rfl, rfl, rfl, rfl, rfl, rfl, rfl, rfl⟩, fun i hi => absurd hi (Nat.not_lt_zero i), fun _ _ => ⟨rfl, rfl⟩, fun i hi => absurd hi (Nat.not_lt_zero i), fun _ _ => ⟨fun _ _ => rfl, rfl, rfl, rfl⟩, fun i hi => absurd hi (Nat.not_lt_zero i), fun i _ hi => absurd hi (Nat.not_lt_zero i)⟩
theorem st_i {s : State} {a : Array Value} (h : (Cond.arrayClass .int).before a s = true) : ∃ cB : ClassId, ArrOfT s cB .int ∧ va_RA s cB .int := by
  obtain ⟨cB, kB, comp, h1, h2, h3⟩ := Cond.arrayClass_spec h
  exact ⟨cB, fun n z => ⟨fun k h => (by cases h), kB, h2, comp, h3⟩, h1⟩
theorem st_l {s : State} {a : Array Value} (h : (Cond.arrayClass .long).before a s = true) : ∃ cB : ClassId, ArrOfT s cB .long ∧ va_RA s cB .long := by
  obtain ⟨cB, kB, comp, h1, h2, h3⟩ := Cond.arrayClass_spec h
  exact ⟨cB, fun n z => ⟨fun k h => (by cases h), kB, h2, comp, h3⟩, h1⟩
theorem st_z {s : State} {a : Array Value} (h : (Cond.arrayClass .boolean).before a s = true) : ∃ cB : ClassId, ArrOfT s cB .boolean ∧ va_RA s cB .boolean := by
  obtain ⟨cB, kB, comp, h1, h2, h3⟩ := Cond.arrayClass_spec h
  exact ⟨cB, fun n z => ⟨fun k h => (by cases h), kB, h2, comp, h3⟩, h1⟩
theorem st_o {s : State} {C : String} (h : va_AO C s) : ∃ cB : ClassId, ArrOfT s cB (.object C) ∧ va_RA s cB (.object C) := by
  obtain ⟨comp, c, k, h1, h2, h3, h4, h5⟩ := Cond.arrayOver_spec h
  exact ⟨c, fun n z => ⟨fun k h => (by cases h), k, h3, comp, h4⟩, k, comp, h3, h4, h1, h5⟩
theorem st_N {s : State} {b : Nat} (hts : ∀ w ∈ lw_tbl, w.before #[Value.ref b] s = true) (hgv : (Jvm.Cond.and given_1 narrow_1).before #[Value.ref b] s = true) : ∃ tN : Nat, lw_N s tN := by
  have hs := flat_of_before _ hgv
  have hA : ∀ a : Nat, a < s.heap.size → ¬ (fun q : Nat => s.heap.size ≤ q) a := fun a h => Nat.not_le.mpr h
  have h0 := va_eqt (hs (Cond.eq (.elem (.static "ClaimRows" "NEEDED" "[I") (.int 0)) (.int 1)) (by decide +kernel))
  have h1 := va_eqt (hs (Cond.eq (.elem (.static "ClaimRows" "NEEDED" "[I") (.int 1)) (.int 3)) (by decide +kernel))
  have h2 := va_eqt (hs (Cond.eq (.elem (.static "ClaimRows" "NEEDED" "[I") (.int 2)) (.int 5)) (by decide +kernel))
  have h3 := va_eqt (hs (Cond.eq (.elem (.static "ClaimRows" "NEEDED" "[I") (.int 3)) (.int 13)) (by decide +kernel))
  obtain ⟨tN, ht, hT⟩ := va_Tof (N := 4) (f := fun j => .int (nd_t j)) (A := fun q : Nat => s.heap.size ≤ q) (by decide) (hs (Cond.arrayOf (.static "ClaimRows" "NEEDED" "[I") .int) (by decide +kernel)) (va_eqt (hs (Cond.eq (.length (.static "ClaimRows" "NEEDED" "[I")) (.int 4)) (by decide +kernel))) (fun j hj => by
    rcases (show j = 0 ∨ j = 1 ∨ j = 2 ∨ j = 3 by omega) with rfl | rfl | rfl | rfl
    · exact h0
    · exact h1
    · exact h2
    · exact h3) hA
  exact ⟨tN, va_Nw.of rfl (hts (.methodLinkNest RX0 35 yX3_isBelow "ClaimRows") (by decide +kernel)), va_Nw.of rfl (hts (.fieldLinkNest RX0 31 "ClaimRows" "NEEDED" "[I" "ClaimRows") (by decide +kernel)), va_Zref (hts (.laysStatic "ClaimRows" "NEEDED" "[I") (by decide +kernel)) (hts _ (al_in _ wd_1)) ht hA, hT⟩
theorem st_K {s : State} {b : Nat} (hts : ∀ w ∈ lw_tbl, w.before #[Value.ref b] s = true) : ∃ (dC : Nat → ClassId) (dI : Nat → Nat → Nat) (cA : Nat → ClassId), va_K (dC, dI) vwCl (ty_K cA) s := by
  obtain ⟨c0, i0, k0⟩ := u_known (C := RX0) (T := TX0) (N := 13) (n := 13) hts au_X0 (hts _ (al_in _ wd_113))
  obtain ⟨c1, i1, k1⟩ := u_known (C := RX1) (T := TX1) (N := 9) (n := 9) hts au_X1 (hts _ (al_in _ wd_52))
  obtain ⟨c2, i2, k2⟩ := u_known (C := RX2) (T := TX2) (N := 3) (n := 3) hts au_X2 (hts _ (al_in _ wd_159))
  obtain ⟨c3, i3, k3⟩ := u_known (C := RX3) (T := TX3) (N := 16) (n := 16) hts au_X3 (hts _ (al_in _ wd_9))
  obtain ⟨c4, i4, k4⟩ := u_known (C := RX4) (T := TX4) (N := 33) (n := 33) hts au_X4 (hts _ (al_in _ wd_271))
  obtain ⟨a0, p0, q0⟩ := st_i (hts _ (al_in _ wd_36))
  obtain ⟨a1, p1, q1⟩ := st_l (hts _ (al_in _ wd_35))
  obtain ⟨a2, p2, q2⟩ := st_z (hts _ (al_in _ wd_309))
  obtain ⟨a3, p3, q3⟩ := st_o (C := "ClaimRows$Item") (va_AO.of (hts (.arrayOver (.object "ClaimRows$Item")) (by decide +kernel)))
  obtain ⟨a4, p4, q4⟩ := st_o (C := "ClaimRows$Claim") (va_AO.of (hts (.arrayOver (.object "ClaimRows$Claim")) (by decide +kernel)))
  obtain ⟨a5, p5, q5⟩ := st_o (C := "ClaimRows$Search") (va_AO.of (hts (.arrayOver (.object "ClaimRows$Search")) (by decide +kernel)))
  refine ⟨fun k => if k = 0 then c0 else if k = 1 then c1 else if k = 2 then c2 else if k = 3 then c3 else c4, fun k => if k = 0 then i0 else if k = 1 then i1 else if k = 2 then i2 else if k = 3 then i3 else i4, fun k => if k = 0 then a0 else if k = 1 then a1 else if k = 2 then a2 else if k = 3 then a3 else if k = 4 then a4 else a5, fun k q hq => ?_, fun k q hq => ?_⟩
  · match k, hq with
    | 0, hq => cases hq; exact k0
    | 1, hq => cases hq; exact k1
    | 2, hq => cases hq; exact k2
    | 3, hq => cases hq; exact k3
    | 4, hq => cases hq; exact k4
    | k + 5, hq => simp [vwCl] at hq
  · match k, hq with
    | 0, hq => cases hq; exact ⟨p0, q0⟩
    | 1, hq => cases hq; exact ⟨p1, q1⟩
    | 2, hq => cases hq; exact ⟨p2, q2⟩
    | 3, hq => cases hq; exact ⟨p3, q3⟩
    | 4, hq => cases hq; exact ⟨p4, q4⟩
    | 5, hq => cases hq; exact ⟨p5, q5⟩
    | k + 6, hq => simp [ty_K] at hq
theorem st_bl {D : va_G} {cl : List vw_C} {tys : List (ClassId × FieldType)} {w : va_W} {sz : Nat} {av : List Value} : FrameBlind (va_Pc av (fun U => ct_M D cl tys w sz U ∧ va_AO "ClaimRows$Item" U ∧ va_AO "ClaimRows$Claim" U ∧ va_AO "ClaimRows$Search" U)) := fun a U g mk q =>
  ⟨q.1, ⟨q.2.1.1, q.2.1.2.1, va_K.moved (u := U) (U := U.calling g mk a) (Vm.Alike.refl U.vm) q.2.1.2.2.1, q.2.1.2.2.2⟩, va_AO.moved (u := U) (U := U.calling g mk a) (Vm.Alike.refl U.vm) q.2.2.1, va_AO.moved (u := U) (U := U.calling g mk a) (Vm.Alike.refl U.vm) q.2.2.2.1, va_AO.moved (u := U) (U := U.calling g mk a) (Vm.Alike.refl U.vm) q.2.2.2.2⟩
theorem st_at {D : va_G} {cl : List vw_C} {tys : List (ClassId × FieldType)} {w : va_W} {A : Nat → Prop} {s : State} {H : Heap} {av : List Value} (hP : va_P D cl w H) (hK : va_K D cl tys s) (hD : va_D A w) (h1 : va_AO "ClaimRows$Item" s) (h2 : va_AO "ClaimRows$Claim" s) (h3 : va_AO "ClaimRows$Search" s) : ∀ U : State, U.heap = H → s.WarmedH U.vm → va_Pc av (fun U => ct_M D cl tys w H.size U ∧ va_AO "ClaimRows$Item" U ∧ va_AO "ClaimRows$Claim" U ∧ va_AO "ClaimRows$Search" U) av.toArray U := fun U hU hW =>
  ⟨rfl, ⟨by rw [hU], by rw [hU]; exact hP, va_K.moved hW.alike hK, hD.weaken (fun _ _ _ _ => trivial)⟩, h1.moved hW.alike, h2.moved hW.alike, h3.moved hW.alike⟩
set_option maxHeartbeats 4000000 in
set_option maxRecDepth 100000 in
theorem ws_open {p : Program} {e : Env} {s : State} {m : MethodId} {below : List Frame} {meth : Method} {c : Code} (SA : rl_all) (l : Launch) {b L : Nat} {xs : Nat → Int32} (hL : L ≤ 4096) (C0 : lw_At p s m meth c b L xs) : W p l e room_1 s m #[Value.ref b] below meth c s.heap [] 0 0 (lw_Z below #[Value.ref b] s) (entryFrame m ([Value.ref b] : List Value).toArray 4) := by
  obtain ⟨hx, hb, hr, hml, hown, hts, hX, hbl, hlocks, hgv⟩ := id C0
  obtain ⟨tN, hN⟩ := st_N hts hgv
  obtain ⟨dC, dI, cA, hK⟩ := st_K hts
  have hts2 := lw_hts hts
  have hA : ∀ q : Nat, s.heap.size ≤ q → (fun q : Nat => s.heap.size ≤ q) q := fun _ h => h
  have hS : va_S (fun q : Nat => s.heap.size ≤ q) s.heap s.heap [] := va_S.rf
  have hP : va_P (dC, dI) vwCl [] s.heap := fun k q h => by simp at h
  have hD : va_D (fun q : Nat => s.heap.size ≤ q) [] := ⟨fun i j p q h => by simp at h, fun k q h => by simp at h⟩
  have hl := lv_entry ([.ref b]) (n := 4) (Nat.le_of_ble_eq_true rfl)
  rw [lg_entry_eq]
  generalize (lg_sl ([.ref b]) ++ List.replicate (4 - (lg_sl ([.ref b])).length) Slot.unset).toArray = ls at hl ⊢
  have hl : lv_has ls 4 [(0, .ref b)] := hl
  refine va_new (ci := 3) (fs := [.null, .int 0, .null, .int 0, .null, .int 0, .null, .null, .null, .null, .null, .int 0, .int 0, .long 0, .long 0, .int 0]) (C := RX3) (T := TX3) (N := 16) hx hb hts au_X3 tyX3 tyX3_ok hown (hts _ (al_in _ wd_8)) (hts _ (al_in _ wd_9)) (hts _ (al_in _ wd_1)) hK hP hD hS hA rfl (fun j hj => by rcases (show j = 0 ∨ j = 1 ∨ j = 2 ∨ j = 3 ∨ j = 4 ∨ j = 5 ∨ j = 6 ∨ j = 7 ∨ j = 8 ∨ j = 9 ∨ j = 10 ∨ j = 11 ∨ j = 12 ∨ j = 13 ∨ j = 14 ∨ j = 15 by omega) with rfl | rfl | rfl | rfl | rfl | rfl | rfl | rfl | rfl | rfl | rfl | rfl | rfl | rfl | rfl | rfl <;> rfl) (Nat.le_of_ble_eq_true rfl) (Nat.le_of_ble_eq_true rfl) dL_law_0 (fun o1 H hP hD hS => ?_)
  refine W.widen (k := 1) (n := 16) (by omega) (by omega) ?_
  refine lv_dup hx hb dL_law_3 rfl ?_
  have hP : va_P (dC, dI) vwCl [(o1, .inr (3, [.null, .int 0, .null, .int 0, .null, .int 0, .null, .null, .null, .null, .null, .int 0, .int 0, .long 0, .long 0, .int 0]))] H := hP
  have hD : va_D (fun q : Nat => s.heap.size ≤ q) [(o1, .inr (3, [.null, .int 0, .null, .int 0, .null, .int 0, .null, .null, .null, .null, .null, .int 0, .int 0, .long 0, .long 0, .int 0]))] := hD
  have hF := ct_free hD hS hA
  refine va_callv (va_runI (As := []) (rest := [.ref o1]) ⟨hx, hb, hml, hown, hts2⟩ (mt_ClaimRows_init l dC dI cA H.size o1) (cwI 0 hts2 (al_g wd_12) rfl rfl rfl (hts _ (al_in _ wd_1)) (hts _ (al_in _ wd_10)) (hts _ (al_in _ wd_11)) rfl (by decide +kernel) ⟨Nat.le_of_ble_eq_true rfl, Nat.le_of_ble_eq_true rfl⟩) ⟨st_bl, st_at hP hK hD (va_AO.of (hts (.arrayOver (.object "ClaimRows$Item")) (by decide +kernel))) (va_AO.of (hts (.arrayOver (.object "ClaimRows$Claim")) (by decide +kernel))) (va_AO.of (hts (.arrayOver (.object "ClaimRows$Search")) (by decide +kernel)))⟩ rfl rfl hl.1 rfl (lv_room (Nat.le_of_ble_eq_true rfl)) dL_law_4 ⟨Nat.le_of_ble_eq_true rfl, Nat.le_of_ble_eq_true rfl⟩) hS (fun q _ h => hF q h) hF (fun Q t H1 locs1 ht hvm hQ hB hz1 hk1 hS => ?_)
  obtain ⟨hP1, -, hD1⟩ := hB
  rw [ht] at hP1
  have hD9 : va_D (fun q : Nat => s.heap.size ≤ q) (xc_W Q cA xs_0) := hD1.weaken (fun _ _ _ h => hF _ h)
  clear hP hD hF hk1 hz1 hvm hD1
  generalize H1 = H at hP1 hS ht ⊢
  clear ht
  subst hQ
  refine W.widen (k := 9) (n := 718) (by omega) (by omega) ?_
  refine lv_astore_n (lv' := [(1, .ref (Q 0)), (0, .ref b)]) hx hb dL_law_7 rfl hl (by decide) rfl (fun ls hl => ?_)
  refine va_new (ci := 4) (fs := [.int 0, .null, .null, .null, .null, .null, .null, .null, .null, .null, .null, .null, .int 0, .null, .null, .null, .null, .null, .null, .null, .int 0, .null, .null, .null, .null, .int 0, .null, .int 0, .null, .null, .long 0, .long 0, .int 0]) (C := RX4) (T := TX4) (N := 33) hx hb hts au_X4 tyX4 tyX4_ok hown (hts _ (al_in _ wd_270)) (hts _ (al_in _ wd_271)) (hts _ (al_in _ wd_2)) hK hP1 hD9 hS hA rfl (fun j hj => by rcases (show j = 0 ∨ j = 1 ∨ j = 2 ∨ j = 3 ∨ j = 4 ∨ j = 5 ∨ j = 6 ∨ j = 7 ∨ j = 8 ∨ j = 9 ∨ j = 10 ∨ j = 11 ∨ j = 12 ∨ j = 13 ∨ j = 14 ∨ j = 15 ∨ j = 16 ∨ j = 17 ∨ j = 18 ∨ j = 19 ∨ j = 20 ∨ j = 21 ∨ j = 22 ∨ j = 23 ∨ j = 24 ∨ j = 25 ∨ j = 26 ∨ j = 27 ∨ j = 28 ∨ j = 29 ∨ j = 30 ∨ j = 31 ∨ j = 32 by omega) with rfl | rfl | rfl | rfl | rfl | rfl | rfl | rfl | rfl | rfl | rfl | rfl | rfl | rfl | rfl | rfl | rfl | rfl | rfl | rfl | rfl | rfl | rfl | rfl | rfl | rfl | rfl | rfl | rfl | rfl | rfl | rfl | rfl <;> rfl) (Nat.le_of_ble_eq_true rfl) (Nat.le_of_ble_eq_true rfl) dL_law_8 (fun o2 H hP hD hS => ?_)
  refine W.widen (k := 10) (n := 751) (by omega) (by omega) ?_
  refine lv_dup hx hb dL_law_11 rfl ?_
  obtain ⟨hPs, hDs⟩ := ct_swap hP hD
  have hL2 := ct_left hPs hDs
  have hF2 := ct_free hL2.2 hS hA
  refine va_callv (va_runI (As := []) (rest := [.ref o2]) ⟨hx, hb, hml, hown, hts2⟩ (mr_init l dC dI cA H.size o2) (cwI 0 hts2 (al_g wd_274) rfl rfl rfl (hts _ (al_in _ wd_2)) (hts _ (al_in _ wd_272)) (hts _ (al_in _ wd_273)) rfl (by decide +kernel) ⟨Nat.le_of_ble_eq_true rfl, Nat.le_of_ble_eq_true rfl⟩) ⟨ct_blM, ct_atM hL2.1 hK hL2.2⟩ rfl rfl hl.1 rfl (lv_room (Nat.le_of_ble_eq_true rfl)) dL_law_12 ⟨Nat.le_of_ble_eq_true rfl, Nat.le_of_ble_eq_true rfl⟩) hS (fun q _ h => hF2 q h) hF2 (fun P t H1 locs1 ht hvm hQ2 hB hz1 hk1 hS => ?_)
  obtain ⟨hP2, -, hD2⟩ := hB
  rw [ht] at hP2
  obtain ⟨hPs, hDs⟩ := ct_join1 hPs hDs hk1 hF2 hP2 hD2
  obtain ⟨hPz, hDz⟩ := ct_swap hPs hDs
  clear hL2 hF2 hk1 hz1 hP2 hD2 hvm hPs hDs hP hD
  generalize H1 = H at hPz hS ht ⊢
  clear ht
  subst hQ2
  refine W.widen (k := 100 + 2 * 0) (n := 10000 + 25 * 0) (by omega) (by omega) ?_
  refine lv_astore_n (lv' := [(2, .ref (P 0)), (1, .ref (Q 0)), (0, .ref b)]) hx hb dL_law_15 rfl hl (by decide) rfl (fun ls hl => ?_)
  refine lv_iconst (v := 0) hx hb dL_law_16 (by decide) ?_
  refine lv_istore_n (lv' := [(3, .int 0), (2, .ref (P 0)), (1, .ref (Q 0)), (0, .ref b)]) hx hb dL_law_17 rfl hl (by decide) rfl (fun ls hl => ?_)
  refine ll_loop_open (g := fun _ => .inr (0, [])) hL C0 hK hN SA L 0 (by omega) (by omega) xs_0 co_0 xs_0 (0, 0, 0, 0) [] (fun _ => .inr (0, [])) (fun _ => 0, fun _ => 0, fun _ => 0, fun _ => 0) H _ ls ⟨re_0 _ _ _, Nat.le_refl _, rl_0, ?_, ?_, hS⟩ (lv_sub hl [3, 2, 1, 0] rfl)
  · simpa [va_pl] using hPz
  · simpa [va_pl] using hDz
