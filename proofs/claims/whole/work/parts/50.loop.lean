theorem ll_8 {Lx T : Nat} (hL : Lx ≤ 4096) (h8 : 8 * T ≤ 5000) : (nI Lx - 8 < nI (8 * T)) ↔ Lx < 8 * T + 8 := by
  rw [Int32.lt_iff_toInt_lt, show (8 : Int32) = nI 8 from rfl, pk_sub_toInt (by omega) (by omega), nI_toInt (by omega)]
  omega
theorem ll_in {Lx T : Nat} (hL : Lx ≤ 4096) (h : 8 * T + 8 ≤ Lx) : ∀ k : Nat, k < 8 → vp_in (nI (8 * T) + nI k) Lx := fun k hk => by
  rw [nI_add]; exact vp_in_nI (by omega) (by omega)
set_option maxHeartbeats 4000000 in
set_option maxRecDepth 100000 in
theorem ll_loop_open {p : Program} {l : Launch} {e : Env} {s : State} {m : MethodId} {below : List Frame} {meth : Method} {c : Code} {dC : Nat → ClassId} {dI : Nat → Nat → Nat} {cA : Nat → ClassId} {b Lx : Nat} {xs : Nat → Int32} {Q P : Nat → Nat} {g : Nat → va_E} {tN : Nat} (hL : Lx ≤ 4096) (C0 : lw_At p s m meth c b Lx xs) (hK : va_K (dC, dI) vwCl (ty_K cA) s) (hN : lw_N s tN) (SA : rl_all) :
    ∀ (d T : Nat), Lx ≤ 8 * T + d → 8 * T ≤ Lx + 8 → ∀ (σ : xs_T) (co : co_T) (τ : xs_T) (n : nn_T) (L : List Nat) (f : Nat → va_E) (ad : ad_T) (H : Heap) (locs : List Loc) (ls : Array Slot), lw_I dC dI cA s Q P g σ co τ n L f ad H locs T → lv_has ls 4 [(0, .ref b), (1, .ref (Q 0)), (2, .ref (P 0)), (3, .int (nI (8 * T)))] →
      W p l e room_1 s m #[Value.ref b] below meth c H locs (100 + 2 * T) (10000 + 25 * T) (lw_Z below #[Value.ref b] s) (F0 m 18 ls []) := by
  have C1 := C0
  obtain ⟨hx, hb, hr, hml, hown, hts, hX, hbl, hlocks, hgv⟩ := C0
  have hbA : ¬ (fun q : Nat => s.heap.size ≤ q) b := Nat.not_le.mpr hbl
  intro d
  induction d with
  | zero =>
    intro T hd h8 σ co τ n L f ad H locs ls hi hl
    have hS := hi.2.2.2.2.2
    refine lv_iload_n hx hb dL_law_18 rfl (lv_at hl 3 rfl) ?_
    refine lv_aload_n hx hb dL_law_19 rfl (lv_at hl 0 rfl) ?_
    refine va_slen hx hb hX hbl hbA hS dL_law_20 ?_
    refine lv_bipush (v := 8) hx hb dL_law_21 (by decide) ?_
    refine lv_isub hx hb dL_law_23 ?_
    refine lv_icmp_gt (tgt := 972) hx hb dL_law_24 (by decide) (fun c24 => ?_) (fun c24 => ?_)
    · refine lv_iconst (v := 1) hx hb dL_law_972 (by decide) ?_
      refine va_forget (fun q hq => hS.2.2 q hq) ?_
      refine W.widen (k := 600000) (n := 7302250) (by omega) (by omega) ?_
      exact lw_ret hx hb hr hlocks dL_law_973
    · exact absurd ((ll_8 hL (by omega)).mpr (by omega)) c24
  | succ d ih =>
    intro T hd h8 σ co τ n L f ad H locs ls hi hl
    have hS := hi.2.2.2.2.2
    refine lv_iload_n hx hb dL_law_18 rfl (lv_at hl 3 rfl) ?_
    refine lv_aload_n hx hb dL_law_19 rfl (lv_at hl 0 rfl) ?_
    refine va_slen hx hb hX hbl hbA hS dL_law_20 ?_
    refine lv_bipush (v := 8) hx hb dL_law_21 (by decide) ?_
    refine lv_isub hx hb dL_law_23 ?_
    refine lv_icmp_gt (tgt := 972) hx hb dL_law_24 (by decide) (fun c24 => ?_) (fun c24 => ?_)
    · refine lv_iconst (v := 1) hx hb dL_law_972 (by decide) ?_
      refine va_forget (fun q hq => hS.2.2 q hq) ?_
      refine W.widen (k := 600000) (n := 7302250) (by omega) (by omega) ?_
      exact lw_ret hx hb hr hlocks dL_law_973
    · have hT8 : 8 * T + 8 ≤ Lx := by
        rcases Nat.lt_or_ge Lx (8 * T + 8) with q | q
        · exact absurd ((ll_8 hL (by omega)).mpr q) c24
        · exact q
      have hI := ll_in hL hT8
      have K : ∀ (σ : xs_T) (co : co_T) (τ : xs_T) (n : nn_T) (L : List Nat) (f : Nat → va_E) (ad : ad_T) (H : Heap) (locs : List Loc) (ls : Array Slot), lw_I dC dI cA s Q P g σ co τ n L f ad H locs (T + 1) → lv_has ls 4 [(0, .ref b), (1, .ref (Q 0)), (2, .ref (P 0)), (3, .int (nI (8 * T)))] → W p l e room_1 s m #[Value.ref b] below meth c H locs (100 + 2 * T + 2) (10000 + 25 * T + 25) (lw_Z below #[Value.ref b] s) (F0 m 966 ls []) := by
        intro σ co τ n L f ad H locs ls hi hl
        refine lv_iinc (v := nI (8 * T) + 8) (lv' := [(3, .int (nI (8 * T) + 8)), (0, .ref b), (1, .ref (Q 0)), (2, .ref (P 0))]) hx hb dL_law_966 hl (k := 3) rfl rfl (by decide) rfl (fun ls hl => ?_)
        refine lv_goto (tgt := 18) hx hb dL_law_969 (by decide) ?_
        have h := ih (T + 1) (by omega) (by omega) σ co τ n L f ad H locs ls hi (lv_sub hl [1, 2, 3, 0] (by rw [show 8 * (T + 1) = 8 * T + 8 by omega, ← nI_add]; rfl))
        exact W.widen (by omega) (by omega) h
      have K0 : ∀ (σ : xs_T) (co : co_T) (τ : xs_T) (n : nn_T) (L : List Nat) (f : Nat → va_E) (ad : ad_T) (H : Heap) (locs : List Loc) (ls : Array Slot), lw_I dC dI cA s Q P g σ co τ n L f ad H locs (T + 1) → lv_has ls 4 [(0, .ref b), (1, .ref (Q 0)), (2, .ref (P 0)), (3, .int (nI (8 * T)))] → W p l e room_1 s m #[Value.ref b] below meth c H locs (100 + 2 * T) (10000 + 25 * T) (lw_Z below #[Value.ref b] s) (F0 m 966 ls []) := fun σ co τ n L f ad H locs ls hi hl => W.widen (by omega) (by omega) (K σ co τ n L f ad H locs ls hi hl)
      refine lv_aload_n hx hb dL_law_27 rfl (lv_at hl 0 rfl) ?_
      refine lv_iload_n hx hb dL_law_28 rfl (lv_at hl 3 rfl) ?_
      refine va_sld hx hb hX hbl hbA hS (vp_in_nI (by omega) (by omega)) dL_law_29 ?_
      refine lv_bipush (v := 31) hx hb dL_law_30 (by decide) ?_
      refine lv_iand hx hb dL_law_32 ?_
      refine lv_topi (fun y ey => ?_)
      clear ey
      rcases Classical.em (y = 0 ∨ y = 1 ∨ y = 2 ∨ y = 3 ∨ y = 4 ∨ y = 5 ∨ y = 6 ∨ y = 7 ∨ y = 8 ∨ y = 9 ∨ y = 10 ∨ y = 11 ∨ y = 12 ∨ y = 13 ∨ y = 14 ∨ y = 15 ∨ y = 16 ∨ y = 17 ∨ y = 18) with e33 | e33
      · rcases e33 with e33 | e33 | e33 | e33 | e33 | e33 | e33 | e33 | e33 | e33 | e33 | e33 | e33 | e33 | e33 | e33 | e33 | e33 | e33
        · refine lv_tableIn (off := 91) (tgt := 124) hx hb dL_law_33 (by rw [e33]; decide) (by rw [e33]; decide) (by rw [e33]; decide) (by decide) ?_
          exact lc_0 C1 hK hN SA (C := 100 + 2 * T) (Z := 10000 + 25 * T) (T := T) (by omega) (by omega) (by omega) hI K σ co τ n L f ad H locs ls hi hl
        · refine lv_tableIn (off := 218) (tgt := 251) hx hb dL_law_33 (by rw [e33]; decide) (by rw [e33]; decide) (by rw [e33]; decide) (by decide) ?_
          exact lc_1 C1 hK hN SA (C := 100 + 2 * T) (Z := 10000 + 25 * T) (T := T) (by omega) (by omega) (by omega) hI K σ co τ n L f ad H locs ls hi hl
        · refine lv_tableIn (off := 277) (tgt := 310) hx hb dL_law_33 (by rw [e33]; decide) (by rw [e33]; decide) (by rw [e33]; decide) (by decide) ?_
          exact lc_2 C1 hK hN SA (C := 100 + 2 * T) (Z := 10000 + 25 * T) (T := T) (by omega) (by omega) (by omega) hI K σ co τ n L f ad H locs ls hi hl
        · refine lv_tableIn (off := 360) (tgt := 393) hx hb dL_law_33 (by rw [e33]; decide) (by rw [e33]; decide) (by rw [e33]; decide) (by decide) ?_
          exact lc_3 C1 hK hN SA (C := 100 + 2 * T) (Z := 10000 + 25 * T) (T := T) (by omega) (by omega) (by omega) hI K σ co τ n L f ad H locs ls hi hl
        · refine lv_tableIn (off := 413) (tgt := 446) hx hb dL_law_33 (by rw [e33]; decide) (by rw [e33]; decide) (by rw [e33]; decide) (by decide) ?_
          exact lc_4 C1 hK hN SA (C := 100 + 2 * T) (Z := 10000 + 25 * T) (T := T) (by omega) (by omega) (by omega) hI K σ co τ n L f ad H locs ls hi hl
        · refine lv_tableIn (off := 446) (tgt := 479) hx hb dL_law_33 (by rw [e33]; decide) (by rw [e33]; decide) (by rw [e33]; decide) (by decide) ?_
          exact lc_5 C1 hK hN SA (C := 100 + 2 * T) (Z := 10000 + 25 * T) (T := T) (by omega) (by omega) (by omega) hI K σ co τ n L f ad H locs ls hi hl
        · refine lv_tableIn (off := 489) (tgt := 522) hx hb dL_law_33 (by rw [e33]; decide) (by rw [e33]; decide) (by rw [e33]; decide) (by decide) ?_
          exact lc_6 C1 hK hN SA (C := 100 + 2 * T) (Z := 10000 + 25 * T) (T := T) (by omega) (by omega) (by omega) hI K σ co τ n L f ad H locs ls hi hl
        · refine lv_tableIn (off := 538) (tgt := 571) hx hb dL_law_33 (by rw [e33]; decide) (by rw [e33]; decide) (by rw [e33]; decide) (by decide) ?_
          exact lc_7 C1 hK hN SA (C := 100 + 2 * T) (Z := 10000 + 25 * T) (T := T) (by omega) (by omega) (by omega) hI K σ co τ n L f ad H locs ls hi hl
        · refine lv_tableIn (off := 561) (tgt := 594) hx hb dL_law_33 (by rw [e33]; decide) (by rw [e33]; decide) (by rw [e33]; decide) (by decide) ?_
          exact lc_8 C1 hK hN SA (C := 100 + 2 * T) (Z := 10000 + 25 * T) (T := T) (by omega) (by omega) (by omega) hI K0 σ co τ n L f ad H locs ls hi hl
        · refine lv_tableIn (off := 585) (tgt := 618) hx hb dL_law_33 (by rw [e33]; decide) (by rw [e33]; decide) (by rw [e33]; decide) (by decide) ?_
          exact lc_9 C1 hK hN SA (C := 100 + 2 * T) (Z := 10000 + 25 * T) (T := T) (by omega) (by omega) (by omega) hI K σ co τ n L f ad H locs ls hi hl
        · refine lv_tableIn (off := 648) (tgt := 681) hx hb dL_law_33 (by rw [e33]; decide) (by rw [e33]; decide) (by rw [e33]; decide) (by decide) ?_
          exact lc_10 C1 hK hN SA (C := 100 + 2 * T) (Z := 10000 + 25 * T) (T := T) (by omega) (by omega) (by omega) hI K σ co τ n L f ad H locs ls hi hl
        · refine lv_tableIn (off := 681) (tgt := 714) hx hb dL_law_33 (by rw [e33]; decide) (by rw [e33]; decide) (by rw [e33]; decide) (by decide) ?_
          exact lc_11 C1 hK hN SA (C := 100 + 2 * T) (Z := 10000 + 25 * T) (T := T) (by omega) (by omega) (by omega) hI K0 σ co τ n L f ad H locs ls hi hl
        · refine lv_tableIn (off := 715) (tgt := 748) hx hb dL_law_33 (by rw [e33]; decide) (by rw [e33]; decide) (by rw [e33]; decide) (by decide) ?_
          exact lc_12 C1 hK hN SA (C := 100 + 2 * T) (Z := 10000 + 25 * T) (T := T) (by omega) (by omega) (by omega) hI K σ co τ n L f ad H locs ls hi hl
        · refine lv_tableIn (off := 738) (tgt := 771) hx hb dL_law_33 (by rw [e33]; decide) (by rw [e33]; decide) (by rw [e33]; decide) (by decide) ?_
          exact lc_13 C1 hK hN SA (C := 100 + 2 * T) (Z := 10000 + 25 * T) (T := T) (by omega) (by omega) (by omega) hI K σ co τ n L f ad H locs ls hi hl
        · refine lv_tableIn (off := 787) (tgt := 820) hx hb dL_law_33 (by rw [e33]; decide) (by rw [e33]; decide) (by rw [e33]; decide) (by decide) ?_
          exact lc_14 C1 hK hN SA (C := 100 + 2 * T) (Z := 10000 + 25 * T) (T := T) (by omega) (by omega) (by omega) hI K σ co τ n L f ad H locs ls hi hl
        · refine lv_tableIn (off := 810) (tgt := 843) hx hb dL_law_33 (by rw [e33]; decide) (by rw [e33]; decide) (by rw [e33]; decide) (by decide) ?_
          exact lc_15 C1 hK hN SA (C := 100 + 2 * T) (Z := 10000 + 25 * T) (T := T) (by omega) (by omega) (by omega) hI K0 σ co τ n L f ad H locs ls hi hl
        · refine lv_tableIn (off := 843) (tgt := 876) hx hb dL_law_33 (by rw [e33]; decide) (by rw [e33]; decide) (by rw [e33]; decide) (by decide) ?_
          exact lc_16 C1 hK hN SA (C := 100 + 2 * T) (Z := 10000 + 25 * T) (T := T) (by omega) (by omega) (by omega) hI K0 σ co τ n L f ad H locs ls hi hl
        · refine lv_tableIn (off := 876) (tgt := 909) hx hb dL_law_33 (by rw [e33]; decide) (by rw [e33]; decide) (by rw [e33]; decide) (by decide) ?_
          exact lc_17 C1 hK hN SA (C := 100 + 2 * T) (Z := 10000 + 25 * T) (T := T) (by omega) (by omega) (by omega) hI K0 σ co τ n L f ad H locs ls hi hl
        · refine lv_tableIn (off := 909) (tgt := 942) hx hb dL_law_33 (by rw [e33]; decide) (by rw [e33]; decide) (by rw [e33]; decide) (by decide) ?_
          exact lc_18 C1 hK hN SA (C := 100 + 2 * T) (Z := 10000 + 25 * T) (T := T) (by omega) (by omega) (by omega) hI K0 σ co τ n L f ad H locs ls hi hl
      · refine lv_tableOut (tgt := 966) hx hb dL_law_33 (sw_out_0_18 (fun q => e33 q)) (by decide) ?_
        exact K0 σ co τ n L f ad H locs ls ⟨hi.1, Nat.le_succ_of_le hi.2.1, hi.2.2⟩ hl
