set_option maxHeartbeats 4000000 in
set_option maxRecDepth 100000 in
theorem lc_0 {p : Program} {l : Launch} {e : Env} {s : State} {m : MethodId} {below : List Frame} {meth : Method} {c : Code} {dC : Nat → ClassId} {dI : Nat → Nat → Nat} {cA : Nat → ClassId} {b Lx : Nat} {xs : Nat → Int32} {Q P : Nat → Nat} {g : Nat → va_E} {tN : Nat} (C0 : lw_At p s m meth c b Lx xs) (hK : va_K (dC, dI) vwCl (ty_K cA) s) (hN : lw_N s tN) (SA : rl_all) {C Z T : Nat} (hC : C + 2 ≤ 600000) (hZ9 : Z + 25 ≤ 7302250) (hT9 : T < 1000) {x3 : Int32} (hI : ∀ k : Nat, k < 8 → vp_in (x3 + nI k) Lx)
    (K : ∀ (σ : xs_T) (co : co_T) (τ : xs_T) (n : nn_T) (L : List Nat) (f : Nat → va_E) (ad : ad_T) (H : Heap) (locs : List Loc) (ls : Array Slot), lw_I dC dI cA s Q P g σ co τ n L f ad H locs (T + 1) → lv_has ls 4 [(0, .ref b), (1, .ref (Q 0)), (2, .ref (P 0)), (3, .int x3)] → W p l e room_1 s m #[Value.ref b] below meth c H locs (C + 2) (Z + 25) (lw_Z below #[Value.ref b] s) (F0 m 966 ls []))
    (σ : xs_T) (co : co_T) (τ : xs_T) (n : nn_T) (L : List Nat) (f : Nat → va_E) (ad : ad_T) (H : Heap) (locs : List Loc) (ls : Array Slot) (hi : lw_I dC dI cA s Q P g σ co τ n L f ad H locs T) (hl : lv_has ls 4 [(0, .ref b), (1, .ref (Q 0)), (2, .ref (P 0)), (3, .int x3)]) : W p l e room_1 s m #[Value.ref b] below meth c H locs C Z (lw_Z below #[Value.ref b] s) (F0 m 124 ls []) := by
  obtain ⟨hx, hb, hr, hml, hown, hts, hX, hbl, hlocks, hgv⟩ := C0
  obtain ⟨hR, hnT, hA9, hP, hD, hS⟩ := hi
  obtain ⟨hN1, hN2, hZ, hTN⟩ := hN
  have hA : ∀ q : Nat, s.heap.size ≤ q → (fun q : Nat => s.heap.size ≤ q) q := fun _ h => h
  have hbA : ¬ (fun q : Nat => s.heap.size ≤ q) b := Nat.not_le.mpr hbl
  have hts2 := lw_hts hts
  have lk0 := hts2 (.constantLong RL 13 4294967295) (List.mem_cons_of_mem _ wd_437)
  refine lv_aload_n hx hb dL_law_124 rfl (lv_at hl 1 rfl) ?_
  refine lv_aload_n hx hb dL_law_125 rfl (lv_at hl 0 rfl) ?_
  refine lv_iload_n hx hb dL_law_126 rfl (lv_at hl 3 rfl) ?_
  refine lv_iconst (v := 1) hx hb dL_law_127 (by decide) ?_
  refine lv_iadd hx hb dL_law_128 ?_
  refine va_sld hx hb hX hbl hbA hS (hI 1 (by decide)) dL_law_129 ?_
  refine lv_aload_n hx hb dL_law_130 rfl (lv_at hl 0 rfl) ?_
  refine lv_iload_n hx hb dL_law_131 rfl (lv_at hl 3 rfl) ?_
  refine lv_iconst (v := 2) hx hb dL_law_132 (by decide) ?_
  refine lv_iadd hx hb dL_law_133 ?_
  refine va_sld hx hb hX hbl hbA hS (hI 2 (by decide)) dL_law_134 ?_
  refine lv_i2l (v := ((xs ((x3 + 2)).toNatClampNeg) : Int32).toInt64) hx hb dL_law_135 rfl ?_
  refine lv_bipush (v := 32) hx hb dL_law_136 (by decide) ?_
  refine lv_lshl (v := ((((xs ((x3 + 2)).toNatClampNeg) : Int32).toInt64) <<< ((32 : Int32).toInt64 &&& 63))) hx hb dL_law_138 rfl ?_
  refine lv_aload_n hx hb dL_law_139 rfl (lv_at hl 0 rfl) ?_
  refine lv_iload_n hx hb dL_law_140 rfl (lv_at hl 3 rfl) ?_
  refine lv_iconst (v := 3) hx hb dL_law_141 (by decide) ?_
  refine lv_iadd hx hb dL_law_142 ?_
  refine va_sld hx hb hX hbl hbA hS (hI 3 (by decide)) dL_law_143 ?_
  refine lv_i2l (v := ((xs ((x3 + 3)).toNatClampNeg) : Int32).toInt64) hx hb dL_law_144 rfl ?_
  refine lv_ldc2 hx hb hown lk0 dL_law_145 ?_
  refine lv_land hx hb dL_law_148 ?_
  refine lv_lor hx hb dL_law_149 ?_
  refine lv_aload_n hx hb dL_law_150 rfl (lv_at hl 0 rfl) ?_
  refine lv_iload_n hx hb dL_law_151 rfl (lv_at hl 3 rfl) ?_
  refine lv_iconst (v := 4) hx hb dL_law_152 (by decide) ?_
  refine lv_iadd hx hb dL_law_153 ?_
  refine va_sld hx hb hX hbl hbA hS (hI 4 (by decide)) dL_law_154 ?_
  refine lv_i2l (v := ((xs ((x3 + 4)).toNatClampNeg) : Int32).toInt64) hx hb dL_law_155 rfl ?_
  refine lv_bipush (v := 32) hx hb dL_law_156 (by decide) ?_
  refine lv_lshl (v := ((((xs ((x3 + 4)).toNatClampNeg) : Int32).toInt64) <<< ((32 : Int32).toInt64 &&& 63))) hx hb dL_law_158 rfl ?_
  refine lv_aload_n hx hb dL_law_159 rfl (lv_at hl 0 rfl) ?_
  refine lv_iload_n hx hb dL_law_160 rfl (lv_at hl 3 rfl) ?_
  refine lv_iconst (v := 5) hx hb dL_law_161 (by decide) ?_
  refine lv_iadd hx hb dL_law_162 ?_
  refine va_sld hx hb hX hbl hbA hS (hI 5 (by decide)) dL_law_163 ?_
  refine lv_i2l (v := ((xs ((x3 + 5)).toNatClampNeg) : Int32).toInt64) hx hb dL_law_164 rfl ?_
  refine lv_ldc2 hx hb hown lk0 dL_law_165 ?_
  refine lv_land hx hb dL_law_168 ?_
  refine lv_lor hx hb dL_law_169 ?_
  refine lv_aload_n hx hb dL_law_170 rfl (lv_at hl 0 rfl) ?_
  refine lv_iload_n hx hb dL_law_171 rfl (lv_at hl 3 rfl) ?_
  refine lv_bipush (v := 6) hx hb dL_law_172 (by decide) ?_
  refine lv_iadd hx hb dL_law_174 ?_
  refine va_sld hx hb hX hbl hbA hS (hI 6 (by decide)) dL_law_175 ?_
  refine lv_aload_n hx hb dL_law_176 rfl (lv_at hl 0 rfl) ?_
  refine lv_iload_n hx hb dL_law_177 rfl (lv_at hl 3 rfl) ?_
  refine lv_bipush (v := 7) hx hb dL_law_178 (by decide) ?_
  refine lv_iadd hx hb dL_law_180 ?_
  refine va_sld hx hb hX hbl hbA hS (hI 7 (by decide)) dL_law_181 ?_
  have hL1 := ct_left hP hD
  have hF := ct_free hL1.2 hS hA
  refine va_calli (va_runV (As := [.int (xs ((x3 + 1)).toNatClampNeg), .long (((((xs ((x3 + 2)).toNatClampNeg) : Int32).toInt64) <<< ((32 : Int32).toInt64 &&& 63)) ||| ((((xs ((x3 + 3)).toNatClampNeg) : Int32).toInt64) &&& 4294967295)), .long (((((xs ((x3 + 4)).toNatClampNeg) : Int32).toInt64) <<< ((32 : Int32).toInt64 &&& 63)) ||| ((((xs ((x3 + 5)).toNatClampNeg) : Int32).toInt64) &&& 4294967295)), .int (xs ((x3 + 6)).toNatClampNeg), .int (xs ((x3 + 7)).toNatClampNeg)]) (rest := []) ⟨hx, hb, hml, hown, hts2⟩ (mt_item l dC dI cA H.size Q σ n co L f ad hR (by omega) (xs ((x3 + 1)).toNatClampNeg) (((((xs ((x3 + 2)).toNatClampNeg) : Int32).toInt64) <<< ((32 : Int32).toInt64 &&& 63)) ||| ((((xs ((x3 + 3)).toNatClampNeg) : Int32).toInt64) &&& 4294967295)) (((((xs ((x3 + 4)).toNatClampNeg) : Int32).toInt64) <<< ((32 : Int32).toInt64 &&& 63)) ||| ((((xs ((x3 + 5)).toNatClampNeg) : Int32).toInt64) &&& 4294967295)) (xs ((x3 + 6)).toNatClampNeg) (xs ((x3 + 7)).toNatClampNeg)) (cwV 5 hts2 (al_gV wd_37 wd_38 wd_39 wd_1 wd_40) rfl rfl rfl (by decide +kernel) ⟨Nat.le_of_ble_eq_true rfl, Nat.le_of_ble_eq_true rfl⟩) ⟨ct_blM, va_recv hK hL1.1 (ci := 3) (q0 := 0) rfl (xc_W_0 _ _), ct_atM hL1.1 hK hL1.2⟩ rfl rfl hl.1 rfl (lv_room (Nat.le_of_ble_eq_true rfl)) dL_law_182 ⟨(by show _ + 2 ≤ 600000; omega), (by show _ + 17 ≤ 7302250; omega)⟩) hS (fun q _ h => hF q h) hF (fun r1 u1 t H1 locs1 ht hvm hw1 hB hz1 hk1 hS => ?_)
  obtain ⟨ra, n1, L1, f1, ad1, hn1, hR1, hP1, -, hD1⟩ := hB
  rw [ht] at hP1
  obtain ⟨hP, hD⟩ := ct_join1 hP hD hk1 hF hP1 hD1
  clear hL1 hF hk1 hz1 hP1 hD1 hvm
  generalize H1 = H at hP hS ht ⊢
  clear ht
  refine lv_aload_n hx hb dL_law_185 rfl (lv_at hl 2 rfl) ?_
  refine lv_aload_n hx hb dL_law_186 rfl (lv_at hl 0 rfl) ?_
  refine lv_iload_n hx hb dL_law_187 rfl (lv_at hl 3 rfl) ?_
  refine lv_iconst (v := 1) hx hb dL_law_188 (by decide) ?_
  refine lv_iadd hx hb dL_law_189 ?_
  refine va_sld hx hb hX hbl hbA hS (hI 1 (by decide)) dL_law_190 ?_
  refine lv_aload_n hx hb dL_law_191 rfl (lv_at hl 0 rfl) ?_
  refine lv_iload_n hx hb dL_law_192 rfl (lv_at hl 3 rfl) ?_
  refine lv_iconst (v := 2) hx hb dL_law_193 (by decide) ?_
  refine lv_iadd hx hb dL_law_194 ?_
  refine va_sld hx hb hX hbl hbA hS (hI 2 (by decide)) dL_law_195 ?_
  refine lv_i2l (v := ((xs ((x3 + 2)).toNatClampNeg) : Int32).toInt64) hx hb dL_law_196 rfl ?_
  refine lv_bipush (v := 32) hx hb dL_law_197 (by decide) ?_
  refine lv_lshl (v := ((((xs ((x3 + 2)).toNatClampNeg) : Int32).toInt64) <<< ((32 : Int32).toInt64 &&& 63))) hx hb dL_law_199 rfl ?_
  refine lv_aload_n hx hb dL_law_200 rfl (lv_at hl 0 rfl) ?_
  refine lv_iload_n hx hb dL_law_201 rfl (lv_at hl 3 rfl) ?_
  refine lv_iconst (v := 3) hx hb dL_law_202 (by decide) ?_
  refine lv_iadd hx hb dL_law_203 ?_
  refine va_sld hx hb hX hbl hbA hS (hI 3 (by decide)) dL_law_204 ?_
  refine lv_i2l (v := ((xs ((x3 + 3)).toNatClampNeg) : Int32).toInt64) hx hb dL_law_205 rfl ?_
  refine lv_ldc2 hx hb hown lk0 dL_law_206 ?_
  refine lv_land hx hb dL_law_209 ?_
  refine lv_lor hx hb dL_law_210 ?_
  refine lv_aload_n hx hb dL_law_211 rfl (lv_at hl 0 rfl) ?_
  refine lv_iload_n hx hb dL_law_212 rfl (lv_at hl 3 rfl) ?_
  refine lv_iconst (v := 4) hx hb dL_law_213 (by decide) ?_
  refine lv_iadd hx hb dL_law_214 ?_
  refine va_sld hx hb hX hbl hbA hS (hI 4 (by decide)) dL_law_215 ?_
  refine lv_i2l (v := ((xs ((x3 + 4)).toNatClampNeg) : Int32).toInt64) hx hb dL_law_216 rfl ?_
  refine lv_bipush (v := 32) hx hb dL_law_217 (by decide) ?_
  refine lv_lshl (v := ((((xs ((x3 + 4)).toNatClampNeg) : Int32).toInt64) <<< ((32 : Int32).toInt64 &&& 63))) hx hb dL_law_219 rfl ?_
  refine lv_aload_n hx hb dL_law_220 rfl (lv_at hl 0 rfl) ?_
  refine lv_iload_n hx hb dL_law_221 rfl (lv_at hl 3 rfl) ?_
  refine lv_iconst (v := 5) hx hb dL_law_222 (by decide) ?_
  refine lv_iadd hx hb dL_law_223 ?_
  refine va_sld hx hb hX hbl hbA hS (hI 5 (by decide)) dL_law_224 ?_
  refine lv_i2l (v := ((xs ((x3 + 5)).toNatClampNeg) : Int32).toInt64) hx hb dL_law_225 rfl ?_
  refine lv_ldc2 hx hb hown lk0 dL_law_226 ?_
  refine lv_land hx hb dL_law_229 ?_
  refine lv_lor hx hb dL_law_230 ?_
  refine lv_aload_n hx hb dL_law_231 rfl (lv_at hl 0 rfl) ?_
  refine lv_iload_n hx hb dL_law_232 rfl (lv_at hl 3 rfl) ?_
  refine lv_bipush (v := 6) hx hb dL_law_233 (by decide) ?_
  refine lv_iadd hx hb dL_law_235 ?_
  refine va_sld hx hb hX hbl hbA hS (hI 6 (by decide)) dL_law_236 ?_
  refine lv_aload_n hx hb dL_law_237 rfl (lv_at hl 0 rfl) ?_
  refine lv_iload_n hx hb dL_law_238 rfl (lv_at hl 3 rfl) ?_
  refine lv_bipush (v := 7) hx hb dL_law_239 (by decide) ?_
  refine lv_iadd hx hb dL_law_241 ?_
  refine va_sld hx hb hX hbl hbA hS (hI 7 (by decide)) dL_law_242 ?_
  obtain ⟨hPs, hDs⟩ := ct_swap hP hD
  have hL2 := ct_left hPs hDs
  have hF2 := ct_free hL2.2 hS hA
  refine va_calli (va_runV (As := [.int (xs ((x3 + 1)).toNatClampNeg), .long (((((xs ((x3 + 2)).toNatClampNeg) : Int32).toInt64) <<< ((32 : Int32).toInt64 &&& 63)) ||| ((((xs ((x3 + 3)).toNatClampNeg) : Int32).toInt64) &&& 4294967295)), .long (((((xs ((x3 + 4)).toNatClampNeg) : Int32).toInt64) <<< ((32 : Int32).toInt64 &&& 63)) ||| ((((xs ((x3 + 5)).toNatClampNeg) : Int32).toInt64) &&& 4294967295)), .int (xs ((x3 + 6)).toNatClampNeg), .int (xs ((x3 + 7)).toNatClampNeg)]) (rest := [.int r1]) ⟨hx, hb, hml, hown, hts2⟩ (mr_item l dC dI cA H.size P τ n [] g hA9.1 (xs ((x3 + 1)).toNatClampNeg) (((((xs ((x3 + 2)).toNatClampNeg) : Int32).toInt64) <<< ((32 : Int32).toInt64 &&& 63)) ||| ((((xs ((x3 + 3)).toNatClampNeg) : Int32).toInt64) &&& 4294967295)) (((((xs ((x3 + 4)).toNatClampNeg) : Int32).toInt64) <<< ((32 : Int32).toInt64 &&& 63)) ||| ((((xs ((x3 + 5)).toNatClampNeg) : Int32).toInt64) &&& 4294967295)) (xs ((x3 + 6)).toNatClampNeg) (xs ((x3 + 7)).toNatClampNeg)) (cwV 5 hts2 (al_gV wd_310 wd_311 wd_312 wd_2 wd_313) rfl rfl rfl (by decide +kernel) ⟨Nat.le_of_ble_eq_true rfl, Nat.le_of_ble_eq_true rfl⟩) ⟨ct_blM, va_recv hK hL2.1 (ci := 4) (q0 := 0) rfl (xm_W_0 _ _), ct_atM hL2.1 hK hL2.2⟩ rfl rfl hl.1 rfl (lv_room (Nat.le_of_ble_eq_true rfl)) dL_law_243 ⟨(by show _ + 0 ≤ 600000; omega), (by show _ + 0 ≤ 7302250; omega)⟩) hS (fun q _ h => hF2 q h) hF2 (fun r2 u2 t H1 locs1 ht hvm hw2 hB hz1 hk1 hS => ?_)
  obtain ⟨hP2, -, hD2⟩ := hB
  rw [ht] at hP2
  obtain ⟨hPs, hDs⟩ := ct_join1 hPs hDs hk1 hF2 hP2 hD2
  obtain ⟨hP, hD⟩ := ct_swap hPs hDs
  clear hL2 hF2 hk1 hz1 hP2 hD2 hvm hPs hDs
  generalize H1 = H at hP hS ht ⊢
  clear ht
  have SM := (SA σ co τ n ⟨hR.1, hR.2.2.2.2.1, by omega⟩ hA9).1 (xs ((x3 + 1)).toNatClampNeg) (((((xs ((x3 + 2)).toNatClampNeg) : Int32).toInt64) <<< ((32 : Int32).toInt64 &&& 63)) ||| ((((xs ((x3 + 3)).toNatClampNeg) : Int32).toInt64) &&& 4294967295)) (((((xs ((x3 + 4)).toNatClampNeg) : Int32).toInt64) <<< ((32 : Int32).toInt64 &&& 63)) ||| ((((xs ((x3 + 5)).toNatClampNeg) : Int32).toInt64) &&& 4294967295)) (xs ((x3 + 6)).toNatClampNeg) (xs ((x3 + 7)).toNatClampNeg)
  rw [← hw1, ← hw2] at SM
  refine W.widen (k := C + 2) (n := Z + 25) (by omega) (by omega) ?_
  refine lv_icmp_eq (tgt := 966) hx hb dL_law_246 (by decide) (fun c246 => ?_) (fun c246 => ?_)
  · exact K (xs_r u1.1 ra) u1.2 u2 n1 L1 f1 ad1 _ _ ls ⟨hR1, by omega, SM.2 n1 ⟨hR1.1, hR1.2.2.2.2.1, by omega⟩, hP, hD, hS⟩ (lv_sub hl [0, 1, 2, 3] rfl)
  · exact absurd SM.1 c246
set_option maxHeartbeats 4000000 in
set_option maxRecDepth 100000 in
theorem lc_1 {p : Program} {l : Launch} {e : Env} {s : State} {m : MethodId} {below : List Frame} {meth : Method} {c : Code} {dC : Nat → ClassId} {dI : Nat → Nat → Nat} {cA : Nat → ClassId} {b Lx : Nat} {xs : Nat → Int32} {Q P : Nat → Nat} {g : Nat → va_E} {tN : Nat} (C0 : lw_At p s m meth c b Lx xs) (hK : va_K (dC, dI) vwCl (ty_K cA) s) (hN : lw_N s tN) (SA : rl_all) {C Z T : Nat} (hC : C + 2 ≤ 600000) (hZ9 : Z + 25 ≤ 7302250) (hT9 : T < 1000) {x3 : Int32} (hI : ∀ k : Nat, k < 8 → vp_in (x3 + nI k) Lx)
    (K : ∀ (σ : xs_T) (co : co_T) (τ : xs_T) (n : nn_T) (L : List Nat) (f : Nat → va_E) (ad : ad_T) (H : Heap) (locs : List Loc) (ls : Array Slot), lw_I dC dI cA s Q P g σ co τ n L f ad H locs (T + 1) → lv_has ls 4 [(0, .ref b), (1, .ref (Q 0)), (2, .ref (P 0)), (3, .int x3)] → W p l e room_1 s m #[Value.ref b] below meth c H locs (C + 2) (Z + 25) (lw_Z below #[Value.ref b] s) (F0 m 966 ls []))
    (σ : xs_T) (co : co_T) (τ : xs_T) (n : nn_T) (L : List Nat) (f : Nat → va_E) (ad : ad_T) (H : Heap) (locs : List Loc) (ls : Array Slot) (hi : lw_I dC dI cA s Q P g σ co τ n L f ad H locs T) (hl : lv_has ls 4 [(0, .ref b), (1, .ref (Q 0)), (2, .ref (P 0)), (3, .int x3)]) : W p l e room_1 s m #[Value.ref b] below meth c H locs C Z (lw_Z below #[Value.ref b] s) (F0 m 251 ls []) := by
  obtain ⟨hx, hb, hr, hml, hown, hts, hX, hbl, hlocks, hgv⟩ := C0
  obtain ⟨hR, hnT, hA9, hP, hD, hS⟩ := hi
  obtain ⟨hN1, hN2, hZ, hTN⟩ := hN
  have hA : ∀ q : Nat, s.heap.size ≤ q → (fun q : Nat => s.heap.size ≤ q) q := fun _ h => h
  have hbA : ¬ (fun q : Nat => s.heap.size ≤ q) b := Nat.not_le.mpr hbl
  have hts2 := lw_hts hts
  refine lv_aload_n hx hb dL_law_251 rfl (lv_at hl 1 rfl) ?_
  refine lv_aload_n hx hb dL_law_252 rfl (lv_at hl 0 rfl) ?_
  refine lv_iload_n hx hb dL_law_253 rfl (lv_at hl 3 rfl) ?_
  refine lv_iconst (v := 1) hx hb dL_law_254 (by decide) ?_
  refine lv_iadd hx hb dL_law_255 ?_
  refine va_sld hx hb hX hbl hbA hS (hI 1 (by decide)) dL_law_256 ?_
  refine lv_aload_n hx hb dL_law_257 rfl (lv_at hl 0 rfl) ?_
  refine lv_iload_n hx hb dL_law_258 rfl (lv_at hl 3 rfl) ?_
  refine lv_iconst (v := 2) hx hb dL_law_259 (by decide) ?_
  refine lv_iadd hx hb dL_law_260 ?_
  refine va_sld hx hb hX hbl hbA hS (hI 2 (by decide)) dL_law_261 ?_
  refine lv_aload_n hx hb dL_law_262 rfl (lv_at hl 0 rfl) ?_
  refine lv_iload_n hx hb dL_law_263 rfl (lv_at hl 3 rfl) ?_
  refine lv_iconst (v := 3) hx hb dL_law_264 (by decide) ?_
  refine lv_iadd hx hb dL_law_265 ?_
  refine va_sld hx hb hX hbl hbA hS (hI 3 (by decide)) dL_law_266 ?_
  refine lv_if_eq (tgt := 274) hx hb dL_law_267 (by decide) (fun c267 => ?_) (fun c267 => ?_)
  · refine lv_iconst (v := 0) hx hb dL_law_274 (by decide) ?_
    have hL1 := ct_left hP hD
    have hF := ct_free hL1.2 hS hA
    refine va_calli (va_runV (As := [.int (xs ((x3 + 1)).toNatClampNeg), .int (xs ((x3 + 2)).toNatClampNeg), .int 0]) (rest := []) ⟨hx, hb, hml, hown, hts2⟩ (mt_pass l dC dI cA H.size Q σ n co L f ad hR (by omega) (xs ((x3 + 1)).toNatClampNeg) (xs ((x3 + 2)).toNatClampNeg) false) (cwV 3 hts2 (al_gV wd_72 wd_73 wd_74 wd_1 wd_75) rfl rfl rfl (by decide +kernel) ⟨Nat.le_of_ble_eq_true rfl, Nat.le_of_ble_eq_true rfl⟩) ⟨ct_blM, va_recv hK hL1.1 (ci := 3) (q0 := 0) rfl (xc_W_0 _ _), ct_atM hL1.1 hK hL1.2⟩ rfl rfl hl.1 rfl (lv_room (Nat.le_of_ble_eq_true rfl)) dL_law_275 ⟨(by show _ + 0 ≤ 600000; omega), (by show _ + 0 ≤ 7302250; omega)⟩) hS (fun q _ h => hF q h) hF (fun r1 u1 t H1 locs1 ht hvm hw1 hB hz1 hk1 hS => ?_)
    obtain ⟨ra, n1, L1, f1, ad1, hn1, hR1, hP1, -, hD1⟩ := hB
    rw [ht] at hP1
    obtain ⟨hP, hD⟩ := ct_join1 hP hD hk1 hF hP1 hD1
    clear hL1 hF hk1 hz1 hP1 hD1 hvm
    generalize H1 = H at hP hS ht ⊢
    clear ht
    refine lv_aload_n hx hb dL_law_278 rfl (lv_at hl 2 rfl) ?_
    refine lv_aload_n hx hb dL_law_279 rfl (lv_at hl 0 rfl) ?_
    refine lv_iload_n hx hb dL_law_280 rfl (lv_at hl 3 rfl) ?_
    refine lv_iconst (v := 1) hx hb dL_law_281 (by decide) ?_
    refine lv_iadd hx hb dL_law_282 ?_
    refine va_sld hx hb hX hbl hbA hS (hI 1 (by decide)) dL_law_283 ?_
    refine lv_aload_n hx hb dL_law_284 rfl (lv_at hl 0 rfl) ?_
    refine lv_iload_n hx hb dL_law_285 rfl (lv_at hl 3 rfl) ?_
    refine lv_iconst (v := 2) hx hb dL_law_286 (by decide) ?_
    refine lv_iadd hx hb dL_law_287 ?_
    refine va_sld hx hb hX hbl hbA hS (hI 2 (by decide)) dL_law_288 ?_
    refine lv_aload_n hx hb dL_law_289 rfl (lv_at hl 0 rfl) ?_
    refine lv_iload_n hx hb dL_law_290 rfl (lv_at hl 3 rfl) ?_
    refine lv_iconst (v := 3) hx hb dL_law_291 (by decide) ?_
    refine lv_iadd hx hb dL_law_292 ?_
    refine va_sld hx hb hX hbl hbA hS (hI 3 (by decide)) dL_law_293 ?_
    refine lv_if_eq (tgt := 301) hx hb dL_law_294 (by decide) (fun c294 => ?_) (fun c294 => ?_)
    · refine lv_iconst (v := 0) hx hb dL_law_301 (by decide) ?_
      obtain ⟨hPs, hDs⟩ := ct_swap hP hD
      have hL2 := ct_left hPs hDs
      have hF2 := ct_free hL2.2 hS hA
      refine va_calli (va_runV (As := [.int (xs ((x3 + 1)).toNatClampNeg), .int (xs ((x3 + 2)).toNatClampNeg), .int 0]) (rest := [.int r1]) ⟨hx, hb, hml, hown, hts2⟩ (mr_pass l dC dI cA H.size P τ n [] g hA9.1 (xs ((x3 + 1)).toNatClampNeg) (xs ((x3 + 2)).toNatClampNeg) false) (cwV 3 hts2 (al_gV wd_321 wd_322 wd_323 wd_2 wd_324) rfl rfl rfl (by decide +kernel) ⟨Nat.le_of_ble_eq_true rfl, Nat.le_of_ble_eq_true rfl⟩) ⟨ct_blM, va_recv hK hL2.1 (ci := 4) (q0 := 0) rfl (xm_W_0 _ _), ct_atM hL2.1 hK hL2.2⟩ rfl rfl hl.1 rfl (lv_room (Nat.le_of_ble_eq_true rfl)) dL_law_302 ⟨(by show _ + 0 ≤ 600000; omega), (by show _ + 0 ≤ 7302250; omega)⟩) hS (fun q _ h => hF2 q h) hF2 (fun r2 u2 t H1 locs1 ht hvm hw2 hB hz1 hk1 hS => ?_)
      obtain ⟨hP2, -, hD2⟩ := hB
      rw [ht] at hP2
      obtain ⟨hPs, hDs⟩ := ct_join1 hPs hDs hk1 hF2 hP2 hD2
      obtain ⟨hP, hD⟩ := ct_swap hPs hDs
      clear hL2 hF2 hk1 hz1 hP2 hD2 hvm hPs hDs
      generalize H1 = H at hP hS ht ⊢
      clear ht
      have SM := (SA σ co τ n ⟨hR.1, hR.2.2.2.2.1, by omega⟩ hA9).2.1 (xs ((x3 + 1)).toNatClampNeg) (xs ((x3 + 2)).toNatClampNeg) false
      rw [← hw1, ← hw2] at SM
      refine W.widen (k := C + 2) (n := Z + 25) (by omega) (by omega) ?_
      refine lv_icmp_eq (tgt := 966) hx hb dL_law_305 (by decide) (fun c305 => ?_) (fun c305 => ?_)
      · exact K (xs_r u1.1 ra) u1.2 u2 n1 L1 f1 ad1 _ _ ls ⟨hR1, by omega, SM.2 n1 ⟨hR1.1, hR1.2.2.2.2.1, by omega⟩, hP, hD, hS⟩ (lv_sub hl [0, 1, 2, 3] rfl)
      · exact absurd SM.1 c305
    · exact absurd c267 c294
  · refine lv_iconst (v := 1) hx hb dL_law_270 (by decide) ?_
    refine lv_goto (tgt := 275) hx hb dL_law_271 (by decide) ?_
    have hL1 := ct_left hP hD
    have hF := ct_free hL1.2 hS hA
    refine va_calli (va_runV (As := [.int (xs ((x3 + 1)).toNatClampNeg), .int (xs ((x3 + 2)).toNatClampNeg), .int 1]) (rest := []) ⟨hx, hb, hml, hown, hts2⟩ (mt_pass l dC dI cA H.size Q σ n co L f ad hR (by omega) (xs ((x3 + 1)).toNatClampNeg) (xs ((x3 + 2)).toNatClampNeg) true) (cwV 3 hts2 (al_gV wd_72 wd_73 wd_74 wd_1 wd_75) rfl rfl rfl (by decide +kernel) ⟨Nat.le_of_ble_eq_true rfl, Nat.le_of_ble_eq_true rfl⟩) ⟨ct_blM, va_recv hK hL1.1 (ci := 3) (q0 := 0) rfl (xc_W_0 _ _), ct_atM hL1.1 hK hL1.2⟩ rfl rfl hl.1 rfl (lv_room (Nat.le_of_ble_eq_true rfl)) dL_law_275 ⟨(by show _ + 0 ≤ 600000; omega), (by show _ + 0 ≤ 7302250; omega)⟩) hS (fun q _ h => hF q h) hF (fun r1 u1 t H1 locs1 ht hvm hw1 hB hz1 hk1 hS => ?_)
    obtain ⟨ra, n1, L1, f1, ad1, hn1, hR1, hP1, -, hD1⟩ := hB
    rw [ht] at hP1
    obtain ⟨hP, hD⟩ := ct_join1 hP hD hk1 hF hP1 hD1
    clear hL1 hF hk1 hz1 hP1 hD1 hvm
    generalize H1 = H at hP hS ht ⊢
    clear ht
    refine lv_aload_n hx hb dL_law_278 rfl (lv_at hl 2 rfl) ?_
    refine lv_aload_n hx hb dL_law_279 rfl (lv_at hl 0 rfl) ?_
    refine lv_iload_n hx hb dL_law_280 rfl (lv_at hl 3 rfl) ?_
    refine lv_iconst (v := 1) hx hb dL_law_281 (by decide) ?_
    refine lv_iadd hx hb dL_law_282 ?_
    refine va_sld hx hb hX hbl hbA hS (hI 1 (by decide)) dL_law_283 ?_
    refine lv_aload_n hx hb dL_law_284 rfl (lv_at hl 0 rfl) ?_
    refine lv_iload_n hx hb dL_law_285 rfl (lv_at hl 3 rfl) ?_
    refine lv_iconst (v := 2) hx hb dL_law_286 (by decide) ?_
    refine lv_iadd hx hb dL_law_287 ?_
    refine va_sld hx hb hX hbl hbA hS (hI 2 (by decide)) dL_law_288 ?_
    refine lv_aload_n hx hb dL_law_289 rfl (lv_at hl 0 rfl) ?_
    refine lv_iload_n hx hb dL_law_290 rfl (lv_at hl 3 rfl) ?_
    refine lv_iconst (v := 3) hx hb dL_law_291 (by decide) ?_
    refine lv_iadd hx hb dL_law_292 ?_
    refine va_sld hx hb hX hbl hbA hS (hI 3 (by decide)) dL_law_293 ?_
    refine lv_if_eq (tgt := 301) hx hb dL_law_294 (by decide) (fun c294 => ?_) (fun c294 => ?_)
    · exact absurd c294 c267
    · refine lv_iconst (v := 1) hx hb dL_law_297 (by decide) ?_
      refine lv_goto (tgt := 302) hx hb dL_law_298 (by decide) ?_
      obtain ⟨hPs, hDs⟩ := ct_swap hP hD
      have hL2 := ct_left hPs hDs
      have hF2 := ct_free hL2.2 hS hA
      refine va_calli (va_runV (As := [.int (xs ((x3 + 1)).toNatClampNeg), .int (xs ((x3 + 2)).toNatClampNeg), .int 1]) (rest := [.int r1]) ⟨hx, hb, hml, hown, hts2⟩ (mr_pass l dC dI cA H.size P τ n [] g hA9.1 (xs ((x3 + 1)).toNatClampNeg) (xs ((x3 + 2)).toNatClampNeg) true) (cwV 3 hts2 (al_gV wd_321 wd_322 wd_323 wd_2 wd_324) rfl rfl rfl (by decide +kernel) ⟨Nat.le_of_ble_eq_true rfl, Nat.le_of_ble_eq_true rfl⟩) ⟨ct_blM, va_recv hK hL2.1 (ci := 4) (q0 := 0) rfl (xm_W_0 _ _), ct_atM hL2.1 hK hL2.2⟩ rfl rfl hl.1 rfl (lv_room (Nat.le_of_ble_eq_true rfl)) dL_law_302 ⟨(by show _ + 0 ≤ 600000; omega), (by show _ + 0 ≤ 7302250; omega)⟩) hS (fun q _ h => hF2 q h) hF2 (fun r2 u2 t H1 locs1 ht hvm hw2 hB hz1 hk1 hS => ?_)
      obtain ⟨hP2, -, hD2⟩ := hB
      rw [ht] at hP2
      obtain ⟨hPs, hDs⟩ := ct_join1 hPs hDs hk1 hF2 hP2 hD2
      obtain ⟨hP, hD⟩ := ct_swap hPs hDs
      clear hL2 hF2 hk1 hz1 hP2 hD2 hvm hPs hDs
      generalize H1 = H at hP hS ht ⊢
      clear ht
      have SM := (SA σ co τ n ⟨hR.1, hR.2.2.2.2.1, by omega⟩ hA9).2.1 (xs ((x3 + 1)).toNatClampNeg) (xs ((x3 + 2)).toNatClampNeg) true
      rw [← hw1, ← hw2] at SM
      refine W.widen (k := C + 2) (n := Z + 25) (by omega) (by omega) ?_
      refine lv_icmp_eq (tgt := 966) hx hb dL_law_305 (by decide) (fun c305 => ?_) (fun c305 => ?_)
      · exact K (xs_r u1.1 ra) u1.2 u2 n1 L1 f1 ad1 _ _ ls ⟨hR1, by omega, SM.2 n1 ⟨hR1.1, hR1.2.2.2.2.1, by omega⟩, hP, hD, hS⟩ (lv_sub hl [0, 1, 2, 3] rfl)
      · exact absurd SM.1 c305
set_option maxHeartbeats 4000000 in
set_option maxRecDepth 100000 in
theorem lc_2 {p : Program} {l : Launch} {e : Env} {s : State} {m : MethodId} {below : List Frame} {meth : Method} {c : Code} {dC : Nat → ClassId} {dI : Nat → Nat → Nat} {cA : Nat → ClassId} {b Lx : Nat} {xs : Nat → Int32} {Q P : Nat → Nat} {g : Nat → va_E} {tN : Nat} (C0 : lw_At p s m meth c b Lx xs) (hK : va_K (dC, dI) vwCl (ty_K cA) s) (hN : lw_N s tN) (SA : rl_all) {C Z T : Nat} (hC : C + 2 ≤ 600000) (hZ9 : Z + 25 ≤ 7302250) (hT9 : T < 1000) {x3 : Int32} (hI : ∀ k : Nat, k < 8 → vp_in (x3 + nI k) Lx)
    (K : ∀ (σ : xs_T) (co : co_T) (τ : xs_T) (n : nn_T) (L : List Nat) (f : Nat → va_E) (ad : ad_T) (H : Heap) (locs : List Loc) (ls : Array Slot), lw_I dC dI cA s Q P g σ co τ n L f ad H locs (T + 1) → lv_has ls 4 [(0, .ref b), (1, .ref (Q 0)), (2, .ref (P 0)), (3, .int x3)] → W p l e room_1 s m #[Value.ref b] below meth c H locs (C + 2) (Z + 25) (lw_Z below #[Value.ref b] s) (F0 m 966 ls []))
    (σ : xs_T) (co : co_T) (τ : xs_T) (n : nn_T) (L : List Nat) (f : Nat → va_E) (ad : ad_T) (H : Heap) (locs : List Loc) (ls : Array Slot) (hi : lw_I dC dI cA s Q P g σ co τ n L f ad H locs T) (hl : lv_has ls 4 [(0, .ref b), (1, .ref (Q 0)), (2, .ref (P 0)), (3, .int x3)]) : W p l e room_1 s m #[Value.ref b] below meth c H locs C Z (lw_Z below #[Value.ref b] s) (F0 m 310 ls []) := by
  obtain ⟨hx, hb, hr, hml, hown, hts, hX, hbl, hlocks, hgv⟩ := C0
  obtain ⟨hR, hnT, hA9, hP, hD, hS⟩ := hi
  obtain ⟨hN1, hN2, hZ, hTN⟩ := hN
  have hA : ∀ q : Nat, s.heap.size ≤ q → (fun q : Nat => s.heap.size ≤ q) q := fun _ h => h
  have hbA : ¬ (fun q : Nat => s.heap.size ≤ q) b := Nat.not_le.mpr hbl
  have hts2 := lw_hts hts
  have lk0 := hts2 (.constantLong RL 13 4294967295) (List.mem_cons_of_mem _ wd_437)
  refine lv_aload_n hx hb dL_law_310 rfl (lv_at hl 1 rfl) ?_
  refine lv_aload_n hx hb dL_law_311 rfl (lv_at hl 0 rfl) ?_
  refine lv_iload_n hx hb dL_law_312 rfl (lv_at hl 3 rfl) ?_
  refine lv_iconst (v := 1) hx hb dL_law_313 (by decide) ?_
  refine lv_iadd hx hb dL_law_314 ?_
  refine va_sld hx hb hX hbl hbA hS (hI 1 (by decide)) dL_law_315 ?_
  refine lv_aload_n hx hb dL_law_316 rfl (lv_at hl 0 rfl) ?_
  refine lv_iload_n hx hb dL_law_317 rfl (lv_at hl 3 rfl) ?_
  refine lv_iconst (v := 2) hx hb dL_law_318 (by decide) ?_
  refine lv_iadd hx hb dL_law_319 ?_
  refine va_sld hx hb hX hbl hbA hS (hI 2 (by decide)) dL_law_320 ?_
  refine lv_aload_n hx hb dL_law_321 rfl (lv_at hl 0 rfl) ?_
  refine lv_iload_n hx hb dL_law_322 rfl (lv_at hl 3 rfl) ?_
  refine lv_iconst (v := 3) hx hb dL_law_323 (by decide) ?_
  refine lv_iadd hx hb dL_law_324 ?_
  refine va_sld hx hb hX hbl hbA hS (hI 3 (by decide)) dL_law_325 ?_
  refine lv_i2l (v := ((xs ((x3 + 3)).toNatClampNeg) : Int32).toInt64) hx hb dL_law_326 rfl ?_
  refine lv_bipush (v := 32) hx hb dL_law_327 (by decide) ?_
  refine lv_lshl (v := ((((xs ((x3 + 3)).toNatClampNeg) : Int32).toInt64) <<< ((32 : Int32).toInt64 &&& 63))) hx hb dL_law_329 rfl ?_
  refine lv_aload_n hx hb dL_law_330 rfl (lv_at hl 0 rfl) ?_
  refine lv_iload_n hx hb dL_law_331 rfl (lv_at hl 3 rfl) ?_
  refine lv_iconst (v := 4) hx hb dL_law_332 (by decide) ?_
  refine lv_iadd hx hb dL_law_333 ?_
  refine va_sld hx hb hX hbl hbA hS (hI 4 (by decide)) dL_law_334 ?_
  refine lv_i2l (v := ((xs ((x3 + 4)).toNatClampNeg) : Int32).toInt64) hx hb dL_law_335 rfl ?_
  refine lv_ldc2 hx hb hown lk0 dL_law_336 ?_
  refine lv_land hx hb dL_law_339 ?_
  refine lv_lor hx hb dL_law_340 ?_
  refine lv_aload_n hx hb dL_law_341 rfl (lv_at hl 0 rfl) ?_
  refine lv_iload_n hx hb dL_law_342 rfl (lv_at hl 3 rfl) ?_
  refine lv_iconst (v := 5) hx hb dL_law_343 (by decide) ?_
  refine lv_iadd hx hb dL_law_344 ?_
  refine va_sld hx hb hX hbl hbA hS (hI 5 (by decide)) dL_law_345 ?_
  have hL1 := ct_left hP hD
  have hF := ct_free hL1.2 hS hA
  refine va_calli (va_runV (As := [.int (xs ((x3 + 1)).toNatClampNeg), .int (xs ((x3 + 2)).toNatClampNeg), .long (((((xs ((x3 + 3)).toNatClampNeg) : Int32).toInt64) <<< ((32 : Int32).toInt64 &&& 63)) ||| ((((xs ((x3 + 4)).toNatClampNeg) : Int32).toInt64) &&& 4294967295)), .int (xs ((x3 + 5)).toNatClampNeg)]) (rest := []) ⟨hx, hb, hml, hown, hts2⟩ (mt_table l dC dI cA H.size Q σ n co L f ad hR (by omega) (xs ((x3 + 1)).toNatClampNeg) (xs ((x3 + 2)).toNatClampNeg) (((((xs ((x3 + 3)).toNatClampNeg) : Int32).toInt64) <<< ((32 : Int32).toInt64 &&& 63)) ||| ((((xs ((x3 + 4)).toNatClampNeg) : Int32).toInt64) &&& 4294967295)) (xs ((x3 + 5)).toNatClampNeg)) (cwV 4 hts2 (al_gV wd_84 wd_85 wd_86 wd_1 wd_87) rfl rfl rfl (by decide +kernel) ⟨Nat.le_of_ble_eq_true rfl, Nat.le_of_ble_eq_true rfl⟩) ⟨ct_blM, va_recv hK hL1.1 (ci := 3) (q0 := 0) rfl (xc_W_0 _ _), ct_atM hL1.1 hK hL1.2⟩ rfl rfl hl.1 rfl (lv_room (Nat.le_of_ble_eq_true rfl)) dL_law_346 ⟨(by show _ + 0 ≤ 600000; omega), (by show _ + 0 ≤ 7302250; omega)⟩) hS (fun q _ h => hF q h) hF (fun r1 u1 t H1 locs1 ht hvm hw1 hB hz1 hk1 hS => ?_)
  obtain ⟨ra, n1, L1, f1, ad1, hn1, hR1, hP1, -, hD1⟩ := hB
  rw [ht] at hP1
  obtain ⟨hP, hD⟩ := ct_join1 hP hD hk1 hF hP1 hD1
  clear hL1 hF hk1 hz1 hP1 hD1 hvm
  generalize H1 = H at hP hS ht ⊢
  clear ht
  refine lv_aload_n hx hb dL_law_349 rfl (lv_at hl 2 rfl) ?_
  refine lv_aload_n hx hb dL_law_350 rfl (lv_at hl 0 rfl) ?_
  refine lv_iload_n hx hb dL_law_351 rfl (lv_at hl 3 rfl) ?_
  refine lv_iconst (v := 1) hx hb dL_law_352 (by decide) ?_
  refine lv_iadd hx hb dL_law_353 ?_
  refine va_sld hx hb hX hbl hbA hS (hI 1 (by decide)) dL_law_354 ?_
  refine lv_aload_n hx hb dL_law_355 rfl (lv_at hl 0 rfl) ?_
  refine lv_iload_n hx hb dL_law_356 rfl (lv_at hl 3 rfl) ?_
  refine lv_iconst (v := 2) hx hb dL_law_357 (by decide) ?_
  refine lv_iadd hx hb dL_law_358 ?_
  refine va_sld hx hb hX hbl hbA hS (hI 2 (by decide)) dL_law_359 ?_
  refine lv_aload_n hx hb dL_law_360 rfl (lv_at hl 0 rfl) ?_
  refine lv_iload_n hx hb dL_law_361 rfl (lv_at hl 3 rfl) ?_
  refine lv_iconst (v := 3) hx hb dL_law_362 (by decide) ?_
  refine lv_iadd hx hb dL_law_363 ?_
  refine va_sld hx hb hX hbl hbA hS (hI 3 (by decide)) dL_law_364 ?_
  refine lv_i2l (v := ((xs ((x3 + 3)).toNatClampNeg) : Int32).toInt64) hx hb dL_law_365 rfl ?_
  refine lv_bipush (v := 32) hx hb dL_law_366 (by decide) ?_
  refine lv_lshl (v := ((((xs ((x3 + 3)).toNatClampNeg) : Int32).toInt64) <<< ((32 : Int32).toInt64 &&& 63))) hx hb dL_law_368 rfl ?_
  refine lv_aload_n hx hb dL_law_369 rfl (lv_at hl 0 rfl) ?_
  refine lv_iload_n hx hb dL_law_370 rfl (lv_at hl 3 rfl) ?_
  refine lv_iconst (v := 4) hx hb dL_law_371 (by decide) ?_
  refine lv_iadd hx hb dL_law_372 ?_
  refine va_sld hx hb hX hbl hbA hS (hI 4 (by decide)) dL_law_373 ?_
  refine lv_i2l (v := ((xs ((x3 + 4)).toNatClampNeg) : Int32).toInt64) hx hb dL_law_374 rfl ?_
  refine lv_ldc2 hx hb hown lk0 dL_law_375 ?_
  refine lv_land hx hb dL_law_378 ?_
  refine lv_lor hx hb dL_law_379 ?_
  refine lv_aload_n hx hb dL_law_380 rfl (lv_at hl 0 rfl) ?_
  refine lv_iload_n hx hb dL_law_381 rfl (lv_at hl 3 rfl) ?_
  refine lv_iconst (v := 5) hx hb dL_law_382 (by decide) ?_
  refine lv_iadd hx hb dL_law_383 ?_
  refine va_sld hx hb hX hbl hbA hS (hI 5 (by decide)) dL_law_384 ?_
  obtain ⟨hPs, hDs⟩ := ct_swap hP hD
  have hL2 := ct_left hPs hDs
  have hF2 := ct_free hL2.2 hS hA
  refine va_calli (va_runV (As := [.int (xs ((x3 + 1)).toNatClampNeg), .int (xs ((x3 + 2)).toNatClampNeg), .long (((((xs ((x3 + 3)).toNatClampNeg) : Int32).toInt64) <<< ((32 : Int32).toInt64 &&& 63)) ||| ((((xs ((x3 + 4)).toNatClampNeg) : Int32).toInt64) &&& 4294967295)), .int (xs ((x3 + 5)).toNatClampNeg)]) (rest := [.int r1]) ⟨hx, hb, hml, hown, hts2⟩ (mr_table l dC dI cA H.size P τ n [] g hA9.1 (xs ((x3 + 1)).toNatClampNeg) (xs ((x3 + 2)).toNatClampNeg) (((((xs ((x3 + 3)).toNatClampNeg) : Int32).toInt64) <<< ((32 : Int32).toInt64 &&& 63)) ||| ((((xs ((x3 + 4)).toNatClampNeg) : Int32).toInt64) &&& 4294967295)) (xs ((x3 + 5)).toNatClampNeg)) (cwV 4 hts2 (al_gV wd_330 wd_331 wd_332 wd_2 wd_333) rfl rfl rfl (by decide +kernel) ⟨Nat.le_of_ble_eq_true rfl, Nat.le_of_ble_eq_true rfl⟩) ⟨ct_blM, va_recv hK hL2.1 (ci := 4) (q0 := 0) rfl (xm_W_0 _ _), ct_atM hL2.1 hK hL2.2⟩ rfl rfl hl.1 rfl (lv_room (Nat.le_of_ble_eq_true rfl)) dL_law_385 ⟨(by show _ + 0 ≤ 600000; omega), (by show _ + 0 ≤ 7302250; omega)⟩) hS (fun q _ h => hF2 q h) hF2 (fun r2 u2 t H1 locs1 ht hvm hw2 hB hz1 hk1 hS => ?_)
  obtain ⟨hP2, -, hD2⟩ := hB
  rw [ht] at hP2
  obtain ⟨hPs, hDs⟩ := ct_join1 hPs hDs hk1 hF2 hP2 hD2
  obtain ⟨hP, hD⟩ := ct_swap hPs hDs
  clear hL2 hF2 hk1 hz1 hP2 hD2 hvm hPs hDs
  generalize H1 = H at hP hS ht ⊢
  clear ht
  have SM := (SA σ co τ n ⟨hR.1, hR.2.2.2.2.1, by omega⟩ hA9).2.2.1 (xs ((x3 + 1)).toNatClampNeg) (xs ((x3 + 2)).toNatClampNeg) (((((xs ((x3 + 3)).toNatClampNeg) : Int32).toInt64) <<< ((32 : Int32).toInt64 &&& 63)) ||| ((((xs ((x3 + 4)).toNatClampNeg) : Int32).toInt64) &&& 4294967295)) (xs ((x3 + 5)).toNatClampNeg)
  rw [← hw1, ← hw2] at SM
  refine W.widen (k := C + 2) (n := Z + 25) (by omega) (by omega) ?_
  refine lv_icmp_eq (tgt := 966) hx hb dL_law_388 (by decide) (fun c388 => ?_) (fun c388 => ?_)
  · exact K (xs_r u1.1 ra) u1.2 u2 n1 L1 f1 ad1 _ _ ls ⟨hR1, by omega, SM.2 n1 ⟨hR1.1, hR1.2.2.2.2.1, by omega⟩, hP, hD, hS⟩ (lv_sub hl [0, 1, 2, 3] rfl)
  · exact absurd SM.1 c388
set_option maxHeartbeats 4000000 in
set_option maxRecDepth 100000 in
theorem lc_3 {p : Program} {l : Launch} {e : Env} {s : State} {m : MethodId} {below : List Frame} {meth : Method} {c : Code} {dC : Nat → ClassId} {dI : Nat → Nat → Nat} {cA : Nat → ClassId} {b Lx : Nat} {xs : Nat → Int32} {Q P : Nat → Nat} {g : Nat → va_E} {tN : Nat} (C0 : lw_At p s m meth c b Lx xs) (hK : va_K (dC, dI) vwCl (ty_K cA) s) (hN : lw_N s tN) (SA : rl_all) {C Z T : Nat} (hC : C + 2 ≤ 600000) (hZ9 : Z + 25 ≤ 7302250) (hT9 : T < 1000) {x3 : Int32} (hI : ∀ k : Nat, k < 8 → vp_in (x3 + nI k) Lx)
    (K : ∀ (σ : xs_T) (co : co_T) (τ : xs_T) (n : nn_T) (L : List Nat) (f : Nat → va_E) (ad : ad_T) (H : Heap) (locs : List Loc) (ls : Array Slot), lw_I dC dI cA s Q P g σ co τ n L f ad H locs (T + 1) → lv_has ls 4 [(0, .ref b), (1, .ref (Q 0)), (2, .ref (P 0)), (3, .int x3)] → W p l e room_1 s m #[Value.ref b] below meth c H locs (C + 2) (Z + 25) (lw_Z below #[Value.ref b] s) (F0 m 966 ls []))
    (σ : xs_T) (co : co_T) (τ : xs_T) (n : nn_T) (L : List Nat) (f : Nat → va_E) (ad : ad_T) (H : Heap) (locs : List Loc) (ls : Array Slot) (hi : lw_I dC dI cA s Q P g σ co τ n L f ad H locs T) (hl : lv_has ls 4 [(0, .ref b), (1, .ref (Q 0)), (2, .ref (P 0)), (3, .int x3)]) : W p l e room_1 s m #[Value.ref b] below meth c H locs C Z (lw_Z below #[Value.ref b] s) (F0 m 393 ls []) := by
  obtain ⟨hx, hb, hr, hml, hown, hts, hX, hbl, hlocks, hgv⟩ := C0
  obtain ⟨hR, hnT, hA9, hP, hD, hS⟩ := hi
  obtain ⟨hN1, hN2, hZ, hTN⟩ := hN
  have hA : ∀ q : Nat, s.heap.size ≤ q → (fun q : Nat => s.heap.size ≤ q) q := fun _ h => h
  have hbA : ¬ (fun q : Nat => s.heap.size ≤ q) b := Nat.not_le.mpr hbl
  have hts2 := lw_hts hts
  refine lv_aload_n hx hb dL_law_393 rfl (lv_at hl 1 rfl) ?_
  refine lv_aload_n hx hb dL_law_394 rfl (lv_at hl 0 rfl) ?_
  refine lv_iload_n hx hb dL_law_395 rfl (lv_at hl 3 rfl) ?_
  refine lv_iconst (v := 1) hx hb dL_law_396 (by decide) ?_
  refine lv_iadd hx hb dL_law_397 ?_
  refine va_sld hx hb hX hbl hbA hS (hI 1 (by decide)) dL_law_398 ?_
  refine lv_aload_n hx hb dL_law_399 rfl (lv_at hl 0 rfl) ?_
  refine lv_iload_n hx hb dL_law_400 rfl (lv_at hl 3 rfl) ?_
  refine lv_iconst (v := 2) hx hb dL_law_401 (by decide) ?_
  refine lv_iadd hx hb dL_law_402 ?_
  refine va_sld hx hb hX hbl hbA hS (hI 2 (by decide)) dL_law_403 ?_
  refine lv_aload_n hx hb dL_law_404 rfl (lv_at hl 0 rfl) ?_
  refine lv_iload_n hx hb dL_law_405 rfl (lv_at hl 3 rfl) ?_
  refine lv_iconst (v := 3) hx hb dL_law_406 (by decide) ?_
  refine lv_iadd hx hb dL_law_407 ?_
  refine va_sld hx hb hX hbl hbA hS (hI 3 (by decide)) dL_law_408 ?_
  refine lv_aload_n hx hb dL_law_409 rfl (lv_at hl 0 rfl) ?_
  refine lv_iload_n hx hb dL_law_410 rfl (lv_at hl 3 rfl) ?_
  refine lv_iconst (v := 4) hx hb dL_law_411 (by decide) ?_
  refine lv_iadd hx hb dL_law_412 ?_
  refine va_sld hx hb hX hbl hbA hS (hI 4 (by decide)) dL_law_413 ?_
  have hL1 := ct_left hP hD
  have hF := ct_free hL1.2 hS hA
  refine va_calli (va_runV (As := [.int (xs ((x3 + 1)).toNatClampNeg), .int (xs ((x3 + 2)).toNatClampNeg), .int (xs ((x3 + 3)).toNatClampNeg), .int (xs ((x3 + 4)).toNatClampNeg)]) (rest := []) ⟨hx, hb, hml, hown, hts2⟩ (mt_claim l dC dI cA H.size Q σ n co L f ad hR (by omega) tN (xs ((x3 + 1)).toNatClampNeg) (xs ((x3 + 2)).toNatClampNeg) (xs ((x3 + 3)).toNatClampNeg) (xs ((x3 + 4)).toNatClampNeg)) (cwV 4 hts2 (al_gV wd_92 wd_93 wd_94 wd_1 wd_95) rfl rfl rfl (by decide +kernel) ⟨Nat.le_of_ble_eq_true rfl, Nat.le_of_ble_eq_true rfl⟩) ⟨sx_bl, va_recv hK hL1.1 (ci := 3) (q0 := 0) rfl (xc_W_0 _ _), sx_at hL1.1 hK hL1.2 hS hA hN1 hN2 hZ hTN⟩ rfl rfl hl.1 rfl (lv_room (Nat.le_of_ble_eq_true rfl)) dL_law_414 ⟨(by show _ + 1 ≤ 600000; omega), (by show _ + 13 ≤ 7302250; omega)⟩) hS (fun q _ h => hF q h) hF (fun r1 u1 t H1 locs1 ht hvm hw1 hB hz1 hk1 hS => ?_)
  obtain ⟨ra, n1, L1, f1, ad1, hn1, hR1, hP1, -, hD1⟩ := hB
  rw [ht] at hP1
  obtain ⟨hP, hD⟩ := ct_join1 hP hD hk1 hF hP1 hD1
  clear hL1 hF hk1 hz1 hP1 hD1 hvm
  generalize H1 = H at hP hS ht ⊢
  clear ht
  refine lv_aload_n hx hb dL_law_417 rfl (lv_at hl 2 rfl) ?_
  refine lv_aload_n hx hb dL_law_418 rfl (lv_at hl 0 rfl) ?_
  refine lv_iload_n hx hb dL_law_419 rfl (lv_at hl 3 rfl) ?_
  refine lv_iconst (v := 1) hx hb dL_law_420 (by decide) ?_
  refine lv_iadd hx hb dL_law_421 ?_
  refine va_sld hx hb hX hbl hbA hS (hI 1 (by decide)) dL_law_422 ?_
  refine lv_aload_n hx hb dL_law_423 rfl (lv_at hl 0 rfl) ?_
  refine lv_iload_n hx hb dL_law_424 rfl (lv_at hl 3 rfl) ?_
  refine lv_iconst (v := 2) hx hb dL_law_425 (by decide) ?_
  refine lv_iadd hx hb dL_law_426 ?_
  refine va_sld hx hb hX hbl hbA hS (hI 2 (by decide)) dL_law_427 ?_
  refine lv_aload_n hx hb dL_law_428 rfl (lv_at hl 0 rfl) ?_
  refine lv_iload_n hx hb dL_law_429 rfl (lv_at hl 3 rfl) ?_
  refine lv_iconst (v := 3) hx hb dL_law_430 (by decide) ?_
  refine lv_iadd hx hb dL_law_431 ?_
  refine va_sld hx hb hX hbl hbA hS (hI 3 (by decide)) dL_law_432 ?_
  refine lv_aload_n hx hb dL_law_433 rfl (lv_at hl 0 rfl) ?_
  refine lv_iload_n hx hb dL_law_434 rfl (lv_at hl 3 rfl) ?_
  refine lv_iconst (v := 4) hx hb dL_law_435 (by decide) ?_
  refine lv_iadd hx hb dL_law_436 ?_
  refine va_sld hx hb hX hbl hbA hS (hI 4 (by decide)) dL_law_437 ?_
  obtain ⟨hPs, hDs⟩ := ct_swap hP hD
  have hL2 := ct_left hPs hDs
  have hF2 := ct_free hL2.2 hS hA
  refine va_calli (va_runV (As := [.int (xs ((x3 + 1)).toNatClampNeg), .int (xs ((x3 + 2)).toNatClampNeg), .int (xs ((x3 + 3)).toNatClampNeg), .int (xs ((x3 + 4)).toNatClampNeg)]) (rest := [.int r1]) ⟨hx, hb, hml, hown, hts2⟩ (mr_claim l dC dI cA H.size P τ n [] g hA9.1 (xs ((x3 + 1)).toNatClampNeg) (xs ((x3 + 2)).toNatClampNeg) (xs ((x3 + 3)).toNatClampNeg) (xs ((x3 + 4)).toNatClampNeg)) (cwV 4 hts2 (al_gV wd_335 wd_336 wd_337 wd_2 wd_338) rfl rfl rfl (by decide +kernel) ⟨Nat.le_of_ble_eq_true rfl, Nat.le_of_ble_eq_true rfl⟩) ⟨ct_blM, va_recv hK hL2.1 (ci := 4) (q0 := 0) rfl (xm_W_0 _ _), ct_atM hL2.1 hK hL2.2⟩ rfl rfl hl.1 rfl (lv_room (Nat.le_of_ble_eq_true rfl)) dL_law_438 ⟨(by show _ + 0 ≤ 600000; omega), (by show _ + 0 ≤ 7302250; omega)⟩) hS (fun q _ h => hF2 q h) hF2 (fun r2 u2 t H1 locs1 ht hvm hw2 hB hz1 hk1 hS => ?_)
  obtain ⟨hP2, -, hD2⟩ := hB
  rw [ht] at hP2
  obtain ⟨hPs, hDs⟩ := ct_join1 hPs hDs hk1 hF2 hP2 hD2
  obtain ⟨hP, hD⟩ := ct_swap hPs hDs
  clear hL2 hF2 hk1 hz1 hP2 hD2 hvm hPs hDs
  generalize H1 = H at hP hS ht ⊢
  clear ht
  have SM := (SA σ co τ n ⟨hR.1, hR.2.2.2.2.1, by omega⟩ hA9).2.2.2.1 (xs ((x3 + 1)).toNatClampNeg) (xs ((x3 + 2)).toNatClampNeg) (xs ((x3 + 3)).toNatClampNeg) (xs ((x3 + 4)).toNatClampNeg)
  rw [← hw1, ← hw2] at SM
  refine W.widen (k := C + 2) (n := Z + 25) (by omega) (by omega) ?_
  refine lv_icmp_eq (tgt := 966) hx hb dL_law_441 (by decide) (fun c441 => ?_) (fun c441 => ?_)
  · exact K (xs_r u1.1 ra) u1.2 u2 n1 L1 f1 ad1 _ _ ls ⟨hR1, by omega, SM.2 n1 ⟨hR1.1, hR1.2.2.2.2.1, by omega⟩, hP, hD, hS⟩ (lv_sub hl [0, 1, 2, 3] rfl)
  · exact absurd SM.1 c441
set_option maxHeartbeats 4000000 in
set_option maxRecDepth 100000 in
theorem lc_4 {p : Program} {l : Launch} {e : Env} {s : State} {m : MethodId} {below : List Frame} {meth : Method} {c : Code} {dC : Nat → ClassId} {dI : Nat → Nat → Nat} {cA : Nat → ClassId} {b Lx : Nat} {xs : Nat → Int32} {Q P : Nat → Nat} {g : Nat → va_E} {tN : Nat} (C0 : lw_At p s m meth c b Lx xs) (hK : va_K (dC, dI) vwCl (ty_K cA) s) (hN : lw_N s tN) (SA : rl_all) {C Z T : Nat} (hC : C + 2 ≤ 600000) (hZ9 : Z + 25 ≤ 7302250) (hT9 : T < 1000) {x3 : Int32} (hI : ∀ k : Nat, k < 8 → vp_in (x3 + nI k) Lx)
    (K : ∀ (σ : xs_T) (co : co_T) (τ : xs_T) (n : nn_T) (L : List Nat) (f : Nat → va_E) (ad : ad_T) (H : Heap) (locs : List Loc) (ls : Array Slot), lw_I dC dI cA s Q P g σ co τ n L f ad H locs (T + 1) → lv_has ls 4 [(0, .ref b), (1, .ref (Q 0)), (2, .ref (P 0)), (3, .int x3)] → W p l e room_1 s m #[Value.ref b] below meth c H locs (C + 2) (Z + 25) (lw_Z below #[Value.ref b] s) (F0 m 966 ls []))
    (σ : xs_T) (co : co_T) (τ : xs_T) (n : nn_T) (L : List Nat) (f : Nat → va_E) (ad : ad_T) (H : Heap) (locs : List Loc) (ls : Array Slot) (hi : lw_I dC dI cA s Q P g σ co τ n L f ad H locs T) (hl : lv_has ls 4 [(0, .ref b), (1, .ref (Q 0)), (2, .ref (P 0)), (3, .int x3)]) : W p l e room_1 s m #[Value.ref b] below meth c H locs C Z (lw_Z below #[Value.ref b] s) (F0 m 446 ls []) := by
  obtain ⟨hx, hb, hr, hml, hown, hts, hX, hbl, hlocks, hgv⟩ := C0
  obtain ⟨hR, hnT, hA9, hP, hD, hS⟩ := hi
  obtain ⟨hN1, hN2, hZ, hTN⟩ := hN
  have hA : ∀ q : Nat, s.heap.size ≤ q → (fun q : Nat => s.heap.size ≤ q) q := fun _ h => h
  have hbA : ¬ (fun q : Nat => s.heap.size ≤ q) b := Nat.not_le.mpr hbl
  have hts2 := lw_hts hts
  refine lv_aload_n hx hb dL_law_446 rfl (lv_at hl 1 rfl) ?_
  refine lv_aload_n hx hb dL_law_447 rfl (lv_at hl 0 rfl) ?_
  refine lv_iload_n hx hb dL_law_448 rfl (lv_at hl 3 rfl) ?_
  refine lv_iconst (v := 1) hx hb dL_law_449 (by decide) ?_
  refine lv_iadd hx hb dL_law_450 ?_
  refine va_sld hx hb hX hbl hbA hS (hI 1 (by decide)) dL_law_451 ?_
  refine lv_aload_n hx hb dL_law_452 rfl (lv_at hl 0 rfl) ?_
  refine lv_iload_n hx hb dL_law_453 rfl (lv_at hl 3 rfl) ?_
  refine lv_iconst (v := 2) hx hb dL_law_454 (by decide) ?_
  refine lv_iadd hx hb dL_law_455 ?_
  refine va_sld hx hb hX hbl hbA hS (hI 2 (by decide)) dL_law_456 ?_
  have hL1 := ct_left hP hD
  have hF := ct_free hL1.2 hS hA
  refine va_calli (va_runV (As := [.int (xs ((x3 + 1)).toNatClampNeg), .int (xs ((x3 + 2)).toNatClampNeg)]) (rest := []) ⟨hx, hb, hml, hown, hts2⟩ (mt_proof l dC dI cA H.size Q σ n co L f ad hR (by omega) (xs ((x3 + 1)).toNatClampNeg) (xs ((x3 + 2)).toNatClampNeg)) (cwV 2 hts2 (al_gV wd_145 wd_146 wd_147 wd_1 wd_148) rfl rfl rfl (by decide +kernel) ⟨Nat.le_of_ble_eq_true rfl, Nat.le_of_ble_eq_true rfl⟩) ⟨ct_blM, va_recv hK hL1.1 (ci := 3) (q0 := 0) rfl (xc_W_0 _ _), ct_atM hL1.1 hK hL1.2⟩ rfl rfl hl.1 rfl (lv_room (Nat.le_of_ble_eq_true rfl)) dL_law_457 ⟨(by show _ + 0 ≤ 600000; omega), (by show _ + 0 ≤ 7302250; omega)⟩) hS (fun q _ h => hF q h) hF (fun r1 u1 t H1 locs1 ht hvm hw1 hB hz1 hk1 hS => ?_)
  obtain ⟨ra, n1, L1, f1, ad1, hn1, hR1, hP1, -, hD1⟩ := hB
  rw [ht] at hP1
  obtain ⟨hP, hD⟩ := ct_join1 hP hD hk1 hF hP1 hD1
  clear hL1 hF hk1 hz1 hP1 hD1 hvm
  generalize H1 = H at hP hS ht ⊢
  clear ht
  refine lv_aload_n hx hb dL_law_460 rfl (lv_at hl 2 rfl) ?_
  refine lv_aload_n hx hb dL_law_461 rfl (lv_at hl 0 rfl) ?_
  refine lv_iload_n hx hb dL_law_462 rfl (lv_at hl 3 rfl) ?_
  refine lv_iconst (v := 1) hx hb dL_law_463 (by decide) ?_
  refine lv_iadd hx hb dL_law_464 ?_
  refine va_sld hx hb hX hbl hbA hS (hI 1 (by decide)) dL_law_465 ?_
  refine lv_aload_n hx hb dL_law_466 rfl (lv_at hl 0 rfl) ?_
  refine lv_iload_n hx hb dL_law_467 rfl (lv_at hl 3 rfl) ?_
  refine lv_iconst (v := 2) hx hb dL_law_468 (by decide) ?_
  refine lv_iadd hx hb dL_law_469 ?_
  refine va_sld hx hb hX hbl hbA hS (hI 2 (by decide)) dL_law_470 ?_
  obtain ⟨hPs, hDs⟩ := ct_swap hP hD
  have hL2 := ct_left hPs hDs
  have hF2 := ct_free hL2.2 hS hA
  refine va_calli (va_runV (As := [.int (xs ((x3 + 1)).toNatClampNeg), .int (xs ((x3 + 2)).toNatClampNeg)]) (rest := [.int r1]) ⟨hx, hb, hml, hown, hts2⟩ (mr_proof l dC dI cA H.size P τ n [] g hA9.1 (xs ((x3 + 1)).toNatClampNeg) (xs ((x3 + 2)).toNatClampNeg)) (cwV 2 hts2 (al_gV wd_349 wd_350 wd_351 wd_2 wd_352) rfl rfl rfl (by decide +kernel) ⟨Nat.le_of_ble_eq_true rfl, Nat.le_of_ble_eq_true rfl⟩) ⟨ct_blM, va_recv hK hL2.1 (ci := 4) (q0 := 0) rfl (xm_W_0 _ _), ct_atM hL2.1 hK hL2.2⟩ rfl rfl hl.1 rfl (lv_room (Nat.le_of_ble_eq_true rfl)) dL_law_471 ⟨(by show _ + 0 ≤ 600000; omega), (by show _ + 0 ≤ 7302250; omega)⟩) hS (fun q _ h => hF2 q h) hF2 (fun r2 u2 t H1 locs1 ht hvm hw2 hB hz1 hk1 hS => ?_)
  obtain ⟨hP2, -, hD2⟩ := hB
  rw [ht] at hP2
  obtain ⟨hPs, hDs⟩ := ct_join1 hPs hDs hk1 hF2 hP2 hD2
  obtain ⟨hP, hD⟩ := ct_swap hPs hDs
  clear hL2 hF2 hk1 hz1 hP2 hD2 hvm hPs hDs
  generalize H1 = H at hP hS ht ⊢
  clear ht
  have SM := (SA σ co τ n ⟨hR.1, hR.2.2.2.2.1, by omega⟩ hA9).2.2.2.2.1 (xs ((x3 + 1)).toNatClampNeg) (xs ((x3 + 2)).toNatClampNeg)
  rw [← hw1, ← hw2] at SM
  refine W.widen (k := C + 2) (n := Z + 25) (by omega) (by omega) ?_
  refine lv_icmp_eq (tgt := 966) hx hb dL_law_474 (by decide) (fun c474 => ?_) (fun c474 => ?_)
  · exact K (xs_r u1.1 ra) u1.2 u2 n1 L1 f1 ad1 _ _ ls ⟨hR1, by omega, SM.2 n1 ⟨hR1.1, hR1.2.2.2.2.1, by omega⟩, hP, hD, hS⟩ (lv_sub hl [0, 1, 2, 3] rfl)
  · exact absurd SM.1 c474
set_option maxHeartbeats 4000000 in
set_option maxRecDepth 100000 in
theorem lc_5 {p : Program} {l : Launch} {e : Env} {s : State} {m : MethodId} {below : List Frame} {meth : Method} {c : Code} {dC : Nat → ClassId} {dI : Nat → Nat → Nat} {cA : Nat → ClassId} {b Lx : Nat} {xs : Nat → Int32} {Q P : Nat → Nat} {g : Nat → va_E} {tN : Nat} (C0 : lw_At p s m meth c b Lx xs) (hK : va_K (dC, dI) vwCl (ty_K cA) s) (hN : lw_N s tN) (SA : rl_all) {C Z T : Nat} (hC : C + 2 ≤ 600000) (hZ9 : Z + 25 ≤ 7302250) (hT9 : T < 1000) {x3 : Int32} (hI : ∀ k : Nat, k < 8 → vp_in (x3 + nI k) Lx)
    (K : ∀ (σ : xs_T) (co : co_T) (τ : xs_T) (n : nn_T) (L : List Nat) (f : Nat → va_E) (ad : ad_T) (H : Heap) (locs : List Loc) (ls : Array Slot), lw_I dC dI cA s Q P g σ co τ n L f ad H locs (T + 1) → lv_has ls 4 [(0, .ref b), (1, .ref (Q 0)), (2, .ref (P 0)), (3, .int x3)] → W p l e room_1 s m #[Value.ref b] below meth c H locs (C + 2) (Z + 25) (lw_Z below #[Value.ref b] s) (F0 m 966 ls []))
    (σ : xs_T) (co : co_T) (τ : xs_T) (n : nn_T) (L : List Nat) (f : Nat → va_E) (ad : ad_T) (H : Heap) (locs : List Loc) (ls : Array Slot) (hi : lw_I dC dI cA s Q P g σ co τ n L f ad H locs T) (hl : lv_has ls 4 [(0, .ref b), (1, .ref (Q 0)), (2, .ref (P 0)), (3, .int x3)]) : W p l e room_1 s m #[Value.ref b] below meth c H locs C Z (lw_Z below #[Value.ref b] s) (F0 m 479 ls []) := by
  obtain ⟨hx, hb, hr, hml, hown, hts, hX, hbl, hlocks, hgv⟩ := C0
  obtain ⟨hR, hnT, hA9, hP, hD, hS⟩ := hi
  obtain ⟨hN1, hN2, hZ, hTN⟩ := hN
  have hA : ∀ q : Nat, s.heap.size ≤ q → (fun q : Nat => s.heap.size ≤ q) q := fun _ h => h
  have hbA : ¬ (fun q : Nat => s.heap.size ≤ q) b := Nat.not_le.mpr hbl
  have hts2 := lw_hts hts
  refine lv_aload_n hx hb dL_law_479 rfl (lv_at hl 1 rfl) ?_
  refine lv_aload_n hx hb dL_law_480 rfl (lv_at hl 0 rfl) ?_
  refine lv_iload_n hx hb dL_law_481 rfl (lv_at hl 3 rfl) ?_
  refine lv_iconst (v := 1) hx hb dL_law_482 (by decide) ?_
  refine lv_iadd hx hb dL_law_483 ?_
  refine va_sld hx hb hX hbl hbA hS (hI 1 (by decide)) dL_law_484 ?_
  refine lv_aload_n hx hb dL_law_485 rfl (lv_at hl 0 rfl) ?_
  refine lv_iload_n hx hb dL_law_486 rfl (lv_at hl 3 rfl) ?_
  refine lv_iconst (v := 2) hx hb dL_law_487 (by decide) ?_
  refine lv_iadd hx hb dL_law_488 ?_
  refine va_sld hx hb hX hbl hbA hS (hI 2 (by decide)) dL_law_489 ?_
  refine lv_aload_n hx hb dL_law_490 rfl (lv_at hl 0 rfl) ?_
  refine lv_iload_n hx hb dL_law_491 rfl (lv_at hl 3 rfl) ?_
  refine lv_iconst (v := 3) hx hb dL_law_492 (by decide) ?_
  refine lv_iadd hx hb dL_law_493 ?_
  refine va_sld hx hb hX hbl hbA hS (hI 3 (by decide)) dL_law_494 ?_
  have hL1 := ct_left hP hD
  have hF := ct_free hL1.2 hS hA
  refine va_calli (va_runV (As := [.int (xs ((x3 + 1)).toNatClampNeg), .int (xs ((x3 + 2)).toNatClampNeg), .int (xs ((x3 + 3)).toNatClampNeg)]) (rest := []) ⟨hx, hb, hml, hown, hts2⟩ (mt_search l dC dI cA H.size Q σ n co L f ad hR (by omega) (xs ((x3 + 1)).toNatClampNeg) (xs ((x3 + 2)).toNatClampNeg) (xs ((x3 + 3)).toNatClampNeg)) (cwV 3 hts2 (al_gV wd_155 wd_156 wd_157 wd_1 wd_158) rfl rfl rfl (by decide +kernel) ⟨Nat.le_of_ble_eq_true rfl, Nat.le_of_ble_eq_true rfl⟩) ⟨ct_blM, va_recv hK hL1.1 (ci := 3) (q0 := 0) rfl (xc_W_0 _ _), ct_atM hL1.1 hK hL1.2⟩ rfl rfl hl.1 rfl (lv_room (Nat.le_of_ble_eq_true rfl)) dL_law_495 ⟨(by show _ + 1 ≤ 600000; omega), (by show _ + 3 ≤ 7302250; omega)⟩) hS (fun q _ h => hF q h) hF (fun r1 u1 t H1 locs1 ht hvm hw1 hB hz1 hk1 hS => ?_)
  obtain ⟨ra, n1, L1, f1, ad1, hn1, hR1, hP1, -, hD1⟩ := hB
  rw [ht] at hP1
  obtain ⟨hP, hD⟩ := ct_join1 hP hD hk1 hF hP1 hD1
  clear hL1 hF hk1 hz1 hP1 hD1 hvm
  generalize H1 = H at hP hS ht ⊢
  clear ht
  refine lv_aload_n hx hb dL_law_498 rfl (lv_at hl 2 rfl) ?_
  refine lv_aload_n hx hb dL_law_499 rfl (lv_at hl 0 rfl) ?_
  refine lv_iload_n hx hb dL_law_500 rfl (lv_at hl 3 rfl) ?_
  refine lv_iconst (v := 1) hx hb dL_law_501 (by decide) ?_
  refine lv_iadd hx hb dL_law_502 ?_
  refine va_sld hx hb hX hbl hbA hS (hI 1 (by decide)) dL_law_503 ?_
  refine lv_aload_n hx hb dL_law_504 rfl (lv_at hl 0 rfl) ?_
  refine lv_iload_n hx hb dL_law_505 rfl (lv_at hl 3 rfl) ?_
  refine lv_iconst (v := 2) hx hb dL_law_506 (by decide) ?_
  refine lv_iadd hx hb dL_law_507 ?_
  refine va_sld hx hb hX hbl hbA hS (hI 2 (by decide)) dL_law_508 ?_
  refine lv_aload_n hx hb dL_law_509 rfl (lv_at hl 0 rfl) ?_
  refine lv_iload_n hx hb dL_law_510 rfl (lv_at hl 3 rfl) ?_
  refine lv_iconst (v := 3) hx hb dL_law_511 (by decide) ?_
  refine lv_iadd hx hb dL_law_512 ?_
  refine va_sld hx hb hX hbl hbA hS (hI 3 (by decide)) dL_law_513 ?_
  obtain ⟨hPs, hDs⟩ := ct_swap hP hD
  have hL2 := ct_left hPs hDs
  have hF2 := ct_free hL2.2 hS hA
  refine va_calli (va_runV (As := [.int (xs ((x3 + 1)).toNatClampNeg), .int (xs ((x3 + 2)).toNatClampNeg), .int (xs ((x3 + 3)).toNatClampNeg)]) (rest := [.int r1]) ⟨hx, hb, hml, hown, hts2⟩ (mr_search l dC dI cA H.size P τ n [] g hA9.1 (xs ((x3 + 1)).toNatClampNeg) (xs ((x3 + 2)).toNatClampNeg) (xs ((x3 + 3)).toNatClampNeg)) (cwV 3 hts2 (al_gV wd_364 wd_365 wd_366 wd_2 wd_367) rfl rfl rfl (by decide +kernel) ⟨Nat.le_of_ble_eq_true rfl, Nat.le_of_ble_eq_true rfl⟩) ⟨ct_blM, va_recv hK hL2.1 (ci := 4) (q0 := 0) rfl (xm_W_0 _ _), ct_atM hL2.1 hK hL2.2⟩ rfl rfl hl.1 rfl (lv_room (Nat.le_of_ble_eq_true rfl)) dL_law_514 ⟨(by show _ + 0 ≤ 600000; omega), (by show _ + 0 ≤ 7302250; omega)⟩) hS (fun q _ h => hF2 q h) hF2 (fun r2 u2 t H1 locs1 ht hvm hw2 hB hz1 hk1 hS => ?_)
  obtain ⟨hP2, -, hD2⟩ := hB
  rw [ht] at hP2
  obtain ⟨hPs, hDs⟩ := ct_join1 hPs hDs hk1 hF2 hP2 hD2
  obtain ⟨hP, hD⟩ := ct_swap hPs hDs
  clear hL2 hF2 hk1 hz1 hP2 hD2 hvm hPs hDs
  generalize H1 = H at hP hS ht ⊢
  clear ht
  have SM := (SA σ co τ n ⟨hR.1, hR.2.2.2.2.1, by omega⟩ hA9).2.2.2.2.2.1 (xs ((x3 + 1)).toNatClampNeg) (xs ((x3 + 2)).toNatClampNeg) (xs ((x3 + 3)).toNatClampNeg)
  rw [← hw1, ← hw2] at SM
  refine W.widen (k := C + 2) (n := Z + 25) (by omega) (by omega) ?_
  refine lv_icmp_eq (tgt := 966) hx hb dL_law_517 (by decide) (fun c517 => ?_) (fun c517 => ?_)
  · exact K (xs_r u1.1 ra) u1.2 u2 n1 L1 f1 ad1 _ _ ls ⟨hR1, by omega, SM.2 n1 ⟨hR1.1, hR1.2.2.2.2.1, by omega⟩, hP, hD, hS⟩ (lv_sub hl [0, 1, 2, 3] rfl)
  · exact absurd SM.1 c517
set_option maxHeartbeats 4000000 in
set_option maxRecDepth 100000 in
theorem lc_6 {p : Program} {l : Launch} {e : Env} {s : State} {m : MethodId} {below : List Frame} {meth : Method} {c : Code} {dC : Nat → ClassId} {dI : Nat → Nat → Nat} {cA : Nat → ClassId} {b Lx : Nat} {xs : Nat → Int32} {Q P : Nat → Nat} {g : Nat → va_E} {tN : Nat} (C0 : lw_At p s m meth c b Lx xs) (hK : va_K (dC, dI) vwCl (ty_K cA) s) (hN : lw_N s tN) (SA : rl_all) {C Z T : Nat} (hC : C + 2 ≤ 600000) (hZ9 : Z + 25 ≤ 7302250) (hT9 : T < 1000) {x3 : Int32} (hI : ∀ k : Nat, k < 8 → vp_in (x3 + nI k) Lx)
    (K : ∀ (σ : xs_T) (co : co_T) (τ : xs_T) (n : nn_T) (L : List Nat) (f : Nat → va_E) (ad : ad_T) (H : Heap) (locs : List Loc) (ls : Array Slot), lw_I dC dI cA s Q P g σ co τ n L f ad H locs (T + 1) → lv_has ls 4 [(0, .ref b), (1, .ref (Q 0)), (2, .ref (P 0)), (3, .int x3)] → W p l e room_1 s m #[Value.ref b] below meth c H locs (C + 2) (Z + 25) (lw_Z below #[Value.ref b] s) (F0 m 966 ls []))
    (σ : xs_T) (co : co_T) (τ : xs_T) (n : nn_T) (L : List Nat) (f : Nat → va_E) (ad : ad_T) (H : Heap) (locs : List Loc) (ls : Array Slot) (hi : lw_I dC dI cA s Q P g σ co τ n L f ad H locs T) (hl : lv_has ls 4 [(0, .ref b), (1, .ref (Q 0)), (2, .ref (P 0)), (3, .int x3)]) : W p l e room_1 s m #[Value.ref b] below meth c H locs C Z (lw_Z below #[Value.ref b] s) (F0 m 522 ls []) := by
  obtain ⟨hx, hb, hr, hml, hown, hts, hX, hbl, hlocks, hgv⟩ := C0
  obtain ⟨hR, hnT, hA9, hP, hD, hS⟩ := hi
  obtain ⟨hN1, hN2, hZ, hTN⟩ := hN
  have hA : ∀ q : Nat, s.heap.size ≤ q → (fun q : Nat => s.heap.size ≤ q) q := fun _ h => h
  have hbA : ¬ (fun q : Nat => s.heap.size ≤ q) b := Nat.not_le.mpr hbl
  have hts2 := lw_hts hts
  refine lv_aload_n hx hb dL_law_522 rfl (lv_at hl 1 rfl) ?_
  refine lv_aload_n hx hb dL_law_523 rfl (lv_at hl 0 rfl) ?_
  refine lv_iload_n hx hb dL_law_524 rfl (lv_at hl 3 rfl) ?_
  refine lv_iconst (v := 1) hx hb dL_law_525 (by decide) ?_
  refine lv_iadd hx hb dL_law_526 ?_
  refine va_sld hx hb hX hbl hbA hS (hI 1 (by decide)) dL_law_527 ?_
  refine lv_aload_n hx hb dL_law_528 rfl (lv_at hl 0 rfl) ?_
  refine lv_iload_n hx hb dL_law_529 rfl (lv_at hl 3 rfl) ?_
  refine lv_iconst (v := 2) hx hb dL_law_530 (by decide) ?_
  refine lv_iadd hx hb dL_law_531 ?_
  refine va_sld hx hb hX hbl hbA hS (hI 2 (by decide)) dL_law_532 ?_
  refine lv_if_eq (tgt := 540) hx hb dL_law_533 (by decide) (fun c533 => ?_) (fun c533 => ?_)
  · refine lv_iconst (v := 0) hx hb dL_law_540 (by decide) ?_
    have hL1 := ct_left hP hD
    have hF := ct_free hL1.2 hS hA
    refine va_calli (va_runV (As := [.int (xs ((x3 + 1)).toNatClampNeg), .int 0]) (rest := []) ⟨hx, hb, hml, hown, hts2⟩ (mt_answer l dC dI cA H.size Q σ n co L f ad hR (by omega) (xs ((x3 + 1)).toNatClampNeg) false) (cwV 2 hts2 (al_gV wd_173 wd_174 wd_175 wd_1 wd_176) rfl rfl rfl (by decide +kernel) ⟨Nat.le_of_ble_eq_true rfl, Nat.le_of_ble_eq_true rfl⟩) ⟨ct_blM, va_recv hK hL1.1 (ci := 3) (q0 := 0) rfl (xc_W_0 _ _), ct_atM hL1.1 hK hL1.2⟩ rfl rfl hl.1 rfl (lv_room (Nat.le_of_ble_eq_true rfl)) dL_law_541 ⟨(by show _ + 0 ≤ 600000; omega), (by show _ + 0 ≤ 7302250; omega)⟩) hS (fun q _ h => hF q h) hF (fun r1 u1 t H1 locs1 ht hvm hw1 hB hz1 hk1 hS => ?_)
    obtain ⟨ra, n1, L1, f1, ad1, hn1, hR1, hP1, -, hD1⟩ := hB
    rw [ht] at hP1
    obtain ⟨hP, hD⟩ := ct_join1 hP hD hk1 hF hP1 hD1
    clear hL1 hF hk1 hz1 hP1 hD1 hvm
    generalize H1 = H at hP hS ht ⊢
    clear ht
    refine lv_aload_n hx hb dL_law_544 rfl (lv_at hl 2 rfl) ?_
    refine lv_aload_n hx hb dL_law_545 rfl (lv_at hl 0 rfl) ?_
    refine lv_iload_n hx hb dL_law_546 rfl (lv_at hl 3 rfl) ?_
    refine lv_iconst (v := 1) hx hb dL_law_547 (by decide) ?_
    refine lv_iadd hx hb dL_law_548 ?_
    refine va_sld hx hb hX hbl hbA hS (hI 1 (by decide)) dL_law_549 ?_
    refine lv_aload_n hx hb dL_law_550 rfl (lv_at hl 0 rfl) ?_
    refine lv_iload_n hx hb dL_law_551 rfl (lv_at hl 3 rfl) ?_
    refine lv_iconst (v := 2) hx hb dL_law_552 (by decide) ?_
    refine lv_iadd hx hb dL_law_553 ?_
    refine va_sld hx hb hX hbl hbA hS (hI 2 (by decide)) dL_law_554 ?_
    refine lv_if_eq (tgt := 562) hx hb dL_law_555 (by decide) (fun c555 => ?_) (fun c555 => ?_)
    · refine lv_iconst (v := 0) hx hb dL_law_562 (by decide) ?_
      obtain ⟨hPs, hDs⟩ := ct_swap hP hD
      have hL2 := ct_left hPs hDs
      have hF2 := ct_free hL2.2 hS hA
      refine va_calli (va_runV (As := [.int (xs ((x3 + 1)).toNatClampNeg), .int 0]) (rest := [.int r1]) ⟨hx, hb, hml, hown, hts2⟩ (mr_answer l dC dI cA H.size P τ n [] g hA9.1 (xs ((x3 + 1)).toNatClampNeg) false) (cwV 2 hts2 (al_gV wd_369 wd_370 wd_371 wd_2 wd_372) rfl rfl rfl (by decide +kernel) ⟨Nat.le_of_ble_eq_true rfl, Nat.le_of_ble_eq_true rfl⟩) ⟨ct_blM, va_recv hK hL2.1 (ci := 4) (q0 := 0) rfl (xm_W_0 _ _), ct_atM hL2.1 hK hL2.2⟩ rfl rfl hl.1 rfl (lv_room (Nat.le_of_ble_eq_true rfl)) dL_law_563 ⟨(by show _ + 0 ≤ 600000; omega), (by show _ + 0 ≤ 7302250; omega)⟩) hS (fun q _ h => hF2 q h) hF2 (fun r2 u2 t H1 locs1 ht hvm hw2 hB hz1 hk1 hS => ?_)
      obtain ⟨hP2, -, hD2⟩ := hB
      rw [ht] at hP2
      obtain ⟨hPs, hDs⟩ := ct_join1 hPs hDs hk1 hF2 hP2 hD2
      obtain ⟨hP, hD⟩ := ct_swap hPs hDs
      clear hL2 hF2 hk1 hz1 hP2 hD2 hvm hPs hDs
      generalize H1 = H at hP hS ht ⊢
      clear ht
      have SM := (SA σ co τ n ⟨hR.1, hR.2.2.2.2.1, by omega⟩ hA9).2.2.2.2.2.2.1 (xs ((x3 + 1)).toNatClampNeg) false
      rw [← hw1, ← hw2] at SM
      refine W.widen (k := C + 2) (n := Z + 25) (by omega) (by omega) ?_
      refine lv_icmp_eq (tgt := 966) hx hb dL_law_566 (by decide) (fun c566 => ?_) (fun c566 => ?_)
      · exact K (xs_r u1.1 ra) u1.2 u2 n1 L1 f1 ad1 _ _ ls ⟨hR1, by omega, SM.2 n1 ⟨hR1.1, hR1.2.2.2.2.1, by omega⟩, hP, hD, hS⟩ (lv_sub hl [0, 1, 2, 3] rfl)
      · exact absurd SM.1 c566
    · exact absurd c533 c555
  · refine lv_iconst (v := 1) hx hb dL_law_536 (by decide) ?_
    refine lv_goto (tgt := 541) hx hb dL_law_537 (by decide) ?_
    have hL1 := ct_left hP hD
    have hF := ct_free hL1.2 hS hA
    refine va_calli (va_runV (As := [.int (xs ((x3 + 1)).toNatClampNeg), .int 1]) (rest := []) ⟨hx, hb, hml, hown, hts2⟩ (mt_answer l dC dI cA H.size Q σ n co L f ad hR (by omega) (xs ((x3 + 1)).toNatClampNeg) true) (cwV 2 hts2 (al_gV wd_173 wd_174 wd_175 wd_1 wd_176) rfl rfl rfl (by decide +kernel) ⟨Nat.le_of_ble_eq_true rfl, Nat.le_of_ble_eq_true rfl⟩) ⟨ct_blM, va_recv hK hL1.1 (ci := 3) (q0 := 0) rfl (xc_W_0 _ _), ct_atM hL1.1 hK hL1.2⟩ rfl rfl hl.1 rfl (lv_room (Nat.le_of_ble_eq_true rfl)) dL_law_541 ⟨(by show _ + 0 ≤ 600000; omega), (by show _ + 0 ≤ 7302250; omega)⟩) hS (fun q _ h => hF q h) hF (fun r1 u1 t H1 locs1 ht hvm hw1 hB hz1 hk1 hS => ?_)
    obtain ⟨ra, n1, L1, f1, ad1, hn1, hR1, hP1, -, hD1⟩ := hB
    rw [ht] at hP1
    obtain ⟨hP, hD⟩ := ct_join1 hP hD hk1 hF hP1 hD1
    clear hL1 hF hk1 hz1 hP1 hD1 hvm
    generalize H1 = H at hP hS ht ⊢
    clear ht
    refine lv_aload_n hx hb dL_law_544 rfl (lv_at hl 2 rfl) ?_
    refine lv_aload_n hx hb dL_law_545 rfl (lv_at hl 0 rfl) ?_
    refine lv_iload_n hx hb dL_law_546 rfl (lv_at hl 3 rfl) ?_
    refine lv_iconst (v := 1) hx hb dL_law_547 (by decide) ?_
    refine lv_iadd hx hb dL_law_548 ?_
    refine va_sld hx hb hX hbl hbA hS (hI 1 (by decide)) dL_law_549 ?_
    refine lv_aload_n hx hb dL_law_550 rfl (lv_at hl 0 rfl) ?_
    refine lv_iload_n hx hb dL_law_551 rfl (lv_at hl 3 rfl) ?_
    refine lv_iconst (v := 2) hx hb dL_law_552 (by decide) ?_
    refine lv_iadd hx hb dL_law_553 ?_
    refine va_sld hx hb hX hbl hbA hS (hI 2 (by decide)) dL_law_554 ?_
    refine lv_if_eq (tgt := 562) hx hb dL_law_555 (by decide) (fun c555 => ?_) (fun c555 => ?_)
    · exact absurd c555 c533
    · refine lv_iconst (v := 1) hx hb dL_law_558 (by decide) ?_
      refine lv_goto (tgt := 563) hx hb dL_law_559 (by decide) ?_
      obtain ⟨hPs, hDs⟩ := ct_swap hP hD
      have hL2 := ct_left hPs hDs
      have hF2 := ct_free hL2.2 hS hA
      refine va_calli (va_runV (As := [.int (xs ((x3 + 1)).toNatClampNeg), .int 1]) (rest := [.int r1]) ⟨hx, hb, hml, hown, hts2⟩ (mr_answer l dC dI cA H.size P τ n [] g hA9.1 (xs ((x3 + 1)).toNatClampNeg) true) (cwV 2 hts2 (al_gV wd_369 wd_370 wd_371 wd_2 wd_372) rfl rfl rfl (by decide +kernel) ⟨Nat.le_of_ble_eq_true rfl, Nat.le_of_ble_eq_true rfl⟩) ⟨ct_blM, va_recv hK hL2.1 (ci := 4) (q0 := 0) rfl (xm_W_0 _ _), ct_atM hL2.1 hK hL2.2⟩ rfl rfl hl.1 rfl (lv_room (Nat.le_of_ble_eq_true rfl)) dL_law_563 ⟨(by show _ + 0 ≤ 600000; omega), (by show _ + 0 ≤ 7302250; omega)⟩) hS (fun q _ h => hF2 q h) hF2 (fun r2 u2 t H1 locs1 ht hvm hw2 hB hz1 hk1 hS => ?_)
      obtain ⟨hP2, -, hD2⟩ := hB
      rw [ht] at hP2
      obtain ⟨hPs, hDs⟩ := ct_join1 hPs hDs hk1 hF2 hP2 hD2
      obtain ⟨hP, hD⟩ := ct_swap hPs hDs
      clear hL2 hF2 hk1 hz1 hP2 hD2 hvm hPs hDs
      generalize H1 = H at hP hS ht ⊢
      clear ht
      have SM := (SA σ co τ n ⟨hR.1, hR.2.2.2.2.1, by omega⟩ hA9).2.2.2.2.2.2.1 (xs ((x3 + 1)).toNatClampNeg) true
      rw [← hw1, ← hw2] at SM
      refine W.widen (k := C + 2) (n := Z + 25) (by omega) (by omega) ?_
      refine lv_icmp_eq (tgt := 966) hx hb dL_law_566 (by decide) (fun c566 => ?_) (fun c566 => ?_)
      · exact K (xs_r u1.1 ra) u1.2 u2 n1 L1 f1 ad1 _ _ ls ⟨hR1, by omega, SM.2 n1 ⟨hR1.1, hR1.2.2.2.2.1, by omega⟩, hP, hD, hS⟩ (lv_sub hl [0, 1, 2, 3] rfl)
      · exact absurd SM.1 c566
set_option maxHeartbeats 4000000 in
set_option maxRecDepth 100000 in
theorem lc_7 {p : Program} {l : Launch} {e : Env} {s : State} {m : MethodId} {below : List Frame} {meth : Method} {c : Code} {dC : Nat → ClassId} {dI : Nat → Nat → Nat} {cA : Nat → ClassId} {b Lx : Nat} {xs : Nat → Int32} {Q P : Nat → Nat} {g : Nat → va_E} {tN : Nat} (C0 : lw_At p s m meth c b Lx xs) (hK : va_K (dC, dI) vwCl (ty_K cA) s) (hN : lw_N s tN) (SA : rl_all) {C Z T : Nat} (hC : C + 2 ≤ 600000) (hZ9 : Z + 25 ≤ 7302250) (hT9 : T < 1000) {x3 : Int32} (hI : ∀ k : Nat, k < 8 → vp_in (x3 + nI k) Lx)
    (K : ∀ (σ : xs_T) (co : co_T) (τ : xs_T) (n : nn_T) (L : List Nat) (f : Nat → va_E) (ad : ad_T) (H : Heap) (locs : List Loc) (ls : Array Slot), lw_I dC dI cA s Q P g σ co τ n L f ad H locs (T + 1) → lv_has ls 4 [(0, .ref b), (1, .ref (Q 0)), (2, .ref (P 0)), (3, .int x3)] → W p l e room_1 s m #[Value.ref b] below meth c H locs (C + 2) (Z + 25) (lw_Z below #[Value.ref b] s) (F0 m 966 ls []))
    (σ : xs_T) (co : co_T) (τ : xs_T) (n : nn_T) (L : List Nat) (f : Nat → va_E) (ad : ad_T) (H : Heap) (locs : List Loc) (ls : Array Slot) (hi : lw_I dC dI cA s Q P g σ co τ n L f ad H locs T) (hl : lv_has ls 4 [(0, .ref b), (1, .ref (Q 0)), (2, .ref (P 0)), (3, .int x3)]) : W p l e room_1 s m #[Value.ref b] below meth c H locs C Z (lw_Z below #[Value.ref b] s) (F0 m 571 ls []) := by
  obtain ⟨hx, hb, hr, hml, hown, hts, hX, hbl, hlocks, hgv⟩ := C0
  obtain ⟨hR, hnT, hA9, hP, hD, hS⟩ := hi
  obtain ⟨hN1, hN2, hZ, hTN⟩ := hN
  have hA : ∀ q : Nat, s.heap.size ≤ q → (fun q : Nat => s.heap.size ≤ q) q := fun _ h => h
  have hbA : ¬ (fun q : Nat => s.heap.size ≤ q) b := Nat.not_le.mpr hbl
  have hts2 := lw_hts hts
  refine lv_aload_n hx hb dL_law_571 rfl (lv_at hl 1 rfl) ?_
  refine lv_aload_n hx hb dL_law_572 rfl (lv_at hl 0 rfl) ?_
  refine lv_iload_n hx hb dL_law_573 rfl (lv_at hl 3 rfl) ?_
  refine lv_iconst (v := 1) hx hb dL_law_574 (by decide) ?_
  refine lv_iadd hx hb dL_law_575 ?_
  refine va_sld hx hb hX hbl hbA hS (hI 1 (by decide)) dL_law_576 ?_
  have hL1 := ct_left hP hD
  have hF := ct_free hL1.2 hS hA
  refine va_calli (va_runV (As := [.int (xs ((x3 + 1)).toNatClampNeg)]) (rest := []) ⟨hx, hb, hml, hown, hts2⟩ (mt_tick l dC dI cA H.size Q σ n co L f ad hR (by omega) (xs ((x3 + 1)).toNatClampNeg)) (cwV 1 hts2 (al_gV wd_189 wd_190 wd_191 wd_1 wd_192) rfl rfl rfl (by decide +kernel) ⟨Nat.le_of_ble_eq_true rfl, Nat.le_of_ble_eq_true rfl⟩) ⟨ct_blM, va_recv hK hL1.1 (ci := 3) (q0 := 0) rfl (xc_W_0 _ _), ct_atM hL1.1 hK hL1.2⟩ rfl rfl hl.1 rfl (lv_room (Nat.le_of_ble_eq_true rfl)) dL_law_577 ⟨(by show _ + 0 ≤ 600000; omega), (by show _ + 0 ≤ 7302250; omega)⟩) hS (fun q _ h => hF q h) hF (fun r1 u1 t H1 locs1 ht hvm hw1 hB hz1 hk1 hS => ?_)
  obtain ⟨ra, n1, L1, f1, ad1, hn1, hR1, hP1, -, hD1⟩ := hB
  rw [ht] at hP1
  obtain ⟨hP, hD⟩ := ct_join1 hP hD hk1 hF hP1 hD1
  clear hL1 hF hk1 hz1 hP1 hD1 hvm
  generalize H1 = H at hP hS ht ⊢
  clear ht
  refine lv_aload_n hx hb dL_law_580 rfl (lv_at hl 2 rfl) ?_
  refine lv_aload_n hx hb dL_law_581 rfl (lv_at hl 0 rfl) ?_
  refine lv_iload_n hx hb dL_law_582 rfl (lv_at hl 3 rfl) ?_
  refine lv_iconst (v := 1) hx hb dL_law_583 (by decide) ?_
  refine lv_iadd hx hb dL_law_584 ?_
  refine va_sld hx hb hX hbl hbA hS (hI 1 (by decide)) dL_law_585 ?_
  obtain ⟨hPs, hDs⟩ := ct_swap hP hD
  have hL2 := ct_left hPs hDs
  have hF2 := ct_free hL2.2 hS hA
  refine va_calli (va_runV (As := [.int (xs ((x3 + 1)).toNatClampNeg)]) (rest := [.int r1]) ⟨hx, hb, hml, hown, hts2⟩ (mr_tick l dC dI cA H.size P τ n [] g hA9.1 (xs ((x3 + 1)).toNatClampNeg)) (cwV 1 hts2 (al_gV wd_373 wd_374 wd_375 wd_2 wd_376) rfl rfl rfl (by decide +kernel) ⟨Nat.le_of_ble_eq_true rfl, Nat.le_of_ble_eq_true rfl⟩) ⟨ct_blM, va_recv hK hL2.1 (ci := 4) (q0 := 0) rfl (xm_W_0 _ _), ct_atM hL2.1 hK hL2.2⟩ rfl rfl hl.1 rfl (lv_room (Nat.le_of_ble_eq_true rfl)) dL_law_586 ⟨(by show _ + 0 ≤ 600000; omega), (by show _ + 0 ≤ 7302250; omega)⟩) hS (fun q _ h => hF2 q h) hF2 (fun r2 u2 t H1 locs1 ht hvm hw2 hB hz1 hk1 hS => ?_)
  obtain ⟨hP2, -, hD2⟩ := hB
  rw [ht] at hP2
  obtain ⟨hPs, hDs⟩ := ct_join1 hPs hDs hk1 hF2 hP2 hD2
  obtain ⟨hP, hD⟩ := ct_swap hPs hDs
  clear hL2 hF2 hk1 hz1 hP2 hD2 hvm hPs hDs
  generalize H1 = H at hP hS ht ⊢
  clear ht
  have SM := (SA σ co τ n ⟨hR.1, hR.2.2.2.2.1, by omega⟩ hA9).2.2.2.2.2.2.2.1 (xs ((x3 + 1)).toNatClampNeg)
  rw [← hw1, ← hw2] at SM
  refine W.widen (k := C + 2) (n := Z + 25) (by omega) (by omega) ?_
  refine lv_icmp_eq (tgt := 966) hx hb dL_law_589 (by decide) (fun c589 => ?_) (fun c589 => ?_)
  · exact K (xs_r u1.1 ra) u1.2 u2 n1 L1 f1 ad1 _ _ ls ⟨hR1, by omega, SM.2 n1 ⟨hR1.1, hR1.2.2.2.2.1, by omega⟩, hP, hD, hS⟩ (lv_sub hl [0, 1, 2, 3] rfl)
  · exact absurd SM.1 c589
set_option maxHeartbeats 4000000 in
set_option maxRecDepth 100000 in
theorem lc_8 {p : Program} {l : Launch} {e : Env} {s : State} {m : MethodId} {below : List Frame} {meth : Method} {c : Code} {dC : Nat → ClassId} {dI : Nat → Nat → Nat} {cA : Nat → ClassId} {b Lx : Nat} {xs : Nat → Int32} {Q P : Nat → Nat} {g : Nat → va_E} {tN : Nat} (C0 : lw_At p s m meth c b Lx xs) (hK : va_K (dC, dI) vwCl (ty_K cA) s) (hN : lw_N s tN) (SA : rl_all) {C Z T : Nat} (hC : C + 2 ≤ 600000) (hZ9 : Z + 25 ≤ 7302250) (hT9 : T < 1000) {x3 : Int32} (hI : ∀ k : Nat, k < 8 → vp_in (x3 + nI k) Lx)
    (K : ∀ (σ : xs_T) (co : co_T) (τ : xs_T) (n : nn_T) (L : List Nat) (f : Nat → va_E) (ad : ad_T) (H : Heap) (locs : List Loc) (ls : Array Slot), lw_I dC dI cA s Q P g σ co τ n L f ad H locs (T + 1) → lv_has ls 4 [(0, .ref b), (1, .ref (Q 0)), (2, .ref (P 0)), (3, .int x3)] → W p l e room_1 s m #[Value.ref b] below meth c H locs C Z (lw_Z below #[Value.ref b] s) (F0 m 966 ls []))
    (σ : xs_T) (co : co_T) (τ : xs_T) (n : nn_T) (L : List Nat) (f : Nat → va_E) (ad : ad_T) (H : Heap) (locs : List Loc) (ls : Array Slot) (hi : lw_I dC dI cA s Q P g σ co τ n L f ad H locs T) (hl : lv_has ls 4 [(0, .ref b), (1, .ref (Q 0)), (2, .ref (P 0)), (3, .int x3)]) : W p l e room_1 s m #[Value.ref b] below meth c H locs C Z (lw_Z below #[Value.ref b] s) (F0 m 594 ls []) := by
  obtain ⟨hx, hb, hr, hml, hown, hts, hX, hbl, hlocks, hgv⟩ := C0
  obtain ⟨hR, hnT, hA9, hP, hD, hS⟩ := hi
  obtain ⟨hN1, hN2, hZ, hTN⟩ := hN
  have hA : ∀ q : Nat, s.heap.size ≤ q → (fun q : Nat => s.heap.size ≤ q) q := fun _ h => h
  have hbA : ¬ (fun q : Nat => s.heap.size ≤ q) b := Nat.not_le.mpr hbl
  have hts2 := lw_hts hts
  refine lv_aload_n hx hb dL_law_594 rfl (lv_at hl 1 rfl) ?_
  refine lv_aload_n hx hb dL_law_595 rfl (lv_at hl 0 rfl) ?_
  refine lv_iload_n hx hb dL_law_596 rfl (lv_at hl 3 rfl) ?_
  refine lv_iconst (v := 1) hx hb dL_law_597 (by decide) ?_
  refine lv_iadd hx hb dL_law_598 ?_
  refine va_sld hx hb hX hbl hbA hS (hI 1 (by decide)) dL_law_599 ?_
  have hL1 := ct_left hP hD
  have hF := ct_free hL1.2 hS hA
  refine vp_callSl (va_Run.run (va_runV (As := [.int (xs ((x3 + 1)).toNatClampNeg)]) (rest := []) ⟨hx, hb, hml, hown, hts2⟩ (mt_sum l dC dI cA Q σ n co L f ad hR (by omega) (xs ((x3 + 1)).toNatClampNeg)) (cwV 1 hts2 (al_gV wd_193 wd_194 wd_195 wd_1 wd_196) rfl rfl rfl (by decide +kernel) ⟨Nat.le_of_ble_eq_true rfl, Nat.le_of_ble_eq_true rfl⟩) ⟨ct_blR, va_recv hK hL1.1 (ci := 3) (q0 := 0) rfl (xc_W_0 _ _), ct_atR hL1.1 hK⟩ rfl rfl hl.1 rfl (lv_room (Nat.le_of_ble_eq_true rfl)) dL_law_600 ⟨(by show _ + 0 ≤ 600000; omega), (by show _ + 0 ≤ 7302250; omega)⟩)) (fun r1 hw1 => ?_)
  refine lv_aload_n hx hb dL_law_603 rfl (lv_at hl 2 rfl) ?_
  refine lv_aload_n hx hb dL_law_604 rfl (lv_at hl 0 rfl) ?_
  refine lv_iload_n hx hb dL_law_605 rfl (lv_at hl 3 rfl) ?_
  refine lv_iconst (v := 1) hx hb dL_law_606 (by decide) ?_
  refine lv_iadd hx hb dL_law_607 ?_
  refine va_sld hx hb hX hbl hbA hS (hI 1 (by decide)) dL_law_608 ?_
  obtain ⟨hPs, hDs⟩ := ct_swap hP hD
  have hL2 := ct_left hPs hDs
  have hF2 := ct_free hL2.2 hS hA
  refine vp_callSl (va_Run.run (va_runV (As := [.int (xs ((x3 + 1)).toNatClampNeg)]) (rest := [.long r1]) ⟨hx, hb, hml, hown, hts2⟩ (mr_sum l dC dI cA P τ n [] g hA9.1 (xs ((x3 + 1)).toNatClampNeg)) (cwV 1 hts2 (al_gV wd_377 wd_378 wd_379 wd_2 wd_380) rfl rfl rfl (by decide +kernel) ⟨Nat.le_of_ble_eq_true rfl, Nat.le_of_ble_eq_true rfl⟩) ⟨ct_blR, va_recv hK hL2.1 (ci := 4) (q0 := 0) rfl (xm_W_0 _ _), ct_atR hL2.1 hK⟩ rfl rfl hl.1 rfl (lv_room (Nat.le_of_ble_eq_true rfl)) dL_law_609 ⟨(by show _ + 0 ≤ 600000; omega), (by show _ + 0 ≤ 7302250; omega)⟩)) (fun r2 hw2 => ?_)
  have SM : r1 = r2 := by rw [hw1, hw2]; exact (SA σ co τ n ⟨hR.1, hR.2.2.2.2.1, by omega⟩ hA9).2.2.2.2.2.2.2.2.1 (xs ((x3 + 1)).toNatClampNeg)
  refine W.lcmp hx hb dL_law_612 ?_
  refine lv_if_eq (tgt := 966) hx hb dL_law_613 (by decide) (fun c613 => ?_) (fun c613 => ?_)
  · exact K σ co τ n L f ad _ _ ls ⟨hR, by omega, hA9, hP, hD, hS⟩ (lv_sub hl [0, 1, 2, 3] rfl)
  · exact absurd (by rw [SM]; exact lg_self _) c613
set_option maxHeartbeats 4000000 in
set_option maxRecDepth 100000 in
theorem lc_9 {p : Program} {l : Launch} {e : Env} {s : State} {m : MethodId} {below : List Frame} {meth : Method} {c : Code} {dC : Nat → ClassId} {dI : Nat → Nat → Nat} {cA : Nat → ClassId} {b Lx : Nat} {xs : Nat → Int32} {Q P : Nat → Nat} {g : Nat → va_E} {tN : Nat} (C0 : lw_At p s m meth c b Lx xs) (hK : va_K (dC, dI) vwCl (ty_K cA) s) (hN : lw_N s tN) (SA : rl_all) {C Z T : Nat} (hC : C + 2 ≤ 600000) (hZ9 : Z + 25 ≤ 7302250) (hT9 : T < 1000) {x3 : Int32} (hI : ∀ k : Nat, k < 8 → vp_in (x3 + nI k) Lx)
    (K : ∀ (σ : xs_T) (co : co_T) (τ : xs_T) (n : nn_T) (L : List Nat) (f : Nat → va_E) (ad : ad_T) (H : Heap) (locs : List Loc) (ls : Array Slot), lw_I dC dI cA s Q P g σ co τ n L f ad H locs (T + 1) → lv_has ls 4 [(0, .ref b), (1, .ref (Q 0)), (2, .ref (P 0)), (3, .int x3)] → W p l e room_1 s m #[Value.ref b] below meth c H locs (C + 2) (Z + 25) (lw_Z below #[Value.ref b] s) (F0 m 966 ls []))
    (σ : xs_T) (co : co_T) (τ : xs_T) (n : nn_T) (L : List Nat) (f : Nat → va_E) (ad : ad_T) (H : Heap) (locs : List Loc) (ls : Array Slot) (hi : lw_I dC dI cA s Q P g σ co τ n L f ad H locs T) (hl : lv_has ls 4 [(0, .ref b), (1, .ref (Q 0)), (2, .ref (P 0)), (3, .int x3)]) : W p l e room_1 s m #[Value.ref b] below meth c H locs C Z (lw_Z below #[Value.ref b] s) (F0 m 618 ls []) := by
  obtain ⟨hx, hb, hr, hml, hown, hts, hX, hbl, hlocks, hgv⟩ := C0
  obtain ⟨hR, hnT, hA9, hP, hD, hS⟩ := hi
  obtain ⟨hN1, hN2, hZ, hTN⟩ := hN
  have hA : ∀ q : Nat, s.heap.size ≤ q → (fun q : Nat => s.heap.size ≤ q) q := fun _ h => h
  have hbA : ¬ (fun q : Nat => s.heap.size ≤ q) b := Nat.not_le.mpr hbl
  have hts2 := lw_hts hts
  have lk0 := hts2 (.constantLong RL 13 4294967295) (List.mem_cons_of_mem _ wd_437)
  refine lv_aload_n hx hb dL_law_618 rfl (lv_at hl 1 rfl) ?_
  refine lv_aload_n hx hb dL_law_619 rfl (lv_at hl 0 rfl) ?_
  refine lv_iload_n hx hb dL_law_620 rfl (lv_at hl 3 rfl) ?_
  refine lv_iconst (v := 1) hx hb dL_law_621 (by decide) ?_
  refine lv_iadd hx hb dL_law_622 ?_
  refine va_sld hx hb hX hbl hbA hS (hI 1 (by decide)) dL_law_623 ?_
  refine lv_aload_n hx hb dL_law_624 rfl (lv_at hl 0 rfl) ?_
  refine lv_iload_n hx hb dL_law_625 rfl (lv_at hl 3 rfl) ?_
  refine lv_iconst (v := 2) hx hb dL_law_626 (by decide) ?_
  refine lv_iadd hx hb dL_law_627 ?_
  refine va_sld hx hb hX hbl hbA hS (hI 2 (by decide)) dL_law_628 ?_
  refine lv_i2l (v := ((xs ((x3 + 2)).toNatClampNeg) : Int32).toInt64) hx hb dL_law_629 rfl ?_
  refine lv_bipush (v := 32) hx hb dL_law_630 (by decide) ?_
  refine lv_lshl (v := ((((xs ((x3 + 2)).toNatClampNeg) : Int32).toInt64) <<< ((32 : Int32).toInt64 &&& 63))) hx hb dL_law_632 rfl ?_
  refine lv_aload_n hx hb dL_law_633 rfl (lv_at hl 0 rfl) ?_
  refine lv_iload_n hx hb dL_law_634 rfl (lv_at hl 3 rfl) ?_
  refine lv_iconst (v := 3) hx hb dL_law_635 (by decide) ?_
  refine lv_iadd hx hb dL_law_636 ?_
  refine va_sld hx hb hX hbl hbA hS (hI 3 (by decide)) dL_law_637 ?_
  refine lv_i2l (v := ((xs ((x3 + 3)).toNatClampNeg) : Int32).toInt64) hx hb dL_law_638 rfl ?_
  refine lv_ldc2 hx hb hown lk0 dL_law_639 ?_
  refine lv_land hx hb dL_law_642 ?_
  refine lv_lor hx hb dL_law_643 ?_
  have hL1 := ct_left hP hD
  have hF := ct_free hL1.2 hS hA
  refine va_calli (va_runV (As := [.int (xs ((x3 + 1)).toNatClampNeg), .long (((((xs ((x3 + 2)).toNatClampNeg) : Int32).toInt64) <<< ((32 : Int32).toInt64 &&& 63)) ||| ((((xs ((x3 + 3)).toNatClampNeg) : Int32).toInt64) &&& 4294967295))]) (rest := []) ⟨hx, hb, hml, hown, hts2⟩ (mt_limit l dC dI cA H.size Q σ n co L f ad hR (by omega) (xs ((x3 + 1)).toNatClampNeg) (((((xs ((x3 + 2)).toNatClampNeg) : Int32).toInt64) <<< ((32 : Int32).toInt64 &&& 63)) ||| ((((xs ((x3 + 3)).toNatClampNeg) : Int32).toInt64) &&& 4294967295))) (cwV 2 hts2 (al_gV wd_206 wd_207 wd_208 wd_1 wd_209) rfl rfl rfl (by decide +kernel) ⟨Nat.le_of_ble_eq_true rfl, Nat.le_of_ble_eq_true rfl⟩) ⟨ct_blM, va_recv hK hL1.1 (ci := 3) (q0 := 0) rfl (xc_W_0 _ _), ct_atM hL1.1 hK hL1.2⟩ rfl rfl hl.1 rfl (lv_room (Nat.le_of_ble_eq_true rfl)) dL_law_644 ⟨(by show _ + 0 ≤ 600000; omega), (by show _ + 0 ≤ 7302250; omega)⟩) hS (fun q _ h => hF q h) hF (fun r1 u1 t H1 locs1 ht hvm hw1 hB hz1 hk1 hS => ?_)
  obtain ⟨ra, n1, L1, f1, ad1, hn1, hR1, hP1, -, hD1⟩ := hB
  rw [ht] at hP1
  obtain ⟨hP, hD⟩ := ct_join1 hP hD hk1 hF hP1 hD1
  clear hL1 hF hk1 hz1 hP1 hD1 hvm
  generalize H1 = H at hP hS ht ⊢
  clear ht
  refine lv_aload_n hx hb dL_law_647 rfl (lv_at hl 2 rfl) ?_
  refine lv_aload_n hx hb dL_law_648 rfl (lv_at hl 0 rfl) ?_
  refine lv_iload_n hx hb dL_law_649 rfl (lv_at hl 3 rfl) ?_
  refine lv_iconst (v := 1) hx hb dL_law_650 (by decide) ?_
  refine lv_iadd hx hb dL_law_651 ?_
  refine va_sld hx hb hX hbl hbA hS (hI 1 (by decide)) dL_law_652 ?_
  refine lv_aload_n hx hb dL_law_653 rfl (lv_at hl 0 rfl) ?_
  refine lv_iload_n hx hb dL_law_654 rfl (lv_at hl 3 rfl) ?_
  refine lv_iconst (v := 2) hx hb dL_law_655 (by decide) ?_
  refine lv_iadd hx hb dL_law_656 ?_
  refine va_sld hx hb hX hbl hbA hS (hI 2 (by decide)) dL_law_657 ?_
  refine lv_i2l (v := ((xs ((x3 + 2)).toNatClampNeg) : Int32).toInt64) hx hb dL_law_658 rfl ?_
  refine lv_bipush (v := 32) hx hb dL_law_659 (by decide) ?_
  refine lv_lshl (v := ((((xs ((x3 + 2)).toNatClampNeg) : Int32).toInt64) <<< ((32 : Int32).toInt64 &&& 63))) hx hb dL_law_661 rfl ?_
  refine lv_aload_n hx hb dL_law_662 rfl (lv_at hl 0 rfl) ?_
  refine lv_iload_n hx hb dL_law_663 rfl (lv_at hl 3 rfl) ?_
  refine lv_iconst (v := 3) hx hb dL_law_664 (by decide) ?_
  refine lv_iadd hx hb dL_law_665 ?_
  refine va_sld hx hb hX hbl hbA hS (hI 3 (by decide)) dL_law_666 ?_
  refine lv_i2l (v := ((xs ((x3 + 3)).toNatClampNeg) : Int32).toInt64) hx hb dL_law_667 rfl ?_
  refine lv_ldc2 hx hb hown lk0 dL_law_668 ?_
  refine lv_land hx hb dL_law_671 ?_
  refine lv_lor hx hb dL_law_672 ?_
  obtain ⟨hPs, hDs⟩ := ct_swap hP hD
  have hL2 := ct_left hPs hDs
  have hF2 := ct_free hL2.2 hS hA
  refine va_calli (va_runV (As := [.int (xs ((x3 + 1)).toNatClampNeg), .long (((((xs ((x3 + 2)).toNatClampNeg) : Int32).toInt64) <<< ((32 : Int32).toInt64 &&& 63)) ||| ((((xs ((x3 + 3)).toNatClampNeg) : Int32).toInt64) &&& 4294967295))]) (rest := [.int r1]) ⟨hx, hb, hml, hown, hts2⟩ (mr_limit l dC dI cA H.size P τ n [] g hA9.1 (xs ((x3 + 1)).toNatClampNeg) (((((xs ((x3 + 2)).toNatClampNeg) : Int32).toInt64) <<< ((32 : Int32).toInt64 &&& 63)) ||| ((((xs ((x3 + 3)).toNatClampNeg) : Int32).toInt64) &&& 4294967295))) (cwV 2 hts2 (al_gV wd_387 wd_388 wd_389 wd_2 wd_390) rfl rfl rfl (by decide +kernel) ⟨Nat.le_of_ble_eq_true rfl, Nat.le_of_ble_eq_true rfl⟩) ⟨ct_blM, va_recv hK hL2.1 (ci := 4) (q0 := 0) rfl (xm_W_0 _ _), ct_atM hL2.1 hK hL2.2⟩ rfl rfl hl.1 rfl (lv_room (Nat.le_of_ble_eq_true rfl)) dL_law_673 ⟨(by show _ + 0 ≤ 600000; omega), (by show _ + 0 ≤ 7302250; omega)⟩) hS (fun q _ h => hF2 q h) hF2 (fun r2 u2 t H1 locs1 ht hvm hw2 hB hz1 hk1 hS => ?_)
  obtain ⟨hP2, -, hD2⟩ := hB
  rw [ht] at hP2
  obtain ⟨hPs, hDs⟩ := ct_join1 hPs hDs hk1 hF2 hP2 hD2
  obtain ⟨hP, hD⟩ := ct_swap hPs hDs
  clear hL2 hF2 hk1 hz1 hP2 hD2 hvm hPs hDs
  generalize H1 = H at hP hS ht ⊢
  clear ht
  have SM := (SA σ co τ n ⟨hR.1, hR.2.2.2.2.1, by omega⟩ hA9).2.2.2.2.2.2.2.2.2.1 (xs ((x3 + 1)).toNatClampNeg) (((((xs ((x3 + 2)).toNatClampNeg) : Int32).toInt64) <<< ((32 : Int32).toInt64 &&& 63)) ||| ((((xs ((x3 + 3)).toNatClampNeg) : Int32).toInt64) &&& 4294967295))
  rw [← hw1, ← hw2] at SM
  refine W.widen (k := C + 2) (n := Z + 25) (by omega) (by omega) ?_
  refine lv_icmp_eq (tgt := 966) hx hb dL_law_676 (by decide) (fun c676 => ?_) (fun c676 => ?_)
  · exact K (xs_r u1.1 ra) u1.2 u2 n1 L1 f1 ad1 _ _ ls ⟨hR1, by omega, SM.2 n1 ⟨hR1.1, hR1.2.2.2.2.1, by omega⟩, hP, hD, hS⟩ (lv_sub hl [0, 1, 2, 3] rfl)
  · exact absurd SM.1 c676
set_option maxHeartbeats 4000000 in
set_option maxRecDepth 100000 in
theorem lc_10 {p : Program} {l : Launch} {e : Env} {s : State} {m : MethodId} {below : List Frame} {meth : Method} {c : Code} {dC : Nat → ClassId} {dI : Nat → Nat → Nat} {cA : Nat → ClassId} {b Lx : Nat} {xs : Nat → Int32} {Q P : Nat → Nat} {g : Nat → va_E} {tN : Nat} (C0 : lw_At p s m meth c b Lx xs) (hK : va_K (dC, dI) vwCl (ty_K cA) s) (hN : lw_N s tN) (SA : rl_all) {C Z T : Nat} (hC : C + 2 ≤ 600000) (hZ9 : Z + 25 ≤ 7302250) (hT9 : T < 1000) {x3 : Int32} (hI : ∀ k : Nat, k < 8 → vp_in (x3 + nI k) Lx)
    (K : ∀ (σ : xs_T) (co : co_T) (τ : xs_T) (n : nn_T) (L : List Nat) (f : Nat → va_E) (ad : ad_T) (H : Heap) (locs : List Loc) (ls : Array Slot), lw_I dC dI cA s Q P g σ co τ n L f ad H locs (T + 1) → lv_has ls 4 [(0, .ref b), (1, .ref (Q 0)), (2, .ref (P 0)), (3, .int x3)] → W p l e room_1 s m #[Value.ref b] below meth c H locs (C + 2) (Z + 25) (lw_Z below #[Value.ref b] s) (F0 m 966 ls []))
    (σ : xs_T) (co : co_T) (τ : xs_T) (n : nn_T) (L : List Nat) (f : Nat → va_E) (ad : ad_T) (H : Heap) (locs : List Loc) (ls : Array Slot) (hi : lw_I dC dI cA s Q P g σ co τ n L f ad H locs T) (hl : lv_has ls 4 [(0, .ref b), (1, .ref (Q 0)), (2, .ref (P 0)), (3, .int x3)]) : W p l e room_1 s m #[Value.ref b] below meth c H locs C Z (lw_Z below #[Value.ref b] s) (F0 m 681 ls []) := by
  obtain ⟨hx, hb, hr, hml, hown, hts, hX, hbl, hlocks, hgv⟩ := C0
  obtain ⟨hR, hnT, hA9, hP, hD, hS⟩ := hi
  obtain ⟨hN1, hN2, hZ, hTN⟩ := hN
  have hA : ∀ q : Nat, s.heap.size ≤ q → (fun q : Nat => s.heap.size ≤ q) q := fun _ h => h
  have hbA : ¬ (fun q : Nat => s.heap.size ≤ q) b := Nat.not_le.mpr hbl
  have hts2 := lw_hts hts
  refine lv_aload_n hx hb dL_law_681 rfl (lv_at hl 1 rfl) ?_
  refine lv_aload_n hx hb dL_law_682 rfl (lv_at hl 0 rfl) ?_
  refine lv_iload_n hx hb dL_law_683 rfl (lv_at hl 3 rfl) ?_
  refine lv_iconst (v := 1) hx hb dL_law_684 (by decide) ?_
  refine lv_iadd hx hb dL_law_685 ?_
  refine va_sld hx hb hX hbl hbA hS (hI 1 (by decide)) dL_law_686 ?_
  refine lv_aload_n hx hb dL_law_687 rfl (lv_at hl 0 rfl) ?_
  refine lv_iload_n hx hb dL_law_688 rfl (lv_at hl 3 rfl) ?_
  refine lv_iconst (v := 2) hx hb dL_law_689 (by decide) ?_
  refine lv_iadd hx hb dL_law_690 ?_
  refine va_sld hx hb hX hbl hbA hS (hI 2 (by decide)) dL_law_691 ?_
  have hL1 := ct_left hP hD
  have hF := ct_free hL1.2 hS hA
  refine va_calli (va_runV (As := [.int (xs ((x3 + 1)).toNatClampNeg), .int (xs ((x3 + 2)).toNatClampNeg)]) (rest := []) ⟨hx, hb, hml, hown, hts2⟩ (mt_decide l dC dI cA H.size Q σ n co L f ad hR (by omega) (xs ((x3 + 1)).toNatClampNeg) (xs ((x3 + 2)).toNatClampNeg)) (cwV 2 hts2 (al_gV wd_210 wd_211 wd_212 wd_1 wd_213) rfl rfl rfl (by decide +kernel) ⟨Nat.le_of_ble_eq_true rfl, Nat.le_of_ble_eq_true rfl⟩) ⟨ct_blM, va_recv hK hL1.1 (ci := 3) (q0 := 0) rfl (xc_W_0 _ _), ct_atM hL1.1 hK hL1.2⟩ rfl rfl hl.1 rfl (lv_room (Nat.le_of_ble_eq_true rfl)) dL_law_692 ⟨(by show _ + 0 ≤ 600000; omega), (by show _ + 0 ≤ 7302250; omega)⟩) hS (fun q _ h => hF q h) hF (fun r1 u1 t H1 locs1 ht hvm hw1 hB hz1 hk1 hS => ?_)
  obtain ⟨ra, n1, L1, f1, ad1, hn1, hR1, hP1, -, hD1⟩ := hB
  rw [ht] at hP1
  obtain ⟨hP, hD⟩ := ct_join1 hP hD hk1 hF hP1 hD1
  clear hL1 hF hk1 hz1 hP1 hD1 hvm
  generalize H1 = H at hP hS ht ⊢
  clear ht
  refine lv_aload_n hx hb dL_law_695 rfl (lv_at hl 2 rfl) ?_
  refine lv_aload_n hx hb dL_law_696 rfl (lv_at hl 0 rfl) ?_
  refine lv_iload_n hx hb dL_law_697 rfl (lv_at hl 3 rfl) ?_
  refine lv_iconst (v := 1) hx hb dL_law_698 (by decide) ?_
  refine lv_iadd hx hb dL_law_699 ?_
  refine va_sld hx hb hX hbl hbA hS (hI 1 (by decide)) dL_law_700 ?_
  refine lv_aload_n hx hb dL_law_701 rfl (lv_at hl 0 rfl) ?_
  refine lv_iload_n hx hb dL_law_702 rfl (lv_at hl 3 rfl) ?_
  refine lv_iconst (v := 2) hx hb dL_law_703 (by decide) ?_
  refine lv_iadd hx hb dL_law_704 ?_
  refine va_sld hx hb hX hbl hbA hS (hI 2 (by decide)) dL_law_705 ?_
  obtain ⟨hPs, hDs⟩ := ct_swap hP hD
  have hL2 := ct_left hPs hDs
  have hF2 := ct_free hL2.2 hS hA
  refine va_calli (va_runV (As := [.int (xs ((x3 + 1)).toNatClampNeg), .int (xs ((x3 + 2)).toNatClampNeg)]) (rest := [.int r1]) ⟨hx, hb, hml, hown, hts2⟩ (mr_decide l dC dI cA H.size P τ n [] g hA9.1 (xs ((x3 + 1)).toNatClampNeg) (xs ((x3 + 2)).toNatClampNeg)) (cwV 2 hts2 (al_gV wd_392 wd_393 wd_394 wd_2 wd_395) rfl rfl rfl (by decide +kernel) ⟨Nat.le_of_ble_eq_true rfl, Nat.le_of_ble_eq_true rfl⟩) ⟨ct_blM, va_recv hK hL2.1 (ci := 4) (q0 := 0) rfl (xm_W_0 _ _), ct_atM hL2.1 hK hL2.2⟩ rfl rfl hl.1 rfl (lv_room (Nat.le_of_ble_eq_true rfl)) dL_law_706 ⟨(by show _ + 0 ≤ 600000; omega), (by show _ + 0 ≤ 7302250; omega)⟩) hS (fun q _ h => hF2 q h) hF2 (fun r2 u2 t H1 locs1 ht hvm hw2 hB hz1 hk1 hS => ?_)
  obtain ⟨hP2, -, hD2⟩ := hB
  rw [ht] at hP2
  obtain ⟨hPs, hDs⟩ := ct_join1 hPs hDs hk1 hF2 hP2 hD2
  obtain ⟨hP, hD⟩ := ct_swap hPs hDs
  clear hL2 hF2 hk1 hz1 hP2 hD2 hvm hPs hDs
  generalize H1 = H at hP hS ht ⊢
  clear ht
  have SM := (SA σ co τ n ⟨hR.1, hR.2.2.2.2.1, by omega⟩ hA9).2.2.2.2.2.2.2.2.2.2.1 (xs ((x3 + 1)).toNatClampNeg) (xs ((x3 + 2)).toNatClampNeg)
  rw [← hw1, ← hw2] at SM
  refine W.widen (k := C + 2) (n := Z + 25) (by omega) (by omega) ?_
  refine lv_icmp_eq (tgt := 966) hx hb dL_law_709 (by decide) (fun c709 => ?_) (fun c709 => ?_)
  · exact K (xs_r u1.1 ra) u1.2 u2 n1 L1 f1 ad1 _ _ ls ⟨hR1, by omega, SM.2 n1 ⟨hR1.1, hR1.2.2.2.2.1, by omega⟩, hP, hD, hS⟩ (lv_sub hl [0, 1, 2, 3] rfl)
  · exact absurd SM.1 c709
set_option maxHeartbeats 4000000 in
set_option maxRecDepth 100000 in
theorem lc_11 {p : Program} {l : Launch} {e : Env} {s : State} {m : MethodId} {below : List Frame} {meth : Method} {c : Code} {dC : Nat → ClassId} {dI : Nat → Nat → Nat} {cA : Nat → ClassId} {b Lx : Nat} {xs : Nat → Int32} {Q P : Nat → Nat} {g : Nat → va_E} {tN : Nat} (C0 : lw_At p s m meth c b Lx xs) (hK : va_K (dC, dI) vwCl (ty_K cA) s) (hN : lw_N s tN) (SA : rl_all) {C Z T : Nat} (hC : C + 2 ≤ 600000) (hZ9 : Z + 25 ≤ 7302250) (hT9 : T < 1000) {x3 : Int32} (hI : ∀ k : Nat, k < 8 → vp_in (x3 + nI k) Lx)
    (K : ∀ (σ : xs_T) (co : co_T) (τ : xs_T) (n : nn_T) (L : List Nat) (f : Nat → va_E) (ad : ad_T) (H : Heap) (locs : List Loc) (ls : Array Slot), lw_I dC dI cA s Q P g σ co τ n L f ad H locs (T + 1) → lv_has ls 4 [(0, .ref b), (1, .ref (Q 0)), (2, .ref (P 0)), (3, .int x3)] → W p l e room_1 s m #[Value.ref b] below meth c H locs C Z (lw_Z below #[Value.ref b] s) (F0 m 966 ls []))
    (σ : xs_T) (co : co_T) (τ : xs_T) (n : nn_T) (L : List Nat) (f : Nat → va_E) (ad : ad_T) (H : Heap) (locs : List Loc) (ls : Array Slot) (hi : lw_I dC dI cA s Q P g σ co τ n L f ad H locs T) (hl : lv_has ls 4 [(0, .ref b), (1, .ref (Q 0)), (2, .ref (P 0)), (3, .int x3)]) : W p l e room_1 s m #[Value.ref b] below meth c H locs C Z (lw_Z below #[Value.ref b] s) (F0 m 714 ls []) := by
  obtain ⟨hx, hb, hr, hml, hown, hts, hX, hbl, hlocks, hgv⟩ := C0
  obtain ⟨hR, hnT, hA9, hP, hD, hS⟩ := hi
  obtain ⟨hN1, hN2, hZ, hTN⟩ := hN
  have hA : ∀ q : Nat, s.heap.size ≤ q → (fun q : Nat => s.heap.size ≤ q) q := fun _ h => h
  have hbA : ¬ (fun q : Nat => s.heap.size ≤ q) b := Nat.not_le.mpr hbl
  have hts2 := lw_hts hts
  refine lv_aload_n hx hb dL_law_714 rfl (lv_at hl 1 rfl) ?_
  refine lv_aload_n hx hb dL_law_715 rfl (lv_at hl 0 rfl) ?_
  refine lv_iload_n hx hb dL_law_716 rfl (lv_at hl 3 rfl) ?_
  refine lv_iconst (v := 1) hx hb dL_law_717 (by decide) ?_
  refine lv_iadd hx hb dL_law_718 ?_
  refine va_sld hx hb hX hbl hbA hS (hI 1 (by decide)) dL_law_719 ?_
  refine lv_aload_n hx hb dL_law_720 rfl (lv_at hl 0 rfl) ?_
  refine lv_iload_n hx hb dL_law_721 rfl (lv_at hl 3 rfl) ?_
  refine lv_iconst (v := 2) hx hb dL_law_722 (by decide) ?_
  refine lv_iadd hx hb dL_law_723 ?_
  refine va_sld hx hb hX hbl hbA hS (hI 2 (by decide)) dL_law_724 ?_
  have hL1 := ct_left hP hD
  have hF := ct_free hL1.2 hS hA
  refine vp_callSl (va_Run.run (va_runV (As := [.int (xs ((x3 + 1)).toNatClampNeg), .int (xs ((x3 + 2)).toNatClampNeg)]) (rest := []) ⟨hx, hb, hml, hown, hts2⟩ (mt_share l dC dI cA Q σ n co L f ad hR (by omega) (xs ((x3 + 1)).toNatClampNeg) (xs ((x3 + 2)).toNatClampNeg)) (cwV 2 hts2 (al_gV wd_226 wd_227 wd_228 wd_1 wd_229) rfl rfl rfl (by decide +kernel) ⟨Nat.le_of_ble_eq_true rfl, Nat.le_of_ble_eq_true rfl⟩) ⟨ct_blR, va_recv hK hL1.1 (ci := 3) (q0 := 0) rfl (xc_W_0 _ _), ct_atR hL1.1 hK⟩ rfl rfl hl.1 rfl (lv_room (Nat.le_of_ble_eq_true rfl)) dL_law_725 ⟨(by show _ + 0 ≤ 600000; omega), (by show _ + 0 ≤ 7302250; omega)⟩)) (fun r1 hw1 => ?_)
  refine lv_aload_n hx hb dL_law_728 rfl (lv_at hl 2 rfl) ?_
  refine lv_aload_n hx hb dL_law_729 rfl (lv_at hl 0 rfl) ?_
  refine lv_iload_n hx hb dL_law_730 rfl (lv_at hl 3 rfl) ?_
  refine lv_iconst (v := 1) hx hb dL_law_731 (by decide) ?_
  refine lv_iadd hx hb dL_law_732 ?_
  refine va_sld hx hb hX hbl hbA hS (hI 1 (by decide)) dL_law_733 ?_
  refine lv_aload_n hx hb dL_law_734 rfl (lv_at hl 0 rfl) ?_
  refine lv_iload_n hx hb dL_law_735 rfl (lv_at hl 3 rfl) ?_
  refine lv_iconst (v := 2) hx hb dL_law_736 (by decide) ?_
  refine lv_iadd hx hb dL_law_737 ?_
  refine va_sld hx hb hX hbl hbA hS (hI 2 (by decide)) dL_law_738 ?_
  obtain ⟨hPs, hDs⟩ := ct_swap hP hD
  have hL2 := ct_left hPs hDs
  have hF2 := ct_free hL2.2 hS hA
  refine vp_callSl (va_Run.run (va_runV (As := [.int (xs ((x3 + 1)).toNatClampNeg), .int (xs ((x3 + 2)).toNatClampNeg)]) (rest := [.long r1]) ⟨hx, hb, hml, hown, hts2⟩ (mr_share l dC dI cA P τ n [] g hA9.1 (xs ((x3 + 1)).toNatClampNeg) (xs ((x3 + 2)).toNatClampNeg)) (cwV 2 hts2 (al_gV wd_400 wd_401 wd_402 wd_2 wd_403) rfl rfl rfl (by decide +kernel) ⟨Nat.le_of_ble_eq_true rfl, Nat.le_of_ble_eq_true rfl⟩) ⟨ct_blR, va_recv hK hL2.1 (ci := 4) (q0 := 0) rfl (xm_W_0 _ _), ct_atR hL2.1 hK⟩ rfl rfl hl.1 rfl (lv_room (Nat.le_of_ble_eq_true rfl)) dL_law_739 ⟨(by show _ + 0 ≤ 600000; omega), (by show _ + 0 ≤ 7302250; omega)⟩)) (fun r2 hw2 => ?_)
  have SM : r1 = r2 := by rw [hw1, hw2]; exact (SA σ co τ n ⟨hR.1, hR.2.2.2.2.1, by omega⟩ hA9).2.2.2.2.2.2.2.2.2.2.2.1 (xs ((x3 + 1)).toNatClampNeg) (xs ((x3 + 2)).toNatClampNeg)
  refine W.lcmp hx hb dL_law_742 ?_
  refine lv_if_eq (tgt := 966) hx hb dL_law_743 (by decide) (fun c743 => ?_) (fun c743 => ?_)
  · exact K σ co τ n L f ad _ _ ls ⟨hR, by omega, hA9, hP, hD, hS⟩ (lv_sub hl [0, 1, 2, 3] rfl)
  · exact absurd (by rw [SM]; exact lg_self _) c743
set_option maxHeartbeats 4000000 in
set_option maxRecDepth 100000 in
theorem lc_12 {p : Program} {l : Launch} {e : Env} {s : State} {m : MethodId} {below : List Frame} {meth : Method} {c : Code} {dC : Nat → ClassId} {dI : Nat → Nat → Nat} {cA : Nat → ClassId} {b Lx : Nat} {xs : Nat → Int32} {Q P : Nat → Nat} {g : Nat → va_E} {tN : Nat} (C0 : lw_At p s m meth c b Lx xs) (hK : va_K (dC, dI) vwCl (ty_K cA) s) (hN : lw_N s tN) (SA : rl_all) {C Z T : Nat} (hC : C + 2 ≤ 600000) (hZ9 : Z + 25 ≤ 7302250) (hT9 : T < 1000) {x3 : Int32} (hI : ∀ k : Nat, k < 8 → vp_in (x3 + nI k) Lx)
    (K : ∀ (σ : xs_T) (co : co_T) (τ : xs_T) (n : nn_T) (L : List Nat) (f : Nat → va_E) (ad : ad_T) (H : Heap) (locs : List Loc) (ls : Array Slot), lw_I dC dI cA s Q P g σ co τ n L f ad H locs (T + 1) → lv_has ls 4 [(0, .ref b), (1, .ref (Q 0)), (2, .ref (P 0)), (3, .int x3)] → W p l e room_1 s m #[Value.ref b] below meth c H locs (C + 2) (Z + 25) (lw_Z below #[Value.ref b] s) (F0 m 966 ls []))
    (σ : xs_T) (co : co_T) (τ : xs_T) (n : nn_T) (L : List Nat) (f : Nat → va_E) (ad : ad_T) (H : Heap) (locs : List Loc) (ls : Array Slot) (hi : lw_I dC dI cA s Q P g σ co τ n L f ad H locs T) (hl : lv_has ls 4 [(0, .ref b), (1, .ref (Q 0)), (2, .ref (P 0)), (3, .int x3)]) : W p l e room_1 s m #[Value.ref b] below meth c H locs C Z (lw_Z below #[Value.ref b] s) (F0 m 748 ls []) := by
  obtain ⟨hx, hb, hr, hml, hown, hts, hX, hbl, hlocks, hgv⟩ := C0
  obtain ⟨hR, hnT, hA9, hP, hD, hS⟩ := hi
  obtain ⟨hN1, hN2, hZ, hTN⟩ := hN
  have hA : ∀ q : Nat, s.heap.size ≤ q → (fun q : Nat => s.heap.size ≤ q) q := fun _ h => h
  have hbA : ¬ (fun q : Nat => s.heap.size ≤ q) b := Nat.not_le.mpr hbl
  have hts2 := lw_hts hts
  refine lv_aload_n hx hb dL_law_748 rfl (lv_at hl 1 rfl) ?_
  refine lv_aload_n hx hb dL_law_749 rfl (lv_at hl 0 rfl) ?_
  refine lv_iload_n hx hb dL_law_750 rfl (lv_at hl 3 rfl) ?_
  refine lv_iconst (v := 1) hx hb dL_law_751 (by decide) ?_
  refine lv_iadd hx hb dL_law_752 ?_
  refine va_sld hx hb hX hbl hbA hS (hI 1 (by decide)) dL_law_753 ?_
  have hL1 := ct_left hP hD
  have hF := ct_free hL1.2 hS hA
  refine va_calli (va_runV (As := [.int (xs ((x3 + 1)).toNatClampNeg)]) (rest := []) ⟨hx, hb, hml, hown, hts2⟩ (mt_found l dC dI cA H.size Q σ n co L f ad hR (by omega) (xs ((x3 + 1)).toNatClampNeg)) (cwV 1 hts2 (al_gV wd_235 wd_236 wd_237 wd_1 wd_238) rfl rfl rfl (by decide +kernel) ⟨Nat.le_of_ble_eq_true rfl, Nat.le_of_ble_eq_true rfl⟩) ⟨ct_blM, va_recv hK hL1.1 (ci := 3) (q0 := 0) rfl (xc_W_0 _ _), ct_atM hL1.1 hK hL1.2⟩ rfl rfl hl.1 rfl (lv_room (Nat.le_of_ble_eq_true rfl)) dL_law_754 ⟨(by show _ + 0 ≤ 600000; omega), (by show _ + 0 ≤ 7302250; omega)⟩) hS (fun q _ h => hF q h) hF (fun r1 u1 t H1 locs1 ht hvm hw1 hB hz1 hk1 hS => ?_)
  obtain ⟨ra, n1, L1, f1, ad1, hn1, hR1, hP1, -, hD1⟩ := hB
  rw [ht] at hP1
  obtain ⟨hP, hD⟩ := ct_join1 hP hD hk1 hF hP1 hD1
  clear hL1 hF hk1 hz1 hP1 hD1 hvm
  generalize H1 = H at hP hS ht ⊢
  clear ht
  refine lv_aload_n hx hb dL_law_757 rfl (lv_at hl 2 rfl) ?_
  refine lv_aload_n hx hb dL_law_758 rfl (lv_at hl 0 rfl) ?_
  refine lv_iload_n hx hb dL_law_759 rfl (lv_at hl 3 rfl) ?_
  refine lv_iconst (v := 1) hx hb dL_law_760 (by decide) ?_
  refine lv_iadd hx hb dL_law_761 ?_
  refine va_sld hx hb hX hbl hbA hS (hI 1 (by decide)) dL_law_762 ?_
  obtain ⟨hPs, hDs⟩ := ct_swap hP hD
  have hL2 := ct_left hPs hDs
  have hF2 := ct_free hL2.2 hS hA
  refine va_calli (va_runV (As := [.int (xs ((x3 + 1)).toNatClampNeg)]) (rest := [.int r1]) ⟨hx, hb, hml, hown, hts2⟩ (mr_found l dC dI cA H.size P τ n [] g hA9.1 (xs ((x3 + 1)).toNatClampNeg)) (cwV 1 hts2 (al_gV wd_405 wd_406 wd_407 wd_2 wd_408) rfl rfl rfl (by decide +kernel) ⟨Nat.le_of_ble_eq_true rfl, Nat.le_of_ble_eq_true rfl⟩) ⟨ct_blM, va_recv hK hL2.1 (ci := 4) (q0 := 0) rfl (xm_W_0 _ _), ct_atM hL2.1 hK hL2.2⟩ rfl rfl hl.1 rfl (lv_room (Nat.le_of_ble_eq_true rfl)) dL_law_763 ⟨(by show _ + 0 ≤ 600000; omega), (by show _ + 0 ≤ 7302250; omega)⟩) hS (fun q _ h => hF2 q h) hF2 (fun r2 u2 t H1 locs1 ht hvm hw2 hB hz1 hk1 hS => ?_)
  obtain ⟨hP2, -, hD2⟩ := hB
  rw [ht] at hP2
  obtain ⟨hPs, hDs⟩ := ct_join1 hPs hDs hk1 hF2 hP2 hD2
  obtain ⟨hP, hD⟩ := ct_swap hPs hDs
  clear hL2 hF2 hk1 hz1 hP2 hD2 hvm hPs hDs
  generalize H1 = H at hP hS ht ⊢
  clear ht
  have SM := (SA σ co τ n ⟨hR.1, hR.2.2.2.2.1, by omega⟩ hA9).2.2.2.2.2.2.2.2.2.2.2.2.1 (xs ((x3 + 1)).toNatClampNeg)
  rw [← hw1, ← hw2] at SM
  refine W.widen (k := C + 2) (n := Z + 25) (by omega) (by omega) ?_
  refine lv_icmp_eq (tgt := 966) hx hb dL_law_766 (by decide) (fun c766 => ?_) (fun c766 => ?_)
  · exact K (xs_r u1.1 ra) u1.2 u2 n1 L1 f1 ad1 _ _ ls ⟨hR1, by omega, SM.2 n1 ⟨hR1.1, hR1.2.2.2.2.1, by omega⟩, hP, hD, hS⟩ (lv_sub hl [0, 1, 2, 3] rfl)
  · exact absurd SM.1 c766
set_option maxHeartbeats 4000000 in
set_option maxRecDepth 100000 in
theorem lc_13 {p : Program} {l : Launch} {e : Env} {s : State} {m : MethodId} {below : List Frame} {meth : Method} {c : Code} {dC : Nat → ClassId} {dI : Nat → Nat → Nat} {cA : Nat → ClassId} {b Lx : Nat} {xs : Nat → Int32} {Q P : Nat → Nat} {g : Nat → va_E} {tN : Nat} (C0 : lw_At p s m meth c b Lx xs) (hK : va_K (dC, dI) vwCl (ty_K cA) s) (hN : lw_N s tN) (SA : rl_all) {C Z T : Nat} (hC : C + 2 ≤ 600000) (hZ9 : Z + 25 ≤ 7302250) (hT9 : T < 1000) {x3 : Int32} (hI : ∀ k : Nat, k < 8 → vp_in (x3 + nI k) Lx)
    (K : ∀ (σ : xs_T) (co : co_T) (τ : xs_T) (n : nn_T) (L : List Nat) (f : Nat → va_E) (ad : ad_T) (H : Heap) (locs : List Loc) (ls : Array Slot), lw_I dC dI cA s Q P g σ co τ n L f ad H locs (T + 1) → lv_has ls 4 [(0, .ref b), (1, .ref (Q 0)), (2, .ref (P 0)), (3, .int x3)] → W p l e room_1 s m #[Value.ref b] below meth c H locs (C + 2) (Z + 25) (lw_Z below #[Value.ref b] s) (F0 m 966 ls []))
    (σ : xs_T) (co : co_T) (τ : xs_T) (n : nn_T) (L : List Nat) (f : Nat → va_E) (ad : ad_T) (H : Heap) (locs : List Loc) (ls : Array Slot) (hi : lw_I dC dI cA s Q P g σ co τ n L f ad H locs T) (hl : lv_has ls 4 [(0, .ref b), (1, .ref (Q 0)), (2, .ref (P 0)), (3, .int x3)]) : W p l e room_1 s m #[Value.ref b] below meth c H locs C Z (lw_Z below #[Value.ref b] s) (F0 m 771 ls []) := by
  obtain ⟨hx, hb, hr, hml, hown, hts, hX, hbl, hlocks, hgv⟩ := C0
  obtain ⟨hR, hnT, hA9, hP, hD, hS⟩ := hi
  obtain ⟨hN1, hN2, hZ, hTN⟩ := hN
  have hA : ∀ q : Nat, s.heap.size ≤ q → (fun q : Nat => s.heap.size ≤ q) q := fun _ h => h
  have hbA : ¬ (fun q : Nat => s.heap.size ≤ q) b := Nat.not_le.mpr hbl
  have hts2 := lw_hts hts
  refine lv_aload_n hx hb dL_law_771 rfl (lv_at hl 1 rfl) ?_
  refine lv_aload_n hx hb dL_law_772 rfl (lv_at hl 0 rfl) ?_
  refine lv_iload_n hx hb dL_law_773 rfl (lv_at hl 3 rfl) ?_
  refine lv_iconst (v := 1) hx hb dL_law_774 (by decide) ?_
  refine lv_iadd hx hb dL_law_775 ?_
  refine va_sld hx hb hX hbl hbA hS (hI 1 (by decide)) dL_law_776 ?_
  refine lv_aload_n hx hb dL_law_777 rfl (lv_at hl 0 rfl) ?_
  refine lv_iload_n hx hb dL_law_778 rfl (lv_at hl 3 rfl) ?_
  refine lv_iconst (v := 2) hx hb dL_law_779 (by decide) ?_
  refine lv_iadd hx hb dL_law_780 ?_
  refine va_sld hx hb hX hbl hbA hS (hI 2 (by decide)) dL_law_781 ?_
  refine lv_if_eq (tgt := 789) hx hb dL_law_782 (by decide) (fun c782 => ?_) (fun c782 => ?_)
  · refine lv_iconst (v := 0) hx hb dL_law_789 (by decide) ?_
    have hL1 := ct_left hP hD
    have hF := ct_free hL1.2 hS hA
    refine va_calli (va_runV (As := [.int (xs ((x3 + 1)).toNatClampNeg), .int 0]) (rest := []) ⟨hx, hb, hml, hown, hts2⟩ (mt_back l dC dI cA H.size Q σ n co L f ad hR (by omega) (xs ((x3 + 1)).toNatClampNeg) false) (cwV 2 hts2 (al_gV wd_239 wd_240 wd_241 wd_1 wd_242) rfl rfl rfl (by decide +kernel) ⟨Nat.le_of_ble_eq_true rfl, Nat.le_of_ble_eq_true rfl⟩) ⟨ct_blM, va_recv hK hL1.1 (ci := 3) (q0 := 0) rfl (xc_W_0 _ _), ct_atM hL1.1 hK hL1.2⟩ rfl rfl hl.1 rfl (lv_room (Nat.le_of_ble_eq_true rfl)) dL_law_790 ⟨(by show _ + 0 ≤ 600000; omega), (by show _ + 0 ≤ 7302250; omega)⟩) hS (fun q _ h => hF q h) hF (fun r1 u1 t H1 locs1 ht hvm hw1 hB hz1 hk1 hS => ?_)
    obtain ⟨ra, n1, L1, f1, ad1, hn1, hR1, hP1, -, hD1⟩ := hB
    rw [ht] at hP1
    obtain ⟨hP, hD⟩ := ct_join1 hP hD hk1 hF hP1 hD1
    clear hL1 hF hk1 hz1 hP1 hD1 hvm
    generalize H1 = H at hP hS ht ⊢
    clear ht
    refine lv_aload_n hx hb dL_law_793 rfl (lv_at hl 2 rfl) ?_
    refine lv_aload_n hx hb dL_law_794 rfl (lv_at hl 0 rfl) ?_
    refine lv_iload_n hx hb dL_law_795 rfl (lv_at hl 3 rfl) ?_
    refine lv_iconst (v := 1) hx hb dL_law_796 (by decide) ?_
    refine lv_iadd hx hb dL_law_797 ?_
    refine va_sld hx hb hX hbl hbA hS (hI 1 (by decide)) dL_law_798 ?_
    refine lv_aload_n hx hb dL_law_799 rfl (lv_at hl 0 rfl) ?_
    refine lv_iload_n hx hb dL_law_800 rfl (lv_at hl 3 rfl) ?_
    refine lv_iconst (v := 2) hx hb dL_law_801 (by decide) ?_
    refine lv_iadd hx hb dL_law_802 ?_
    refine va_sld hx hb hX hbl hbA hS (hI 2 (by decide)) dL_law_803 ?_
    refine lv_if_eq (tgt := 811) hx hb dL_law_804 (by decide) (fun c804 => ?_) (fun c804 => ?_)
    · refine lv_iconst (v := 0) hx hb dL_law_811 (by decide) ?_
      obtain ⟨hPs, hDs⟩ := ct_swap hP hD
      have hL2 := ct_left hPs hDs
      have hF2 := ct_free hL2.2 hS hA
      refine va_calli (va_runV (As := [.int (xs ((x3 + 1)).toNatClampNeg), .int 0]) (rest := [.int r1]) ⟨hx, hb, hml, hown, hts2⟩ (mr_back l dC dI cA H.size P τ n [] g hA9.1 (xs ((x3 + 1)).toNatClampNeg) false) (cwV 2 hts2 (al_gV wd_409 wd_410 wd_411 wd_2 wd_412) rfl rfl rfl (by decide +kernel) ⟨Nat.le_of_ble_eq_true rfl, Nat.le_of_ble_eq_true rfl⟩) ⟨ct_blM, va_recv hK hL2.1 (ci := 4) (q0 := 0) rfl (xm_W_0 _ _), ct_atM hL2.1 hK hL2.2⟩ rfl rfl hl.1 rfl (lv_room (Nat.le_of_ble_eq_true rfl)) dL_law_812 ⟨(by show _ + 0 ≤ 600000; omega), (by show _ + 0 ≤ 7302250; omega)⟩) hS (fun q _ h => hF2 q h) hF2 (fun r2 u2 t H1 locs1 ht hvm hw2 hB hz1 hk1 hS => ?_)
      obtain ⟨hP2, -, hD2⟩ := hB
      rw [ht] at hP2
      obtain ⟨hPs, hDs⟩ := ct_join1 hPs hDs hk1 hF2 hP2 hD2
      obtain ⟨hP, hD⟩ := ct_swap hPs hDs
      clear hL2 hF2 hk1 hz1 hP2 hD2 hvm hPs hDs
      generalize H1 = H at hP hS ht ⊢
      clear ht
      have SM := (SA σ co τ n ⟨hR.1, hR.2.2.2.2.1, by omega⟩ hA9).2.2.2.2.2.2.2.2.2.2.2.2.2.1 (xs ((x3 + 1)).toNatClampNeg) false
      rw [← hw1, ← hw2] at SM
      refine W.widen (k := C + 2) (n := Z + 25) (by omega) (by omega) ?_
      refine lv_icmp_eq (tgt := 966) hx hb dL_law_815 (by decide) (fun c815 => ?_) (fun c815 => ?_)
      · exact K (xs_r u1.1 ra) u1.2 u2 n1 L1 f1 ad1 _ _ ls ⟨hR1, by omega, SM.2 n1 ⟨hR1.1, hR1.2.2.2.2.1, by omega⟩, hP, hD, hS⟩ (lv_sub hl [0, 1, 2, 3] rfl)
      · exact absurd SM.1 c815
    · exact absurd c782 c804
  · refine lv_iconst (v := 1) hx hb dL_law_785 (by decide) ?_
    refine lv_goto (tgt := 790) hx hb dL_law_786 (by decide) ?_
    have hL1 := ct_left hP hD
    have hF := ct_free hL1.2 hS hA
    refine va_calli (va_runV (As := [.int (xs ((x3 + 1)).toNatClampNeg), .int 1]) (rest := []) ⟨hx, hb, hml, hown, hts2⟩ (mt_back l dC dI cA H.size Q σ n co L f ad hR (by omega) (xs ((x3 + 1)).toNatClampNeg) true) (cwV 2 hts2 (al_gV wd_239 wd_240 wd_241 wd_1 wd_242) rfl rfl rfl (by decide +kernel) ⟨Nat.le_of_ble_eq_true rfl, Nat.le_of_ble_eq_true rfl⟩) ⟨ct_blM, va_recv hK hL1.1 (ci := 3) (q0 := 0) rfl (xc_W_0 _ _), ct_atM hL1.1 hK hL1.2⟩ rfl rfl hl.1 rfl (lv_room (Nat.le_of_ble_eq_true rfl)) dL_law_790 ⟨(by show _ + 0 ≤ 600000; omega), (by show _ + 0 ≤ 7302250; omega)⟩) hS (fun q _ h => hF q h) hF (fun r1 u1 t H1 locs1 ht hvm hw1 hB hz1 hk1 hS => ?_)
    obtain ⟨ra, n1, L1, f1, ad1, hn1, hR1, hP1, -, hD1⟩ := hB
    rw [ht] at hP1
    obtain ⟨hP, hD⟩ := ct_join1 hP hD hk1 hF hP1 hD1
    clear hL1 hF hk1 hz1 hP1 hD1 hvm
    generalize H1 = H at hP hS ht ⊢
    clear ht
    refine lv_aload_n hx hb dL_law_793 rfl (lv_at hl 2 rfl) ?_
    refine lv_aload_n hx hb dL_law_794 rfl (lv_at hl 0 rfl) ?_
    refine lv_iload_n hx hb dL_law_795 rfl (lv_at hl 3 rfl) ?_
    refine lv_iconst (v := 1) hx hb dL_law_796 (by decide) ?_
    refine lv_iadd hx hb dL_law_797 ?_
    refine va_sld hx hb hX hbl hbA hS (hI 1 (by decide)) dL_law_798 ?_
    refine lv_aload_n hx hb dL_law_799 rfl (lv_at hl 0 rfl) ?_
    refine lv_iload_n hx hb dL_law_800 rfl (lv_at hl 3 rfl) ?_
    refine lv_iconst (v := 2) hx hb dL_law_801 (by decide) ?_
    refine lv_iadd hx hb dL_law_802 ?_
    refine va_sld hx hb hX hbl hbA hS (hI 2 (by decide)) dL_law_803 ?_
    refine lv_if_eq (tgt := 811) hx hb dL_law_804 (by decide) (fun c804 => ?_) (fun c804 => ?_)
    · exact absurd c804 c782
    · refine lv_iconst (v := 1) hx hb dL_law_807 (by decide) ?_
      refine lv_goto (tgt := 812) hx hb dL_law_808 (by decide) ?_
      obtain ⟨hPs, hDs⟩ := ct_swap hP hD
      have hL2 := ct_left hPs hDs
      have hF2 := ct_free hL2.2 hS hA
      refine va_calli (va_runV (As := [.int (xs ((x3 + 1)).toNatClampNeg), .int 1]) (rest := [.int r1]) ⟨hx, hb, hml, hown, hts2⟩ (mr_back l dC dI cA H.size P τ n [] g hA9.1 (xs ((x3 + 1)).toNatClampNeg) true) (cwV 2 hts2 (al_gV wd_409 wd_410 wd_411 wd_2 wd_412) rfl rfl rfl (by decide +kernel) ⟨Nat.le_of_ble_eq_true rfl, Nat.le_of_ble_eq_true rfl⟩) ⟨ct_blM, va_recv hK hL2.1 (ci := 4) (q0 := 0) rfl (xm_W_0 _ _), ct_atM hL2.1 hK hL2.2⟩ rfl rfl hl.1 rfl (lv_room (Nat.le_of_ble_eq_true rfl)) dL_law_812 ⟨(by show _ + 0 ≤ 600000; omega), (by show _ + 0 ≤ 7302250; omega)⟩) hS (fun q _ h => hF2 q h) hF2 (fun r2 u2 t H1 locs1 ht hvm hw2 hB hz1 hk1 hS => ?_)
      obtain ⟨hP2, -, hD2⟩ := hB
      rw [ht] at hP2
      obtain ⟨hPs, hDs⟩ := ct_join1 hPs hDs hk1 hF2 hP2 hD2
      obtain ⟨hP, hD⟩ := ct_swap hPs hDs
      clear hL2 hF2 hk1 hz1 hP2 hD2 hvm hPs hDs
      generalize H1 = H at hP hS ht ⊢
      clear ht
      have SM := (SA σ co τ n ⟨hR.1, hR.2.2.2.2.1, by omega⟩ hA9).2.2.2.2.2.2.2.2.2.2.2.2.2.1 (xs ((x3 + 1)).toNatClampNeg) true
      rw [← hw1, ← hw2] at SM
      refine W.widen (k := C + 2) (n := Z + 25) (by omega) (by omega) ?_
      refine lv_icmp_eq (tgt := 966) hx hb dL_law_815 (by decide) (fun c815 => ?_) (fun c815 => ?_)
      · exact K (xs_r u1.1 ra) u1.2 u2 n1 L1 f1 ad1 _ _ ls ⟨hR1, by omega, SM.2 n1 ⟨hR1.1, hR1.2.2.2.2.1, by omega⟩, hP, hD, hS⟩ (lv_sub hl [0, 1, 2, 3] rfl)
      · exact absurd SM.1 c815
set_option maxHeartbeats 4000000 in
set_option maxRecDepth 100000 in
theorem lc_14 {p : Program} {l : Launch} {e : Env} {s : State} {m : MethodId} {below : List Frame} {meth : Method} {c : Code} {dC : Nat → ClassId} {dI : Nat → Nat → Nat} {cA : Nat → ClassId} {b Lx : Nat} {xs : Nat → Int32} {Q P : Nat → Nat} {g : Nat → va_E} {tN : Nat} (C0 : lw_At p s m meth c b Lx xs) (hK : va_K (dC, dI) vwCl (ty_K cA) s) (hN : lw_N s tN) (SA : rl_all) {C Z T : Nat} (hC : C + 2 ≤ 600000) (hZ9 : Z + 25 ≤ 7302250) (hT9 : T < 1000) {x3 : Int32} (hI : ∀ k : Nat, k < 8 → vp_in (x3 + nI k) Lx)
    (K : ∀ (σ : xs_T) (co : co_T) (τ : xs_T) (n : nn_T) (L : List Nat) (f : Nat → va_E) (ad : ad_T) (H : Heap) (locs : List Loc) (ls : Array Slot), lw_I dC dI cA s Q P g σ co τ n L f ad H locs (T + 1) → lv_has ls 4 [(0, .ref b), (1, .ref (Q 0)), (2, .ref (P 0)), (3, .int x3)] → W p l e room_1 s m #[Value.ref b] below meth c H locs (C + 2) (Z + 25) (lw_Z below #[Value.ref b] s) (F0 m 966 ls []))
    (σ : xs_T) (co : co_T) (τ : xs_T) (n : nn_T) (L : List Nat) (f : Nat → va_E) (ad : ad_T) (H : Heap) (locs : List Loc) (ls : Array Slot) (hi : lw_I dC dI cA s Q P g σ co τ n L f ad H locs T) (hl : lv_has ls 4 [(0, .ref b), (1, .ref (Q 0)), (2, .ref (P 0)), (3, .int x3)]) : W p l e room_1 s m #[Value.ref b] below meth c H locs C Z (lw_Z below #[Value.ref b] s) (F0 m 820 ls []) := by
  obtain ⟨hx, hb, hr, hml, hown, hts, hX, hbl, hlocks, hgv⟩ := C0
  obtain ⟨hR, hnT, hA9, hP, hD, hS⟩ := hi
  obtain ⟨hN1, hN2, hZ, hTN⟩ := hN
  have hA : ∀ q : Nat, s.heap.size ≤ q → (fun q : Nat => s.heap.size ≤ q) q := fun _ h => h
  have hbA : ¬ (fun q : Nat => s.heap.size ≤ q) b := Nat.not_le.mpr hbl
  have hts2 := lw_hts hts
  refine lv_aload_n hx hb dL_law_820 rfl (lv_at hl 1 rfl) ?_
  refine lv_aload_n hx hb dL_law_821 rfl (lv_at hl 0 rfl) ?_
  refine lv_iload_n hx hb dL_law_822 rfl (lv_at hl 3 rfl) ?_
  refine lv_iconst (v := 1) hx hb dL_law_823 (by decide) ?_
  refine lv_iadd hx hb dL_law_824 ?_
  refine va_sld hx hb hX hbl hbA hS (hI 1 (by decide)) dL_law_825 ?_
  have hL1 := ct_left hP hD
  have hF := ct_free hL1.2 hS hA
  refine va_calli (va_runV (As := [.int (xs ((x3 + 1)).toNatClampNeg)]) (rest := []) ⟨hx, hb, hml, hown, hts2⟩ (mt_appeal l dC dI cA H.size Q σ n co L f ad hR (by omega) (xs ((x3 + 1)).toNatClampNeg)) (cwV 1 hts2 (al_gV wd_243 wd_244 wd_245 wd_1 wd_246) rfl rfl rfl (by decide +kernel) ⟨Nat.le_of_ble_eq_true rfl, Nat.le_of_ble_eq_true rfl⟩) ⟨ct_blM, va_recv hK hL1.1 (ci := 3) (q0 := 0) rfl (xc_W_0 _ _), ct_atM hL1.1 hK hL1.2⟩ rfl rfl hl.1 rfl (lv_room (Nat.le_of_ble_eq_true rfl)) dL_law_826 ⟨(by show _ + 0 ≤ 600000; omega), (by show _ + 0 ≤ 7302250; omega)⟩) hS (fun q _ h => hF q h) hF (fun r1 u1 t H1 locs1 ht hvm hw1 hB hz1 hk1 hS => ?_)
  obtain ⟨ra, n1, L1, f1, ad1, hn1, hR1, hP1, -, hD1⟩ := hB
  rw [ht] at hP1
  obtain ⟨hP, hD⟩ := ct_join1 hP hD hk1 hF hP1 hD1
  clear hL1 hF hk1 hz1 hP1 hD1 hvm
  generalize H1 = H at hP hS ht ⊢
  clear ht
  refine lv_aload_n hx hb dL_law_829 rfl (lv_at hl 2 rfl) ?_
  refine lv_aload_n hx hb dL_law_830 rfl (lv_at hl 0 rfl) ?_
  refine lv_iload_n hx hb dL_law_831 rfl (lv_at hl 3 rfl) ?_
  refine lv_iconst (v := 1) hx hb dL_law_832 (by decide) ?_
  refine lv_iadd hx hb dL_law_833 ?_
  refine va_sld hx hb hX hbl hbA hS (hI 1 (by decide)) dL_law_834 ?_
  obtain ⟨hPs, hDs⟩ := ct_swap hP hD
  have hL2 := ct_left hPs hDs
  have hF2 := ct_free hL2.2 hS hA
  refine va_calli (va_runV (As := [.int (xs ((x3 + 1)).toNatClampNeg)]) (rest := [.int r1]) ⟨hx, hb, hml, hown, hts2⟩ (mr_appeal l dC dI cA H.size P τ n [] g hA9.1 (xs ((x3 + 1)).toNatClampNeg)) (cwV 1 hts2 (al_gV wd_413 wd_414 wd_415 wd_2 wd_416) rfl rfl rfl (by decide +kernel) ⟨Nat.le_of_ble_eq_true rfl, Nat.le_of_ble_eq_true rfl⟩) ⟨ct_blM, va_recv hK hL2.1 (ci := 4) (q0 := 0) rfl (xm_W_0 _ _), ct_atM hL2.1 hK hL2.2⟩ rfl rfl hl.1 rfl (lv_room (Nat.le_of_ble_eq_true rfl)) dL_law_835 ⟨(by show _ + 0 ≤ 600000; omega), (by show _ + 0 ≤ 7302250; omega)⟩) hS (fun q _ h => hF2 q h) hF2 (fun r2 u2 t H1 locs1 ht hvm hw2 hB hz1 hk1 hS => ?_)
  obtain ⟨hP2, -, hD2⟩ := hB
  rw [ht] at hP2
  obtain ⟨hPs, hDs⟩ := ct_join1 hPs hDs hk1 hF2 hP2 hD2
  obtain ⟨hP, hD⟩ := ct_swap hPs hDs
  clear hL2 hF2 hk1 hz1 hP2 hD2 hvm hPs hDs
  generalize H1 = H at hP hS ht ⊢
  clear ht
  have SM := (SA σ co τ n ⟨hR.1, hR.2.2.2.2.1, by omega⟩ hA9).2.2.2.2.2.2.2.2.2.2.2.2.2.2.1 (xs ((x3 + 1)).toNatClampNeg)
  rw [← hw1, ← hw2] at SM
  refine W.widen (k := C + 2) (n := Z + 25) (by omega) (by omega) ?_
  refine lv_icmp_eq (tgt := 966) hx hb dL_law_838 (by decide) (fun c838 => ?_) (fun c838 => ?_)
  · exact K (xs_r u1.1 ra) u1.2 u2 n1 L1 f1 ad1 _ _ ls ⟨hR1, by omega, SM.2 n1 ⟨hR1.1, hR1.2.2.2.2.1, by omega⟩, hP, hD, hS⟩ (lv_sub hl [0, 1, 2, 3] rfl)
  · exact absurd SM.1 c838
set_option maxHeartbeats 4000000 in
set_option maxRecDepth 100000 in
theorem lc_15 {p : Program} {l : Launch} {e : Env} {s : State} {m : MethodId} {below : List Frame} {meth : Method} {c : Code} {dC : Nat → ClassId} {dI : Nat → Nat → Nat} {cA : Nat → ClassId} {b Lx : Nat} {xs : Nat → Int32} {Q P : Nat → Nat} {g : Nat → va_E} {tN : Nat} (C0 : lw_At p s m meth c b Lx xs) (hK : va_K (dC, dI) vwCl (ty_K cA) s) (hN : lw_N s tN) (SA : rl_all) {C Z T : Nat} (hC : C + 2 ≤ 600000) (hZ9 : Z + 25 ≤ 7302250) (hT9 : T < 1000) {x3 : Int32} (hI : ∀ k : Nat, k < 8 → vp_in (x3 + nI k) Lx)
    (K : ∀ (σ : xs_T) (co : co_T) (τ : xs_T) (n : nn_T) (L : List Nat) (f : Nat → va_E) (ad : ad_T) (H : Heap) (locs : List Loc) (ls : Array Slot), lw_I dC dI cA s Q P g σ co τ n L f ad H locs (T + 1) → lv_has ls 4 [(0, .ref b), (1, .ref (Q 0)), (2, .ref (P 0)), (3, .int x3)] → W p l e room_1 s m #[Value.ref b] below meth c H locs C Z (lw_Z below #[Value.ref b] s) (F0 m 966 ls []))
    (σ : xs_T) (co : co_T) (τ : xs_T) (n : nn_T) (L : List Nat) (f : Nat → va_E) (ad : ad_T) (H : Heap) (locs : List Loc) (ls : Array Slot) (hi : lw_I dC dI cA s Q P g σ co τ n L f ad H locs T) (hl : lv_has ls 4 [(0, .ref b), (1, .ref (Q 0)), (2, .ref (P 0)), (3, .int x3)]) : W p l e room_1 s m #[Value.ref b] below meth c H locs C Z (lw_Z below #[Value.ref b] s) (F0 m 843 ls []) := by
  obtain ⟨hx, hb, hr, hml, hown, hts, hX, hbl, hlocks, hgv⟩ := C0
  obtain ⟨hR, hnT, hA9, hP, hD, hS⟩ := hi
  obtain ⟨hN1, hN2, hZ, hTN⟩ := hN
  have hA : ∀ q : Nat, s.heap.size ≤ q → (fun q : Nat => s.heap.size ≤ q) q := fun _ h => h
  have hbA : ¬ (fun q : Nat => s.heap.size ≤ q) b := Nat.not_le.mpr hbl
  have hts2 := lw_hts hts
  refine lv_aload_n hx hb dL_law_843 rfl (lv_at hl 1 rfl) ?_
  refine lv_aload_n hx hb dL_law_844 rfl (lv_at hl 0 rfl) ?_
  refine lv_iload_n hx hb dL_law_845 rfl (lv_at hl 3 rfl) ?_
  refine lv_iconst (v := 1) hx hb dL_law_846 (by decide) ?_
  refine lv_iadd hx hb dL_law_847 ?_
  refine va_sld hx hb hX hbl hbA hS (hI 1 (by decide)) dL_law_848 ?_
  refine lv_aload_n hx hb dL_law_849 rfl (lv_at hl 0 rfl) ?_
  refine lv_iload_n hx hb dL_law_850 rfl (lv_at hl 3 rfl) ?_
  refine lv_iconst (v := 2) hx hb dL_law_851 (by decide) ?_
  refine lv_iadd hx hb dL_law_852 ?_
  refine va_sld hx hb hX hbl hbA hS (hI 2 (by decide)) dL_law_853 ?_
  have hL1 := ct_left hP hD
  have hF := ct_free hL1.2 hS hA
  refine vp_callSi (va_Run.run (va_runV (As := [.int (xs ((x3 + 1)).toNatClampNeg), .int (xs ((x3 + 2)).toNatClampNeg)]) (rest := []) ⟨hx, hb, hml, hown, hts2⟩ (mt_paid l dC dI cA Q σ n co L f ad hR (by omega) (xs ((x3 + 1)).toNatClampNeg) (xs ((x3 + 2)).toNatClampNeg)) (cwV 2 hts2 (al_gV wd_251 wd_252 wd_253 wd_1 wd_254) rfl rfl rfl (by decide +kernel) ⟨Nat.le_of_ble_eq_true rfl, Nat.le_of_ble_eq_true rfl⟩) ⟨ct_blR, va_recv hK hL1.1 (ci := 3) (q0 := 0) rfl (xc_W_0 _ _), ct_atR hL1.1 hK⟩ rfl rfl hl.1 rfl (lv_room (Nat.le_of_ble_eq_true rfl)) dL_law_854 ⟨(by show _ + 0 ≤ 600000; omega), (by show _ + 0 ≤ 7302250; omega)⟩)) (fun r1 hw1 => ?_)
  refine lv_aload_n hx hb dL_law_857 rfl (lv_at hl 2 rfl) ?_
  refine lv_aload_n hx hb dL_law_858 rfl (lv_at hl 0 rfl) ?_
  refine lv_iload_n hx hb dL_law_859 rfl (lv_at hl 3 rfl) ?_
  refine lv_iconst (v := 1) hx hb dL_law_860 (by decide) ?_
  refine lv_iadd hx hb dL_law_861 ?_
  refine va_sld hx hb hX hbl hbA hS (hI 1 (by decide)) dL_law_862 ?_
  refine lv_aload_n hx hb dL_law_863 rfl (lv_at hl 0 rfl) ?_
  refine lv_iload_n hx hb dL_law_864 rfl (lv_at hl 3 rfl) ?_
  refine lv_iconst (v := 2) hx hb dL_law_865 (by decide) ?_
  refine lv_iadd hx hb dL_law_866 ?_
  refine va_sld hx hb hX hbl hbA hS (hI 2 (by decide)) dL_law_867 ?_
  obtain ⟨hPs, hDs⟩ := ct_swap hP hD
  have hL2 := ct_left hPs hDs
  have hF2 := ct_free hL2.2 hS hA
  refine vp_callSi (va_Run.run (va_runV (As := [.int (xs ((x3 + 1)).toNatClampNeg), .int (xs ((x3 + 2)).toNatClampNeg)]) (rest := [.int r1]) ⟨hx, hb, hml, hown, hts2⟩ (mr_paid l dC dI cA P τ n [] g hA9.1 (xs ((x3 + 1)).toNatClampNeg) (xs ((x3 + 2)).toNatClampNeg)) (cwV 2 hts2 (al_gV wd_417 wd_418 wd_419 wd_2 wd_420) rfl rfl rfl (by decide +kernel) ⟨Nat.le_of_ble_eq_true rfl, Nat.le_of_ble_eq_true rfl⟩) ⟨ct_blR, va_recv hK hL2.1 (ci := 4) (q0 := 0) rfl (xm_W_0 _ _), ct_atR hL2.1 hK⟩ rfl rfl hl.1 rfl (lv_room (Nat.le_of_ble_eq_true rfl)) dL_law_868 ⟨(by show _ + 0 ≤ 600000; omega), (by show _ + 0 ≤ 7302250; omega)⟩)) (fun r2 hw2 => ?_)
  have SM : r1 = r2 := by rw [hw1, hw2]; exact (SA σ co τ n ⟨hR.1, hR.2.2.2.2.1, by omega⟩ hA9).2.2.2.2.2.2.2.2.2.2.2.2.2.2.2.1 (xs ((x3 + 1)).toNatClampNeg) (xs ((x3 + 2)).toNatClampNeg)
  refine lv_icmp_eq (tgt := 966) hx hb dL_law_871 (by decide) (fun c871 => ?_) (fun c871 => ?_)
  · exact K σ co τ n L f ad _ _ ls ⟨hR, by omega, hA9, hP, hD, hS⟩ (lv_sub hl [0, 1, 2, 3] rfl)
  · exact absurd SM c871
set_option maxHeartbeats 4000000 in
set_option maxRecDepth 100000 in
theorem lc_16 {p : Program} {l : Launch} {e : Env} {s : State} {m : MethodId} {below : List Frame} {meth : Method} {c : Code} {dC : Nat → ClassId} {dI : Nat → Nat → Nat} {cA : Nat → ClassId} {b Lx : Nat} {xs : Nat → Int32} {Q P : Nat → Nat} {g : Nat → va_E} {tN : Nat} (C0 : lw_At p s m meth c b Lx xs) (hK : va_K (dC, dI) vwCl (ty_K cA) s) (hN : lw_N s tN) (SA : rl_all) {C Z T : Nat} (hC : C + 2 ≤ 600000) (hZ9 : Z + 25 ≤ 7302250) (hT9 : T < 1000) {x3 : Int32} (hI : ∀ k : Nat, k < 8 → vp_in (x3 + nI k) Lx)
    (K : ∀ (σ : xs_T) (co : co_T) (τ : xs_T) (n : nn_T) (L : List Nat) (f : Nat → va_E) (ad : ad_T) (H : Heap) (locs : List Loc) (ls : Array Slot), lw_I dC dI cA s Q P g σ co τ n L f ad H locs (T + 1) → lv_has ls 4 [(0, .ref b), (1, .ref (Q 0)), (2, .ref (P 0)), (3, .int x3)] → W p l e room_1 s m #[Value.ref b] below meth c H locs C Z (lw_Z below #[Value.ref b] s) (F0 m 966 ls []))
    (σ : xs_T) (co : co_T) (τ : xs_T) (n : nn_T) (L : List Nat) (f : Nat → va_E) (ad : ad_T) (H : Heap) (locs : List Loc) (ls : Array Slot) (hi : lw_I dC dI cA s Q P g σ co τ n L f ad H locs T) (hl : lv_has ls 4 [(0, .ref b), (1, .ref (Q 0)), (2, .ref (P 0)), (3, .int x3)]) : W p l e room_1 s m #[Value.ref b] below meth c H locs C Z (lw_Z below #[Value.ref b] s) (F0 m 876 ls []) := by
  obtain ⟨hx, hb, hr, hml, hown, hts, hX, hbl, hlocks, hgv⟩ := C0
  obtain ⟨hR, hnT, hA9, hP, hD, hS⟩ := hi
  obtain ⟨hN1, hN2, hZ, hTN⟩ := hN
  have hA : ∀ q : Nat, s.heap.size ≤ q → (fun q : Nat => s.heap.size ≤ q) q := fun _ h => h
  have hbA : ¬ (fun q : Nat => s.heap.size ≤ q) b := Nat.not_le.mpr hbl
  have hts2 := lw_hts hts
  refine lv_aload_n hx hb dL_law_876 rfl (lv_at hl 1 rfl) ?_
  refine lv_aload_n hx hb dL_law_877 rfl (lv_at hl 0 rfl) ?_
  refine lv_iload_n hx hb dL_law_878 rfl (lv_at hl 3 rfl) ?_
  refine lv_iconst (v := 1) hx hb dL_law_879 (by decide) ?_
  refine lv_iadd hx hb dL_law_880 ?_
  refine va_sld hx hb hX hbl hbA hS (hI 1 (by decide)) dL_law_881 ?_
  refine lv_aload_n hx hb dL_law_882 rfl (lv_at hl 0 rfl) ?_
  refine lv_iload_n hx hb dL_law_883 rfl (lv_at hl 3 rfl) ?_
  refine lv_iconst (v := 2) hx hb dL_law_884 (by decide) ?_
  refine lv_iadd hx hb dL_law_885 ?_
  refine va_sld hx hb hX hbl hbA hS (hI 2 (by decide)) dL_law_886 ?_
  have hL1 := ct_left hP hD
  have hF := ct_free hL1.2 hS hA
  refine vp_callSi (va_Run.run (va_runV (As := [.int (xs ((x3 + 1)).toNatClampNeg), .int (xs ((x3 + 2)).toNatClampNeg)]) (rest := []) ⟨hx, hb, hml, hown, hts2⟩ (mt_about l dC dI cA Q σ n co L f ad hR (by omega) (xs ((x3 + 1)).toNatClampNeg) (xs ((x3 + 2)).toNatClampNeg)) (cwV 2 hts2 (al_gV wd_255 wd_256 wd_257 wd_1 wd_258) rfl rfl rfl (by decide +kernel) ⟨Nat.le_of_ble_eq_true rfl, Nat.le_of_ble_eq_true rfl⟩) ⟨ct_blR, va_recv hK hL1.1 (ci := 3) (q0 := 0) rfl (xc_W_0 _ _), ct_atR hL1.1 hK⟩ rfl rfl hl.1 rfl (lv_room (Nat.le_of_ble_eq_true rfl)) dL_law_887 ⟨(by show _ + 0 ≤ 600000; omega), (by show _ + 0 ≤ 7302250; omega)⟩)) (fun r1 hw1 => ?_)
  refine lv_aload_n hx hb dL_law_890 rfl (lv_at hl 2 rfl) ?_
  refine lv_aload_n hx hb dL_law_891 rfl (lv_at hl 0 rfl) ?_
  refine lv_iload_n hx hb dL_law_892 rfl (lv_at hl 3 rfl) ?_
  refine lv_iconst (v := 1) hx hb dL_law_893 (by decide) ?_
  refine lv_iadd hx hb dL_law_894 ?_
  refine va_sld hx hb hX hbl hbA hS (hI 1 (by decide)) dL_law_895 ?_
  refine lv_aload_n hx hb dL_law_896 rfl (lv_at hl 0 rfl) ?_
  refine lv_iload_n hx hb dL_law_897 rfl (lv_at hl 3 rfl) ?_
  refine lv_iconst (v := 2) hx hb dL_law_898 (by decide) ?_
  refine lv_iadd hx hb dL_law_899 ?_
  refine va_sld hx hb hX hbl hbA hS (hI 2 (by decide)) dL_law_900 ?_
  obtain ⟨hPs, hDs⟩ := ct_swap hP hD
  have hL2 := ct_left hPs hDs
  have hF2 := ct_free hL2.2 hS hA
  refine vp_callSi (va_Run.run (va_runV (As := [.int (xs ((x3 + 1)).toNatClampNeg), .int (xs ((x3 + 2)).toNatClampNeg)]) (rest := [.int r1]) ⟨hx, hb, hml, hown, hts2⟩ (mr_about l dC dI cA P τ n [] g hA9.1 (xs ((x3 + 1)).toNatClampNeg) (xs ((x3 + 2)).toNatClampNeg)) (cwV 2 hts2 (al_gV wd_421 wd_422 wd_423 wd_2 wd_424) rfl rfl rfl (by decide +kernel) ⟨Nat.le_of_ble_eq_true rfl, Nat.le_of_ble_eq_true rfl⟩) ⟨ct_blR, va_recv hK hL2.1 (ci := 4) (q0 := 0) rfl (xm_W_0 _ _), ct_atR hL2.1 hK⟩ rfl rfl hl.1 rfl (lv_room (Nat.le_of_ble_eq_true rfl)) dL_law_901 ⟨(by show _ + 0 ≤ 600000; omega), (by show _ + 0 ≤ 7302250; omega)⟩)) (fun r2 hw2 => ?_)
  have SM : r1 = r2 := by rw [hw1, hw2]; exact (SA σ co τ n ⟨hR.1, hR.2.2.2.2.1, by omega⟩ hA9).2.2.2.2.2.2.2.2.2.2.2.2.2.2.2.2.1 (xs ((x3 + 1)).toNatClampNeg) (xs ((x3 + 2)).toNatClampNeg)
  refine lv_icmp_eq (tgt := 966) hx hb dL_law_904 (by decide) (fun c904 => ?_) (fun c904 => ?_)
  · exact K σ co τ n L f ad _ _ ls ⟨hR, by omega, hA9, hP, hD, hS⟩ (lv_sub hl [0, 1, 2, 3] rfl)
  · exact absurd SM c904
set_option maxHeartbeats 4000000 in
set_option maxRecDepth 100000 in
theorem lc_17 {p : Program} {l : Launch} {e : Env} {s : State} {m : MethodId} {below : List Frame} {meth : Method} {c : Code} {dC : Nat → ClassId} {dI : Nat → Nat → Nat} {cA : Nat → ClassId} {b Lx : Nat} {xs : Nat → Int32} {Q P : Nat → Nat} {g : Nat → va_E} {tN : Nat} (C0 : lw_At p s m meth c b Lx xs) (hK : va_K (dC, dI) vwCl (ty_K cA) s) (hN : lw_N s tN) (SA : rl_all) {C Z T : Nat} (hC : C + 2 ≤ 600000) (hZ9 : Z + 25 ≤ 7302250) (hT9 : T < 1000) {x3 : Int32} (hI : ∀ k : Nat, k < 8 → vp_in (x3 + nI k) Lx)
    (K : ∀ (σ : xs_T) (co : co_T) (τ : xs_T) (n : nn_T) (L : List Nat) (f : Nat → va_E) (ad : ad_T) (H : Heap) (locs : List Loc) (ls : Array Slot), lw_I dC dI cA s Q P g σ co τ n L f ad H locs (T + 1) → lv_has ls 4 [(0, .ref b), (1, .ref (Q 0)), (2, .ref (P 0)), (3, .int x3)] → W p l e room_1 s m #[Value.ref b] below meth c H locs C Z (lw_Z below #[Value.ref b] s) (F0 m 966 ls []))
    (σ : xs_T) (co : co_T) (τ : xs_T) (n : nn_T) (L : List Nat) (f : Nat → va_E) (ad : ad_T) (H : Heap) (locs : List Loc) (ls : Array Slot) (hi : lw_I dC dI cA s Q P g σ co τ n L f ad H locs T) (hl : lv_has ls 4 [(0, .ref b), (1, .ref (Q 0)), (2, .ref (P 0)), (3, .int x3)]) : W p l e room_1 s m #[Value.ref b] below meth c H locs C Z (lw_Z below #[Value.ref b] s) (F0 m 909 ls []) := by
  obtain ⟨hx, hb, hr, hml, hown, hts, hX, hbl, hlocks, hgv⟩ := C0
  obtain ⟨hR, hnT, hA9, hP, hD, hS⟩ := hi
  obtain ⟨hN1, hN2, hZ, hTN⟩ := hN
  have hA : ∀ q : Nat, s.heap.size ≤ q → (fun q : Nat => s.heap.size ≤ q) q := fun _ h => h
  have hbA : ¬ (fun q : Nat => s.heap.size ≤ q) b := Nat.not_le.mpr hbl
  have hts2 := lw_hts hts
  refine lv_aload_n hx hb dL_law_909 rfl (lv_at hl 1 rfl) ?_
  refine lv_aload_n hx hb dL_law_910 rfl (lv_at hl 0 rfl) ?_
  refine lv_iload_n hx hb dL_law_911 rfl (lv_at hl 3 rfl) ?_
  refine lv_iconst (v := 1) hx hb dL_law_912 (by decide) ?_
  refine lv_iadd hx hb dL_law_913 ?_
  refine va_sld hx hb hX hbl hbA hS (hI 1 (by decide)) dL_law_914 ?_
  refine lv_aload_n hx hb dL_law_915 rfl (lv_at hl 0 rfl) ?_
  refine lv_iload_n hx hb dL_law_916 rfl (lv_at hl 3 rfl) ?_
  refine lv_iconst (v := 2) hx hb dL_law_917 (by decide) ?_
  refine lv_iadd hx hb dL_law_918 ?_
  refine va_sld hx hb hX hbl hbA hS (hI 2 (by decide)) dL_law_919 ?_
  have hL1 := ct_left hP hD
  have hF := ct_free hL1.2 hS hA
  refine vp_callSi (va_Run.run (va_runV (As := [.int (xs ((x3 + 1)).toNatClampNeg), .int (xs ((x3 + 2)).toNatClampNeg)]) (rest := []) ⟨hx, hb, hml, hown, hts2⟩ (mt_letter l dC dI cA Q σ n co L f ad hR (by omega) (xs ((x3 + 1)).toNatClampNeg) (xs ((x3 + 2)).toNatClampNeg)) (cwV 2 hts2 (al_gV wd_259 wd_260 wd_261 wd_1 wd_262) rfl rfl rfl (by decide +kernel) ⟨Nat.le_of_ble_eq_true rfl, Nat.le_of_ble_eq_true rfl⟩) ⟨ct_blR, va_recv hK hL1.1 (ci := 3) (q0 := 0) rfl (xc_W_0 _ _), ct_atR hL1.1 hK⟩ rfl rfl hl.1 rfl (lv_room (Nat.le_of_ble_eq_true rfl)) dL_law_920 ⟨(by show _ + 0 ≤ 600000; omega), (by show _ + 0 ≤ 7302250; omega)⟩)) (fun r1 hw1 => ?_)
  refine lv_aload_n hx hb dL_law_923 rfl (lv_at hl 2 rfl) ?_
  refine lv_aload_n hx hb dL_law_924 rfl (lv_at hl 0 rfl) ?_
  refine lv_iload_n hx hb dL_law_925 rfl (lv_at hl 3 rfl) ?_
  refine lv_iconst (v := 1) hx hb dL_law_926 (by decide) ?_
  refine lv_iadd hx hb dL_law_927 ?_
  refine va_sld hx hb hX hbl hbA hS (hI 1 (by decide)) dL_law_928 ?_
  refine lv_aload_n hx hb dL_law_929 rfl (lv_at hl 0 rfl) ?_
  refine lv_iload_n hx hb dL_law_930 rfl (lv_at hl 3 rfl) ?_
  refine lv_iconst (v := 2) hx hb dL_law_931 (by decide) ?_
  refine lv_iadd hx hb dL_law_932 ?_
  refine va_sld hx hb hX hbl hbA hS (hI 2 (by decide)) dL_law_933 ?_
  obtain ⟨hPs, hDs⟩ := ct_swap hP hD
  have hL2 := ct_left hPs hDs
  have hF2 := ct_free hL2.2 hS hA
  refine vp_callSi (va_Run.run (va_runV (As := [.int (xs ((x3 + 1)).toNatClampNeg), .int (xs ((x3 + 2)).toNatClampNeg)]) (rest := [.int r1]) ⟨hx, hb, hml, hown, hts2⟩ (mr_letter l dC dI cA P τ n [] g hA9.1 (xs ((x3 + 1)).toNatClampNeg) (xs ((x3 + 2)).toNatClampNeg)) (cwV 2 hts2 (al_gV wd_429 wd_430 wd_431 wd_2 wd_432) rfl rfl rfl (by decide +kernel) ⟨Nat.le_of_ble_eq_true rfl, Nat.le_of_ble_eq_true rfl⟩) ⟨ct_blR, va_recv hK hL2.1 (ci := 4) (q0 := 0) rfl (xm_W_0 _ _), ct_atR hL2.1 hK⟩ rfl rfl hl.1 rfl (lv_room (Nat.le_of_ble_eq_true rfl)) dL_law_934 ⟨(by show _ + 0 ≤ 600000; omega), (by show _ + 0 ≤ 7302250; omega)⟩)) (fun r2 hw2 => ?_)
  have SM : r1 = r2 := by rw [hw1, hw2]; exact (SA σ co τ n ⟨hR.1, hR.2.2.2.2.1, by omega⟩ hA9).2.2.2.2.2.2.2.2.2.2.2.2.2.2.2.2.2.1 (xs ((x3 + 1)).toNatClampNeg) (xs ((x3 + 2)).toNatClampNeg)
  refine lv_icmp_eq (tgt := 966) hx hb dL_law_937 (by decide) (fun c937 => ?_) (fun c937 => ?_)
  · exact K σ co τ n L f ad _ _ ls ⟨hR, by omega, hA9, hP, hD, hS⟩ (lv_sub hl [0, 1, 2, 3] rfl)
  · exact absurd SM c937
set_option maxHeartbeats 4000000 in
set_option maxRecDepth 100000 in
theorem lc_18 {p : Program} {l : Launch} {e : Env} {s : State} {m : MethodId} {below : List Frame} {meth : Method} {c : Code} {dC : Nat → ClassId} {dI : Nat → Nat → Nat} {cA : Nat → ClassId} {b Lx : Nat} {xs : Nat → Int32} {Q P : Nat → Nat} {g : Nat → va_E} {tN : Nat} (C0 : lw_At p s m meth c b Lx xs) (hK : va_K (dC, dI) vwCl (ty_K cA) s) (hN : lw_N s tN) (SA : rl_all) {C Z T : Nat} (hC : C + 2 ≤ 600000) (hZ9 : Z + 25 ≤ 7302250) (hT9 : T < 1000) {x3 : Int32} (hI : ∀ k : Nat, k < 8 → vp_in (x3 + nI k) Lx)
    (K : ∀ (σ : xs_T) (co : co_T) (τ : xs_T) (n : nn_T) (L : List Nat) (f : Nat → va_E) (ad : ad_T) (H : Heap) (locs : List Loc) (ls : Array Slot), lw_I dC dI cA s Q P g σ co τ n L f ad H locs (T + 1) → lv_has ls 4 [(0, .ref b), (1, .ref (Q 0)), (2, .ref (P 0)), (3, .int x3)] → W p l e room_1 s m #[Value.ref b] below meth c H locs C Z (lw_Z below #[Value.ref b] s) (F0 m 966 ls []))
    (σ : xs_T) (co : co_T) (τ : xs_T) (n : nn_T) (L : List Nat) (f : Nat → va_E) (ad : ad_T) (H : Heap) (locs : List Loc) (ls : Array Slot) (hi : lw_I dC dI cA s Q P g σ co τ n L f ad H locs T) (hl : lv_has ls 4 [(0, .ref b), (1, .ref (Q 0)), (2, .ref (P 0)), (3, .int x3)]) : W p l e room_1 s m #[Value.ref b] below meth c H locs C Z (lw_Z below #[Value.ref b] s) (F0 m 942 ls []) := by
  obtain ⟨hx, hb, hr, hml, hown, hts, hX, hbl, hlocks, hgv⟩ := C0
  obtain ⟨hR, hnT, hA9, hP, hD, hS⟩ := hi
  obtain ⟨hN1, hN2, hZ, hTN⟩ := hN
  have hA : ∀ q : Nat, s.heap.size ≤ q → (fun q : Nat => s.heap.size ≤ q) q := fun _ h => h
  have hbA : ¬ (fun q : Nat => s.heap.size ≤ q) b := Nat.not_le.mpr hbl
  have hts2 := lw_hts hts
  refine lv_aload_n hx hb dL_law_942 rfl (lv_at hl 1 rfl) ?_
  refine lv_aload_n hx hb dL_law_943 rfl (lv_at hl 0 rfl) ?_
  refine lv_iload_n hx hb dL_law_944 rfl (lv_at hl 3 rfl) ?_
  refine lv_iconst (v := 1) hx hb dL_law_945 (by decide) ?_
  refine lv_iadd hx hb dL_law_946 ?_
  refine va_sld hx hb hX hbl hbA hS (hI 1 (by decide)) dL_law_947 ?_
  have hL1 := ct_left hP hD
  have hF := ct_free hL1.2 hS hA
  refine vp_callSl (va_Run.run (va_runV (As := [.int (xs ((x3 + 1)).toNatClampNeg)]) (rest := []) ⟨hx, hb, hml, hown, hts2⟩ (mt_all l dC dI cA Q σ n co L f ad hR (by omega) (xs ((x3 + 1)).toNatClampNeg)) (cwV 1 hts2 (al_gV wd_266 wd_267 wd_268 wd_1 wd_269) rfl rfl rfl (by decide +kernel) ⟨Nat.le_of_ble_eq_true rfl, Nat.le_of_ble_eq_true rfl⟩) ⟨ct_blR, va_recv hK hL1.1 (ci := 3) (q0 := 0) rfl (xc_W_0 _ _), ct_atR hL1.1 hK⟩ rfl rfl hl.1 rfl (lv_room (Nat.le_of_ble_eq_true rfl)) dL_law_948 ⟨(by show _ + 0 ≤ 600000; omega), (by show _ + 0 ≤ 7302250; omega)⟩)) (fun r1 hw1 => ?_)
  refine lv_aload_n hx hb dL_law_951 rfl (lv_at hl 2 rfl) ?_
  refine lv_aload_n hx hb dL_law_952 rfl (lv_at hl 0 rfl) ?_
  refine lv_iload_n hx hb dL_law_953 rfl (lv_at hl 3 rfl) ?_
  refine lv_iconst (v := 1) hx hb dL_law_954 (by decide) ?_
  refine lv_iadd hx hb dL_law_955 ?_
  refine va_sld hx hb hX hbl hbA hS (hI 1 (by decide)) dL_law_956 ?_
  obtain ⟨hPs, hDs⟩ := ct_swap hP hD
  have hL2 := ct_left hPs hDs
  have hF2 := ct_free hL2.2 hS hA
  refine vp_callSl (va_Run.run (va_runV (As := [.int (xs ((x3 + 1)).toNatClampNeg)]) (rest := [.long r1]) ⟨hx, hb, hml, hown, hts2⟩ (mr_all l dC dI cA P τ n [] g hA9.1 (xs ((x3 + 1)).toNatClampNeg)) (cwV 1 hts2 (al_gV wd_433 wd_434 wd_435 wd_2 wd_436) rfl rfl rfl (by decide +kernel) ⟨Nat.le_of_ble_eq_true rfl, Nat.le_of_ble_eq_true rfl⟩) ⟨ct_blR, va_recv hK hL2.1 (ci := 4) (q0 := 0) rfl (xm_W_0 _ _), ct_atR hL2.1 hK⟩ rfl rfl hl.1 rfl (lv_room (Nat.le_of_ble_eq_true rfl)) dL_law_957 ⟨(by show _ + 0 ≤ 600000; omega), (by show _ + 0 ≤ 7302250; omega)⟩)) (fun r2 hw2 => ?_)
  have SM : r1 = r2 := by rw [hw1, hw2]; exact (SA σ co τ n ⟨hR.1, hR.2.2.2.2.1, by omega⟩ hA9).2.2.2.2.2.2.2.2.2.2.2.2.2.2.2.2.2.2 (xs ((x3 + 1)).toNatClampNeg)
  refine W.lcmp hx hb dL_law_960 ?_
  refine lv_if_eq (tgt := 966) hx hb dL_law_961 (by decide) (fun c961 => ?_) (fun c961 => ?_)
  · exact K σ co τ n L f ad _ _ ls ⟨hR, by omega, hA9, hP, hD, hS⟩ (lv_sub hl [0, 1, 2, 3] rfl)
  · exact absurd (by rw [SM]; exact lg_self _) c961
