section
-- ===== PART A: goes FIRST, ahead of the names: the tables' words, and 'selects' of the private methods out of them =====
/-- a private method of a class that the tables say can be made, by its rows of tables_1 -/
def lw_okq (q : MethodName × Nat) : Prop := (q.1.cls ≠ "java/lang/invoke/MethodHandle" ∧ q.1.cls ≠ "java/lang/invoke/VarHandle") ∧ Cond.instantiable q.1.cls q.2 ∈ tables_1 ∧ Cond.privateMethod q.1 ∈ tables_1 ∧ Cond.instanceMethod q.1 ∈ tables_1
theorem lw_p0 : lw_okq (⟨"ClaimRows", "itemNumbered", "(I)LClaimRows$Item;"⟩, 16) := ⟨⟨by decide +kernel, by decide +kernel⟩, List.mem_of_getElem? (i := 9) (by decide +kernel), List.mem_of_getElem? (i := 132) (by decide +kernel), List.mem_of_getElem? (i := 133) (by decide +kernel)⟩
theorem lw_p1 : lw_okq (⟨"ClaimRows", "standingClaim", "(II)LClaimRows$Claim;"⟩, 16) := ⟨⟨by decide +kernel, by decide +kernel⟩, List.mem_of_getElem? (i := 9) (by decide +kernel), List.mem_of_getElem? (i := 157) (by decide +kernel), List.mem_of_getElem? (i := 158) (by decide +kernel)⟩
theorem lw_p2 : lw_okq (⟨"ClaimRows", "claimNumbered", "(I)LClaimRows$Claim;"⟩, 16) := ⟨⟨by decide +kernel, by decide +kernel⟩, List.mem_of_getElem? (i := 9) (by decide +kernel), List.mem_of_getElem? (i := 161) (by decide +kernel), List.mem_of_getElem? (i := 162) (by decide +kernel)⟩
theorem lw_p3 : lw_okq (⟨"ClaimRows", "claimsOfSender", "(I)I"⟩, 16) := ⟨⟨by decide +kernel, by decide +kernel⟩, List.mem_of_getElem? (i := 9) (by decide +kernel), List.mem_of_getElem? (i := 165) (by decide +kernel), List.mem_of_getElem? (i := 166) (by decide +kernel)⟩
theorem lw_p4 : lw_okq (⟨"ClaimRows", "send", "(II)V"⟩, 16) := ⟨⟨by decide +kernel, by decide +kernel⟩, List.mem_of_getElem? (i := 9) (by decide +kernel), List.mem_of_getElem? (i := 227) (by decide +kernel), List.mem_of_getElem? (i := 228) (by decide +kernel)⟩
theorem lw_p5 : lw_okq (⟨"ClaimRows", "searchNumbered", "(I)LClaimRows$Search;"⟩, 16) := ⟨⟨by decide +kernel, by decide +kernel⟩, List.mem_of_getElem? (i := 9) (by decide +kernel), List.mem_of_getElem? (i := 270) (by decide +kernel), List.mem_of_getElem? (i := 271) (by decide +kernel)⟩
theorem lw_p6 : lw_okq (⟨"ClaimRows", "sumByTable", "(LClaimRows$Claim;)J"⟩, 16) := ⟨⟨by decide +kernel, by decide +kernel⟩, List.mem_of_getElem? (i := 9) (by decide +kernel), List.mem_of_getElem? (i := 291) (by decide +kernel), List.mem_of_getElem? (i := 292) (by decide +kernel)⟩
theorem lw_p7 : lw_okq (⟨"ClaimRows", "refuse", "(LClaimRows$Claim;)I"⟩, 16) := ⟨⟨by decide +kernel, by decide +kernel⟩, List.mem_of_getElem? (i := 9) (by decide +kernel), List.mem_of_getElem? (i := 311) (by decide +kernel), List.mem_of_getElem? (i := 312) (by decide +kernel)⟩
theorem lw_p8 : lw_okq (⟨"ClaimRows", "pay", "(LClaimRows$Claim;J)I"⟩, 16) := ⟨⟨by decide +kernel, by decide +kernel⟩, List.mem_of_getElem? (i := 9) (by decide +kernel), List.mem_of_getElem? (i := 315) (by decide +kernel), List.mem_of_getElem? (i := 316) (by decide +kernel)⟩
theorem lw_p9 : lw_okq (⟨"ClaimRowsModel", "isItem", "(I)Z"⟩, 33) := ⟨⟨by decide +kernel, by decide +kernel⟩, List.mem_of_getElem? (i := 363) (by decide +kernel), List.mem_of_getElem? (i := 485) (by decide +kernel), List.mem_of_getElem? (i := 486) (by decide +kernel)⟩
theorem lw_p10 : lw_okq (⟨"ClaimRowsModel", "other", "(III)I"⟩, 33) := ⟨⟨by decide +kernel, by decide +kernel⟩, List.mem_of_getElem? (i := 363) (by decide +kernel), List.mem_of_getElem? (i := 501) (by decide +kernel), List.mem_of_getElem? (i := 502) (by decide +kernel)⟩
theorem lw_p11 : lw_okq (⟨"ClaimRowsModel", "send", "(II)V"⟩, 33) := ⟨⟨by decide +kernel, by decide +kernel⟩, List.mem_of_getElem? (i := 363) (by decide +kernel), List.mem_of_getElem? (i := 505) (by decide +kernel), List.mem_of_getElem? (i := 506) (by decide +kernel)⟩
theorem lw_p12 : lw_okq (⟨"ClaimRowsModel", "isClaim", "(I)Z"⟩, 33) := ⟨⟨by decide +kernel, by decide +kernel⟩, List.mem_of_getElem? (i := 363) (by decide +kernel), List.mem_of_getElem? (i := 513) (by decide +kernel), List.mem_of_getElem? (i := 514) (by decide +kernel)⟩
theorem lw_p13 : lw_okq (⟨"ClaimRowsModel", "lacks", "(I)I"⟩, 33) := ⟨⟨by decide +kernel, by decide +kernel⟩, List.mem_of_getElem? (i := 363) (by decide +kernel), List.mem_of_getElem? (i := 520) (by decide +kernel), List.mem_of_getElem? (i := 521) (by decide +kernel)⟩
theorem lw_p14 : lw_okq (⟨"ClaimRowsModel", "sumNow", "(I)J"⟩, 33) := ⟨⟨by decide +kernel, by decide +kernel⟩, List.mem_of_getElem? (i := 363) (by decide +kernel), List.mem_of_getElem? (i := 542) (by decide +kernel), List.mem_of_getElem? (i := 543) (by decide +kernel)⟩
theorem lw_p15 : lw_okq (⟨"ClaimRowsModel", "many", "(II)I"⟩, 33) := ⟨⟨by decide +kernel, by decide +kernel⟩, List.mem_of_getElem? (i := 363) (by decide +kernel), List.mem_of_getElem? (i := 556) (by decide +kernel), List.mem_of_getElem? (i := 557) (by decide +kernel)⟩
def lw_privs_1 : List (MethodName × Nat) := [(⟨"ClaimRows", "itemNumbered", "(I)LClaimRows$Item;"⟩, 16), (⟨"ClaimRows", "standingClaim", "(II)LClaimRows$Claim;"⟩, 16), (⟨"ClaimRows", "claimNumbered", "(I)LClaimRows$Claim;"⟩, 16), (⟨"ClaimRows", "claimsOfSender", "(I)I"⟩, 16), (⟨"ClaimRows", "send", "(II)V"⟩, 16), (⟨"ClaimRows", "searchNumbered", "(I)LClaimRows$Search;"⟩, 16), (⟨"ClaimRows", "sumByTable", "(LClaimRows$Claim;)J"⟩, 16), (⟨"ClaimRows", "refuse", "(LClaimRows$Claim;)I"⟩, 16), (⟨"ClaimRows", "pay", "(LClaimRows$Claim;J)I"⟩, 16), (⟨"ClaimRowsModel", "isItem", "(I)Z"⟩, 33), (⟨"ClaimRowsModel", "other", "(III)I"⟩, 33), (⟨"ClaimRowsModel", "send", "(II)V"⟩, 33), (⟨"ClaimRowsModel", "isClaim", "(I)Z"⟩, 33), (⟨"ClaimRowsModel", "lacks", "(I)I"⟩, 33), (⟨"ClaimRowsModel", "sumNow", "(I)J"⟩, 33), (⟨"ClaimRowsModel", "many", "(II)I"⟩, 33)]
theorem lw_r1 : ∀ q ∈ lw_privs_1, lw_okq q := List.forall_mem_cons.mpr ⟨lw_p0, List.forall_mem_cons.mpr ⟨lw_p1, List.forall_mem_cons.mpr ⟨lw_p2, List.forall_mem_cons.mpr ⟨lw_p3, List.forall_mem_cons.mpr ⟨lw_p4, List.forall_mem_cons.mpr ⟨lw_p5, List.forall_mem_cons.mpr ⟨lw_p6, List.forall_mem_cons.mpr ⟨lw_p7, List.forall_mem_cons.mpr ⟨lw_p8, List.forall_mem_cons.mpr ⟨lw_p9, List.forall_mem_cons.mpr ⟨lw_p10, List.forall_mem_cons.mpr ⟨lw_p11, List.forall_mem_cons.mpr ⟨lw_p12, List.forall_mem_cons.mpr ⟨lw_p13, List.forall_mem_cons.mpr ⟨lw_p14, List.forall_mem_cons.mpr ⟨lw_p15, fun _ h => absurd h List.not_mem_nil⟩⟩⟩⟩⟩⟩⟩⟩⟩⟩⟩⟩⟩⟩⟩⟩
theorem lw_p16 : lw_okq (⟨"ClaimRowsModel", "before", "(I)I"⟩, 33) := ⟨⟨by decide +kernel, by decide +kernel⟩, List.mem_of_getElem? (i := 363) (by decide +kernel), List.mem_of_getElem? (i := 585) (by decide +kernel), List.mem_of_getElem? (i := 586) (by decide +kernel)⟩
def lw_privs_2 : List (MethodName × Nat) := [(⟨"ClaimRowsModel", "before", "(I)I"⟩, 33)]
theorem lw_r2 : ∀ q ∈ lw_privs_2, lw_okq q := List.forall_mem_cons.mpr ⟨lw_p16, fun _ h => absurd h List.not_mem_nil⟩
def lw_privs : List (MethodName × Nat) := lw_privs_1 ++ (lw_privs_2)
def lw_tbl : List Cond := k2_sels lw_privs ++ tables_1
theorem lw_privs_ok : ∀ q ∈ lw_privs, lw_okq q := by
  show ∀ q ∈ lw_privs_1 ++ (lw_privs_2), lw_okq q
  exact List.forall_mem_append.mpr ⟨lw_r1, lw_r2⟩
end
section
/-! The base: worlds 'X ++ a pool', contracts' starts and ends, whole-world calls. -/
def ct_R (D : va_G) (cl : List vw_C) (tys : List (ClassId × FieldType)) (w : va_W) (U : State) : Prop := va_P D cl w U.heap ∧ va_K D cl tys U
def ct_M (D : va_G) (cl : List vw_C) (tys : List (ClassId × FieldType)) (w : va_W) (sz : Nat) (U : State) : Prop := U.heap.size = sz ∧ va_P D cl w U.heap ∧ va_K D cl tys U ∧ va_D (fun _ => True) w
def ct_B (D : va_G) (cl : List vw_C) (tys : List (ClassId × FieldType)) (A : Nat → Prop) (w : va_W) (t : State) : Prop := va_P D cl w t.heap ∧ va_K D cl tys t ∧ va_D A w
theorem ct_bl0 {av : List Value} : FrameBlind (va_Pc av (fun _ => True)) := fun _ _ _ _ q => q
theorem ct_blR {D : va_G} {cl : List vw_C} {tys : List (ClassId × FieldType)} {w : va_W} {av : List Value} : FrameBlind (va_Pc av (ct_R D cl tys w)) := fun a U g mk q => ⟨q.1, q.2.1, va_K.moved (u := U) (U := U.calling g mk a) (Vm.Alike.refl U.vm) q.2.2⟩
theorem ct_blM {D : va_G} {cl : List vw_C} {tys : List (ClassId × FieldType)} {w : va_W} {sz : Nat} {av : List Value} : FrameBlind (va_Pc av (ct_M D cl tys w sz)) := fun a U g mk q => ⟨q.1, q.2.1, q.2.2.1, va_K.moved (u := U) (U := U.calling g mk a) (Vm.Alike.refl U.vm) q.2.2.2.1, q.2.2.2.2⟩
theorem ct_at0 {s : State} {H : Heap} {av : List Value} : ∀ U : State, U.heap = H → s.WarmedH U.vm → va_Pc av (fun _ => True) av.toArray U := fun _ _ _ => ⟨rfl, trivial⟩
theorem ct_atR {D : va_G} {cl : List vw_C} {tys : List (ClassId × FieldType)} {w : va_W} {s : State} {H : Heap} {av : List Value} (hP : va_P D cl w H) (hK : va_K D cl tys s) : ∀ U : State, U.heap = H → s.WarmedH U.vm → va_Pc av (ct_R D cl tys w) av.toArray U := fun U hU hW => ⟨rfl, by rw [hU]; exact hP, va_K.moved hW.alike hK⟩
theorem ct_atM {D : va_G} {cl : List vw_C} {tys : List (ClassId × FieldType)} {w : va_W} {A : Nat → Prop} {s : State} {H : Heap} {av : List Value} (hP : va_P D cl w H) (hK : va_K D cl tys s) (hD : va_D A w) : ∀ U : State, U.heap = H → s.WarmedH U.vm → va_Pc av (ct_M D cl tys w H.size) av.toArray U := fun U hU hW => ⟨rfl, by rw [hU], by rw [hU]; exact hP, va_K.moved hW.alike hK, hD.weaken (fun _ _ _ _ => trivial)⟩
/-- all of a world is the callee's: what the callee may write is the caller's -/
theorem ct_free {A : Nat → Prop} {ws : va_W} {H0 H : Heap} {locs : List Loc} (hD : va_D A ws) (hS : va_S A H0 H locs) (hA : ∀ q, H0.size ≤ q → A q) : ∀ q, va_A ws H.size q → A q := by
  intro q h
  rcases h with ⟨k, e, hk⟩ | h
  · exact hD.2 k _ hk
  · exact hA q (Nat.le_trans hS.1 h)
/-- two worlds side by side: a call on the first leaves the second as it is -/
theorem ct_join1 {A0 : Nat → Prop} {D : va_G} {cl : List vw_C} {w1 w2 w1' : va_W} {H H1 : Heap} (hP : va_P D cl (w1 ++ w2) H) (hD : va_D A0 (w1 ++ w2)) (hk : ∀ q : Nat, q < H.size → ¬ va_A w1 H.size q → H1[q]? = H[q]?) (hF : ∀ q, va_A w1 H.size q → A0 q) (hP1 : va_P D cl w1' H1) (hD1 : va_D (va_A w1 H.size) w1') : va_P D cl (w1' ++ w2) H1 ∧ va_D A0 (w1' ++ w2) := by
  have a2 : ∀ (k : Nat) (q : Nat × va_E), w2[k]? = some q → (w1 ++ w2)[w1.length + k]? = some q := fun k q h => by
    rw [List.getElem?_append_right (Nat.le_add_right _ _), Nat.add_sub_cancel_left]; exact h
  have a1 : ∀ (k : Nat) (q : Nat × va_E), w1[k]? = some q → (w1 ++ w2)[k]? = some q := fun k q h => by
    rw [List.getElem?_append_left (List.getElem?_eq_some_iff.mp h).1]; exact h
  have nA : ∀ (k : Nat) (q : Nat × va_E), w2[k]? = some q → ¬ va_A w1 H.size q.1 := by
    intro k q h hA
    have lt := (hP _ q (a2 k q h)).lt
    rcases hA with ⟨j, e, hj⟩ | hA
    · have := hD.1 _ _ _ _ (a1 j _ hj) (a2 k q h) rfl
      have := (List.getElem?_eq_some_iff.mp hj).1
      omega
    · omega
  have P2 : va_P D cl w2 H := fun k q h => hP _ q (a2 k q h)
  have P2' : va_P D cl w2 H1 := P2.kept (fun k q h => hk q.1 (hP _ q (a2 k q h)).lt (nA k q h))
  refine ⟨hP1.app P2', va_D.app ⟨hD1.1, fun k q h => hF _ (hD1.2 k q h)⟩ ⟨fun i j p q h1 h2 e => ?_, fun k q h => hD.2 _ q (a2 k q h)⟩ (fun i j p q h1 h2 e => nA j q h2 (e ▸ hD1.2 i p h1))⟩
  have := hD.1 _ _ _ _ (a2 i p h1) (a2 j q h2) e
  omega
theorem ct_swap {A : Nat → Prop} {D : va_G} {cl : List vw_C} {w1 w2 : va_W} {H : Heap} (hP : va_P D cl (w1 ++ w2) H) (hD : va_D A (w1 ++ w2)) : va_P D cl (w2 ++ w1) H ∧ va_D A (w2 ++ w1) := by
  have h1 := va_P.swap (a := []) (b := w1) (c := w2) (by simpa using hP)
  have h2 := va_D.swap (a := []) (b := w1) (c := w2) (by simpa using hD)
  exact ⟨by simpa using h1, by simpa using h2⟩
theorem ct_left {A : Nat → Prop} {D : va_G} {cl : List vw_C} {w1 w2 : va_W} {H : Heap} (hP : va_P D cl (w1 ++ w2) H) (hD : va_D A (w1 ++ w2)) : va_P D cl w1 H ∧ va_D A w1 := by
  have a1 : ∀ (k : Nat) (q : Nat × va_E), w1[k]? = some q → (w1 ++ w2)[k]? = some q := fun k q h => by
    rw [List.getElem?_append_left (List.getElem?_eq_some_iff.mp h).1]; exact h
  exact ⟨fun k q h => hP k q (a1 k q h), fun i j p q h1 h2 e => hD.1 _ _ _ _ (a1 i p h1) (a1 j q h2) e, fun k q h => hD.2 k q (a1 k q h)⟩
theorem ct_ne {f : Nat → va_E} {a b : Nat} {x y : va_E} (hb : f b = y) (ha : f a = x) (h : y ≠ x) : b ≠ a := fun e => h (by rw [← hb, ← ha, e])
theorem ct_nq {L : List Nat} {a q : Nat} (ha : a ∈ L) (hq : q ∉ L) : a ≠ q := fun z => hq (z ▸ ha)
theorem ct_K1 {D : va_G} {cl : List vw_C} {tys : List (ClassId × FieldType)} {s : State} {c1 c2 : ClassId} {ty : FieldType} {i j : Nat} (hK : va_K D cl tys s) (h1 : tys[i]? = some (c1, ty)) (h2 : tys[j]? = some (c2, ty)) : c1 = c2 := by
  have a := (hK.2 i _ h1).2
  have b := (hK.2 j _ h2).2
  cases ty with
  | object C =>
    obtain ⟨_, _, _, _, _, a4⟩ := a
    obtain ⟨_, _, _, _, _, b4⟩ := b
    exact Option.some.inj (a4.symm.trans b4)
  | _ => exact Option.some.inj (Eq.trans (Eq.symm a) b)
section HPR
variable {p : Program} {l : Launch} {e : Env} {R : Room} {s : State} {m : MethodId} {args : Array Value} {below : List Frame} {meth : Method} {c : Code} {H : Heap} {locs : List Loc} {cells slots : Nat} {Q : State → Prop}
variable {cc : ByteArray} {pc : Nat} {ls : Array Slot} {rest : List Value} {D : va_G} {cl : List vw_C} {A : Nat → Prop} {a : Nat} {tys : List (ClassId × FieldType)} {X : va_W} {L : List Nat} {f : Nat → va_E} {H0 : Heap}
theorem hp_get (hexec : p.tables.exec = Jvm.exec) (hb : c.code = cc) {own ref C : String} {T : u_T} {N ci index : Nat} {Ts : List Cond} (hts : ∀ w ∈ Ts, w.before args s = true) (hin : ∀ w ∈ u_ws C T N, w ∈ Ts) (hown : s.vm.findClass own = some m.cls) (hK : va_K D cl tys s) (hP : va_P D cl (X ++ va_pl L f) H) (ha : a ∈ L) {fs : List Value} (he : f a = .inr (ci, fs)) (hc : cl[ci]? = some (C, T, N)) (k : Nat) (hk : k < N) (hlink : (Cond.fieldLink own index ref (T k).2.1 (T k).2.2.1).before args s = true) (hsame : ∀ x, s.fieldFound? (T k).1 (T k).2.1 (T k).2.2.1 = some x → s.fieldFound? ref (T k).2.1 (T k).2.2.1 = some x) {v : Value} (hv : fs[k]? = some v) (hdg : decode cc pc = .ok (.getfield index, 3))
    (kk : W p l e R s m args below meth c H locs cells slots Q (F0 m (pc + 3) ls (v :: rest))) : W p l e R s m args below meth c H locs cells slots Q (F0 m pc ls (.ref a :: rest)) := by
  obtain ⟨k0, hk0⟩ := va_pl_get (X := X) (f := f) ha
  rw [he] at hk0
  exact va_get hexec hb hts hin hown hK hP k0 hk0 hc k hk hlink hsame hv hdg kk
theorem hp_put (hexec : p.tables.exec = Jvm.exec) (hb : c.code = cc) {own ref C : String} {T : u_T} {N ci index : Nat} {Ts : List Cond} (hts : ∀ w ∈ Ts, w.before args s = true) (hin : ∀ w ∈ u_ws C T N, w ∈ Ts) (ty0 : Nat → FieldType) (hty : ∀ k, k < N → parseFieldDescriptor (T k).2.2.1 = some (ty0 k)) (hnm : ∀ a, a < N → ∀ b, b < N → a ≠ b → (T a).2.1 ≠ (T b).2.1) (hown : s.vm.findClass own = some m.cls) (hK : va_K D cl tys s) (hP : va_P D cl (X ++ va_pl L f) H) (hD : va_D A (X ++ va_pl L f)) (hS0 : va_S A H0 H locs) (ha : a ∈ L) {fs : List Value} (he : f a = .inr (ci, fs)) (hc : cl[ci]? = some (C, T, N)) (k : Nat) (hk : k < N) (hlink : (Cond.fieldLink own index ref (T k).2.1 (T k).2.2.1).before args s = true) (hsame : ∀ x, s.fieldFound? (T k).1 (T k).2.1 (T k).2.2.1 = some x → s.fieldFound? ref (T k).2.1 (T k).2.2.1 = some x) (hfin : (T k).2.2.2 = false) {ty : FieldType} {v : Value} (hd : parseFieldDescriptor (T k).2.2.1 = some ty) (hn : narrow ty v = v) (hfit : fits ty v = true) (hl : k < fs.length)
    (hdg : decode cc pc = .ok (.putfield index, 3)) {fs' : List Value} (hfs : fs.set k v = fs') (kk : ∀ (H1 : Heap) (locs1 : List Loc), va_P D cl (X ++ va_pl L (va_up f a (.inr (ci, fs')))) H1 → va_D A (X ++ va_pl L (va_up f a (.inr (ci, fs')))) → va_S A H0 H1 locs1 → W p l e R s m args below meth c H1 locs1 cells slots Q (F0 m (pc + 3) ls rest)) : W p l e R s m args below meth c H locs cells slots Q (F0 m pc ls (v :: .ref a :: rest)) := by
  obtain ⟨k0, hk0⟩ := va_pl_get (X := X) (f := f) ha
  have hk1 := hk0
  rw [he] at hk1
  subst hfs
  refine va_put hexec hb hts hin ty0 hty hnm hown hK hP hD hS0 k0 hk1 hc k hk hlink hsame hfin hd hn hfit hl hdg (fun H1 locs1 h1 h2 h3 => ?_)
  rw [va_pl_set hD ha hk0] at h1 h2
  exact kk H1 locs1 h1 h2 h3
theorem hp_putF (hexec : p.tables.exec = Jvm.exec) (hb : c.code = cc) {own ref C : String} {T : u_T} {N ci index : Nat} {Ts : List Cond} (hts : ∀ w ∈ Ts, w.before args s = true) (hin : ∀ w ∈ u_ws C T N, w ∈ Ts) (ty0 : Nat → FieldType) (hty : ∀ k, k < N → parseFieldDescriptor (T k).2.2.1 = some (ty0 k)) (hnm : ∀ a, a < N → ∀ b, b < N → a ≠ b → (T a).2.1 ≠ (T b).2.1) (hown : s.vm.findClass own = some m.cls) (hK : va_K D cl tys s) (hP : va_P D cl (X ++ va_pl L f) H) (hD : va_D A (X ++ va_pl L f)) (hS0 : va_S A H0 H locs) (ha : a ∈ L) {fs : List Value} (he : f a = .inr (ci, fs)) (hc : cl[ci]? = some (C, T, N)) (k : Nat) (hk : k < N) (hlink : (Cond.fieldLink own index ref (T k).2.1 (T k).2.2.1).before args s = true) (hsame : ∀ x, s.fieldFound? (T k).1 (T k).2.1 (T k).2.2.1 = some x → s.fieldFound? ref (T k).2.1 (T k).2.2.1 = some x) (hfin : (T k).2.2.2 = true) (hin2 : meth.name = "<init>") (hdecl : (T k).1 = own) {ty : FieldType} {v : Value} (hd : parseFieldDescriptor (T k).2.2.1 = some ty) (hn : narrow ty v = v) (hfit : fits ty v = true) (hl : k < fs.length)
    (hdg : decode cc pc = .ok (.putfield index, 3)) {fs' : List Value} (hfs : fs.set k v = fs') (kk : ∀ (H1 : Heap) (locs1 : List Loc), va_P D cl (X ++ va_pl L (va_up f a (.inr (ci, fs')))) H1 → va_D A (X ++ va_pl L (va_up f a (.inr (ci, fs')))) → va_S A H0 H1 locs1 → W p l e R s m args below meth c H1 locs1 cells slots Q (F0 m (pc + 3) ls rest)) : W p l e R s m args below meth c H locs cells slots Q (F0 m pc ls (v :: .ref a :: rest)) := by
  obtain ⟨k0, hk0⟩ := va_pl_get (X := X) (f := f) ha
  have hk1 := hk0
  rw [he] at hk1
  subst hfs
  refine va_putF hexec hb hts hin ty0 hty hnm hown hK hP hD hS0 k0 hk1 hc k hk hlink hsame hfin hin2 hdecl hd hn hfit hl hdg (fun H1 locs1 h1 h2 h3 => ?_)
  rw [va_pl_set hD ha hk0] at h1 h2
  exact kk H1 locs1 h1 h2 h3
theorem hp_iald (hexec : p.tables.exec = Jvm.exec) (hb : c.code = cc) (hK : va_K D cl tys s) (hP : va_P D cl (X ++ va_pl L f) H) (ha : a ∈ L) (t0 : Nat) {cA : ClassId} {n : Nat} {g : Nat → Int32} (he : f a = .inl (cA, n, .inl g)) (ht : tys[t0]? = some (cA, .int)) {i : Int32} (hin : vp_in i n) (hdg : decode cc pc = .ok (.iaload, 1))
    (kk : W p l e R s m args below meth c H locs cells slots Q (F0 m (pc + 1) ls (.int (g i.toNatClampNeg) :: rest))) : W p l e R s m args below meth c H locs cells slots Q (F0 m pc ls (.int i :: .ref a :: rest)) := by
  obtain ⟨k0, hk0⟩ := va_pl_get (X := X) (f := f) ha
  rw [he] at hk0
  exact va_iald hexec hb hK hP k0 t0 hk0 ht hin hdg kk
theorem hp_iast (hexec : p.tables.exec = Jvm.exec) (hb : c.code = cc) (hK : va_K D cl tys s) (hP : va_P D cl (X ++ va_pl L f) H) (hD : va_D A (X ++ va_pl L f)) (hS : va_S A H0 H locs) (ha : a ∈ L) (t0 : Nat) {cA : ClassId} {n : Nat} {g : Nat → Int32} (he : f a = .inl (cA, n, .inl g)) (ht : tys[t0]? = some (cA, .int)) {i x : Int32} (hin : vp_in i n) (hdg : decode cc pc = .ok (.iastore, 1))
    (kk : ∀ (H1 : Heap) (locs1 : List Loc), va_P D cl (X ++ va_pl L (va_up f a (.inl (cA, n, .inl (upd g i.toNatClampNeg x))))) H1 → va_D A (X ++ va_pl L (va_up f a (.inl (cA, n, .inl (upd g i.toNatClampNeg x))))) → va_S A H0 H1 locs1 → W p l e R s m args below meth c H1 locs1 cells slots Q (F0 m (pc + 1) ls rest)) : W p l e R s m args below meth c H locs cells slots Q (F0 m pc ls (.int x :: .int i :: .ref a :: rest)) := by
  obtain ⟨k0, hk0⟩ := va_pl_get (X := X) (f := f) ha
  have hk1 := hk0
  rw [he] at hk1
  refine va_iast hexec hb hK hP hD hS k0 t0 hk1 ht hin hdg (fun H1 locs1 h1 h2 h3 => ?_)
  rw [va_pl_set hD ha hk0] at h1 h2
  exact kk H1 locs1 h1 h2 h3
theorem hp_new {c0 : Code} (hexec : p.tables.exec = Jvm.exec) (hb : c0.code = cc) {own C : String} {T : u_T} {N ci index : Nat} {Ts : List Cond} (hts : ∀ w ∈ Ts, w.before args s = true) (hin : ∀ w ∈ u_ws C T N, w ∈ Ts) (ty : Nat → FieldType) (hty : ∀ k, k < N → parseFieldDescriptor (T k).2.2.1 = some (ty k)) (hown : s.vm.findClass own = some m.cls) (hcl : (Cond.classLink own index C).before args s = true) (hinst : (Cond.instantiable C N).before args s = true) (hini : (Cond.initialized C).before args s = true)
    (hK : va_K D cl tys s) (hP : va_P D cl (X ++ va_pl L f) H) (hD : va_D A (X ++ va_pl L f)) (hS : va_S A H0 H locs) (hA : ∀ q, H0.size ≤ q → A q) (hc : cl[ci]? = some (C, T, N)) {fs : List Value} (hfs : ∀ j, j < N → defaultValue (ty j) = vp_V fs j) (hcells : cells + 1 ≤ R.cells) (hslots : slots + N ≤ R.slots) (hdg : decode cc pc = .ok (.new index, 3))
    (kk : ∀ (q : Nat) (H1 : Heap), q ∉ L → va_P D cl (X ++ va_pl (L ++ [q]) (va_up f q (.inr (ci, fs)))) H1 → va_D A (X ++ va_pl (L ++ [q]) (va_up f q (.inr (ci, fs)))) → va_S A H0 H1 locs →
      W p l e R s m args below meth c0 H1 locs (cells + 1) (slots + N) Q (F0 m (pc + 3) ls (.ref q :: rest))) : W p l e R s m args below meth c0 H locs cells slots Q (F0 m pc ls rest) := by
  refine va_new hexec hb hts hin ty hty hown hcl hinst hini hK hP hD hS hA hc hfs hcells hslots hdg (fun q H1 h1 h2 h3 => ?_)
  have hq : q ∉ L := va_pl_fresh2 h2
  rw [List.append_assoc, va_pl_push hq] at h1 h2
  exact kk q H1 hq h1 h2 h3
/-- a new array of ints in the pool; its class is the one that the tables have -/
theorem hp_newi (hexec : p.tables.exec = Jvm.exec) (hb : c.code = cc) (harr : (Cond.arrayClass .int).before args s = true) (hK : va_K D cl tys s) (t0 : Nat) {cA : ClassId} (ht : tys[t0]? = some (cA, .int)) (hP : va_P D cl (X ++ va_pl L f) H) (hD : va_D A (X ++ va_pl L f)) (hS : va_S A H0 H locs) (hA : ∀ q, H0.size ≤ q → A q)
    {n : Int32} {N' : Nat} (hn : ¬ n < 0) (hN : n.toNatClampNeg = N') (hbytes : N' * componentBytes .int ≤ 536870912) (hcells : cells + 1 ≤ R.cells) (hslots : slots + N' ≤ R.slots) (hdg : decode cc pc = .ok (.newarray .int, 2))
    (kk : ∀ (q : Nat) (H1 : Heap), q ∉ L → va_P D cl (X ++ va_pl (L ++ [q]) (va_up f q (.inl (cA, N', .inl (fun _ => 0))))) H1 → va_D A (X ++ va_pl (L ++ [q]) (va_up f q (.inl (cA, N', .inl (fun _ => 0))))) → va_S A H0 H1 locs →
      W p l e R s m args below meth c H1 locs (cells + 1) (slots + N') Q (F0 m (pc + 2) ls (.ref q :: rest))) : W p l e R s m args below meth c H locs cells slots Q (F0 m pc ls (.int n :: rest)) := by
  refine va_newa (atype := .int) (ty := .int) hexec hb harr rfl hK hP hD hS hA (a0 := (N', .inl (fun _ => 0))) (fun _ => rfl) hn hN hbytes hcells hslots hdg (fun q cB H1 hK1 h1 h2 h3 => ?_)
  have hlt : t0 < tys.length := (List.getElem?_eq_some_iff.mp ht).1
  have e : cB = cA := ct_K1 hK1 (i := tys.length) (j := t0) (by rw [List.getElem?_append_right (Nat.le_refl _), Nat.sub_self]; rfl) (by rw [List.getElem?_append_left hlt]; exact ht)
  subst e
  have hq : q ∉ L := va_pl_fresh2 h2
  rw [List.append_assoc, va_pl_push hq] at h1 h2
  exact kk q H1 hq h1 h2 h3
end HPR
theorem hp_recv {s : State} {H : Heap} {D : va_G} {cl : List vw_C} {a ci : Nat} {q : vw_C} {fs : List Value} {X : va_W} {L : List Nat} {f : Nat → va_E} {tys : List (ClassId × FieldType)} (hK : va_K D cl tys s) (hP : va_P D cl (X ++ va_pl L f) H) (hc : cl[ci]? = some q) (ha : a ∈ L) (he : f a = .inr (ci, fs)) : ∃ cell : Cell, H[a]? = some cell ∧ cell.vm.isStatics = false ∧ s.vm.findClass q.1 = some cell.cls := by
  obtain ⟨k0, hk0⟩ := va_pl_get (X := X) (f := f) ha
  rw [he] at hk0
  exact va_recv hK hP hc hk0
/-- truth as the machine has it -/
def bb_v (b : Bool) : Int32 := if b then 1 else 0
theorem bb_0 {b : Bool} : bb_v b = 0 ↔ b = false := by cases b <;> decide
theorem bb_n {b : Bool} : ¬ bb_v b = 0 ↔ b = true := by cases b <;> decide
theorem bb_t {P : Prop} [Decidable P] (h : P) : bb_v (decide P) = 1 := by simp [bb_v, h]
theorem bb_f {P : Prop} [Decidable P] (h : ¬ P) : bb_v (decide P) = 0 := by simp [bb_v, h]
theorem lc_lt {x y : Int64} : lg_cmp x y < 0 ↔ x < y := by
  unfold lg_cmp
  by_cases h1 : y < x
  · have h2 : ¬ x < y := fun h => by rw [Int64.lt_iff_toInt_lt] at h h1; omega
    simp [h1, h2]; try decide
  · by_cases h2 : x = y
    · subst h2; simp [h1]
    · have h3 : x < y := by
        rw [Int64.lt_iff_toInt_lt] at h1 ⊢
        have : x.toInt ≠ y.toInt := fun e => h2 (Int64.toInt_inj.mp e)
        omega
      simp [h1, h2, h3]; try decide
theorem lc_gt {x y : Int64} : 0 < lg_cmp x y ↔ y < x := by
  unfold lg_cmp
  by_cases h1 : y < x
  · simp [h1]; try decide
  · by_cases h2 : x = y
    · subst h2; simp [h1]
    · simp [h1, h2]; try decide
theorem lc_ge {x y : Int64} : 0 ≤ lg_cmp x y ↔ y ≤ x := by
  have := @lc_lt x y
  constructor
  · intro h
    have h2 : ¬ lg_cmp x y < 0 := fun q => by rw [Int32.lt_iff_toInt_lt] at q; rw [Int32.le_iff_toInt_le] at h; omega
    rw [this, Int64.lt_iff_toInt_lt] at h2
    rw [Int64.le_iff_toInt_le]; omega
  · intro h
    have h2 : ¬ lg_cmp x y < 0 := by rw [this, Int64.lt_iff_toInt_lt]; rw [Int64.le_iff_toInt_le] at h; omega
    rw [Int32.lt_iff_toInt_lt] at h2; rw [Int32.le_iff_toInt_le]; omega
theorem lc_le {x y : Int64} : lg_cmp x y ≤ 0 ↔ x ≤ y := by
  have := @lc_gt x y
  constructor
  · intro h
    have h2 : ¬ 0 < lg_cmp x y := fun q => by rw [Int32.lt_iff_toInt_lt] at q; rw [Int32.le_iff_toInt_le] at h; omega
    rw [this, Int64.lt_iff_toInt_lt] at h2
    rw [Int64.le_iff_toInt_le]; omega
  · intro h
    have h2 : ¬ 0 < lg_cmp x y := by rw [this, Int64.lt_iff_toInt_lt]; rw [Int64.le_iff_toInt_le] at h; omega
    rw [Int32.lt_iff_toInt_lt] at h2; rw [Int32.le_iff_toInt_le]; omega
/-! loops -/
theorem wl_R {p : Program} {l : Launch} {e : Env} {R : Room} {s : State} {m : MethodId} {args : Array Value} {below : List Frame} {meth : Method} {c : Code} {H : Heap} {locs : List Loc} {cells slots : Nat} {Q : State → Prop} {pc : Nat} {Inv : Nat → Array Slot → Prop} {N : Nat}
    (step : ∀ (j : Nat) (ls : Array Slot), j < N → Inv j ls → (∀ ls' : Array Slot, Inv (j + 1) ls' → W p l e R s m args below meth c H locs cells slots Q (F0 m pc ls' [])) → W p l e R s m args below meth c H locs cells slots Q (F0 m pc ls []))
    (fin : ∀ ls : Array Slot, Inv N ls → W p l e R s m args below meth c H locs cells slots Q (F0 m pc ls [])) : ∀ (j : Nat) (ls : Array Slot), j ≤ N → Inv j ls → W p l e R s m args below meth c H locs cells slots Q (F0 m pc ls []) := by
  have key : ∀ (k j : Nat) (ls : Array Slot), j + k = N → Inv j ls → W p l e R s m args below meth c H locs cells slots Q (F0 m pc ls []) := by
    intro k
    induction k with
    | zero => intro j ls h hI; have : j = N := by omega
              subst this; exact fin ls hI
    | succ k ih => intro j ls h hI; exact step j ls (by omega) hI (fun ls' h' => ih (j + 1) ls' (by omega) h')
  exact fun j ls h hI => key (N - j) j ls (by omega) hI
theorem wl_M {τ : Type} {p : Program} {l : Launch} {e : Env} {R : Room} {s : State} {m : MethodId} {args : Array Value} {below : List Frame} {meth : Method} {c : Code} {cells slots : Nat} {Q : State → Prop} {pc : Nat} {Inv : Nat → τ → Heap → List Loc → Array Slot → Prop} {N : Nat}
    (step : ∀ (j : Nat) (u : τ) (H : Heap) (locs : List Loc) (ls : Array Slot), j < N → Inv j u H locs ls → (∀ (u' : τ) (H' : Heap) (locs' : List Loc) (ls' : Array Slot), Inv (j + 1) u' H' locs' ls' → W p l e R s m args below meth c H' locs' cells slots Q (F0 m pc ls' [])) → W p l e R s m args below meth c H locs cells slots Q (F0 m pc ls []))
    (fin : ∀ (u : τ) (H : Heap) (locs : List Loc) (ls : Array Slot), Inv N u H locs ls → W p l e R s m args below meth c H locs cells slots Q (F0 m pc ls [])) : ∀ (j : Nat) (u : τ) (H : Heap) (locs : List Loc) (ls : Array Slot), j ≤ N → Inv j u H locs ls → W p l e R s m args below meth c H locs cells slots Q (F0 m pc ls []) := by
  have key : ∀ (k j : Nat) (u : τ) (H : Heap) (locs : List Loc) (ls : Array Slot), j + k = N → Inv j u H locs ls → W p l e R s m args below meth c H locs cells slots Q (F0 m pc ls []) := by
    intro k
    induction k with
    | zero => intro j u H locs ls h hI; have : j = N := by omega
              subst this; exact fin u H locs ls hI
    | succ k ih => intro j u H locs ls h hI; exact step j u H locs ls (by omega) hI (fun u' H' locs' ls' h' => ih (j + 1) u' H' locs' ls' (by omega) h')
  exact fun j u H locs ls h hI => key (N - j) j u H locs ls (by omega) hI
theorem bb_nar {b : Bool} : narrow .boolean (.int (bb_v b)) = .int (bb_v b) := by cases b <;> decide
end
section
def RX0 : String := "ClaimRows$Claim"
def RX1 : String := "ClaimRows$Item"
def RX2 : String := "ClaimRows$Search"
def RX3 : String := "ClaimRows"
def RX4 : String := "ClaimRowsModel"
def RJ6 : String := "java/lang/Integer"
def RJ9 : String := "java/lang/Math"
def RL : String := "ClaimRowsLaw"
def TX0 : u_T := fun k => match k with
  | 0 => ("ClaimRows$Claim", "number", "I", true)
  | 1 => ("ClaimRows$Claim", "itemNumber", "I", true)
  | 2 => ("ClaimRows$Claim", "item", "LClaimRows$Item;", true)
  | 3 => ("ClaimRows$Claim", "kind", "I", true)
  | 4 => ("ClaimRows$Claim", "earlier", "I", true)
  | 5 => ("ClaimRows$Claim", "state", "I", false)
  | 6 => ("ClaimRows$Claim", "lacking", "I", false)
  | 7 => ("ClaimRows$Claim", "searched", "I", false)
  | 8 => ("ClaimRows$Claim", "unanswered", "I", false)
  | 9 => ("ClaimRows$Claim", "seenWhole", "Z", false)
  | 10 => ("ClaimRows$Claim", "appealed", "Z", false)
  | 11 => ("ClaimRows$Claim", "backSaid", "Z", false)
  | _ => ("ClaimRows$Claim", "paidSum", "J", false)
def tyX0 : Nat → FieldType := fun k => match k with
  | 0 => .int
  | 1 => .int
  | 2 => .object "ClaimRows$Item"
  | 3 => .int
  | 4 => .int
  | 5 => .int
  | 6 => .int
  | 7 => .int
  | 8 => .int
  | 9 => .boolean
  | 10 => .boolean
  | 11 => .boolean
  | _ => .long
theorem nmX0 : ∀ a, a < 13 → ∀ b, b < 13 → a ≠ b → (TX0 a).2.1 ≠ (TX0 b).2.1 := by decide +kernel
theorem tyX0_ok : ∀ k, k < 13 → parseFieldDescriptor (TX0 k).2.2.1 = some (tyX0 k) := by decide +kernel
def TX1 : u_T := fun k => match k with
  | 0 => ("ClaimRows$Item", "service", "I", true)
  | 1 => ("ClaimRows$Item", "value", "J", true)
  | 2 => ("ClaimRows$Item", "insured", "J", true)
  | 3 => ("ClaimRows$Item", "day", "I", true)
  | 4 => ("ClaimRows$Item", "sender", "I", true)
  | 5 => ("ClaimRows$Item", "posts", "[I", true)
  | 6 => ("ClaimRows$Item", "passed", "I", false)
  | 7 => ("ClaimRows$Item", "sharesFrom", "I", false)
  | _ => ("ClaimRows$Item", "isFound", "Z", false)
def tyX1 : Nat → FieldType := fun k => match k with
  | 0 => .int
  | 1 => .long
  | 2 => .long
  | 3 => .int
  | 4 => .int
  | 5 => .array .int
  | 6 => .int
  | 7 => .int
  | _ => .boolean
theorem nmX1 : ∀ a, a < 9 → ∀ b, b < 9 → a ≠ b → (TX1 a).2.1 ≠ (TX1 b).2.1 := by decide +kernel
theorem tyX1_ok : ∀ k, k < 9 → parseFieldDescriptor (TX1 k).2.2.1 = some (tyX1 k) := by decide +kernel
def TX2 : u_T := fun k => match k with
  | 0 => ("ClaimRows$Search", "claim", "LClaimRows$Claim;", true)
  | 1 => ("ClaimRows$Search", "due", "I", true)
  | _ => ("ClaimRows$Search", "unanswered", "Z", false)
def tyX2 : Nat → FieldType := fun k => match k with
  | 0 => .object "ClaimRows$Claim"
  | 1 => .int
  | _ => .boolean
theorem nmX2 : ∀ a, a < 3 → ∀ b, b < 3 → a ≠ b → (TX2 a).2.1 ≠ (TX2 b).2.1 := by decide +kernel
theorem tyX2_ok : ∀ k, k < 3 → parseFieldDescriptor (TX2 k).2.2.1 = some (tyX2 k) := by decide +kernel
def TX3 : u_T := fun k => match k with
  | 0 => ("ClaimRows", "items", "[LClaimRows$Item;", true)
  | 1 => ("ClaimRows", "itemCount", "I", false)
  | 2 => ("ClaimRows", "claims", "[LClaimRows$Claim;", true)
  | 3 => ("ClaimRows", "claimCount", "I", false)
  | 4 => ("ClaimRows", "searches", "[LClaimRows$Search;", true)
  | 5 => ("ClaimRows", "searchCount", "I", false)
  | 6 => ("ClaimRows", "tableMost", "[J", true)
  | 7 => ("ClaimRows", "tableDays", "[I", true)
  | 8 => ("ClaimRows", "limits", "[J", true)
  | 9 => ("ClaimRows", "letterClaims", "[I", true)
  | 10 => ("ClaimRows", "letterKinds", "[I", true)
  | 11 => ("ClaimRows", "letterCount", "I", false)
  | 12 => ("ClaimRows", "clock", "I", false)
  | 13 => ("ClaimRows", "paidInAll", "J", false)
  | 14 => ("ClaimRows", "recoveredInAll", "J", false)
  | _ => ("ClaimRows", "refusedInAll", "I", false)
def tyX3 : Nat → FieldType := fun k => match k with
  | 0 => .array (.object "ClaimRows$Item")
  | 1 => .int
  | 2 => .array (.object "ClaimRows$Claim")
  | 3 => .int
  | 4 => .array (.object "ClaimRows$Search")
  | 5 => .int
  | 6 => .array .long
  | 7 => .array .int
  | 8 => .array .long
  | 9 => .array .int
  | 10 => .array .int
  | 11 => .int
  | 12 => .int
  | 13 => .long
  | 14 => .long
  | _ => .int
theorem nmX3 : ∀ a, a < 16 → ∀ b, b < 16 → a ≠ b → (TX3 a).2.1 ≠ (TX3 b).2.1 := by decide +kernel
theorem tyX3_ok : ∀ k, k < 16 → parseFieldDescriptor (TX3 k).2.2.1 = some (tyX3 k) := by decide +kernel
def TX4 : u_T := fun k => match k with
  | 0 => ("ClaimRowsModel", "items", "I", false)
  | 1 => ("ClaimRowsModel", "service", "[I", true)
  | 2 => ("ClaimRowsModel", "value", "[J", true)
  | 3 => ("ClaimRowsModel", "insured", "[J", true)
  | 4 => ("ClaimRowsModel", "handed", "[I", true)
  | 5 => ("ClaimRowsModel", "sender", "[I", true)
  | 6 => ("ClaimRowsModel", "passes", "[I", true)
  | 7 => ("ClaimRowsModel", "posts", "[I", true)
  | 8 => ("ClaimRowsModel", "whole", "[Z", true)
  | 9 => ("ClaimRowsModel", "isFound", "[Z", true)
  | 10 => ("ClaimRowsModel", "most", "[J", true)
  | 11 => ("ClaimRowsModel", "days", "[I", true)
  | 12 => ("ClaimRowsModel", "claims", "I", false)
  | 13 => ("ClaimRowsModel", "itemOf", "[I", true)
  | 14 => ("ClaimRowsModel", "kindOf", "[I", true)
  | 15 => ("ClaimRowsModel", "state", "[I", true)
  | 16 => ("ClaimRowsModel", "proofs", "[Z", true)
  | 17 => ("ClaimRowsModel", "appealed", "[Z", true)
  | 18 => ("ClaimRowsModel", "isSaid", "[Z", true)
  | 19 => ("ClaimRowsModel", "paidSum", "[J", true)
  | 20 => ("ClaimRowsModel", "searches", "I", false)
  | 21 => ("ClaimRowsModel", "claimOf", "[I", true)
  | 22 => ("ClaimRowsModel", "due", "[I", true)
  | 23 => ("ClaimRowsModel", "found", "[I", true)
  | 24 => ("ClaimRowsModel", "counts", "[Z", true)
  | 25 => ("ClaimRowsModel", "clock", "I", false)
  | 26 => ("ClaimRowsModel", "limits", "[J", true)
  | 27 => ("ClaimRowsModel", "letters", "I", false)
  | 28 => ("ClaimRowsModel", "letterClaims", "[I", true)
  | 29 => ("ClaimRowsModel", "letterKinds", "[I", true)
  | 30 => ("ClaimRowsModel", "paidAll", "J", false)
  | 31 => ("ClaimRowsModel", "recovered", "J", false)
  | _ => ("ClaimRowsModel", "refused", "I", false)
def tyX4 : Nat → FieldType := fun k => match k with
  | 0 => .int
  | 1 => .array .int
  | 2 => .array .long
  | 3 => .array .long
  | 4 => .array .int
  | 5 => .array .int
  | 6 => .array .int
  | 7 => .array .int
  | 8 => .array .boolean
  | 9 => .array .boolean
  | 10 => .array .long
  | 11 => .array .int
  | 12 => .int
  | 13 => .array .int
  | 14 => .array .int
  | 15 => .array .int
  | 16 => .array .boolean
  | 17 => .array .boolean
  | 18 => .array .boolean
  | 19 => .array .long
  | 20 => .int
  | 21 => .array .int
  | 22 => .array .int
  | 23 => .array .int
  | 24 => .array .boolean
  | 25 => .int
  | 26 => .array .long
  | 27 => .int
  | 28 => .array .int
  | 29 => .array .int
  | 30 => .long
  | 31 => .long
  | _ => .int
theorem nmX4 : ∀ a, a < 33 → ∀ b, b < 33 → a ≠ b → (TX4 a).2.1 ≠ (TX4 b).2.1 := by decide +kernel
theorem tyX4_ok : ∀ k, k < 33 → parseFieldDescriptor (TX4 k).2.2.1 = some (tyX4 k) := by decide +kernel
abbrev vwCl : List vw_C := [(RX0, TX0, 13), (RX1, TX1, 9), (RX2, TX2, 3), (RX3, TX3, 16), (RX4, TX4, 33)]
abbrev cX3_init : ByteArray := prog_1_method_1_code
def yX3_init : MethodName := ⟨RX3, "<init>", "()V"⟩
abbrev cX3_item : ByteArray := prog_1_method_2_code
def yX3_item : MethodName := ⟨RX3, "item", "(IJJII)I"⟩
abbrev cX3_isBelow : ByteArray := prog_1_method_22_code
def yX3_isBelow : MethodName := ⟨RX3, "isBelow", "(II)Z"⟩
abbrev cX3_areCents : ByteArray := prog_1_method_23_code
def yX3_areCents : MethodName := ⟨RX3, "areCents", "(J)Z"⟩
abbrev cX3_isWithin : ByteArray := prog_1_method_21_code
def yX3_isWithin : MethodName := ⟨RX3, "isWithin", "(JJJ)Z"⟩
abbrev cX1_init : ByteArray := prog_3_method_1_code
def yX1_init : MethodName := ⟨RX1, "<init>", "(IJJII)V"⟩
abbrev cX3_pass : ByteArray := prog_1_method_3_code
def yX3_pass : MethodName := ⟨RX3, "pass", "(IIZ)I"⟩
abbrev cX3_itemNumbered : ByteArray := prog_1_method_26_code
def yX3_itemNumbered : MethodName := ⟨RX3, "itemNumbered", "(I)LClaimRows$Item;"⟩
abbrev cX1_addPost : ByteArray := prog_3_method_2_code
def yX1_addPost : MethodName := ⟨RX1, "addPost", "(IZ)V"⟩
abbrev cX3_table : ByteArray := prog_1_method_4_code
def yX3_table : MethodName := ⟨RX3, "table", "(IIJI)I"⟩
abbrev cX3_rowOf : ByteArray := prog_1_method_24_code
def yX3_rowOf : MethodName := ⟨RX3, "rowOf", "(II)I"⟩
abbrev cX3_claim : ByteArray := prog_1_method_5_code
def yX3_claim : MethodName := ⟨RX3, "claim", "(IIII)I"⟩
abbrev cX3_mayClaim : ByteArray := prog_1_method_25_code
def yX3_mayClaim : MethodName := ⟨RX3, "mayClaim", "(II)Z"⟩
abbrev cX3_standingClaim : ByteArray := prog_1_method_29_code
def yX3_standingClaim : MethodName := ⟨RX3, "standingClaim", "(II)LClaimRows$Claim;"⟩
abbrev cX3_claimNumbered : ByteArray := prog_1_method_27_code
def yX3_claimNumbered : MethodName := ⟨RX3, "claimNumbered", "(I)LClaimRows$Claim;"⟩
abbrev cX3_claimsOfSender : ByteArray := prog_1_method_30_code
def yX3_claimsOfSender : MethodName := ⟨RX3, "claimsOfSender", "(I)I"⟩
abbrev cX0_init : ByteArray := prog_2_method_1_code
def yX0_init : MethodName := ⟨RX0, "<init>", "(IILClaimRows$Item;II)V"⟩
abbrev cX3_send : ByteArray := prog_1_method_34_code
def yX3_send : MethodName := ⟨RX3, "send", "(II)V"⟩
abbrev cX3_proof : ByteArray := prog_1_method_6_code
def yX3_proof : MethodName := ⟨RX3, "proof", "(II)I"⟩
abbrev cJ6_bitCount : ByteArray := prog_7_method_49_code
def yJ6_bitCount : MethodName := ⟨RJ6, "bitCount", "(I)I"⟩
abbrev cX3_search : ByteArray := prog_1_method_7_code
def yX3_search : MethodName := ⟨RX3, "search", "(III)I"⟩
abbrev cX2_init : ByteArray := prog_4_method_1_code
def yX2_init : MethodName := ⟨RX2, "<init>", "(LClaimRows$Claim;I)V"⟩
abbrev cX0_addSearch : ByteArray := prog_2_method_2_code
def yX0_addSearch : MethodName := ⟨RX0, "addSearch", "()V"⟩
abbrev cX3_answer : ByteArray := prog_1_method_8_code
def yX3_answer : MethodName := ⟨RX3, "answer", "(IZ)I"⟩
abbrev cX3_searchNumbered : ByteArray := prog_1_method_28_code
def yX3_searchNumbered : MethodName := ⟨RX3, "searchNumbered", "(I)LClaimRows$Search;"⟩
abbrev cX2_close : ByteArray := prog_4_method_2_code
def yX2_close : MethodName := ⟨RX2, "close", "(Z)V"⟩
abbrev cX0_endSearch : ByteArray := prog_2_method_3_code
def yX0_endSearch : MethodName := ⟨RX0, "endSearch", "(Z)V"⟩
abbrev cX3_tick : ByteArray := prog_1_method_9_code
def yX3_tick : MethodName := ⟨RX3, "tick", "(I)I"⟩
abbrev cX3_sum : ByteArray := prog_1_method_10_code
def yX3_sum : MethodName := ⟨RX3, "sum", "(I)J"⟩
abbrev cX3_sumByTable : ByteArray := prog_1_method_31_code
def yX3_sumByTable : MethodName := ⟨RX3, "sumByTable", "(LClaimRows$Claim;)J"⟩
abbrev cJ9_min_long : ByteArray := prog_8_method_70_code
def yJ9_min_long : MethodName := ⟨RJ9, "min", "(JJ)J"⟩
abbrev cX3_limit : ByteArray := prog_1_method_11_code
def yX3_limit : MethodName := ⟨RX3, "limit", "(IJ)I"⟩
abbrev cX3_decide : ByteArray := prog_1_method_12_code
def yX3_decide : MethodName := ⟨RX3, "decide", "(II)I"⟩
abbrev cX0_isReady : ByteArray := prog_2_method_4_code
def yX0_isReady : MethodName := ⟨RX0, "isReady", "()Z"⟩
abbrev cX3_refuse : ByteArray := prog_1_method_32_code
def yX3_refuse : MethodName := ⟨RX3, "refuse", "(LClaimRows$Claim;)I"⟩
abbrev cX3_pay : ByteArray := prog_1_method_33_code
def yX3_pay : MethodName := ⟨RX3, "pay", "(LClaimRows$Claim;J)I"⟩
abbrev cX3_share : ByteArray := prog_1_method_13_code
def yX3_share : MethodName := ⟨RX3, "share", "(II)J"⟩
abbrev cX1_partOf : ByteArray := prog_3_method_3_code
def yX1_partOf : MethodName := ⟨RX1, "partOf", "(JI)J"⟩
abbrev cX3_found : ByteArray := prog_1_method_14_code
def yX3_found : MethodName := ⟨RX3, "found", "(I)I"⟩
abbrev cX3_back : ByteArray := prog_1_method_15_code
def yX3_back : MethodName := ⟨RX3, "back", "(IZ)I"⟩
abbrev cX3_appeal : ByteArray := prog_1_method_16_code
def yX3_appeal : MethodName := ⟨RX3, "appeal", "(I)I"⟩
abbrev cX0_reopen : ByteArray := prog_2_method_5_code
def yX0_reopen : MethodName := ⟨RX0, "reopen", "()V"⟩
abbrev cX3_paid : ByteArray := prog_1_method_17_code
def yX3_paid : MethodName := ⟨RX3, "paid", "(II)Z"⟩
abbrev cX3_about : ByteArray := prog_1_method_18_code
def yX3_about : MethodName := ⟨RX3, "about", "(II)I"⟩
abbrev cX3_letter : ByteArray := prog_1_method_19_code
def yX3_letter : MethodName := ⟨RX3, "letter", "(II)I"⟩
abbrev cJ9_min : ByteArray := prog_8_method_69_code
def yJ9_min : MethodName := ⟨RJ9, "min", "(II)I"⟩
abbrev cX3_all : ByteArray := prog_1_method_20_code
def yX3_all : MethodName := ⟨RX3, "all", "(I)J"⟩
abbrev cX4_init : ByteArray := prog_6_method_1_code
def yX4_init : MethodName := ⟨RX4, "<init>", "()V"⟩
abbrev cX4_item : ByteArray := prog_6_method_6_code
def yX4_item : MethodName := ⟨RX4, "item", "(IJJII)I"⟩
abbrev cX4_isIn : ByteArray := prog_6_method_2_code
def yX4_isIn : MethodName := ⟨RX4, "isIn", "(JJJ)Z"⟩
abbrev cX4_pass : ByteArray := prog_6_method_7_code
def yX4_pass : MethodName := ⟨RX4, "pass", "(IIZ)I"⟩
abbrev cX4_isItem : ByteArray := prog_6_method_3_code
def yX4_isItem : MethodName := ⟨RX4, "isItem", "(I)Z"⟩
abbrev cX4_table : ByteArray := prog_6_method_8_code
def yX4_table : MethodName := ⟨RX4, "table", "(IIJI)I"⟩
abbrev cX4_claim : ByteArray := prog_6_method_10_code
def yX4_claim : MethodName := ⟨RX4, "claim", "(IIII)I"⟩
abbrev cX4_other : ByteArray := prog_6_method_9_code
def yX4_other : MethodName := ⟨RX4, "other", "(III)I"⟩
abbrev cX4_send : ByteArray := prog_6_method_5_code
def yX4_send : MethodName := ⟨RX4, "send", "(II)V"⟩
abbrev cX4_proof : ByteArray := prog_6_method_13_code
def yX4_proof : MethodName := ⟨RX4, "proof", "(II)I"⟩
abbrev cX4_isClaim : ByteArray := prog_6_method_4_code
def yX4_isClaim : MethodName := ⟨RX4, "isClaim", "(I)Z"⟩
abbrev cX4_needs : ByteArray := prog_6_method_11_code
def yX4_needs : MethodName := ⟨RX4, "needs", "(II)Z"⟩
abbrev cX4_lacks : ByteArray := prog_6_method_12_code
def yX4_lacks : MethodName := ⟨RX4, "lacks", "(I)I"⟩
abbrev cX4_search : ByteArray := prog_6_method_14_code
def yX4_search : MethodName := ⟨RX4, "search", "(III)I"⟩
abbrev cX4_answer : ByteArray := prog_6_method_15_code
def yX4_answer : MethodName := ⟨RX4, "answer", "(IZ)I"⟩
abbrev cX4_tick : ByteArray := prog_6_method_16_code
def yX4_tick : MethodName := ⟨RX4, "tick", "(I)I"⟩
abbrev cX4_sum : ByteArray := prog_6_method_19_code
def yX4_sum : MethodName := ⟨RX4, "sum", "(I)J"⟩
abbrev cX4_sumNow : ByteArray := prog_6_method_18_code
def yX4_sumNow : MethodName := ⟨RX4, "sumNow", "(I)J"⟩
abbrev cX4_limit : ByteArray := prog_6_method_20_code
def yX4_limit : MethodName := ⟨RX4, "limit", "(IJ)I"⟩
abbrev cX4_decide : ByteArray := prog_6_method_21_code
def yX4_decide : MethodName := ⟨RX4, "decide", "(II)I"⟩
abbrev cX4_many : ByteArray := prog_6_method_17_code
def yX4_many : MethodName := ⟨RX4, "many", "(II)I"⟩
abbrev cX4_share : ByteArray := prog_6_method_22_code
def yX4_share : MethodName := ⟨RX4, "share", "(II)J"⟩
abbrev cX4_found : ByteArray := prog_6_method_23_code
def yX4_found : MethodName := ⟨RX4, "found", "(I)I"⟩
abbrev cX4_back : ByteArray := prog_6_method_24_code
def yX4_back : MethodName := ⟨RX4, "back", "(IZ)I"⟩
abbrev cX4_appeal : ByteArray := prog_6_method_25_code
def yX4_appeal : MethodName := ⟨RX4, "appeal", "(I)I"⟩
abbrev cX4_paid : ByteArray := prog_6_method_26_code
def yX4_paid : MethodName := ⟨RX4, "paid", "(II)Z"⟩
abbrev cX4_about : ByteArray := prog_6_method_28_code
def yX4_about : MethodName := ⟨RX4, "about", "(II)I"⟩
abbrev cX4_before : ByteArray := prog_6_method_27_code
def yX4_before : MethodName := ⟨RX4, "before", "(I)I"⟩
abbrev cX4_letter : ByteArray := prog_6_method_29_code
def yX4_letter : MethodName := ⟨RX4, "letter", "(II)I"⟩
abbrev cX4_all : ByteArray := prog_6_method_30_code
def yX4_all : MethodName := ⟨RX4, "all", "(I)J"⟩
def al_0 : List Cond := [Cond.initialized RL, Cond.initialized RX3, Cond.initialized RX4, Cond.initialized RX1, Cond.initialized RX0, Cond.initialized RJ6, Cond.initialized RX2, Cond.initialized RJ9, Cond.classLink RL 7 RX3, Cond.instantiable RX3 16, Cond.methodLink RL 9 yX3_init, Cond.instanceMethod yX3_init, Cond.code yX3_init cX3_init 1 none, Cond.methodLink RX3 1 objectInit, Cond.instanceMethod objectInit, Cond.code objectInit ⟨#[0xb1]⟩ 1 none]
def al_1 : List Cond := [Cond.classLink RX3 9 RX1, Cond.classLink RX3 15 RX0, Cond.classLink RX3 21 RX2, Cond.fieldLink RX3 11 "ClaimRows" "items" "[LClaimRows$Item;", Cond.fieldLink RX3 58 "ClaimRows" "itemCount" "I", Cond.fieldLink RX3 17 "ClaimRows" "claims" "[LClaimRows$Claim;", Cond.fieldLink RX3 99 "ClaimRows" "claimCount" "I", Cond.fieldLink RX3 23 "ClaimRows" "searches" "[LClaimRows$Search;", Cond.fieldLink RX3 137 "ClaimRows" "searchCount" "I", Cond.fieldLink RX3 27 "ClaimRows" "tableMost" "[J", Cond.fieldLink RX3 31 "ClaimRows" "tableDays" "[I", Cond.fieldLink RX3 35 "ClaimRows" "limits" "[J", Cond.fieldLink RX3 38 "ClaimRows" "letterClaims" "[I", Cond.fieldLink RX3 41 "ClaimRows" "letterKinds" "[I", Cond.fieldLink RX3 222 "ClaimRows" "letterCount" "I", Cond.fieldLink RX3 131 "ClaimRows" "clock" "I"]
def al_2 : List Cond := [Cond.fieldLink RX3 230 "ClaimRows" "paidInAll" "J", Cond.fieldLink RX3 205 "ClaimRows" "recoveredInAll" "J", Cond.fieldLink RX3 233 "ClaimRows" "refusedInAll" "I", Cond.arrayClass .long, Cond.arrayClass .int, Cond.methodLink RL 15 yX3_item, Cond.instanceMethod yX3_item, Cond.selects RX3 yX3_item yX3_item, Cond.code yX3_item cX3_item 8 (some .int), Cond.methodLink RX3 44 yX3_isBelow, Cond.static yX3_isBelow, Cond.code yX3_isBelow cX3_isBelow 2 (some .boolean), Cond.methodLink RX3 48 yX3_areCents, Cond.static yX3_areCents, Cond.code yX3_areCents cX3_areCents 2 (some .boolean), Cond.constantLong RX3 236 10000000]
def al_3 : List Cond := [Cond.methodLink RX3 54 yX3_isWithin, Cond.static yX3_isWithin, Cond.code yX3_isWithin cX3_isWithin 6 (some .boolean), Cond.constantLong RX3 52 100000, Cond.instantiable RX1 9, Cond.methodLink RX3 62 yX1_init, Cond.instanceMethod yX1_init, Cond.code yX1_init cX1_init 8 none, Cond.methodLink RX1 3 objectInit, Cond.fieldLink RX1 15 "ClaimRows$Item" "service" "I", Cond.fieldLink RX3 92 "ClaimRows$Item" "service" "I", Cond.fieldLink RX1 19 "ClaimRows$Item" "value" "J", Cond.fieldLink RX3 241 "ClaimRows$Item" "value" "J", Cond.fieldLink RX1 23 "ClaimRows$Item" "insured" "J", Cond.fieldLink RX3 238 "ClaimRows$Item" "insured" "J", Cond.fieldLink RX1 26 "ClaimRows$Item" "day" "I"]
def al_4 : List Cond := [Cond.fieldLink RX3 89 "ClaimRows$Item" "day" "I", Cond.fieldLink RX1 29 "ClaimRows$Item" "sender" "I", Cond.fieldLink RX3 102 "ClaimRows$Item" "sender" "I", Cond.fieldLink RX1 9 "ClaimRows$Item" "posts" "[I", Cond.fieldLink RX1 32 "ClaimRows$Item" "passed" "I", Cond.fieldLink RX3 69 "ClaimRows$Item" "passed" "I", Cond.fieldLink RX1 35 "ClaimRows$Item" "sharesFrom" "I", Cond.fieldLink RX3 196 "ClaimRows$Item" "isFound" "Z", Cond.methodLink RL 20 yX3_pass, Cond.instanceMethod yX3_pass, Cond.selects RX3 yX3_pass yX3_pass, Cond.code yX3_pass cX3_pass 5 (some .int), Cond.methodLink RX3 65 yX3_itemNumbered, Cond.selects RX3 yX3_itemNumbered yX3_itemNumbered, Cond.instanceMethod yX3_itemNumbered, Cond.code yX3_itemNumbered cX3_itemNumbered 2 (some (.object "ClaimRows$Item"))]
def al_5 : List Cond := [Cond.methodLink RX3 72 yX1_addPost, Cond.instanceMethod yX1_addPost, Cond.selects RX1 yX1_addPost yX1_addPost, Cond.code yX1_addPost cX1_addPost 3 none, Cond.methodLink RL 25 yX3_table, Cond.instanceMethod yX3_table, Cond.selects RX3 yX3_table yX3_table, Cond.code yX3_table cX3_table 7 (some .int), Cond.constantLong RX3 76 10000, Cond.methodLink RX3 78 yX3_rowOf, Cond.static yX3_rowOf, Cond.code yX3_rowOf cX3_rowOf 2 (some .int), Cond.methodLink RL 30 yX3_claim, Cond.instanceMethod yX3_claim, Cond.selects RX3 yX3_claim yX3_claim, Cond.code yX3_claim cX3_claim 7 (some .int)]
def al_6 : List Cond := [Cond.constantLong RX3 82 2, Cond.constantLong RX3 84 200000, Cond.methodLink RX3 86 yX3_mayClaim, Cond.static yX3_mayClaim, Cond.code yX3_mayClaim cX3_mayClaim 2 (some .boolean), Cond.methodLink RX3 95 yX3_standingClaim, Cond.selects RX3 yX3_standingClaim yX3_standingClaim, Cond.instanceMethod yX3_standingClaim, Cond.code yX3_standingClaim cX3_standingClaim 5 (some (.object "ClaimRows$Claim")), Cond.methodLink RX3 116 yX3_claimNumbered, Cond.selects RX3 yX3_claimNumbered yX3_claimNumbered, Cond.instanceMethod yX3_claimNumbered, Cond.code yX3_claimNumbered cX3_claimNumbered 2 (some (.object "ClaimRows$Claim")), Cond.methodLink RX3 105 yX3_claimsOfSender, Cond.selects RX3 yX3_claimsOfSender yX3_claimsOfSender, Cond.instanceMethod yX3_claimsOfSender]
def al_7 : List Cond := [Cond.code yX3_claimsOfSender cX3_claimsOfSender 5 (some .int), Cond.instantiable RX0 13, Cond.methodLink RX3 109 yX0_init, Cond.instanceMethod yX0_init, Cond.code yX0_init cX0_init 6 none, Cond.methodLink RX0 3 objectInit, Cond.fieldLink RX0 15 "ClaimRows$Claim" "number" "I", Cond.fieldLink RX3 199 "ClaimRows$Claim" "number" "I", Cond.fieldLink RX0 18 "ClaimRows$Claim" "itemNumber" "I", Cond.fieldLink RX3 211 "ClaimRows$Claim" "itemNumber" "I", Cond.fieldLink RX0 21 "ClaimRows$Claim" "item" "LClaimRows$Item;", Cond.fieldLink RX3 188 "ClaimRows$Claim" "item" "LClaimRows$Item;", Cond.fieldLink RX0 25 "ClaimRows$Claim" "kind" "I", Cond.fieldLink RX3 134 "ClaimRows$Claim" "kind" "I", Cond.fieldLink RX0 28 "ClaimRows$Claim" "earlier" "I", Cond.fieldLink RX3 219 "ClaimRows$Claim" "earlier" "I"]
def al_8 : List Cond := [Cond.fieldLink RX0 9 "ClaimRows$Claim" "state" "I", Cond.fieldLink RX3 120 "ClaimRows$Claim" "state" "I", Cond.fieldLink RX0 39 "ClaimRows$Claim" "lacking" "I", Cond.fieldLink RX3 123 "ClaimRows$Claim" "lacking" "I", Cond.fieldLink RX0 42 "ClaimRows$Claim" "searched" "I", Cond.fieldLink RX0 45 "ClaimRows$Claim" "unanswered" "I", Cond.fieldLink RX3 217 "ClaimRows$Claim" "unanswered" "I", Cond.fieldLink RX0 48 "ClaimRows$Claim" "seenWhole" "Z", Cond.fieldLink RX3 175 "ClaimRows$Claim" "seenWhole" "Z", Cond.fieldLink RX0 52 "ClaimRows$Claim" "appealed" "Z", Cond.fieldLink RX3 208 "ClaimRows$Claim" "appealed" "Z", Cond.fieldLink RX3 202 "ClaimRows$Claim" "backSaid" "Z", Cond.fieldLink RX3 163 "ClaimRows$Claim" "paidSum" "J", Cond.methodLink RX3 112 yX3_send, Cond.selects RX3 yX3_send yX3_send, Cond.instanceMethod yX3_send]
def al_9 : List Cond := [Cond.code yX3_send cX3_send 3 none, Cond.methodLink RL 35 yX3_proof, Cond.instanceMethod yX3_proof, Cond.selects RX3 yX3_proof yX3_proof, Cond.code yX3_proof cX3_proof 6 (some .int), Cond.methodLink RX3 126 yJ6_bitCount, Cond.static yJ6_bitCount, Cond.code yJ6_bitCount cJ6_bitCount 1 (some .int), Cond.constant RJ6 265 1431655765, Cond.constant RJ6 266 858993459, Cond.constant RJ6 267 252645135, Cond.methodLink RL 40 yX3_search, Cond.instanceMethod yX3_search, Cond.selects RX3 yX3_search yX3_search, Cond.code yX3_search cX3_search 5 (some .int), Cond.instantiable RX2 3]
def al_10 : List Cond := [Cond.methodLink RX3 140 yX2_init, Cond.instanceMethod yX2_init, Cond.code yX2_init cX2_init 3 none, Cond.methodLink RX2 1 objectInit, Cond.fieldLink RX2 13 "ClaimRows$Search" "claim" "LClaimRows$Claim;", Cond.fieldLink RX2 17 "ClaimRows$Search" "due" "I", Cond.fieldLink RX3 158 "ClaimRows$Search" "due" "I", Cond.fieldLink RX2 7 "ClaimRows$Search" "unanswered" "Z", Cond.fieldLink RX3 150 "ClaimRows$Search" "unanswered" "Z", Cond.methodLink RX3 143 yX0_addSearch, Cond.instanceMethod yX0_addSearch, Cond.selects RX0 yX0_addSearch yX0_addSearch, Cond.code yX0_addSearch cX0_addSearch 1 none, Cond.methodLink RL 45 yX3_answer, Cond.instanceMethod yX3_answer, Cond.selects RX3 yX3_answer yX3_answer]
def al_11 : List Cond := [Cond.code yX3_answer cX3_answer 4 (some .int), Cond.methodLink RX3 146 yX3_searchNumbered, Cond.selects RX3 yX3_searchNumbered yX3_searchNumbered, Cond.instanceMethod yX3_searchNumbered, Cond.code yX3_searchNumbered cX3_searchNumbered 2 (some (.object "ClaimRows$Search")), Cond.methodLink RX3 154 yX2_close, Cond.instanceMethod yX2_close, Cond.selects RX2 yX2_close yX2_close, Cond.code yX2_close cX2_close 2 none, Cond.methodLink RX2 21 yX0_endSearch, Cond.instanceMethod yX0_endSearch, Cond.selects RX0 yX0_endSearch yX0_endSearch, Cond.code yX0_endSearch cX0_endSearch 2 none, Cond.methodLink RL 50 yX3_tick, Cond.instanceMethod yX3_tick, Cond.selects RX3 yX3_tick yX3_tick]
def al_12 : List Cond := [Cond.code yX3_tick cX3_tick 5 (some .int), Cond.methodLink RL 55 yX3_sum, Cond.instanceMethod yX3_sum, Cond.selects RX3 yX3_sum yX3_sum, Cond.code yX3_sum cX3_sum 3 (some .long), Cond.constantLong RX3 161 (-101), Cond.methodLink RX3 167 yX3_sumByTable, Cond.selects RX3 yX3_sumByTable yX3_sumByTable, Cond.instanceMethod yX3_sumByTable, Cond.code yX3_sumByTable cX3_sumByTable 7 (some .long), Cond.methodLink RX3 244 yJ9_min_long, Cond.static yJ9_min_long, Cond.code yJ9_min_long cJ9_min_long 4 (some .long), Cond.constantLong RX3 247 10, Cond.methodLink RL 60 yX3_limit, Cond.instanceMethod yX3_limit]
def al_13 : List Cond := [Cond.selects RX3 yX3_limit yX3_limit, Cond.code yX3_limit cX3_limit 4 (some .int), Cond.methodLink RL 65 yX3_decide, Cond.instanceMethod yX3_decide, Cond.selects RX3 yX3_decide yX3_decide, Cond.code yX3_decide cX3_decide 6 (some .int), Cond.methodLink RX3 171 yX0_isReady, Cond.instanceMethod yX0_isReady, Cond.selects RX0 yX0_isReady yX0_isReady, Cond.code yX0_isReady cX0_isReady 1 (some .boolean), Cond.methodLink RX3 178 yX3_refuse, Cond.selects RX3 yX3_refuse yX3_refuse, Cond.instanceMethod yX3_refuse, Cond.code yX3_refuse cX3_refuse 2 (some .int), Cond.methodLink RX3 182 yX3_pay, Cond.selects RX3 yX3_pay yX3_pay]
def al_14 : List Cond := [Cond.instanceMethod yX3_pay, Cond.code yX3_pay cX3_pay 4 (some .int), Cond.methodLink RL 69 yX3_share, Cond.instanceMethod yX3_share, Cond.selects RX3 yX3_share yX3_share, Cond.code yX3_share cX3_share 4 (some .long), Cond.constantLong RX3 186 (-102), Cond.methodLink RX3 192 yX1_partOf, Cond.instanceMethod yX1_partOf, Cond.selects RX1 yX1_partOf yX1_partOf, Cond.code yX1_partOf cX1_partOf 12 (some .long), Cond.methodLink RL 74 yX3_found, Cond.instanceMethod yX3_found, Cond.selects RX3 yX3_found yX3_found, Cond.code yX3_found cX3_found 4 (some .int), Cond.methodLink RL 78 yX3_back]
def al_15 : List Cond := [Cond.instanceMethod yX3_back, Cond.selects RX3 yX3_back yX3_back, Cond.code yX3_back cX3_back 4 (some .int), Cond.methodLink RL 82 yX3_appeal, Cond.instanceMethod yX3_appeal, Cond.selects RX3 yX3_appeal yX3_appeal, Cond.code yX3_appeal cX3_appeal 3 (some .int), Cond.methodLink RX3 214 yX0_reopen, Cond.instanceMethod yX0_reopen, Cond.selects RX0 yX0_reopen yX0_reopen, Cond.code yX0_reopen cX0_reopen 1 none, Cond.methodLink RL 86 yX3_paid, Cond.instanceMethod yX3_paid, Cond.selects RX3 yX3_paid yX3_paid, Cond.code yX3_paid cX3_paid 4 (some .boolean), Cond.methodLink RL 91 yX3_about]
def al_16 : List Cond := [Cond.instanceMethod yX3_about, Cond.selects RX3 yX3_about yX3_about, Cond.code yX3_about cX3_about 4 (some .int), Cond.methodLink RL 95 yX3_letter, Cond.instanceMethod yX3_letter, Cond.selects RX3 yX3_letter yX3_letter, Cond.code yX3_letter cX3_letter 3 (some .int), Cond.methodLink RX3 225 yJ9_min, Cond.static yJ9_min, Cond.code yJ9_min cJ9_min 2 (some .int), Cond.methodLink RL 99 yX3_all, Cond.instanceMethod yX3_all, Cond.selects RX3 yX3_all yX3_all, Cond.code yX3_all cX3_all 2 (some .long), Cond.classLink RL 10 RX4, Cond.instantiable RX4 33]
def al_17 : List Cond := [Cond.methodLink RL 12 yX4_init, Cond.instanceMethod yX4_init, Cond.code yX4_init cX4_init 1 none, Cond.methodLink RX4 1 objectInit, Cond.fieldLink RX4 87 "ClaimRowsModel" "items" "I", Cond.fieldLink RX4 7 "ClaimRowsModel" "service" "[I", Cond.fieldLink RX4 13 "ClaimRowsModel" "value" "[J", Cond.fieldLink RX4 17 "ClaimRowsModel" "insured" "[J", Cond.fieldLink RX4 20 "ClaimRowsModel" "handed" "[I", Cond.fieldLink RX4 23 "ClaimRowsModel" "sender" "[I", Cond.fieldLink RX4 26 "ClaimRowsModel" "passes" "[I", Cond.fieldLink RX4 29 "ClaimRowsModel" "posts" "[I", Cond.fieldLink RX4 32 "ClaimRowsModel" "whole" "[Z", Cond.fieldLink RX4 36 "ClaimRowsModel" "isFound" "[Z", Cond.fieldLink RX4 39 "ClaimRowsModel" "most" "[J", Cond.fieldLink RX4 42 "ClaimRowsModel" "days" "[I"]
def al_18 : List Cond := [Cond.fieldLink RX4 91 "ClaimRowsModel" "claims" "I", Cond.fieldLink RX4 45 "ClaimRowsModel" "itemOf" "[I", Cond.fieldLink RX4 48 "ClaimRowsModel" "kindOf" "[I", Cond.fieldLink RX4 51 "ClaimRowsModel" "state" "[I", Cond.fieldLink RX4 54 "ClaimRowsModel" "proofs" "[Z", Cond.fieldLink RX4 57 "ClaimRowsModel" "appealed" "[Z", Cond.fieldLink RX4 60 "ClaimRowsModel" "isSaid" "[Z", Cond.fieldLink RX4 63 "ClaimRowsModel" "paidSum" "[J", Cond.fieldLink RX4 145 "ClaimRowsModel" "searches" "I", Cond.fieldLink RX4 66 "ClaimRowsModel" "claimOf" "[I", Cond.fieldLink RX4 69 "ClaimRowsModel" "due" "[I", Cond.fieldLink RX4 72 "ClaimRowsModel" "found" "[I", Cond.fieldLink RX4 75 "ClaimRowsModel" "counts" "[Z", Cond.fieldLink RX4 142 "ClaimRowsModel" "clock" "I", Cond.fieldLink RX4 78 "ClaimRowsModel" "limits" "[J", Cond.fieldLink RX4 94 "ClaimRowsModel" "letters" "I"]
def al_19 : List Cond := [Cond.fieldLink RX4 81 "ClaimRowsModel" "letterClaims" "[I", Cond.fieldLink RX4 84 "ClaimRowsModel" "letterKinds" "[I", Cond.fieldLink RX4 165 "ClaimRowsModel" "paidAll" "J", Cond.fieldLink RX4 171 "ClaimRowsModel" "recovered" "J", Cond.fieldLink RX4 162 "ClaimRowsModel" "refused" "I", Cond.arrayClass .boolean, Cond.methodLink RL 19 yX4_item, Cond.instanceMethod yX4_item, Cond.selects RX4 yX4_item yX4_item, Cond.code yX4_item cX4_item 8 (some .int), Cond.constantLong RX4 97 3, Cond.methodLink RX4 99 yX4_isIn, Cond.static yX4_isIn, Cond.code yX4_isIn cX4_isIn 6 (some .boolean), Cond.constantLong RX4 103 10000000, Cond.constantLong RX4 105 100000]
def al_20 : List Cond := [Cond.constantLong RX4 107 19, Cond.methodLink RL 24 yX4_pass, Cond.instanceMethod yX4_pass, Cond.selects RX4 yX4_pass yX4_pass, Cond.code yX4_pass cX4_pass 5 (some .int), Cond.methodLink RX4 109 yX4_isItem, Cond.selects RX4 yX4_isItem yX4_isItem, Cond.instanceMethod yX4_isItem, Cond.code yX4_isItem cX4_isItem 2 (some .boolean), Cond.constantLong RX4 113 5, Cond.methodLink RL 29 yX4_table, Cond.instanceMethod yX4_table, Cond.selects RX4 yX4_table yX4_table, Cond.code yX4_table cX4_table 6 (some .int), Cond.constantLong RX4 115 10000, Cond.methodLink RL 34 yX4_claim]
def al_21 : List Cond := [Cond.instanceMethod yX4_claim, Cond.selects RX4 yX4_claim yX4_claim, Cond.code yX4_claim cX4_claim 6 (some .int), Cond.constantLong RX4 117 2, Cond.constantLong RX4 119 200000, Cond.methodLink RX4 121 yX4_other, Cond.selects RX4 yX4_other yX4_other, Cond.instanceMethod yX4_other, Cond.code yX4_other cX4_other 6 (some .int), Cond.methodLink RX4 125 yX4_send, Cond.selects RX4 yX4_send yX4_send, Cond.instanceMethod yX4_send, Cond.code yX4_send cX4_send 3 none, Cond.methodLink RL 39 yX4_proof, Cond.instanceMethod yX4_proof, Cond.selects RX4 yX4_proof yX4_proof]
def al_22 : List Cond := [Cond.code yX4_proof cX4_proof 4 (some .int), Cond.methodLink RX4 133 yX4_isClaim, Cond.selects RX4 yX4_isClaim yX4_isClaim, Cond.instanceMethod yX4_isClaim, Cond.code yX4_isClaim cX4_isClaim 2 (some .boolean), Cond.methodLink RX4 129 yX4_needs, Cond.static yX4_needs, Cond.code yX4_needs cX4_needs 2 (some .boolean), Cond.methodLink RX4 136 yX4_lacks, Cond.selects RX4 yX4_lacks yX4_lacks, Cond.instanceMethod yX4_lacks, Cond.code yX4_lacks cX4_lacks 4 (some .int), Cond.methodLink RL 44 yX4_search, Cond.instanceMethod yX4_search, Cond.selects RX4 yX4_search yX4_search, Cond.code yX4_search cX4_search 4 (some .int)]
def al_23 : List Cond := [Cond.constantLong RX4 140 49, Cond.methodLink RL 49 yX4_answer, Cond.instanceMethod yX4_answer, Cond.selects RX4 yX4_answer yX4_answer, Cond.code yX4_answer cX4_answer 3 (some .int), Cond.methodLink RL 54 yX4_tick, Cond.instanceMethod yX4_tick, Cond.selects RX4 yX4_tick yX4_tick, Cond.code yX4_tick cX4_tick 4 (some .int), Cond.methodLink RL 59 yX4_sum, Cond.instanceMethod yX4_sum, Cond.selects RX4 yX4_sum yX4_sum, Cond.code yX4_sum cX4_sum 2 (some .long), Cond.constantLong RX4 150 (-101), Cond.methodLink RX4 152 yX4_sumNow, Cond.selects RX4 yX4_sumNow yX4_sumNow]
def al_24 : List Cond := [Cond.instanceMethod yX4_sumNow, Cond.code yX4_sumNow cX4_sumNow 8 (some .long), Cond.constantLong RX4 148 10, Cond.methodLink RL 64 yX4_limit, Cond.instanceMethod yX4_limit, Cond.selects RX4 yX4_limit yX4_limit, Cond.code yX4_limit cX4_limit 4 (some .int), Cond.constantLong RX4 156 9, Cond.methodLink RL 68 yX4_decide, Cond.instanceMethod yX4_decide, Cond.selects RX4 yX4_decide yX4_decide, Cond.code yX4_decide cX4_decide 6 (some .int), Cond.methodLink RX4 158 yX4_many, Cond.selects RX4 yX4_many yX4_many, Cond.instanceMethod yX4_many, Cond.code yX4_many cX4_many 5 (some .int)]
def al_25 : List Cond := [Cond.methodLink RL 73 yX4_share, Cond.instanceMethod yX4_share, Cond.selects RX4 yX4_share yX4_share, Cond.code yX4_share cX4_share 13 (some .long), Cond.constantLong RX4 169 (-102), Cond.methodLink RL 77 yX4_found, Cond.instanceMethod yX4_found, Cond.selects RX4 yX4_found yX4_found, Cond.code yX4_found cX4_found 3 (some .int), Cond.methodLink RL 81 yX4_back, Cond.instanceMethod yX4_back, Cond.selects RX4 yX4_back yX4_back, Cond.code yX4_back cX4_back 3 (some .int), Cond.methodLink RL 85 yX4_appeal, Cond.instanceMethod yX4_appeal, Cond.selects RX4 yX4_appeal yX4_appeal]
def al_26 : List Cond := [Cond.code yX4_appeal cX4_appeal 3 (some .int), Cond.methodLink RL 90 yX4_paid, Cond.instanceMethod yX4_paid, Cond.selects RX4 yX4_paid yX4_paid, Cond.code yX4_paid cX4_paid 5 (some .boolean), Cond.methodLink RL 94 yX4_about, Cond.instanceMethod yX4_about, Cond.selects RX4 yX4_about yX4_about, Cond.code yX4_about cX4_about 3 (some .int), Cond.methodLink RX4 174 yX4_before, Cond.selects RX4 yX4_before yX4_before, Cond.instanceMethod yX4_before, Cond.code yX4_before cX4_before 4 (some .int), Cond.methodLink RL 98 yX4_letter, Cond.instanceMethod yX4_letter, Cond.selects RX4 yX4_letter yX4_letter]
def al_27 : List Cond := [Cond.code yX4_letter cX4_letter 3 (some .int), Cond.methodLink RL 102 yX4_all, Cond.instanceMethod yX4_all, Cond.selects RX4 yX4_all yX4_all, Cond.code yX4_all cX4_all 2 (some .long), Cond.constantLong RL 13 4294967295]
def al_W : List Cond := al_0 ++ (al_1 ++ (al_2 ++ (al_3 ++ (al_4 ++ (al_5 ++ (al_6 ++ (al_7 ++ (al_8 ++ (al_9 ++ (al_10 ++ (al_11 ++ (al_12 ++ (al_13 ++ (al_14 ++ (al_15 ++ (al_16 ++ (al_17 ++ (al_18 ++ (al_19 ++ (al_20 ++ (al_21 ++ (al_22 ++ (al_23 ++ (al_24 ++ (al_25 ++ (al_26 ++ (al_27 ++ (u_ws RX0 TX0 13 ++ (u_ws RX1 TX1 9 ++ (u_ws RX2 TX2 3 ++ (u_ws RX3 TX3 16 ++ (u_ws RX4 TX4 33))))))))))))))))))))))))))))))))
theorem wd_0 : Cond.initialized RL ∈ al_W := (List.mem_append_left _ (List.mem_of_getElem? (i := 0) rfl))
theorem wd_1 : Cond.initialized RX3 ∈ al_W := (List.mem_append_left _ (List.mem_of_getElem? (i := 1) rfl))
theorem wd_2 : Cond.initialized RX4 ∈ al_W := (List.mem_append_left _ (List.mem_of_getElem? (i := 2) rfl))
theorem wd_3 : Cond.initialized RX1 ∈ al_W := (List.mem_append_left _ (List.mem_of_getElem? (i := 3) rfl))
theorem wd_4 : Cond.initialized RX0 ∈ al_W := (List.mem_append_left _ (List.mem_of_getElem? (i := 4) rfl))
theorem wd_5 : Cond.initialized RJ6 ∈ al_W := (List.mem_append_left _ (List.mem_of_getElem? (i := 5) rfl))
theorem wd_6 : Cond.initialized RX2 ∈ al_W := (List.mem_append_left _ (List.mem_of_getElem? (i := 6) rfl))
theorem wd_7 : Cond.initialized RJ9 ∈ al_W := (List.mem_append_left _ (List.mem_of_getElem? (i := 7) rfl))
theorem wd_8 : Cond.classLink RL 7 RX3 ∈ al_W := (List.mem_append_left _ (List.mem_of_getElem? (i := 8) rfl))
theorem wd_9 : Cond.instantiable RX3 16 ∈ al_W := (List.mem_append_left _ (List.mem_of_getElem? (i := 9) rfl))
theorem wd_10 : Cond.methodLink RL 9 yX3_init ∈ al_W := (List.mem_append_left _ (List.mem_of_getElem? (i := 10) rfl))
theorem wd_11 : Cond.instanceMethod yX3_init ∈ al_W := (List.mem_append_left _ (List.mem_of_getElem? (i := 11) rfl))
theorem wd_12 : Cond.code yX3_init cX3_init 1 none ∈ al_W := (List.mem_append_left _ (List.mem_of_getElem? (i := 12) rfl))
theorem wd_13 : Cond.methodLink RX3 1 objectInit ∈ al_W := (List.mem_append_left _ (List.mem_of_getElem? (i := 13) rfl))
theorem wd_14 : Cond.instanceMethod objectInit ∈ al_W := (List.mem_append_left _ (List.mem_of_getElem? (i := 14) rfl))
theorem wd_15 : Cond.code objectInit ⟨#[0xb1]⟩ 1 none ∈ al_W := (List.mem_append_left _ (List.mem_of_getElem? (i := 15) rfl))
theorem wd_16 : Cond.classLink RX3 9 RX1 ∈ al_W := (List.mem_append_right _ (List.mem_append_left _ (List.mem_of_getElem? (i := 0) rfl)))
theorem wd_17 : Cond.classLink RX3 15 RX0 ∈ al_W := (List.mem_append_right _ (List.mem_append_left _ (List.mem_of_getElem? (i := 1) rfl)))
theorem wd_18 : Cond.classLink RX3 21 RX2 ∈ al_W := (List.mem_append_right _ (List.mem_append_left _ (List.mem_of_getElem? (i := 2) rfl)))
theorem wd_19 : Cond.fieldLink RX3 11 "ClaimRows" "items" "[LClaimRows$Item;" ∈ al_W := (List.mem_append_right _ (List.mem_append_left _ (List.mem_of_getElem? (i := 3) rfl)))
theorem wd_20 : Cond.fieldLink RX3 58 "ClaimRows" "itemCount" "I" ∈ al_W := (List.mem_append_right _ (List.mem_append_left _ (List.mem_of_getElem? (i := 4) rfl)))
theorem wd_21 : Cond.fieldLink RX3 17 "ClaimRows" "claims" "[LClaimRows$Claim;" ∈ al_W := (List.mem_append_right _ (List.mem_append_left _ (List.mem_of_getElem? (i := 5) rfl)))
theorem wd_22 : Cond.fieldLink RX3 99 "ClaimRows" "claimCount" "I" ∈ al_W := (List.mem_append_right _ (List.mem_append_left _ (List.mem_of_getElem? (i := 6) rfl)))
theorem wd_23 : Cond.fieldLink RX3 23 "ClaimRows" "searches" "[LClaimRows$Search;" ∈ al_W := (List.mem_append_right _ (List.mem_append_left _ (List.mem_of_getElem? (i := 7) rfl)))
theorem wd_24 : Cond.fieldLink RX3 137 "ClaimRows" "searchCount" "I" ∈ al_W := (List.mem_append_right _ (List.mem_append_left _ (List.mem_of_getElem? (i := 8) rfl)))
theorem wd_25 : Cond.fieldLink RX3 27 "ClaimRows" "tableMost" "[J" ∈ al_W := (List.mem_append_right _ (List.mem_append_left _ (List.mem_of_getElem? (i := 9) rfl)))
theorem wd_26 : Cond.fieldLink RX3 31 "ClaimRows" "tableDays" "[I" ∈ al_W := (List.mem_append_right _ (List.mem_append_left _ (List.mem_of_getElem? (i := 10) rfl)))
theorem wd_27 : Cond.fieldLink RX3 35 "ClaimRows" "limits" "[J" ∈ al_W := (List.mem_append_right _ (List.mem_append_left _ (List.mem_of_getElem? (i := 11) rfl)))
theorem wd_28 : Cond.fieldLink RX3 38 "ClaimRows" "letterClaims" "[I" ∈ al_W := (List.mem_append_right _ (List.mem_append_left _ (List.mem_of_getElem? (i := 12) rfl)))
theorem wd_29 : Cond.fieldLink RX3 41 "ClaimRows" "letterKinds" "[I" ∈ al_W := (List.mem_append_right _ (List.mem_append_left _ (List.mem_of_getElem? (i := 13) rfl)))
theorem wd_30 : Cond.fieldLink RX3 222 "ClaimRows" "letterCount" "I" ∈ al_W := (List.mem_append_right _ (List.mem_append_left _ (List.mem_of_getElem? (i := 14) rfl)))
theorem wd_31 : Cond.fieldLink RX3 131 "ClaimRows" "clock" "I" ∈ al_W := (List.mem_append_right _ (List.mem_append_left _ (List.mem_of_getElem? (i := 15) rfl)))
theorem wd_32 : Cond.fieldLink RX3 230 "ClaimRows" "paidInAll" "J" ∈ al_W := (List.mem_append_right _ (List.mem_append_right _ (List.mem_append_left _ (List.mem_of_getElem? (i := 0) rfl))))
theorem wd_33 : Cond.fieldLink RX3 205 "ClaimRows" "recoveredInAll" "J" ∈ al_W := (List.mem_append_right _ (List.mem_append_right _ (List.mem_append_left _ (List.mem_of_getElem? (i := 1) rfl))))
theorem wd_34 : Cond.fieldLink RX3 233 "ClaimRows" "refusedInAll" "I" ∈ al_W := (List.mem_append_right _ (List.mem_append_right _ (List.mem_append_left _ (List.mem_of_getElem? (i := 2) rfl))))
theorem wd_35 : Cond.arrayClass .long ∈ al_W := (List.mem_append_right _ (List.mem_append_right _ (List.mem_append_left _ (List.mem_of_getElem? (i := 3) rfl))))
theorem wd_36 : Cond.arrayClass .int ∈ al_W := (List.mem_append_right _ (List.mem_append_right _ (List.mem_append_left _ (List.mem_of_getElem? (i := 4) rfl))))
theorem wd_37 : Cond.methodLink RL 15 yX3_item ∈ al_W := (List.mem_append_right _ (List.mem_append_right _ (List.mem_append_left _ (List.mem_of_getElem? (i := 5) rfl))))
theorem wd_38 : Cond.instanceMethod yX3_item ∈ al_W := (List.mem_append_right _ (List.mem_append_right _ (List.mem_append_left _ (List.mem_of_getElem? (i := 6) rfl))))
theorem wd_39 : Cond.selects RX3 yX3_item yX3_item ∈ al_W := (List.mem_append_right _ (List.mem_append_right _ (List.mem_append_left _ (List.mem_of_getElem? (i := 7) rfl))))
theorem wd_40 : Cond.code yX3_item cX3_item 8 (some .int) ∈ al_W := (List.mem_append_right _ (List.mem_append_right _ (List.mem_append_left _ (List.mem_of_getElem? (i := 8) rfl))))
theorem wd_41 : Cond.methodLink RX3 44 yX3_isBelow ∈ al_W := (List.mem_append_right _ (List.mem_append_right _ (List.mem_append_left _ (List.mem_of_getElem? (i := 9) rfl))))
theorem wd_42 : Cond.static yX3_isBelow ∈ al_W := (List.mem_append_right _ (List.mem_append_right _ (List.mem_append_left _ (List.mem_of_getElem? (i := 10) rfl))))
theorem wd_43 : Cond.code yX3_isBelow cX3_isBelow 2 (some .boolean) ∈ al_W := (List.mem_append_right _ (List.mem_append_right _ (List.mem_append_left _ (List.mem_of_getElem? (i := 11) rfl))))
theorem wd_44 : Cond.methodLink RX3 48 yX3_areCents ∈ al_W := (List.mem_append_right _ (List.mem_append_right _ (List.mem_append_left _ (List.mem_of_getElem? (i := 12) rfl))))
theorem wd_45 : Cond.static yX3_areCents ∈ al_W := (List.mem_append_right _ (List.mem_append_right _ (List.mem_append_left _ (List.mem_of_getElem? (i := 13) rfl))))
theorem wd_46 : Cond.code yX3_areCents cX3_areCents 2 (some .boolean) ∈ al_W := (List.mem_append_right _ (List.mem_append_right _ (List.mem_append_left _ (List.mem_of_getElem? (i := 14) rfl))))
theorem wd_47 : Cond.constantLong RX3 236 10000000 ∈ al_W := (List.mem_append_right _ (List.mem_append_right _ (List.mem_append_left _ (List.mem_of_getElem? (i := 15) rfl))))
theorem wd_48 : Cond.methodLink RX3 54 yX3_isWithin ∈ al_W := (List.mem_append_right _ (List.mem_append_right _ (List.mem_append_right _ (List.mem_append_left _ (List.mem_of_getElem? (i := 0) rfl)))))
theorem wd_49 : Cond.static yX3_isWithin ∈ al_W := (List.mem_append_right _ (List.mem_append_right _ (List.mem_append_right _ (List.mem_append_left _ (List.mem_of_getElem? (i := 1) rfl)))))
theorem wd_50 : Cond.code yX3_isWithin cX3_isWithin 6 (some .boolean) ∈ al_W := (List.mem_append_right _ (List.mem_append_right _ (List.mem_append_right _ (List.mem_append_left _ (List.mem_of_getElem? (i := 2) rfl)))))
theorem wd_51 : Cond.constantLong RX3 52 100000 ∈ al_W := (List.mem_append_right _ (List.mem_append_right _ (List.mem_append_right _ (List.mem_append_left _ (List.mem_of_getElem? (i := 3) rfl)))))
theorem wd_52 : Cond.instantiable RX1 9 ∈ al_W := (List.mem_append_right _ (List.mem_append_right _ (List.mem_append_right _ (List.mem_append_left _ (List.mem_of_getElem? (i := 4) rfl)))))
theorem wd_53 : Cond.methodLink RX3 62 yX1_init ∈ al_W := (List.mem_append_right _ (List.mem_append_right _ (List.mem_append_right _ (List.mem_append_left _ (List.mem_of_getElem? (i := 5) rfl)))))
theorem wd_54 : Cond.instanceMethod yX1_init ∈ al_W := (List.mem_append_right _ (List.mem_append_right _ (List.mem_append_right _ (List.mem_append_left _ (List.mem_of_getElem? (i := 6) rfl)))))
theorem wd_55 : Cond.code yX1_init cX1_init 8 none ∈ al_W := (List.mem_append_right _ (List.mem_append_right _ (List.mem_append_right _ (List.mem_append_left _ (List.mem_of_getElem? (i := 7) rfl)))))
theorem wd_56 : Cond.methodLink RX1 3 objectInit ∈ al_W := (List.mem_append_right _ (List.mem_append_right _ (List.mem_append_right _ (List.mem_append_left _ (List.mem_of_getElem? (i := 8) rfl)))))
theorem wd_57 : Cond.fieldLink RX1 15 "ClaimRows$Item" "service" "I" ∈ al_W := (List.mem_append_right _ (List.mem_append_right _ (List.mem_append_right _ (List.mem_append_left _ (List.mem_of_getElem? (i := 9) rfl)))))
theorem wd_58 : Cond.fieldLink RX3 92 "ClaimRows$Item" "service" "I" ∈ al_W := (List.mem_append_right _ (List.mem_append_right _ (List.mem_append_right _ (List.mem_append_left _ (List.mem_of_getElem? (i := 10) rfl)))))
theorem wd_59 : Cond.fieldLink RX1 19 "ClaimRows$Item" "value" "J" ∈ al_W := (List.mem_append_right _ (List.mem_append_right _ (List.mem_append_right _ (List.mem_append_left _ (List.mem_of_getElem? (i := 11) rfl)))))
theorem wd_60 : Cond.fieldLink RX3 241 "ClaimRows$Item" "value" "J" ∈ al_W := (List.mem_append_right _ (List.mem_append_right _ (List.mem_append_right _ (List.mem_append_left _ (List.mem_of_getElem? (i := 12) rfl)))))
theorem wd_61 : Cond.fieldLink RX1 23 "ClaimRows$Item" "insured" "J" ∈ al_W := (List.mem_append_right _ (List.mem_append_right _ (List.mem_append_right _ (List.mem_append_left _ (List.mem_of_getElem? (i := 13) rfl)))))
theorem wd_62 : Cond.fieldLink RX3 238 "ClaimRows$Item" "insured" "J" ∈ al_W := (List.mem_append_right _ (List.mem_append_right _ (List.mem_append_right _ (List.mem_append_left _ (List.mem_of_getElem? (i := 14) rfl)))))
theorem wd_63 : Cond.fieldLink RX1 26 "ClaimRows$Item" "day" "I" ∈ al_W := (List.mem_append_right _ (List.mem_append_right _ (List.mem_append_right _ (List.mem_append_left _ (List.mem_of_getElem? (i := 15) rfl)))))
theorem wd_64 : Cond.fieldLink RX3 89 "ClaimRows$Item" "day" "I" ∈ al_W := (List.mem_append_right _ (List.mem_append_right _ (List.mem_append_right _ (List.mem_append_right _ (List.mem_append_left _ (List.mem_of_getElem? (i := 0) rfl))))))
theorem wd_65 : Cond.fieldLink RX1 29 "ClaimRows$Item" "sender" "I" ∈ al_W := (List.mem_append_right _ (List.mem_append_right _ (List.mem_append_right _ (List.mem_append_right _ (List.mem_append_left _ (List.mem_of_getElem? (i := 1) rfl))))))
theorem wd_66 : Cond.fieldLink RX3 102 "ClaimRows$Item" "sender" "I" ∈ al_W := (List.mem_append_right _ (List.mem_append_right _ (List.mem_append_right _ (List.mem_append_right _ (List.mem_append_left _ (List.mem_of_getElem? (i := 2) rfl))))))
theorem wd_67 : Cond.fieldLink RX1 9 "ClaimRows$Item" "posts" "[I" ∈ al_W := (List.mem_append_right _ (List.mem_append_right _ (List.mem_append_right _ (List.mem_append_right _ (List.mem_append_left _ (List.mem_of_getElem? (i := 3) rfl))))))
theorem wd_68 : Cond.fieldLink RX1 32 "ClaimRows$Item" "passed" "I" ∈ al_W := (List.mem_append_right _ (List.mem_append_right _ (List.mem_append_right _ (List.mem_append_right _ (List.mem_append_left _ (List.mem_of_getElem? (i := 4) rfl))))))
theorem wd_69 : Cond.fieldLink RX3 69 "ClaimRows$Item" "passed" "I" ∈ al_W := (List.mem_append_right _ (List.mem_append_right _ (List.mem_append_right _ (List.mem_append_right _ (List.mem_append_left _ (List.mem_of_getElem? (i := 5) rfl))))))
theorem wd_70 : Cond.fieldLink RX1 35 "ClaimRows$Item" "sharesFrom" "I" ∈ al_W := (List.mem_append_right _ (List.mem_append_right _ (List.mem_append_right _ (List.mem_append_right _ (List.mem_append_left _ (List.mem_of_getElem? (i := 6) rfl))))))
theorem wd_71 : Cond.fieldLink RX3 196 "ClaimRows$Item" "isFound" "Z" ∈ al_W := (List.mem_append_right _ (List.mem_append_right _ (List.mem_append_right _ (List.mem_append_right _ (List.mem_append_left _ (List.mem_of_getElem? (i := 7) rfl))))))
theorem wd_72 : Cond.methodLink RL 20 yX3_pass ∈ al_W := (List.mem_append_right _ (List.mem_append_right _ (List.mem_append_right _ (List.mem_append_right _ (List.mem_append_left _ (List.mem_of_getElem? (i := 8) rfl))))))
theorem wd_73 : Cond.instanceMethod yX3_pass ∈ al_W := (List.mem_append_right _ (List.mem_append_right _ (List.mem_append_right _ (List.mem_append_right _ (List.mem_append_left _ (List.mem_of_getElem? (i := 9) rfl))))))
theorem wd_74 : Cond.selects RX3 yX3_pass yX3_pass ∈ al_W := (List.mem_append_right _ (List.mem_append_right _ (List.mem_append_right _ (List.mem_append_right _ (List.mem_append_left _ (List.mem_of_getElem? (i := 10) rfl))))))
theorem wd_75 : Cond.code yX3_pass cX3_pass 5 (some .int) ∈ al_W := (List.mem_append_right _ (List.mem_append_right _ (List.mem_append_right _ (List.mem_append_right _ (List.mem_append_left _ (List.mem_of_getElem? (i := 11) rfl))))))
theorem wd_76 : Cond.methodLink RX3 65 yX3_itemNumbered ∈ al_W := (List.mem_append_right _ (List.mem_append_right _ (List.mem_append_right _ (List.mem_append_right _ (List.mem_append_left _ (List.mem_of_getElem? (i := 12) rfl))))))
theorem wd_77 : Cond.selects RX3 yX3_itemNumbered yX3_itemNumbered ∈ al_W := (List.mem_append_right _ (List.mem_append_right _ (List.mem_append_right _ (List.mem_append_right _ (List.mem_append_left _ (List.mem_of_getElem? (i := 13) rfl))))))
theorem wd_78 : Cond.instanceMethod yX3_itemNumbered ∈ al_W := (List.mem_append_right _ (List.mem_append_right _ (List.mem_append_right _ (List.mem_append_right _ (List.mem_append_left _ (List.mem_of_getElem? (i := 14) rfl))))))
theorem wd_79 : Cond.code yX3_itemNumbered cX3_itemNumbered 2 (some (.object "ClaimRows$Item")) ∈ al_W := (List.mem_append_right _ (List.mem_append_right _ (List.mem_append_right _ (List.mem_append_right _ (List.mem_append_left _ (List.mem_of_getElem? (i := 15) rfl))))))
theorem wd_80 : Cond.methodLink RX3 72 yX1_addPost ∈ al_W := (List.mem_append_right _ (List.mem_append_right _ (List.mem_append_right _ (List.mem_append_right _ (List.mem_append_right _ (List.mem_append_left _ (List.mem_of_getElem? (i := 0) rfl)))))))
theorem wd_81 : Cond.instanceMethod yX1_addPost ∈ al_W := (List.mem_append_right _ (List.mem_append_right _ (List.mem_append_right _ (List.mem_append_right _ (List.mem_append_right _ (List.mem_append_left _ (List.mem_of_getElem? (i := 1) rfl)))))))
theorem wd_82 : Cond.selects RX1 yX1_addPost yX1_addPost ∈ al_W := (List.mem_append_right _ (List.mem_append_right _ (List.mem_append_right _ (List.mem_append_right _ (List.mem_append_right _ (List.mem_append_left _ (List.mem_of_getElem? (i := 2) rfl)))))))
theorem wd_83 : Cond.code yX1_addPost cX1_addPost 3 none ∈ al_W := (List.mem_append_right _ (List.mem_append_right _ (List.mem_append_right _ (List.mem_append_right _ (List.mem_append_right _ (List.mem_append_left _ (List.mem_of_getElem? (i := 3) rfl)))))))
theorem wd_84 : Cond.methodLink RL 25 yX3_table ∈ al_W := (List.mem_append_right _ (List.mem_append_right _ (List.mem_append_right _ (List.mem_append_right _ (List.mem_append_right _ (List.mem_append_left _ (List.mem_of_getElem? (i := 4) rfl)))))))
theorem wd_85 : Cond.instanceMethod yX3_table ∈ al_W := (List.mem_append_right _ (List.mem_append_right _ (List.mem_append_right _ (List.mem_append_right _ (List.mem_append_right _ (List.mem_append_left _ (List.mem_of_getElem? (i := 5) rfl)))))))
theorem wd_86 : Cond.selects RX3 yX3_table yX3_table ∈ al_W := (List.mem_append_right _ (List.mem_append_right _ (List.mem_append_right _ (List.mem_append_right _ (List.mem_append_right _ (List.mem_append_left _ (List.mem_of_getElem? (i := 6) rfl)))))))
theorem wd_87 : Cond.code yX3_table cX3_table 7 (some .int) ∈ al_W := (List.mem_append_right _ (List.mem_append_right _ (List.mem_append_right _ (List.mem_append_right _ (List.mem_append_right _ (List.mem_append_left _ (List.mem_of_getElem? (i := 7) rfl)))))))
theorem wd_88 : Cond.constantLong RX3 76 10000 ∈ al_W := (List.mem_append_right _ (List.mem_append_right _ (List.mem_append_right _ (List.mem_append_right _ (List.mem_append_right _ (List.mem_append_left _ (List.mem_of_getElem? (i := 8) rfl)))))))
theorem wd_89 : Cond.methodLink RX3 78 yX3_rowOf ∈ al_W := (List.mem_append_right _ (List.mem_append_right _ (List.mem_append_right _ (List.mem_append_right _ (List.mem_append_right _ (List.mem_append_left _ (List.mem_of_getElem? (i := 9) rfl)))))))
theorem wd_90 : Cond.static yX3_rowOf ∈ al_W := (List.mem_append_right _ (List.mem_append_right _ (List.mem_append_right _ (List.mem_append_right _ (List.mem_append_right _ (List.mem_append_left _ (List.mem_of_getElem? (i := 10) rfl)))))))
theorem wd_91 : Cond.code yX3_rowOf cX3_rowOf 2 (some .int) ∈ al_W := (List.mem_append_right _ (List.mem_append_right _ (List.mem_append_right _ (List.mem_append_right _ (List.mem_append_right _ (List.mem_append_left _ (List.mem_of_getElem? (i := 11) rfl)))))))
theorem wd_92 : Cond.methodLink RL 30 yX3_claim ∈ al_W := (List.mem_append_right _ (List.mem_append_right _ (List.mem_append_right _ (List.mem_append_right _ (List.mem_append_right _ (List.mem_append_left _ (List.mem_of_getElem? (i := 12) rfl)))))))
theorem wd_93 : Cond.instanceMethod yX3_claim ∈ al_W := (List.mem_append_right _ (List.mem_append_right _ (List.mem_append_right _ (List.mem_append_right _ (List.mem_append_right _ (List.mem_append_left _ (List.mem_of_getElem? (i := 13) rfl)))))))
theorem wd_94 : Cond.selects RX3 yX3_claim yX3_claim ∈ al_W := (List.mem_append_right _ (List.mem_append_right _ (List.mem_append_right _ (List.mem_append_right _ (List.mem_append_right _ (List.mem_append_left _ (List.mem_of_getElem? (i := 14) rfl)))))))
theorem wd_95 : Cond.code yX3_claim cX3_claim 7 (some .int) ∈ al_W := (List.mem_append_right _ (List.mem_append_right _ (List.mem_append_right _ (List.mem_append_right _ (List.mem_append_right _ (List.mem_append_left _ (List.mem_of_getElem? (i := 15) rfl)))))))
theorem wd_96 : Cond.constantLong RX3 82 2 ∈ al_W := (List.mem_append_right _ (List.mem_append_right _ (List.mem_append_right _ (List.mem_append_right _ (List.mem_append_right _ (List.mem_append_right _ (List.mem_append_left _ (List.mem_of_getElem? (i := 0) rfl))))))))
theorem wd_97 : Cond.constantLong RX3 84 200000 ∈ al_W := (List.mem_append_right _ (List.mem_append_right _ (List.mem_append_right _ (List.mem_append_right _ (List.mem_append_right _ (List.mem_append_right _ (List.mem_append_left _ (List.mem_of_getElem? (i := 1) rfl))))))))
theorem wd_98 : Cond.methodLink RX3 86 yX3_mayClaim ∈ al_W := (List.mem_append_right _ (List.mem_append_right _ (List.mem_append_right _ (List.mem_append_right _ (List.mem_append_right _ (List.mem_append_right _ (List.mem_append_left _ (List.mem_of_getElem? (i := 2) rfl))))))))
theorem wd_99 : Cond.static yX3_mayClaim ∈ al_W := (List.mem_append_right _ (List.mem_append_right _ (List.mem_append_right _ (List.mem_append_right _ (List.mem_append_right _ (List.mem_append_right _ (List.mem_append_left _ (List.mem_of_getElem? (i := 3) rfl))))))))
theorem wd_100 : Cond.code yX3_mayClaim cX3_mayClaim 2 (some .boolean) ∈ al_W := (List.mem_append_right _ (List.mem_append_right _ (List.mem_append_right _ (List.mem_append_right _ (List.mem_append_right _ (List.mem_append_right _ (List.mem_append_left _ (List.mem_of_getElem? (i := 4) rfl))))))))
theorem wd_101 : Cond.methodLink RX3 95 yX3_standingClaim ∈ al_W := (List.mem_append_right _ (List.mem_append_right _ (List.mem_append_right _ (List.mem_append_right _ (List.mem_append_right _ (List.mem_append_right _ (List.mem_append_left _ (List.mem_of_getElem? (i := 5) rfl))))))))
theorem wd_102 : Cond.selects RX3 yX3_standingClaim yX3_standingClaim ∈ al_W := (List.mem_append_right _ (List.mem_append_right _ (List.mem_append_right _ (List.mem_append_right _ (List.mem_append_right _ (List.mem_append_right _ (List.mem_append_left _ (List.mem_of_getElem? (i := 6) rfl))))))))
theorem wd_103 : Cond.instanceMethod yX3_standingClaim ∈ al_W := (List.mem_append_right _ (List.mem_append_right _ (List.mem_append_right _ (List.mem_append_right _ (List.mem_append_right _ (List.mem_append_right _ (List.mem_append_left _ (List.mem_of_getElem? (i := 7) rfl))))))))
theorem wd_104 : Cond.code yX3_standingClaim cX3_standingClaim 5 (some (.object "ClaimRows$Claim")) ∈ al_W := (List.mem_append_right _ (List.mem_append_right _ (List.mem_append_right _ (List.mem_append_right _ (List.mem_append_right _ (List.mem_append_right _ (List.mem_append_left _ (List.mem_of_getElem? (i := 8) rfl))))))))
theorem wd_105 : Cond.methodLink RX3 116 yX3_claimNumbered ∈ al_W := (List.mem_append_right _ (List.mem_append_right _ (List.mem_append_right _ (List.mem_append_right _ (List.mem_append_right _ (List.mem_append_right _ (List.mem_append_left _ (List.mem_of_getElem? (i := 9) rfl))))))))
theorem wd_106 : Cond.selects RX3 yX3_claimNumbered yX3_claimNumbered ∈ al_W := (List.mem_append_right _ (List.mem_append_right _ (List.mem_append_right _ (List.mem_append_right _ (List.mem_append_right _ (List.mem_append_right _ (List.mem_append_left _ (List.mem_of_getElem? (i := 10) rfl))))))))
theorem wd_107 : Cond.instanceMethod yX3_claimNumbered ∈ al_W := (List.mem_append_right _ (List.mem_append_right _ (List.mem_append_right _ (List.mem_append_right _ (List.mem_append_right _ (List.mem_append_right _ (List.mem_append_left _ (List.mem_of_getElem? (i := 11) rfl))))))))
theorem wd_108 : Cond.code yX3_claimNumbered cX3_claimNumbered 2 (some (.object "ClaimRows$Claim")) ∈ al_W := (List.mem_append_right _ (List.mem_append_right _ (List.mem_append_right _ (List.mem_append_right _ (List.mem_append_right _ (List.mem_append_right _ (List.mem_append_left _ (List.mem_of_getElem? (i := 12) rfl))))))))
theorem wd_109 : Cond.methodLink RX3 105 yX3_claimsOfSender ∈ al_W := (List.mem_append_right _ (List.mem_append_right _ (List.mem_append_right _ (List.mem_append_right _ (List.mem_append_right _ (List.mem_append_right _ (List.mem_append_left _ (List.mem_of_getElem? (i := 13) rfl))))))))
theorem wd_110 : Cond.selects RX3 yX3_claimsOfSender yX3_claimsOfSender ∈ al_W := (List.mem_append_right _ (List.mem_append_right _ (List.mem_append_right _ (List.mem_append_right _ (List.mem_append_right _ (List.mem_append_right _ (List.mem_append_left _ (List.mem_of_getElem? (i := 14) rfl))))))))
theorem wd_111 : Cond.instanceMethod yX3_claimsOfSender ∈ al_W := (List.mem_append_right _ (List.mem_append_right _ (List.mem_append_right _ (List.mem_append_right _ (List.mem_append_right _ (List.mem_append_right _ (List.mem_append_left _ (List.mem_of_getElem? (i := 15) rfl))))))))
theorem wd_112 : Cond.code yX3_claimsOfSender cX3_claimsOfSender 5 (some .int) ∈ al_W := (List.mem_append_right _ (List.mem_append_right _ (List.mem_append_right _ (List.mem_append_right _ (List.mem_append_right _ (List.mem_append_right _ (List.mem_append_right _ (List.mem_append_left _ (List.mem_of_getElem? (i := 0) rfl)))))))))
theorem wd_113 : Cond.instantiable RX0 13 ∈ al_W := (List.mem_append_right _ (List.mem_append_right _ (List.mem_append_right _ (List.mem_append_right _ (List.mem_append_right _ (List.mem_append_right _ (List.mem_append_right _ (List.mem_append_left _ (List.mem_of_getElem? (i := 1) rfl)))))))))
theorem wd_114 : Cond.methodLink RX3 109 yX0_init ∈ al_W := (List.mem_append_right _ (List.mem_append_right _ (List.mem_append_right _ (List.mem_append_right _ (List.mem_append_right _ (List.mem_append_right _ (List.mem_append_right _ (List.mem_append_left _ (List.mem_of_getElem? (i := 2) rfl)))))))))
theorem wd_115 : Cond.instanceMethod yX0_init ∈ al_W := (List.mem_append_right _ (List.mem_append_right _ (List.mem_append_right _ (List.mem_append_right _ (List.mem_append_right _ (List.mem_append_right _ (List.mem_append_right _ (List.mem_append_left _ (List.mem_of_getElem? (i := 3) rfl)))))))))
theorem wd_116 : Cond.code yX0_init cX0_init 6 none ∈ al_W := (List.mem_append_right _ (List.mem_append_right _ (List.mem_append_right _ (List.mem_append_right _ (List.mem_append_right _ (List.mem_append_right _ (List.mem_append_right _ (List.mem_append_left _ (List.mem_of_getElem? (i := 4) rfl)))))))))
theorem wd_117 : Cond.methodLink RX0 3 objectInit ∈ al_W := (List.mem_append_right _ (List.mem_append_right _ (List.mem_append_right _ (List.mem_append_right _ (List.mem_append_right _ (List.mem_append_right _ (List.mem_append_right _ (List.mem_append_left _ (List.mem_of_getElem? (i := 5) rfl)))))))))
theorem wd_118 : Cond.fieldLink RX0 15 "ClaimRows$Claim" "number" "I" ∈ al_W := (List.mem_append_right _ (List.mem_append_right _ (List.mem_append_right _ (List.mem_append_right _ (List.mem_append_right _ (List.mem_append_right _ (List.mem_append_right _ (List.mem_append_left _ (List.mem_of_getElem? (i := 6) rfl)))))))))
theorem wd_119 : Cond.fieldLink RX3 199 "ClaimRows$Claim" "number" "I" ∈ al_W := (List.mem_append_right _ (List.mem_append_right _ (List.mem_append_right _ (List.mem_append_right _ (List.mem_append_right _ (List.mem_append_right _ (List.mem_append_right _ (List.mem_append_left _ (List.mem_of_getElem? (i := 7) rfl)))))))))
theorem wd_120 : Cond.fieldLink RX0 18 "ClaimRows$Claim" "itemNumber" "I" ∈ al_W := (List.mem_append_right _ (List.mem_append_right _ (List.mem_append_right _ (List.mem_append_right _ (List.mem_append_right _ (List.mem_append_right _ (List.mem_append_right _ (List.mem_append_left _ (List.mem_of_getElem? (i := 8) rfl)))))))))
theorem wd_121 : Cond.fieldLink RX3 211 "ClaimRows$Claim" "itemNumber" "I" ∈ al_W := (List.mem_append_right _ (List.mem_append_right _ (List.mem_append_right _ (List.mem_append_right _ (List.mem_append_right _ (List.mem_append_right _ (List.mem_append_right _ (List.mem_append_left _ (List.mem_of_getElem? (i := 9) rfl)))))))))
theorem wd_122 : Cond.fieldLink RX0 21 "ClaimRows$Claim" "item" "LClaimRows$Item;" ∈ al_W := (List.mem_append_right _ (List.mem_append_right _ (List.mem_append_right _ (List.mem_append_right _ (List.mem_append_right _ (List.mem_append_right _ (List.mem_append_right _ (List.mem_append_left _ (List.mem_of_getElem? (i := 10) rfl)))))))))
theorem wd_123 : Cond.fieldLink RX3 188 "ClaimRows$Claim" "item" "LClaimRows$Item;" ∈ al_W := (List.mem_append_right _ (List.mem_append_right _ (List.mem_append_right _ (List.mem_append_right _ (List.mem_append_right _ (List.mem_append_right _ (List.mem_append_right _ (List.mem_append_left _ (List.mem_of_getElem? (i := 11) rfl)))))))))
theorem wd_124 : Cond.fieldLink RX0 25 "ClaimRows$Claim" "kind" "I" ∈ al_W := (List.mem_append_right _ (List.mem_append_right _ (List.mem_append_right _ (List.mem_append_right _ (List.mem_append_right _ (List.mem_append_right _ (List.mem_append_right _ (List.mem_append_left _ (List.mem_of_getElem? (i := 12) rfl)))))))))
theorem wd_125 : Cond.fieldLink RX3 134 "ClaimRows$Claim" "kind" "I" ∈ al_W := (List.mem_append_right _ (List.mem_append_right _ (List.mem_append_right _ (List.mem_append_right _ (List.mem_append_right _ (List.mem_append_right _ (List.mem_append_right _ (List.mem_append_left _ (List.mem_of_getElem? (i := 13) rfl)))))))))
theorem wd_126 : Cond.fieldLink RX0 28 "ClaimRows$Claim" "earlier" "I" ∈ al_W := (List.mem_append_right _ (List.mem_append_right _ (List.mem_append_right _ (List.mem_append_right _ (List.mem_append_right _ (List.mem_append_right _ (List.mem_append_right _ (List.mem_append_left _ (List.mem_of_getElem? (i := 14) rfl)))))))))
theorem wd_127 : Cond.fieldLink RX3 219 "ClaimRows$Claim" "earlier" "I" ∈ al_W := (List.mem_append_right _ (List.mem_append_right _ (List.mem_append_right _ (List.mem_append_right _ (List.mem_append_right _ (List.mem_append_right _ (List.mem_append_right _ (List.mem_append_left _ (List.mem_of_getElem? (i := 15) rfl)))))))))
theorem wd_128 : Cond.fieldLink RX0 9 "ClaimRows$Claim" "state" "I" ∈ al_W := (List.mem_append_right _ (List.mem_append_right _ (List.mem_append_right _ (List.mem_append_right _ (List.mem_append_right _ (List.mem_append_right _ (List.mem_append_right _ (List.mem_append_right _ (List.mem_append_left _ (List.mem_of_getElem? (i := 0) rfl))))))))))
theorem wd_129 : Cond.fieldLink RX3 120 "ClaimRows$Claim" "state" "I" ∈ al_W := (List.mem_append_right _ (List.mem_append_right _ (List.mem_append_right _ (List.mem_append_right _ (List.mem_append_right _ (List.mem_append_right _ (List.mem_append_right _ (List.mem_append_right _ (List.mem_append_left _ (List.mem_of_getElem? (i := 1) rfl))))))))))
theorem wd_130 : Cond.fieldLink RX0 39 "ClaimRows$Claim" "lacking" "I" ∈ al_W := (List.mem_append_right _ (List.mem_append_right _ (List.mem_append_right _ (List.mem_append_right _ (List.mem_append_right _ (List.mem_append_right _ (List.mem_append_right _ (List.mem_append_right _ (List.mem_append_left _ (List.mem_of_getElem? (i := 2) rfl))))))))))
theorem wd_131 : Cond.fieldLink RX3 123 "ClaimRows$Claim" "lacking" "I" ∈ al_W := (List.mem_append_right _ (List.mem_append_right _ (List.mem_append_right _ (List.mem_append_right _ (List.mem_append_right _ (List.mem_append_right _ (List.mem_append_right _ (List.mem_append_right _ (List.mem_append_left _ (List.mem_of_getElem? (i := 3) rfl))))))))))
theorem wd_132 : Cond.fieldLink RX0 42 "ClaimRows$Claim" "searched" "I" ∈ al_W := (List.mem_append_right _ (List.mem_append_right _ (List.mem_append_right _ (List.mem_append_right _ (List.mem_append_right _ (List.mem_append_right _ (List.mem_append_right _ (List.mem_append_right _ (List.mem_append_left _ (List.mem_of_getElem? (i := 4) rfl))))))))))
theorem wd_133 : Cond.fieldLink RX0 45 "ClaimRows$Claim" "unanswered" "I" ∈ al_W := (List.mem_append_right _ (List.mem_append_right _ (List.mem_append_right _ (List.mem_append_right _ (List.mem_append_right _ (List.mem_append_right _ (List.mem_append_right _ (List.mem_append_right _ (List.mem_append_left _ (List.mem_of_getElem? (i := 5) rfl))))))))))
theorem wd_134 : Cond.fieldLink RX3 217 "ClaimRows$Claim" "unanswered" "I" ∈ al_W := (List.mem_append_right _ (List.mem_append_right _ (List.mem_append_right _ (List.mem_append_right _ (List.mem_append_right _ (List.mem_append_right _ (List.mem_append_right _ (List.mem_append_right _ (List.mem_append_left _ (List.mem_of_getElem? (i := 6) rfl))))))))))
theorem wd_135 : Cond.fieldLink RX0 48 "ClaimRows$Claim" "seenWhole" "Z" ∈ al_W := (List.mem_append_right _ (List.mem_append_right _ (List.mem_append_right _ (List.mem_append_right _ (List.mem_append_right _ (List.mem_append_right _ (List.mem_append_right _ (List.mem_append_right _ (List.mem_append_left _ (List.mem_of_getElem? (i := 7) rfl))))))))))
theorem wd_136 : Cond.fieldLink RX3 175 "ClaimRows$Claim" "seenWhole" "Z" ∈ al_W := (List.mem_append_right _ (List.mem_append_right _ (List.mem_append_right _ (List.mem_append_right _ (List.mem_append_right _ (List.mem_append_right _ (List.mem_append_right _ (List.mem_append_right _ (List.mem_append_left _ (List.mem_of_getElem? (i := 8) rfl))))))))))
theorem wd_137 : Cond.fieldLink RX0 52 "ClaimRows$Claim" "appealed" "Z" ∈ al_W := (List.mem_append_right _ (List.mem_append_right _ (List.mem_append_right _ (List.mem_append_right _ (List.mem_append_right _ (List.mem_append_right _ (List.mem_append_right _ (List.mem_append_right _ (List.mem_append_left _ (List.mem_of_getElem? (i := 9) rfl))))))))))
theorem wd_138 : Cond.fieldLink RX3 208 "ClaimRows$Claim" "appealed" "Z" ∈ al_W := (List.mem_append_right _ (List.mem_append_right _ (List.mem_append_right _ (List.mem_append_right _ (List.mem_append_right _ (List.mem_append_right _ (List.mem_append_right _ (List.mem_append_right _ (List.mem_append_left _ (List.mem_of_getElem? (i := 10) rfl))))))))))
theorem wd_139 : Cond.fieldLink RX3 202 "ClaimRows$Claim" "backSaid" "Z" ∈ al_W := (List.mem_append_right _ (List.mem_append_right _ (List.mem_append_right _ (List.mem_append_right _ (List.mem_append_right _ (List.mem_append_right _ (List.mem_append_right _ (List.mem_append_right _ (List.mem_append_left _ (List.mem_of_getElem? (i := 11) rfl))))))))))
theorem wd_140 : Cond.fieldLink RX3 163 "ClaimRows$Claim" "paidSum" "J" ∈ al_W := (List.mem_append_right _ (List.mem_append_right _ (List.mem_append_right _ (List.mem_append_right _ (List.mem_append_right _ (List.mem_append_right _ (List.mem_append_right _ (List.mem_append_right _ (List.mem_append_left _ (List.mem_of_getElem? (i := 12) rfl))))))))))
theorem wd_141 : Cond.methodLink RX3 112 yX3_send ∈ al_W := (List.mem_append_right _ (List.mem_append_right _ (List.mem_append_right _ (List.mem_append_right _ (List.mem_append_right _ (List.mem_append_right _ (List.mem_append_right _ (List.mem_append_right _ (List.mem_append_left _ (List.mem_of_getElem? (i := 13) rfl))))))))))
theorem wd_142 : Cond.selects RX3 yX3_send yX3_send ∈ al_W := (List.mem_append_right _ (List.mem_append_right _ (List.mem_append_right _ (List.mem_append_right _ (List.mem_append_right _ (List.mem_append_right _ (List.mem_append_right _ (List.mem_append_right _ (List.mem_append_left _ (List.mem_of_getElem? (i := 14) rfl))))))))))
theorem wd_143 : Cond.instanceMethod yX3_send ∈ al_W := (List.mem_append_right _ (List.mem_append_right _ (List.mem_append_right _ (List.mem_append_right _ (List.mem_append_right _ (List.mem_append_right _ (List.mem_append_right _ (List.mem_append_right _ (List.mem_append_left _ (List.mem_of_getElem? (i := 15) rfl))))))))))
theorem wd_144 : Cond.code yX3_send cX3_send 3 none ∈ al_W := (List.mem_append_right _ (List.mem_append_right _ (List.mem_append_right _ (List.mem_append_right _ (List.mem_append_right _ (List.mem_append_right _ (List.mem_append_right _ (List.mem_append_right _ (List.mem_append_right _ (List.mem_append_left _ (List.mem_of_getElem? (i := 0) rfl)))))))))))
theorem wd_145 : Cond.methodLink RL 35 yX3_proof ∈ al_W := (List.mem_append_right _ (List.mem_append_right _ (List.mem_append_right _ (List.mem_append_right _ (List.mem_append_right _ (List.mem_append_right _ (List.mem_append_right _ (List.mem_append_right _ (List.mem_append_right _ (List.mem_append_left _ (List.mem_of_getElem? (i := 1) rfl)))))))))))
theorem wd_146 : Cond.instanceMethod yX3_proof ∈ al_W := (List.mem_append_right _ (List.mem_append_right _ (List.mem_append_right _ (List.mem_append_right _ (List.mem_append_right _ (List.mem_append_right _ (List.mem_append_right _ (List.mem_append_right _ (List.mem_append_right _ (List.mem_append_left _ (List.mem_of_getElem? (i := 2) rfl)))))))))))
theorem wd_147 : Cond.selects RX3 yX3_proof yX3_proof ∈ al_W := (List.mem_append_right _ (List.mem_append_right _ (List.mem_append_right _ (List.mem_append_right _ (List.mem_append_right _ (List.mem_append_right _ (List.mem_append_right _ (List.mem_append_right _ (List.mem_append_right _ (List.mem_append_left _ (List.mem_of_getElem? (i := 3) rfl)))))))))))
theorem wd_148 : Cond.code yX3_proof cX3_proof 6 (some .int) ∈ al_W := (List.mem_append_right _ (List.mem_append_right _ (List.mem_append_right _ (List.mem_append_right _ (List.mem_append_right _ (List.mem_append_right _ (List.mem_append_right _ (List.mem_append_right _ (List.mem_append_right _ (List.mem_append_left _ (List.mem_of_getElem? (i := 4) rfl)))))))))))
theorem wd_149 : Cond.methodLink RX3 126 yJ6_bitCount ∈ al_W := (List.mem_append_right _ (List.mem_append_right _ (List.mem_append_right _ (List.mem_append_right _ (List.mem_append_right _ (List.mem_append_right _ (List.mem_append_right _ (List.mem_append_right _ (List.mem_append_right _ (List.mem_append_left _ (List.mem_of_getElem? (i := 5) rfl)))))))))))
theorem wd_150 : Cond.static yJ6_bitCount ∈ al_W := (List.mem_append_right _ (List.mem_append_right _ (List.mem_append_right _ (List.mem_append_right _ (List.mem_append_right _ (List.mem_append_right _ (List.mem_append_right _ (List.mem_append_right _ (List.mem_append_right _ (List.mem_append_left _ (List.mem_of_getElem? (i := 6) rfl)))))))))))
theorem wd_151 : Cond.code yJ6_bitCount cJ6_bitCount 1 (some .int) ∈ al_W := (List.mem_append_right _ (List.mem_append_right _ (List.mem_append_right _ (List.mem_append_right _ (List.mem_append_right _ (List.mem_append_right _ (List.mem_append_right _ (List.mem_append_right _ (List.mem_append_right _ (List.mem_append_left _ (List.mem_of_getElem? (i := 7) rfl)))))))))))
theorem wd_152 : Cond.constant RJ6 265 1431655765 ∈ al_W := (List.mem_append_right _ (List.mem_append_right _ (List.mem_append_right _ (List.mem_append_right _ (List.mem_append_right _ (List.mem_append_right _ (List.mem_append_right _ (List.mem_append_right _ (List.mem_append_right _ (List.mem_append_left _ (List.mem_of_getElem? (i := 8) rfl)))))))))))
theorem wd_153 : Cond.constant RJ6 266 858993459 ∈ al_W := (List.mem_append_right _ (List.mem_append_right _ (List.mem_append_right _ (List.mem_append_right _ (List.mem_append_right _ (List.mem_append_right _ (List.mem_append_right _ (List.mem_append_right _ (List.mem_append_right _ (List.mem_append_left _ (List.mem_of_getElem? (i := 9) rfl)))))))))))
theorem wd_154 : Cond.constant RJ6 267 252645135 ∈ al_W := (List.mem_append_right _ (List.mem_append_right _ (List.mem_append_right _ (List.mem_append_right _ (List.mem_append_right _ (List.mem_append_right _ (List.mem_append_right _ (List.mem_append_right _ (List.mem_append_right _ (List.mem_append_left _ (List.mem_of_getElem? (i := 10) rfl)))))))))))
theorem wd_155 : Cond.methodLink RL 40 yX3_search ∈ al_W := (List.mem_append_right _ (List.mem_append_right _ (List.mem_append_right _ (List.mem_append_right _ (List.mem_append_right _ (List.mem_append_right _ (List.mem_append_right _ (List.mem_append_right _ (List.mem_append_right _ (List.mem_append_left _ (List.mem_of_getElem? (i := 11) rfl)))))))))))
theorem wd_156 : Cond.instanceMethod yX3_search ∈ al_W := (List.mem_append_right _ (List.mem_append_right _ (List.mem_append_right _ (List.mem_append_right _ (List.mem_append_right _ (List.mem_append_right _ (List.mem_append_right _ (List.mem_append_right _ (List.mem_append_right _ (List.mem_append_left _ (List.mem_of_getElem? (i := 12) rfl)))))))))))
theorem wd_157 : Cond.selects RX3 yX3_search yX3_search ∈ al_W := (List.mem_append_right _ (List.mem_append_right _ (List.mem_append_right _ (List.mem_append_right _ (List.mem_append_right _ (List.mem_append_right _ (List.mem_append_right _ (List.mem_append_right _ (List.mem_append_right _ (List.mem_append_left _ (List.mem_of_getElem? (i := 13) rfl)))))))))))
theorem wd_158 : Cond.code yX3_search cX3_search 5 (some .int) ∈ al_W := (List.mem_append_right _ (List.mem_append_right _ (List.mem_append_right _ (List.mem_append_right _ (List.mem_append_right _ (List.mem_append_right _ (List.mem_append_right _ (List.mem_append_right _ (List.mem_append_right _ (List.mem_append_left _ (List.mem_of_getElem? (i := 14) rfl)))))))))))
theorem wd_159 : Cond.instantiable RX2 3 ∈ al_W := (List.mem_append_right _ (List.mem_append_right _ (List.mem_append_right _ (List.mem_append_right _ (List.mem_append_right _ (List.mem_append_right _ (List.mem_append_right _ (List.mem_append_right _ (List.mem_append_right _ (List.mem_append_left _ (List.mem_of_getElem? (i := 15) rfl)))))))))))
theorem wd_160 : Cond.methodLink RX3 140 yX2_init ∈ al_W := (List.mem_append_right _ (List.mem_append_right _ (List.mem_append_right _ (List.mem_append_right _ (List.mem_append_right _ (List.mem_append_right _ (List.mem_append_right _ (List.mem_append_right _ (List.mem_append_right _ (List.mem_append_right _ (List.mem_append_left _ (List.mem_of_getElem? (i := 0) rfl))))))))))))
theorem wd_161 : Cond.instanceMethod yX2_init ∈ al_W := (List.mem_append_right _ (List.mem_append_right _ (List.mem_append_right _ (List.mem_append_right _ (List.mem_append_right _ (List.mem_append_right _ (List.mem_append_right _ (List.mem_append_right _ (List.mem_append_right _ (List.mem_append_right _ (List.mem_append_left _ (List.mem_of_getElem? (i := 1) rfl))))))))))))
theorem wd_162 : Cond.code yX2_init cX2_init 3 none ∈ al_W := (List.mem_append_right _ (List.mem_append_right _ (List.mem_append_right _ (List.mem_append_right _ (List.mem_append_right _ (List.mem_append_right _ (List.mem_append_right _ (List.mem_append_right _ (List.mem_append_right _ (List.mem_append_right _ (List.mem_append_left _ (List.mem_of_getElem? (i := 2) rfl))))))))))))
theorem wd_163 : Cond.methodLink RX2 1 objectInit ∈ al_W := (List.mem_append_right _ (List.mem_append_right _ (List.mem_append_right _ (List.mem_append_right _ (List.mem_append_right _ (List.mem_append_right _ (List.mem_append_right _ (List.mem_append_right _ (List.mem_append_right _ (List.mem_append_right _ (List.mem_append_left _ (List.mem_of_getElem? (i := 3) rfl))))))))))))
theorem wd_164 : Cond.fieldLink RX2 13 "ClaimRows$Search" "claim" "LClaimRows$Claim;" ∈ al_W := (List.mem_append_right _ (List.mem_append_right _ (List.mem_append_right _ (List.mem_append_right _ (List.mem_append_right _ (List.mem_append_right _ (List.mem_append_right _ (List.mem_append_right _ (List.mem_append_right _ (List.mem_append_right _ (List.mem_append_left _ (List.mem_of_getElem? (i := 4) rfl))))))))))))
theorem wd_165 : Cond.fieldLink RX2 17 "ClaimRows$Search" "due" "I" ∈ al_W := (List.mem_append_right _ (List.mem_append_right _ (List.mem_append_right _ (List.mem_append_right _ (List.mem_append_right _ (List.mem_append_right _ (List.mem_append_right _ (List.mem_append_right _ (List.mem_append_right _ (List.mem_append_right _ (List.mem_append_left _ (List.mem_of_getElem? (i := 5) rfl))))))))))))
theorem wd_166 : Cond.fieldLink RX3 158 "ClaimRows$Search" "due" "I" ∈ al_W := (List.mem_append_right _ (List.mem_append_right _ (List.mem_append_right _ (List.mem_append_right _ (List.mem_append_right _ (List.mem_append_right _ (List.mem_append_right _ (List.mem_append_right _ (List.mem_append_right _ (List.mem_append_right _ (List.mem_append_left _ (List.mem_of_getElem? (i := 6) rfl))))))))))))
theorem wd_167 : Cond.fieldLink RX2 7 "ClaimRows$Search" "unanswered" "Z" ∈ al_W := (List.mem_append_right _ (List.mem_append_right _ (List.mem_append_right _ (List.mem_append_right _ (List.mem_append_right _ (List.mem_append_right _ (List.mem_append_right _ (List.mem_append_right _ (List.mem_append_right _ (List.mem_append_right _ (List.mem_append_left _ (List.mem_of_getElem? (i := 7) rfl))))))))))))
theorem wd_168 : Cond.fieldLink RX3 150 "ClaimRows$Search" "unanswered" "Z" ∈ al_W := (List.mem_append_right _ (List.mem_append_right _ (List.mem_append_right _ (List.mem_append_right _ (List.mem_append_right _ (List.mem_append_right _ (List.mem_append_right _ (List.mem_append_right _ (List.mem_append_right _ (List.mem_append_right _ (List.mem_append_left _ (List.mem_of_getElem? (i := 8) rfl))))))))))))
theorem wd_169 : Cond.methodLink RX3 143 yX0_addSearch ∈ al_W := (List.mem_append_right _ (List.mem_append_right _ (List.mem_append_right _ (List.mem_append_right _ (List.mem_append_right _ (List.mem_append_right _ (List.mem_append_right _ (List.mem_append_right _ (List.mem_append_right _ (List.mem_append_right _ (List.mem_append_left _ (List.mem_of_getElem? (i := 9) rfl))))))))))))
theorem wd_170 : Cond.instanceMethod yX0_addSearch ∈ al_W := (List.mem_append_right _ (List.mem_append_right _ (List.mem_append_right _ (List.mem_append_right _ (List.mem_append_right _ (List.mem_append_right _ (List.mem_append_right _ (List.mem_append_right _ (List.mem_append_right _ (List.mem_append_right _ (List.mem_append_left _ (List.mem_of_getElem? (i := 10) rfl))))))))))))
theorem wd_171 : Cond.selects RX0 yX0_addSearch yX0_addSearch ∈ al_W := (List.mem_append_right _ (List.mem_append_right _ (List.mem_append_right _ (List.mem_append_right _ (List.mem_append_right _ (List.mem_append_right _ (List.mem_append_right _ (List.mem_append_right _ (List.mem_append_right _ (List.mem_append_right _ (List.mem_append_left _ (List.mem_of_getElem? (i := 11) rfl))))))))))))
theorem wd_172 : Cond.code yX0_addSearch cX0_addSearch 1 none ∈ al_W := (List.mem_append_right _ (List.mem_append_right _ (List.mem_append_right _ (List.mem_append_right _ (List.mem_append_right _ (List.mem_append_right _ (List.mem_append_right _ (List.mem_append_right _ (List.mem_append_right _ (List.mem_append_right _ (List.mem_append_left _ (List.mem_of_getElem? (i := 12) rfl))))))))))))
theorem wd_173 : Cond.methodLink RL 45 yX3_answer ∈ al_W := (List.mem_append_right _ (List.mem_append_right _ (List.mem_append_right _ (List.mem_append_right _ (List.mem_append_right _ (List.mem_append_right _ (List.mem_append_right _ (List.mem_append_right _ (List.mem_append_right _ (List.mem_append_right _ (List.mem_append_left _ (List.mem_of_getElem? (i := 13) rfl))))))))))))
theorem wd_174 : Cond.instanceMethod yX3_answer ∈ al_W := (List.mem_append_right _ (List.mem_append_right _ (List.mem_append_right _ (List.mem_append_right _ (List.mem_append_right _ (List.mem_append_right _ (List.mem_append_right _ (List.mem_append_right _ (List.mem_append_right _ (List.mem_append_right _ (List.mem_append_left _ (List.mem_of_getElem? (i := 14) rfl))))))))))))
theorem wd_175 : Cond.selects RX3 yX3_answer yX3_answer ∈ al_W := (List.mem_append_right _ (List.mem_append_right _ (List.mem_append_right _ (List.mem_append_right _ (List.mem_append_right _ (List.mem_append_right _ (List.mem_append_right _ (List.mem_append_right _ (List.mem_append_right _ (List.mem_append_right _ (List.mem_append_left _ (List.mem_of_getElem? (i := 15) rfl))))))))))))
theorem wd_176 : Cond.code yX3_answer cX3_answer 4 (some .int) ∈ al_W := (List.mem_append_right _ (List.mem_append_right _ (List.mem_append_right _ (List.mem_append_right _ (List.mem_append_right _ (List.mem_append_right _ (List.mem_append_right _ (List.mem_append_right _ (List.mem_append_right _ (List.mem_append_right _ (List.mem_append_right _ (List.mem_append_left _ (List.mem_of_getElem? (i := 0) rfl)))))))))))))
theorem wd_177 : Cond.methodLink RX3 146 yX3_searchNumbered ∈ al_W := (List.mem_append_right _ (List.mem_append_right _ (List.mem_append_right _ (List.mem_append_right _ (List.mem_append_right _ (List.mem_append_right _ (List.mem_append_right _ (List.mem_append_right _ (List.mem_append_right _ (List.mem_append_right _ (List.mem_append_right _ (List.mem_append_left _ (List.mem_of_getElem? (i := 1) rfl)))))))))))))
theorem wd_178 : Cond.selects RX3 yX3_searchNumbered yX3_searchNumbered ∈ al_W := (List.mem_append_right _ (List.mem_append_right _ (List.mem_append_right _ (List.mem_append_right _ (List.mem_append_right _ (List.mem_append_right _ (List.mem_append_right _ (List.mem_append_right _ (List.mem_append_right _ (List.mem_append_right _ (List.mem_append_right _ (List.mem_append_left _ (List.mem_of_getElem? (i := 2) rfl)))))))))))))
theorem wd_179 : Cond.instanceMethod yX3_searchNumbered ∈ al_W := (List.mem_append_right _ (List.mem_append_right _ (List.mem_append_right _ (List.mem_append_right _ (List.mem_append_right _ (List.mem_append_right _ (List.mem_append_right _ (List.mem_append_right _ (List.mem_append_right _ (List.mem_append_right _ (List.mem_append_right _ (List.mem_append_left _ (List.mem_of_getElem? (i := 3) rfl)))))))))))))
theorem wd_180 : Cond.code yX3_searchNumbered cX3_searchNumbered 2 (some (.object "ClaimRows$Search")) ∈ al_W := (List.mem_append_right _ (List.mem_append_right _ (List.mem_append_right _ (List.mem_append_right _ (List.mem_append_right _ (List.mem_append_right _ (List.mem_append_right _ (List.mem_append_right _ (List.mem_append_right _ (List.mem_append_right _ (List.mem_append_right _ (List.mem_append_left _ (List.mem_of_getElem? (i := 4) rfl)))))))))))))
theorem wd_181 : Cond.methodLink RX3 154 yX2_close ∈ al_W := (List.mem_append_right _ (List.mem_append_right _ (List.mem_append_right _ (List.mem_append_right _ (List.mem_append_right _ (List.mem_append_right _ (List.mem_append_right _ (List.mem_append_right _ (List.mem_append_right _ (List.mem_append_right _ (List.mem_append_right _ (List.mem_append_left _ (List.mem_of_getElem? (i := 5) rfl)))))))))))))
theorem wd_182 : Cond.instanceMethod yX2_close ∈ al_W := (List.mem_append_right _ (List.mem_append_right _ (List.mem_append_right _ (List.mem_append_right _ (List.mem_append_right _ (List.mem_append_right _ (List.mem_append_right _ (List.mem_append_right _ (List.mem_append_right _ (List.mem_append_right _ (List.mem_append_right _ (List.mem_append_left _ (List.mem_of_getElem? (i := 6) rfl)))))))))))))
theorem wd_183 : Cond.selects RX2 yX2_close yX2_close ∈ al_W := (List.mem_append_right _ (List.mem_append_right _ (List.mem_append_right _ (List.mem_append_right _ (List.mem_append_right _ (List.mem_append_right _ (List.mem_append_right _ (List.mem_append_right _ (List.mem_append_right _ (List.mem_append_right _ (List.mem_append_right _ (List.mem_append_left _ (List.mem_of_getElem? (i := 7) rfl)))))))))))))
theorem wd_184 : Cond.code yX2_close cX2_close 2 none ∈ al_W := (List.mem_append_right _ (List.mem_append_right _ (List.mem_append_right _ (List.mem_append_right _ (List.mem_append_right _ (List.mem_append_right _ (List.mem_append_right _ (List.mem_append_right _ (List.mem_append_right _ (List.mem_append_right _ (List.mem_append_right _ (List.mem_append_left _ (List.mem_of_getElem? (i := 8) rfl)))))))))))))
theorem wd_185 : Cond.methodLink RX2 21 yX0_endSearch ∈ al_W := (List.mem_append_right _ (List.mem_append_right _ (List.mem_append_right _ (List.mem_append_right _ (List.mem_append_right _ (List.mem_append_right _ (List.mem_append_right _ (List.mem_append_right _ (List.mem_append_right _ (List.mem_append_right _ (List.mem_append_right _ (List.mem_append_left _ (List.mem_of_getElem? (i := 9) rfl)))))))))))))
theorem wd_186 : Cond.instanceMethod yX0_endSearch ∈ al_W := (List.mem_append_right _ (List.mem_append_right _ (List.mem_append_right _ (List.mem_append_right _ (List.mem_append_right _ (List.mem_append_right _ (List.mem_append_right _ (List.mem_append_right _ (List.mem_append_right _ (List.mem_append_right _ (List.mem_append_right _ (List.mem_append_left _ (List.mem_of_getElem? (i := 10) rfl)))))))))))))
theorem wd_187 : Cond.selects RX0 yX0_endSearch yX0_endSearch ∈ al_W := (List.mem_append_right _ (List.mem_append_right _ (List.mem_append_right _ (List.mem_append_right _ (List.mem_append_right _ (List.mem_append_right _ (List.mem_append_right _ (List.mem_append_right _ (List.mem_append_right _ (List.mem_append_right _ (List.mem_append_right _ (List.mem_append_left _ (List.mem_of_getElem? (i := 11) rfl)))))))))))))
theorem wd_188 : Cond.code yX0_endSearch cX0_endSearch 2 none ∈ al_W := (List.mem_append_right _ (List.mem_append_right _ (List.mem_append_right _ (List.mem_append_right _ (List.mem_append_right _ (List.mem_append_right _ (List.mem_append_right _ (List.mem_append_right _ (List.mem_append_right _ (List.mem_append_right _ (List.mem_append_right _ (List.mem_append_left _ (List.mem_of_getElem? (i := 12) rfl)))))))))))))
theorem wd_189 : Cond.methodLink RL 50 yX3_tick ∈ al_W := (List.mem_append_right _ (List.mem_append_right _ (List.mem_append_right _ (List.mem_append_right _ (List.mem_append_right _ (List.mem_append_right _ (List.mem_append_right _ (List.mem_append_right _ (List.mem_append_right _ (List.mem_append_right _ (List.mem_append_right _ (List.mem_append_left _ (List.mem_of_getElem? (i := 13) rfl)))))))))))))
theorem wd_190 : Cond.instanceMethod yX3_tick ∈ al_W := (List.mem_append_right _ (List.mem_append_right _ (List.mem_append_right _ (List.mem_append_right _ (List.mem_append_right _ (List.mem_append_right _ (List.mem_append_right _ (List.mem_append_right _ (List.mem_append_right _ (List.mem_append_right _ (List.mem_append_right _ (List.mem_append_left _ (List.mem_of_getElem? (i := 14) rfl)))))))))))))
theorem wd_191 : Cond.selects RX3 yX3_tick yX3_tick ∈ al_W := (List.mem_append_right _ (List.mem_append_right _ (List.mem_append_right _ (List.mem_append_right _ (List.mem_append_right _ (List.mem_append_right _ (List.mem_append_right _ (List.mem_append_right _ (List.mem_append_right _ (List.mem_append_right _ (List.mem_append_right _ (List.mem_append_left _ (List.mem_of_getElem? (i := 15) rfl)))))))))))))
theorem wd_192 : Cond.code yX3_tick cX3_tick 5 (some .int) ∈ al_W := (List.mem_append_right _ (List.mem_append_right _ (List.mem_append_right _ (List.mem_append_right _ (List.mem_append_right _ (List.mem_append_right _ (List.mem_append_right _ (List.mem_append_right _ (List.mem_append_right _ (List.mem_append_right _ (List.mem_append_right _ (List.mem_append_right _ (List.mem_append_left _ (List.mem_of_getElem? (i := 0) rfl))))))))))))))
theorem wd_193 : Cond.methodLink RL 55 yX3_sum ∈ al_W := (List.mem_append_right _ (List.mem_append_right _ (List.mem_append_right _ (List.mem_append_right _ (List.mem_append_right _ (List.mem_append_right _ (List.mem_append_right _ (List.mem_append_right _ (List.mem_append_right _ (List.mem_append_right _ (List.mem_append_right _ (List.mem_append_right _ (List.mem_append_left _ (List.mem_of_getElem? (i := 1) rfl))))))))))))))
theorem wd_194 : Cond.instanceMethod yX3_sum ∈ al_W := (List.mem_append_right _ (List.mem_append_right _ (List.mem_append_right _ (List.mem_append_right _ (List.mem_append_right _ (List.mem_append_right _ (List.mem_append_right _ (List.mem_append_right _ (List.mem_append_right _ (List.mem_append_right _ (List.mem_append_right _ (List.mem_append_right _ (List.mem_append_left _ (List.mem_of_getElem? (i := 2) rfl))))))))))))))
theorem wd_195 : Cond.selects RX3 yX3_sum yX3_sum ∈ al_W := (List.mem_append_right _ (List.mem_append_right _ (List.mem_append_right _ (List.mem_append_right _ (List.mem_append_right _ (List.mem_append_right _ (List.mem_append_right _ (List.mem_append_right _ (List.mem_append_right _ (List.mem_append_right _ (List.mem_append_right _ (List.mem_append_right _ (List.mem_append_left _ (List.mem_of_getElem? (i := 3) rfl))))))))))))))
theorem wd_196 : Cond.code yX3_sum cX3_sum 3 (some .long) ∈ al_W := (List.mem_append_right _ (List.mem_append_right _ (List.mem_append_right _ (List.mem_append_right _ (List.mem_append_right _ (List.mem_append_right _ (List.mem_append_right _ (List.mem_append_right _ (List.mem_append_right _ (List.mem_append_right _ (List.mem_append_right _ (List.mem_append_right _ (List.mem_append_left _ (List.mem_of_getElem? (i := 4) rfl))))))))))))))
theorem wd_197 : Cond.constantLong RX3 161 (-101) ∈ al_W := (List.mem_append_right _ (List.mem_append_right _ (List.mem_append_right _ (List.mem_append_right _ (List.mem_append_right _ (List.mem_append_right _ (List.mem_append_right _ (List.mem_append_right _ (List.mem_append_right _ (List.mem_append_right _ (List.mem_append_right _ (List.mem_append_right _ (List.mem_append_left _ (List.mem_of_getElem? (i := 5) rfl))))))))))))))
theorem wd_198 : Cond.methodLink RX3 167 yX3_sumByTable ∈ al_W := (List.mem_append_right _ (List.mem_append_right _ (List.mem_append_right _ (List.mem_append_right _ (List.mem_append_right _ (List.mem_append_right _ (List.mem_append_right _ (List.mem_append_right _ (List.mem_append_right _ (List.mem_append_right _ (List.mem_append_right _ (List.mem_append_right _ (List.mem_append_left _ (List.mem_of_getElem? (i := 6) rfl))))))))))))))
theorem wd_199 : Cond.selects RX3 yX3_sumByTable yX3_sumByTable ∈ al_W := (List.mem_append_right _ (List.mem_append_right _ (List.mem_append_right _ (List.mem_append_right _ (List.mem_append_right _ (List.mem_append_right _ (List.mem_append_right _ (List.mem_append_right _ (List.mem_append_right _ (List.mem_append_right _ (List.mem_append_right _ (List.mem_append_right _ (List.mem_append_left _ (List.mem_of_getElem? (i := 7) rfl))))))))))))))
theorem wd_200 : Cond.instanceMethod yX3_sumByTable ∈ al_W := (List.mem_append_right _ (List.mem_append_right _ (List.mem_append_right _ (List.mem_append_right _ (List.mem_append_right _ (List.mem_append_right _ (List.mem_append_right _ (List.mem_append_right _ (List.mem_append_right _ (List.mem_append_right _ (List.mem_append_right _ (List.mem_append_right _ (List.mem_append_left _ (List.mem_of_getElem? (i := 8) rfl))))))))))))))
theorem wd_201 : Cond.code yX3_sumByTable cX3_sumByTable 7 (some .long) ∈ al_W := (List.mem_append_right _ (List.mem_append_right _ (List.mem_append_right _ (List.mem_append_right _ (List.mem_append_right _ (List.mem_append_right _ (List.mem_append_right _ (List.mem_append_right _ (List.mem_append_right _ (List.mem_append_right _ (List.mem_append_right _ (List.mem_append_right _ (List.mem_append_left _ (List.mem_of_getElem? (i := 9) rfl))))))))))))))
theorem wd_202 : Cond.methodLink RX3 244 yJ9_min_long ∈ al_W := (List.mem_append_right _ (List.mem_append_right _ (List.mem_append_right _ (List.mem_append_right _ (List.mem_append_right _ (List.mem_append_right _ (List.mem_append_right _ (List.mem_append_right _ (List.mem_append_right _ (List.mem_append_right _ (List.mem_append_right _ (List.mem_append_right _ (List.mem_append_left _ (List.mem_of_getElem? (i := 10) rfl))))))))))))))
theorem wd_203 : Cond.static yJ9_min_long ∈ al_W := (List.mem_append_right _ (List.mem_append_right _ (List.mem_append_right _ (List.mem_append_right _ (List.mem_append_right _ (List.mem_append_right _ (List.mem_append_right _ (List.mem_append_right _ (List.mem_append_right _ (List.mem_append_right _ (List.mem_append_right _ (List.mem_append_right _ (List.mem_append_left _ (List.mem_of_getElem? (i := 11) rfl))))))))))))))
theorem wd_204 : Cond.code yJ9_min_long cJ9_min_long 4 (some .long) ∈ al_W := (List.mem_append_right _ (List.mem_append_right _ (List.mem_append_right _ (List.mem_append_right _ (List.mem_append_right _ (List.mem_append_right _ (List.mem_append_right _ (List.mem_append_right _ (List.mem_append_right _ (List.mem_append_right _ (List.mem_append_right _ (List.mem_append_right _ (List.mem_append_left _ (List.mem_of_getElem? (i := 12) rfl))))))))))))))
theorem wd_205 : Cond.constantLong RX3 247 10 ∈ al_W := (List.mem_append_right _ (List.mem_append_right _ (List.mem_append_right _ (List.mem_append_right _ (List.mem_append_right _ (List.mem_append_right _ (List.mem_append_right _ (List.mem_append_right _ (List.mem_append_right _ (List.mem_append_right _ (List.mem_append_right _ (List.mem_append_right _ (List.mem_append_left _ (List.mem_of_getElem? (i := 13) rfl))))))))))))))
theorem wd_206 : Cond.methodLink RL 60 yX3_limit ∈ al_W := (List.mem_append_right _ (List.mem_append_right _ (List.mem_append_right _ (List.mem_append_right _ (List.mem_append_right _ (List.mem_append_right _ (List.mem_append_right _ (List.mem_append_right _ (List.mem_append_right _ (List.mem_append_right _ (List.mem_append_right _ (List.mem_append_right _ (List.mem_append_left _ (List.mem_of_getElem? (i := 14) rfl))))))))))))))
theorem wd_207 : Cond.instanceMethod yX3_limit ∈ al_W := (List.mem_append_right _ (List.mem_append_right _ (List.mem_append_right _ (List.mem_append_right _ (List.mem_append_right _ (List.mem_append_right _ (List.mem_append_right _ (List.mem_append_right _ (List.mem_append_right _ (List.mem_append_right _ (List.mem_append_right _ (List.mem_append_right _ (List.mem_append_left _ (List.mem_of_getElem? (i := 15) rfl))))))))))))))
theorem wd_208 : Cond.selects RX3 yX3_limit yX3_limit ∈ al_W := (List.mem_append_right _ (List.mem_append_right _ (List.mem_append_right _ (List.mem_append_right _ (List.mem_append_right _ (List.mem_append_right _ (List.mem_append_right _ (List.mem_append_right _ (List.mem_append_right _ (List.mem_append_right _ (List.mem_append_right _ (List.mem_append_right _ (List.mem_append_right _ (List.mem_append_left _ (List.mem_of_getElem? (i := 0) rfl)))))))))))))))
theorem wd_209 : Cond.code yX3_limit cX3_limit 4 (some .int) ∈ al_W := (List.mem_append_right _ (List.mem_append_right _ (List.mem_append_right _ (List.mem_append_right _ (List.mem_append_right _ (List.mem_append_right _ (List.mem_append_right _ (List.mem_append_right _ (List.mem_append_right _ (List.mem_append_right _ (List.mem_append_right _ (List.mem_append_right _ (List.mem_append_right _ (List.mem_append_left _ (List.mem_of_getElem? (i := 1) rfl)))))))))))))))
theorem wd_210 : Cond.methodLink RL 65 yX3_decide ∈ al_W := (List.mem_append_right _ (List.mem_append_right _ (List.mem_append_right _ (List.mem_append_right _ (List.mem_append_right _ (List.mem_append_right _ (List.mem_append_right _ (List.mem_append_right _ (List.mem_append_right _ (List.mem_append_right _ (List.mem_append_right _ (List.mem_append_right _ (List.mem_append_right _ (List.mem_append_left _ (List.mem_of_getElem? (i := 2) rfl)))))))))))))))
theorem wd_211 : Cond.instanceMethod yX3_decide ∈ al_W := (List.mem_append_right _ (List.mem_append_right _ (List.mem_append_right _ (List.mem_append_right _ (List.mem_append_right _ (List.mem_append_right _ (List.mem_append_right _ (List.mem_append_right _ (List.mem_append_right _ (List.mem_append_right _ (List.mem_append_right _ (List.mem_append_right _ (List.mem_append_right _ (List.mem_append_left _ (List.mem_of_getElem? (i := 3) rfl)))))))))))))))
theorem wd_212 : Cond.selects RX3 yX3_decide yX3_decide ∈ al_W := (List.mem_append_right _ (List.mem_append_right _ (List.mem_append_right _ (List.mem_append_right _ (List.mem_append_right _ (List.mem_append_right _ (List.mem_append_right _ (List.mem_append_right _ (List.mem_append_right _ (List.mem_append_right _ (List.mem_append_right _ (List.mem_append_right _ (List.mem_append_right _ (List.mem_append_left _ (List.mem_of_getElem? (i := 4) rfl)))))))))))))))
theorem wd_213 : Cond.code yX3_decide cX3_decide 6 (some .int) ∈ al_W := (List.mem_append_right _ (List.mem_append_right _ (List.mem_append_right _ (List.mem_append_right _ (List.mem_append_right _ (List.mem_append_right _ (List.mem_append_right _ (List.mem_append_right _ (List.mem_append_right _ (List.mem_append_right _ (List.mem_append_right _ (List.mem_append_right _ (List.mem_append_right _ (List.mem_append_left _ (List.mem_of_getElem? (i := 5) rfl)))))))))))))))
theorem wd_214 : Cond.methodLink RX3 171 yX0_isReady ∈ al_W := (List.mem_append_right _ (List.mem_append_right _ (List.mem_append_right _ (List.mem_append_right _ (List.mem_append_right _ (List.mem_append_right _ (List.mem_append_right _ (List.mem_append_right _ (List.mem_append_right _ (List.mem_append_right _ (List.mem_append_right _ (List.mem_append_right _ (List.mem_append_right _ (List.mem_append_left _ (List.mem_of_getElem? (i := 6) rfl)))))))))))))))
theorem wd_215 : Cond.instanceMethod yX0_isReady ∈ al_W := (List.mem_append_right _ (List.mem_append_right _ (List.mem_append_right _ (List.mem_append_right _ (List.mem_append_right _ (List.mem_append_right _ (List.mem_append_right _ (List.mem_append_right _ (List.mem_append_right _ (List.mem_append_right _ (List.mem_append_right _ (List.mem_append_right _ (List.mem_append_right _ (List.mem_append_left _ (List.mem_of_getElem? (i := 7) rfl)))))))))))))))
theorem wd_216 : Cond.selects RX0 yX0_isReady yX0_isReady ∈ al_W := (List.mem_append_right _ (List.mem_append_right _ (List.mem_append_right _ (List.mem_append_right _ (List.mem_append_right _ (List.mem_append_right _ (List.mem_append_right _ (List.mem_append_right _ (List.mem_append_right _ (List.mem_append_right _ (List.mem_append_right _ (List.mem_append_right _ (List.mem_append_right _ (List.mem_append_left _ (List.mem_of_getElem? (i := 8) rfl)))))))))))))))
theorem wd_217 : Cond.code yX0_isReady cX0_isReady 1 (some .boolean) ∈ al_W := (List.mem_append_right _ (List.mem_append_right _ (List.mem_append_right _ (List.mem_append_right _ (List.mem_append_right _ (List.mem_append_right _ (List.mem_append_right _ (List.mem_append_right _ (List.mem_append_right _ (List.mem_append_right _ (List.mem_append_right _ (List.mem_append_right _ (List.mem_append_right _ (List.mem_append_left _ (List.mem_of_getElem? (i := 9) rfl)))))))))))))))
theorem wd_218 : Cond.methodLink RX3 178 yX3_refuse ∈ al_W := (List.mem_append_right _ (List.mem_append_right _ (List.mem_append_right _ (List.mem_append_right _ (List.mem_append_right _ (List.mem_append_right _ (List.mem_append_right _ (List.mem_append_right _ (List.mem_append_right _ (List.mem_append_right _ (List.mem_append_right _ (List.mem_append_right _ (List.mem_append_right _ (List.mem_append_left _ (List.mem_of_getElem? (i := 10) rfl)))))))))))))))
theorem wd_219 : Cond.selects RX3 yX3_refuse yX3_refuse ∈ al_W := (List.mem_append_right _ (List.mem_append_right _ (List.mem_append_right _ (List.mem_append_right _ (List.mem_append_right _ (List.mem_append_right _ (List.mem_append_right _ (List.mem_append_right _ (List.mem_append_right _ (List.mem_append_right _ (List.mem_append_right _ (List.mem_append_right _ (List.mem_append_right _ (List.mem_append_left _ (List.mem_of_getElem? (i := 11) rfl)))))))))))))))
theorem wd_220 : Cond.instanceMethod yX3_refuse ∈ al_W := (List.mem_append_right _ (List.mem_append_right _ (List.mem_append_right _ (List.mem_append_right _ (List.mem_append_right _ (List.mem_append_right _ (List.mem_append_right _ (List.mem_append_right _ (List.mem_append_right _ (List.mem_append_right _ (List.mem_append_right _ (List.mem_append_right _ (List.mem_append_right _ (List.mem_append_left _ (List.mem_of_getElem? (i := 12) rfl)))))))))))))))
theorem wd_221 : Cond.code yX3_refuse cX3_refuse 2 (some .int) ∈ al_W := (List.mem_append_right _ (List.mem_append_right _ (List.mem_append_right _ (List.mem_append_right _ (List.mem_append_right _ (List.mem_append_right _ (List.mem_append_right _ (List.mem_append_right _ (List.mem_append_right _ (List.mem_append_right _ (List.mem_append_right _ (List.mem_append_right _ (List.mem_append_right _ (List.mem_append_left _ (List.mem_of_getElem? (i := 13) rfl)))))))))))))))
theorem wd_222 : Cond.methodLink RX3 182 yX3_pay ∈ al_W := (List.mem_append_right _ (List.mem_append_right _ (List.mem_append_right _ (List.mem_append_right _ (List.mem_append_right _ (List.mem_append_right _ (List.mem_append_right _ (List.mem_append_right _ (List.mem_append_right _ (List.mem_append_right _ (List.mem_append_right _ (List.mem_append_right _ (List.mem_append_right _ (List.mem_append_left _ (List.mem_of_getElem? (i := 14) rfl)))))))))))))))
theorem wd_223 : Cond.selects RX3 yX3_pay yX3_pay ∈ al_W := (List.mem_append_right _ (List.mem_append_right _ (List.mem_append_right _ (List.mem_append_right _ (List.mem_append_right _ (List.mem_append_right _ (List.mem_append_right _ (List.mem_append_right _ (List.mem_append_right _ (List.mem_append_right _ (List.mem_append_right _ (List.mem_append_right _ (List.mem_append_right _ (List.mem_append_left _ (List.mem_of_getElem? (i := 15) rfl)))))))))))))))
theorem wd_224 : Cond.instanceMethod yX3_pay ∈ al_W := (List.mem_append_right _ (List.mem_append_right _ (List.mem_append_right _ (List.mem_append_right _ (List.mem_append_right _ (List.mem_append_right _ (List.mem_append_right _ (List.mem_append_right _ (List.mem_append_right _ (List.mem_append_right _ (List.mem_append_right _ (List.mem_append_right _ (List.mem_append_right _ (List.mem_append_right _ (List.mem_append_left _ (List.mem_of_getElem? (i := 0) rfl))))))))))))))))
theorem wd_225 : Cond.code yX3_pay cX3_pay 4 (some .int) ∈ al_W := (List.mem_append_right _ (List.mem_append_right _ (List.mem_append_right _ (List.mem_append_right _ (List.mem_append_right _ (List.mem_append_right _ (List.mem_append_right _ (List.mem_append_right _ (List.mem_append_right _ (List.mem_append_right _ (List.mem_append_right _ (List.mem_append_right _ (List.mem_append_right _ (List.mem_append_right _ (List.mem_append_left _ (List.mem_of_getElem? (i := 1) rfl))))))))))))))))
theorem wd_226 : Cond.methodLink RL 69 yX3_share ∈ al_W := (List.mem_append_right _ (List.mem_append_right _ (List.mem_append_right _ (List.mem_append_right _ (List.mem_append_right _ (List.mem_append_right _ (List.mem_append_right _ (List.mem_append_right _ (List.mem_append_right _ (List.mem_append_right _ (List.mem_append_right _ (List.mem_append_right _ (List.mem_append_right _ (List.mem_append_right _ (List.mem_append_left _ (List.mem_of_getElem? (i := 2) rfl))))))))))))))))
theorem wd_227 : Cond.instanceMethod yX3_share ∈ al_W := (List.mem_append_right _ (List.mem_append_right _ (List.mem_append_right _ (List.mem_append_right _ (List.mem_append_right _ (List.mem_append_right _ (List.mem_append_right _ (List.mem_append_right _ (List.mem_append_right _ (List.mem_append_right _ (List.mem_append_right _ (List.mem_append_right _ (List.mem_append_right _ (List.mem_append_right _ (List.mem_append_left _ (List.mem_of_getElem? (i := 3) rfl))))))))))))))))
theorem wd_228 : Cond.selects RX3 yX3_share yX3_share ∈ al_W := (List.mem_append_right _ (List.mem_append_right _ (List.mem_append_right _ (List.mem_append_right _ (List.mem_append_right _ (List.mem_append_right _ (List.mem_append_right _ (List.mem_append_right _ (List.mem_append_right _ (List.mem_append_right _ (List.mem_append_right _ (List.mem_append_right _ (List.mem_append_right _ (List.mem_append_right _ (List.mem_append_left _ (List.mem_of_getElem? (i := 4) rfl))))))))))))))))
theorem wd_229 : Cond.code yX3_share cX3_share 4 (some .long) ∈ al_W := (List.mem_append_right _ (List.mem_append_right _ (List.mem_append_right _ (List.mem_append_right _ (List.mem_append_right _ (List.mem_append_right _ (List.mem_append_right _ (List.mem_append_right _ (List.mem_append_right _ (List.mem_append_right _ (List.mem_append_right _ (List.mem_append_right _ (List.mem_append_right _ (List.mem_append_right _ (List.mem_append_left _ (List.mem_of_getElem? (i := 5) rfl))))))))))))))))
theorem wd_230 : Cond.constantLong RX3 186 (-102) ∈ al_W := (List.mem_append_right _ (List.mem_append_right _ (List.mem_append_right _ (List.mem_append_right _ (List.mem_append_right _ (List.mem_append_right _ (List.mem_append_right _ (List.mem_append_right _ (List.mem_append_right _ (List.mem_append_right _ (List.mem_append_right _ (List.mem_append_right _ (List.mem_append_right _ (List.mem_append_right _ (List.mem_append_left _ (List.mem_of_getElem? (i := 6) rfl))))))))))))))))
theorem wd_231 : Cond.methodLink RX3 192 yX1_partOf ∈ al_W := (List.mem_append_right _ (List.mem_append_right _ (List.mem_append_right _ (List.mem_append_right _ (List.mem_append_right _ (List.mem_append_right _ (List.mem_append_right _ (List.mem_append_right _ (List.mem_append_right _ (List.mem_append_right _ (List.mem_append_right _ (List.mem_append_right _ (List.mem_append_right _ (List.mem_append_right _ (List.mem_append_left _ (List.mem_of_getElem? (i := 7) rfl))))))))))))))))
theorem wd_232 : Cond.instanceMethod yX1_partOf ∈ al_W := (List.mem_append_right _ (List.mem_append_right _ (List.mem_append_right _ (List.mem_append_right _ (List.mem_append_right _ (List.mem_append_right _ (List.mem_append_right _ (List.mem_append_right _ (List.mem_append_right _ (List.mem_append_right _ (List.mem_append_right _ (List.mem_append_right _ (List.mem_append_right _ (List.mem_append_right _ (List.mem_append_left _ (List.mem_of_getElem? (i := 8) rfl))))))))))))))))
theorem wd_233 : Cond.selects RX1 yX1_partOf yX1_partOf ∈ al_W := (List.mem_append_right _ (List.mem_append_right _ (List.mem_append_right _ (List.mem_append_right _ (List.mem_append_right _ (List.mem_append_right _ (List.mem_append_right _ (List.mem_append_right _ (List.mem_append_right _ (List.mem_append_right _ (List.mem_append_right _ (List.mem_append_right _ (List.mem_append_right _ (List.mem_append_right _ (List.mem_append_left _ (List.mem_of_getElem? (i := 9) rfl))))))))))))))))
theorem wd_234 : Cond.code yX1_partOf cX1_partOf 12 (some .long) ∈ al_W := (List.mem_append_right _ (List.mem_append_right _ (List.mem_append_right _ (List.mem_append_right _ (List.mem_append_right _ (List.mem_append_right _ (List.mem_append_right _ (List.mem_append_right _ (List.mem_append_right _ (List.mem_append_right _ (List.mem_append_right _ (List.mem_append_right _ (List.mem_append_right _ (List.mem_append_right _ (List.mem_append_left _ (List.mem_of_getElem? (i := 10) rfl))))))))))))))))
theorem wd_235 : Cond.methodLink RL 74 yX3_found ∈ al_W := (List.mem_append_right _ (List.mem_append_right _ (List.mem_append_right _ (List.mem_append_right _ (List.mem_append_right _ (List.mem_append_right _ (List.mem_append_right _ (List.mem_append_right _ (List.mem_append_right _ (List.mem_append_right _ (List.mem_append_right _ (List.mem_append_right _ (List.mem_append_right _ (List.mem_append_right _ (List.mem_append_left _ (List.mem_of_getElem? (i := 11) rfl))))))))))))))))
theorem wd_236 : Cond.instanceMethod yX3_found ∈ al_W := (List.mem_append_right _ (List.mem_append_right _ (List.mem_append_right _ (List.mem_append_right _ (List.mem_append_right _ (List.mem_append_right _ (List.mem_append_right _ (List.mem_append_right _ (List.mem_append_right _ (List.mem_append_right _ (List.mem_append_right _ (List.mem_append_right _ (List.mem_append_right _ (List.mem_append_right _ (List.mem_append_left _ (List.mem_of_getElem? (i := 12) rfl))))))))))))))))
theorem wd_237 : Cond.selects RX3 yX3_found yX3_found ∈ al_W := (List.mem_append_right _ (List.mem_append_right _ (List.mem_append_right _ (List.mem_append_right _ (List.mem_append_right _ (List.mem_append_right _ (List.mem_append_right _ (List.mem_append_right _ (List.mem_append_right _ (List.mem_append_right _ (List.mem_append_right _ (List.mem_append_right _ (List.mem_append_right _ (List.mem_append_right _ (List.mem_append_left _ (List.mem_of_getElem? (i := 13) rfl))))))))))))))))
theorem wd_238 : Cond.code yX3_found cX3_found 4 (some .int) ∈ al_W := (List.mem_append_right _ (List.mem_append_right _ (List.mem_append_right _ (List.mem_append_right _ (List.mem_append_right _ (List.mem_append_right _ (List.mem_append_right _ (List.mem_append_right _ (List.mem_append_right _ (List.mem_append_right _ (List.mem_append_right _ (List.mem_append_right _ (List.mem_append_right _ (List.mem_append_right _ (List.mem_append_left _ (List.mem_of_getElem? (i := 14) rfl))))))))))))))))
theorem wd_239 : Cond.methodLink RL 78 yX3_back ∈ al_W := (List.mem_append_right _ (List.mem_append_right _ (List.mem_append_right _ (List.mem_append_right _ (List.mem_append_right _ (List.mem_append_right _ (List.mem_append_right _ (List.mem_append_right _ (List.mem_append_right _ (List.mem_append_right _ (List.mem_append_right _ (List.mem_append_right _ (List.mem_append_right _ (List.mem_append_right _ (List.mem_append_left _ (List.mem_of_getElem? (i := 15) rfl))))))))))))))))
theorem wd_240 : Cond.instanceMethod yX3_back ∈ al_W := (List.mem_append_right _ (List.mem_append_right _ (List.mem_append_right _ (List.mem_append_right _ (List.mem_append_right _ (List.mem_append_right _ (List.mem_append_right _ (List.mem_append_right _ (List.mem_append_right _ (List.mem_append_right _ (List.mem_append_right _ (List.mem_append_right _ (List.mem_append_right _ (List.mem_append_right _ (List.mem_append_right _ (List.mem_append_left _ (List.mem_of_getElem? (i := 0) rfl)))))))))))))))))
theorem wd_241 : Cond.selects RX3 yX3_back yX3_back ∈ al_W := (List.mem_append_right _ (List.mem_append_right _ (List.mem_append_right _ (List.mem_append_right _ (List.mem_append_right _ (List.mem_append_right _ (List.mem_append_right _ (List.mem_append_right _ (List.mem_append_right _ (List.mem_append_right _ (List.mem_append_right _ (List.mem_append_right _ (List.mem_append_right _ (List.mem_append_right _ (List.mem_append_right _ (List.mem_append_left _ (List.mem_of_getElem? (i := 1) rfl)))))))))))))))))
theorem wd_242 : Cond.code yX3_back cX3_back 4 (some .int) ∈ al_W := (List.mem_append_right _ (List.mem_append_right _ (List.mem_append_right _ (List.mem_append_right _ (List.mem_append_right _ (List.mem_append_right _ (List.mem_append_right _ (List.mem_append_right _ (List.mem_append_right _ (List.mem_append_right _ (List.mem_append_right _ (List.mem_append_right _ (List.mem_append_right _ (List.mem_append_right _ (List.mem_append_right _ (List.mem_append_left _ (List.mem_of_getElem? (i := 2) rfl)))))))))))))))))
theorem wd_243 : Cond.methodLink RL 82 yX3_appeal ∈ al_W := (List.mem_append_right _ (List.mem_append_right _ (List.mem_append_right _ (List.mem_append_right _ (List.mem_append_right _ (List.mem_append_right _ (List.mem_append_right _ (List.mem_append_right _ (List.mem_append_right _ (List.mem_append_right _ (List.mem_append_right _ (List.mem_append_right _ (List.mem_append_right _ (List.mem_append_right _ (List.mem_append_right _ (List.mem_append_left _ (List.mem_of_getElem? (i := 3) rfl)))))))))))))))))
theorem wd_244 : Cond.instanceMethod yX3_appeal ∈ al_W := (List.mem_append_right _ (List.mem_append_right _ (List.mem_append_right _ (List.mem_append_right _ (List.mem_append_right _ (List.mem_append_right _ (List.mem_append_right _ (List.mem_append_right _ (List.mem_append_right _ (List.mem_append_right _ (List.mem_append_right _ (List.mem_append_right _ (List.mem_append_right _ (List.mem_append_right _ (List.mem_append_right _ (List.mem_append_left _ (List.mem_of_getElem? (i := 4) rfl)))))))))))))))))
theorem wd_245 : Cond.selects RX3 yX3_appeal yX3_appeal ∈ al_W := (List.mem_append_right _ (List.mem_append_right _ (List.mem_append_right _ (List.mem_append_right _ (List.mem_append_right _ (List.mem_append_right _ (List.mem_append_right _ (List.mem_append_right _ (List.mem_append_right _ (List.mem_append_right _ (List.mem_append_right _ (List.mem_append_right _ (List.mem_append_right _ (List.mem_append_right _ (List.mem_append_right _ (List.mem_append_left _ (List.mem_of_getElem? (i := 5) rfl)))))))))))))))))
theorem wd_246 : Cond.code yX3_appeal cX3_appeal 3 (some .int) ∈ al_W := (List.mem_append_right _ (List.mem_append_right _ (List.mem_append_right _ (List.mem_append_right _ (List.mem_append_right _ (List.mem_append_right _ (List.mem_append_right _ (List.mem_append_right _ (List.mem_append_right _ (List.mem_append_right _ (List.mem_append_right _ (List.mem_append_right _ (List.mem_append_right _ (List.mem_append_right _ (List.mem_append_right _ (List.mem_append_left _ (List.mem_of_getElem? (i := 6) rfl)))))))))))))))))
theorem wd_247 : Cond.methodLink RX3 214 yX0_reopen ∈ al_W := (List.mem_append_right _ (List.mem_append_right _ (List.mem_append_right _ (List.mem_append_right _ (List.mem_append_right _ (List.mem_append_right _ (List.mem_append_right _ (List.mem_append_right _ (List.mem_append_right _ (List.mem_append_right _ (List.mem_append_right _ (List.mem_append_right _ (List.mem_append_right _ (List.mem_append_right _ (List.mem_append_right _ (List.mem_append_left _ (List.mem_of_getElem? (i := 7) rfl)))))))))))))))))
theorem wd_248 : Cond.instanceMethod yX0_reopen ∈ al_W := (List.mem_append_right _ (List.mem_append_right _ (List.mem_append_right _ (List.mem_append_right _ (List.mem_append_right _ (List.mem_append_right _ (List.mem_append_right _ (List.mem_append_right _ (List.mem_append_right _ (List.mem_append_right _ (List.mem_append_right _ (List.mem_append_right _ (List.mem_append_right _ (List.mem_append_right _ (List.mem_append_right _ (List.mem_append_left _ (List.mem_of_getElem? (i := 8) rfl)))))))))))))))))
theorem wd_249 : Cond.selects RX0 yX0_reopen yX0_reopen ∈ al_W := (List.mem_append_right _ (List.mem_append_right _ (List.mem_append_right _ (List.mem_append_right _ (List.mem_append_right _ (List.mem_append_right _ (List.mem_append_right _ (List.mem_append_right _ (List.mem_append_right _ (List.mem_append_right _ (List.mem_append_right _ (List.mem_append_right _ (List.mem_append_right _ (List.mem_append_right _ (List.mem_append_right _ (List.mem_append_left _ (List.mem_of_getElem? (i := 9) rfl)))))))))))))))))
theorem wd_250 : Cond.code yX0_reopen cX0_reopen 1 none ∈ al_W := (List.mem_append_right _ (List.mem_append_right _ (List.mem_append_right _ (List.mem_append_right _ (List.mem_append_right _ (List.mem_append_right _ (List.mem_append_right _ (List.mem_append_right _ (List.mem_append_right _ (List.mem_append_right _ (List.mem_append_right _ (List.mem_append_right _ (List.mem_append_right _ (List.mem_append_right _ (List.mem_append_right _ (List.mem_append_left _ (List.mem_of_getElem? (i := 10) rfl)))))))))))))))))
theorem wd_251 : Cond.methodLink RL 86 yX3_paid ∈ al_W := (List.mem_append_right _ (List.mem_append_right _ (List.mem_append_right _ (List.mem_append_right _ (List.mem_append_right _ (List.mem_append_right _ (List.mem_append_right _ (List.mem_append_right _ (List.mem_append_right _ (List.mem_append_right _ (List.mem_append_right _ (List.mem_append_right _ (List.mem_append_right _ (List.mem_append_right _ (List.mem_append_right _ (List.mem_append_left _ (List.mem_of_getElem? (i := 11) rfl)))))))))))))))))
theorem wd_252 : Cond.instanceMethod yX3_paid ∈ al_W := (List.mem_append_right _ (List.mem_append_right _ (List.mem_append_right _ (List.mem_append_right _ (List.mem_append_right _ (List.mem_append_right _ (List.mem_append_right _ (List.mem_append_right _ (List.mem_append_right _ (List.mem_append_right _ (List.mem_append_right _ (List.mem_append_right _ (List.mem_append_right _ (List.mem_append_right _ (List.mem_append_right _ (List.mem_append_left _ (List.mem_of_getElem? (i := 12) rfl)))))))))))))))))
theorem wd_253 : Cond.selects RX3 yX3_paid yX3_paid ∈ al_W := (List.mem_append_right _ (List.mem_append_right _ (List.mem_append_right _ (List.mem_append_right _ (List.mem_append_right _ (List.mem_append_right _ (List.mem_append_right _ (List.mem_append_right _ (List.mem_append_right _ (List.mem_append_right _ (List.mem_append_right _ (List.mem_append_right _ (List.mem_append_right _ (List.mem_append_right _ (List.mem_append_right _ (List.mem_append_left _ (List.mem_of_getElem? (i := 13) rfl)))))))))))))))))
theorem wd_254 : Cond.code yX3_paid cX3_paid 4 (some .boolean) ∈ al_W := (List.mem_append_right _ (List.mem_append_right _ (List.mem_append_right _ (List.mem_append_right _ (List.mem_append_right _ (List.mem_append_right _ (List.mem_append_right _ (List.mem_append_right _ (List.mem_append_right _ (List.mem_append_right _ (List.mem_append_right _ (List.mem_append_right _ (List.mem_append_right _ (List.mem_append_right _ (List.mem_append_right _ (List.mem_append_left _ (List.mem_of_getElem? (i := 14) rfl)))))))))))))))))
theorem wd_255 : Cond.methodLink RL 91 yX3_about ∈ al_W := (List.mem_append_right _ (List.mem_append_right _ (List.mem_append_right _ (List.mem_append_right _ (List.mem_append_right _ (List.mem_append_right _ (List.mem_append_right _ (List.mem_append_right _ (List.mem_append_right _ (List.mem_append_right _ (List.mem_append_right _ (List.mem_append_right _ (List.mem_append_right _ (List.mem_append_right _ (List.mem_append_right _ (List.mem_append_left _ (List.mem_of_getElem? (i := 15) rfl)))))))))))))))))
theorem wd_256 : Cond.instanceMethod yX3_about ∈ al_W := (List.mem_append_right _ (List.mem_append_right _ (List.mem_append_right _ (List.mem_append_right _ (List.mem_append_right _ (List.mem_append_right _ (List.mem_append_right _ (List.mem_append_right _ (List.mem_append_right _ (List.mem_append_right _ (List.mem_append_right _ (List.mem_append_right _ (List.mem_append_right _ (List.mem_append_right _ (List.mem_append_right _ (List.mem_append_right _ (List.mem_append_left _ (List.mem_of_getElem? (i := 0) rfl))))))))))))))))))
theorem wd_257 : Cond.selects RX3 yX3_about yX3_about ∈ al_W := (List.mem_append_right _ (List.mem_append_right _ (List.mem_append_right _ (List.mem_append_right _ (List.mem_append_right _ (List.mem_append_right _ (List.mem_append_right _ (List.mem_append_right _ (List.mem_append_right _ (List.mem_append_right _ (List.mem_append_right _ (List.mem_append_right _ (List.mem_append_right _ (List.mem_append_right _ (List.mem_append_right _ (List.mem_append_right _ (List.mem_append_left _ (List.mem_of_getElem? (i := 1) rfl))))))))))))))))))
theorem wd_258 : Cond.code yX3_about cX3_about 4 (some .int) ∈ al_W := (List.mem_append_right _ (List.mem_append_right _ (List.mem_append_right _ (List.mem_append_right _ (List.mem_append_right _ (List.mem_append_right _ (List.mem_append_right _ (List.mem_append_right _ (List.mem_append_right _ (List.mem_append_right _ (List.mem_append_right _ (List.mem_append_right _ (List.mem_append_right _ (List.mem_append_right _ (List.mem_append_right _ (List.mem_append_right _ (List.mem_append_left _ (List.mem_of_getElem? (i := 2) rfl))))))))))))))))))
theorem wd_259 : Cond.methodLink RL 95 yX3_letter ∈ al_W := (List.mem_append_right _ (List.mem_append_right _ (List.mem_append_right _ (List.mem_append_right _ (List.mem_append_right _ (List.mem_append_right _ (List.mem_append_right _ (List.mem_append_right _ (List.mem_append_right _ (List.mem_append_right _ (List.mem_append_right _ (List.mem_append_right _ (List.mem_append_right _ (List.mem_append_right _ (List.mem_append_right _ (List.mem_append_right _ (List.mem_append_left _ (List.mem_of_getElem? (i := 3) rfl))))))))))))))))))
theorem wd_260 : Cond.instanceMethod yX3_letter ∈ al_W := (List.mem_append_right _ (List.mem_append_right _ (List.mem_append_right _ (List.mem_append_right _ (List.mem_append_right _ (List.mem_append_right _ (List.mem_append_right _ (List.mem_append_right _ (List.mem_append_right _ (List.mem_append_right _ (List.mem_append_right _ (List.mem_append_right _ (List.mem_append_right _ (List.mem_append_right _ (List.mem_append_right _ (List.mem_append_right _ (List.mem_append_left _ (List.mem_of_getElem? (i := 4) rfl))))))))))))))))))
theorem wd_261 : Cond.selects RX3 yX3_letter yX3_letter ∈ al_W := (List.mem_append_right _ (List.mem_append_right _ (List.mem_append_right _ (List.mem_append_right _ (List.mem_append_right _ (List.mem_append_right _ (List.mem_append_right _ (List.mem_append_right _ (List.mem_append_right _ (List.mem_append_right _ (List.mem_append_right _ (List.mem_append_right _ (List.mem_append_right _ (List.mem_append_right _ (List.mem_append_right _ (List.mem_append_right _ (List.mem_append_left _ (List.mem_of_getElem? (i := 5) rfl))))))))))))))))))
theorem wd_262 : Cond.code yX3_letter cX3_letter 3 (some .int) ∈ al_W := (List.mem_append_right _ (List.mem_append_right _ (List.mem_append_right _ (List.mem_append_right _ (List.mem_append_right _ (List.mem_append_right _ (List.mem_append_right _ (List.mem_append_right _ (List.mem_append_right _ (List.mem_append_right _ (List.mem_append_right _ (List.mem_append_right _ (List.mem_append_right _ (List.mem_append_right _ (List.mem_append_right _ (List.mem_append_right _ (List.mem_append_left _ (List.mem_of_getElem? (i := 6) rfl))))))))))))))))))
theorem wd_263 : Cond.methodLink RX3 225 yJ9_min ∈ al_W := (List.mem_append_right _ (List.mem_append_right _ (List.mem_append_right _ (List.mem_append_right _ (List.mem_append_right _ (List.mem_append_right _ (List.mem_append_right _ (List.mem_append_right _ (List.mem_append_right _ (List.mem_append_right _ (List.mem_append_right _ (List.mem_append_right _ (List.mem_append_right _ (List.mem_append_right _ (List.mem_append_right _ (List.mem_append_right _ (List.mem_append_left _ (List.mem_of_getElem? (i := 7) rfl))))))))))))))))))
theorem wd_264 : Cond.static yJ9_min ∈ al_W := (List.mem_append_right _ (List.mem_append_right _ (List.mem_append_right _ (List.mem_append_right _ (List.mem_append_right _ (List.mem_append_right _ (List.mem_append_right _ (List.mem_append_right _ (List.mem_append_right _ (List.mem_append_right _ (List.mem_append_right _ (List.mem_append_right _ (List.mem_append_right _ (List.mem_append_right _ (List.mem_append_right _ (List.mem_append_right _ (List.mem_append_left _ (List.mem_of_getElem? (i := 8) rfl))))))))))))))))))
theorem wd_265 : Cond.code yJ9_min cJ9_min 2 (some .int) ∈ al_W := (List.mem_append_right _ (List.mem_append_right _ (List.mem_append_right _ (List.mem_append_right _ (List.mem_append_right _ (List.mem_append_right _ (List.mem_append_right _ (List.mem_append_right _ (List.mem_append_right _ (List.mem_append_right _ (List.mem_append_right _ (List.mem_append_right _ (List.mem_append_right _ (List.mem_append_right _ (List.mem_append_right _ (List.mem_append_right _ (List.mem_append_left _ (List.mem_of_getElem? (i := 9) rfl))))))))))))))))))
theorem wd_266 : Cond.methodLink RL 99 yX3_all ∈ al_W := (List.mem_append_right _ (List.mem_append_right _ (List.mem_append_right _ (List.mem_append_right _ (List.mem_append_right _ (List.mem_append_right _ (List.mem_append_right _ (List.mem_append_right _ (List.mem_append_right _ (List.mem_append_right _ (List.mem_append_right _ (List.mem_append_right _ (List.mem_append_right _ (List.mem_append_right _ (List.mem_append_right _ (List.mem_append_right _ (List.mem_append_left _ (List.mem_of_getElem? (i := 10) rfl))))))))))))))))))
theorem wd_267 : Cond.instanceMethod yX3_all ∈ al_W := (List.mem_append_right _ (List.mem_append_right _ (List.mem_append_right _ (List.mem_append_right _ (List.mem_append_right _ (List.mem_append_right _ (List.mem_append_right _ (List.mem_append_right _ (List.mem_append_right _ (List.mem_append_right _ (List.mem_append_right _ (List.mem_append_right _ (List.mem_append_right _ (List.mem_append_right _ (List.mem_append_right _ (List.mem_append_right _ (List.mem_append_left _ (List.mem_of_getElem? (i := 11) rfl))))))))))))))))))
theorem wd_268 : Cond.selects RX3 yX3_all yX3_all ∈ al_W := (List.mem_append_right _ (List.mem_append_right _ (List.mem_append_right _ (List.mem_append_right _ (List.mem_append_right _ (List.mem_append_right _ (List.mem_append_right _ (List.mem_append_right _ (List.mem_append_right _ (List.mem_append_right _ (List.mem_append_right _ (List.mem_append_right _ (List.mem_append_right _ (List.mem_append_right _ (List.mem_append_right _ (List.mem_append_right _ (List.mem_append_left _ (List.mem_of_getElem? (i := 12) rfl))))))))))))))))))
theorem wd_269 : Cond.code yX3_all cX3_all 2 (some .long) ∈ al_W := (List.mem_append_right _ (List.mem_append_right _ (List.mem_append_right _ (List.mem_append_right _ (List.mem_append_right _ (List.mem_append_right _ (List.mem_append_right _ (List.mem_append_right _ (List.mem_append_right _ (List.mem_append_right _ (List.mem_append_right _ (List.mem_append_right _ (List.mem_append_right _ (List.mem_append_right _ (List.mem_append_right _ (List.mem_append_right _ (List.mem_append_left _ (List.mem_of_getElem? (i := 13) rfl))))))))))))))))))
theorem wd_270 : Cond.classLink RL 10 RX4 ∈ al_W := (List.mem_append_right _ (List.mem_append_right _ (List.mem_append_right _ (List.mem_append_right _ (List.mem_append_right _ (List.mem_append_right _ (List.mem_append_right _ (List.mem_append_right _ (List.mem_append_right _ (List.mem_append_right _ (List.mem_append_right _ (List.mem_append_right _ (List.mem_append_right _ (List.mem_append_right _ (List.mem_append_right _ (List.mem_append_right _ (List.mem_append_left _ (List.mem_of_getElem? (i := 14) rfl))))))))))))))))))
theorem wd_271 : Cond.instantiable RX4 33 ∈ al_W := (List.mem_append_right _ (List.mem_append_right _ (List.mem_append_right _ (List.mem_append_right _ (List.mem_append_right _ (List.mem_append_right _ (List.mem_append_right _ (List.mem_append_right _ (List.mem_append_right _ (List.mem_append_right _ (List.mem_append_right _ (List.mem_append_right _ (List.mem_append_right _ (List.mem_append_right _ (List.mem_append_right _ (List.mem_append_right _ (List.mem_append_left _ (List.mem_of_getElem? (i := 15) rfl))))))))))))))))))
theorem wd_272 : Cond.methodLink RL 12 yX4_init ∈ al_W := (List.mem_append_right _ (List.mem_append_right _ (List.mem_append_right _ (List.mem_append_right _ (List.mem_append_right _ (List.mem_append_right _ (List.mem_append_right _ (List.mem_append_right _ (List.mem_append_right _ (List.mem_append_right _ (List.mem_append_right _ (List.mem_append_right _ (List.mem_append_right _ (List.mem_append_right _ (List.mem_append_right _ (List.mem_append_right _ (List.mem_append_right _ (List.mem_append_left _ (List.mem_of_getElem? (i := 0) rfl)))))))))))))))))))
theorem wd_273 : Cond.instanceMethod yX4_init ∈ al_W := (List.mem_append_right _ (List.mem_append_right _ (List.mem_append_right _ (List.mem_append_right _ (List.mem_append_right _ (List.mem_append_right _ (List.mem_append_right _ (List.mem_append_right _ (List.mem_append_right _ (List.mem_append_right _ (List.mem_append_right _ (List.mem_append_right _ (List.mem_append_right _ (List.mem_append_right _ (List.mem_append_right _ (List.mem_append_right _ (List.mem_append_right _ (List.mem_append_left _ (List.mem_of_getElem? (i := 1) rfl)))))))))))))))))))
theorem wd_274 : Cond.code yX4_init cX4_init 1 none ∈ al_W := (List.mem_append_right _ (List.mem_append_right _ (List.mem_append_right _ (List.mem_append_right _ (List.mem_append_right _ (List.mem_append_right _ (List.mem_append_right _ (List.mem_append_right _ (List.mem_append_right _ (List.mem_append_right _ (List.mem_append_right _ (List.mem_append_right _ (List.mem_append_right _ (List.mem_append_right _ (List.mem_append_right _ (List.mem_append_right _ (List.mem_append_right _ (List.mem_append_left _ (List.mem_of_getElem? (i := 2) rfl)))))))))))))))))))
theorem wd_275 : Cond.methodLink RX4 1 objectInit ∈ al_W := (List.mem_append_right _ (List.mem_append_right _ (List.mem_append_right _ (List.mem_append_right _ (List.mem_append_right _ (List.mem_append_right _ (List.mem_append_right _ (List.mem_append_right _ (List.mem_append_right _ (List.mem_append_right _ (List.mem_append_right _ (List.mem_append_right _ (List.mem_append_right _ (List.mem_append_right _ (List.mem_append_right _ (List.mem_append_right _ (List.mem_append_right _ (List.mem_append_left _ (List.mem_of_getElem? (i := 3) rfl)))))))))))))))))))
theorem wd_276 : Cond.fieldLink RX4 87 "ClaimRowsModel" "items" "I" ∈ al_W := (List.mem_append_right _ (List.mem_append_right _ (List.mem_append_right _ (List.mem_append_right _ (List.mem_append_right _ (List.mem_append_right _ (List.mem_append_right _ (List.mem_append_right _ (List.mem_append_right _ (List.mem_append_right _ (List.mem_append_right _ (List.mem_append_right _ (List.mem_append_right _ (List.mem_append_right _ (List.mem_append_right _ (List.mem_append_right _ (List.mem_append_right _ (List.mem_append_left _ (List.mem_of_getElem? (i := 4) rfl)))))))))))))))))))
theorem wd_277 : Cond.fieldLink RX4 7 "ClaimRowsModel" "service" "[I" ∈ al_W := (List.mem_append_right _ (List.mem_append_right _ (List.mem_append_right _ (List.mem_append_right _ (List.mem_append_right _ (List.mem_append_right _ (List.mem_append_right _ (List.mem_append_right _ (List.mem_append_right _ (List.mem_append_right _ (List.mem_append_right _ (List.mem_append_right _ (List.mem_append_right _ (List.mem_append_right _ (List.mem_append_right _ (List.mem_append_right _ (List.mem_append_right _ (List.mem_append_left _ (List.mem_of_getElem? (i := 5) rfl)))))))))))))))))))
theorem wd_278 : Cond.fieldLink RX4 13 "ClaimRowsModel" "value" "[J" ∈ al_W := (List.mem_append_right _ (List.mem_append_right _ (List.mem_append_right _ (List.mem_append_right _ (List.mem_append_right _ (List.mem_append_right _ (List.mem_append_right _ (List.mem_append_right _ (List.mem_append_right _ (List.mem_append_right _ (List.mem_append_right _ (List.mem_append_right _ (List.mem_append_right _ (List.mem_append_right _ (List.mem_append_right _ (List.mem_append_right _ (List.mem_append_right _ (List.mem_append_left _ (List.mem_of_getElem? (i := 6) rfl)))))))))))))))))))
theorem wd_279 : Cond.fieldLink RX4 17 "ClaimRowsModel" "insured" "[J" ∈ al_W := (List.mem_append_right _ (List.mem_append_right _ (List.mem_append_right _ (List.mem_append_right _ (List.mem_append_right _ (List.mem_append_right _ (List.mem_append_right _ (List.mem_append_right _ (List.mem_append_right _ (List.mem_append_right _ (List.mem_append_right _ (List.mem_append_right _ (List.mem_append_right _ (List.mem_append_right _ (List.mem_append_right _ (List.mem_append_right _ (List.mem_append_right _ (List.mem_append_left _ (List.mem_of_getElem? (i := 7) rfl)))))))))))))))))))
theorem wd_280 : Cond.fieldLink RX4 20 "ClaimRowsModel" "handed" "[I" ∈ al_W := (List.mem_append_right _ (List.mem_append_right _ (List.mem_append_right _ (List.mem_append_right _ (List.mem_append_right _ (List.mem_append_right _ (List.mem_append_right _ (List.mem_append_right _ (List.mem_append_right _ (List.mem_append_right _ (List.mem_append_right _ (List.mem_append_right _ (List.mem_append_right _ (List.mem_append_right _ (List.mem_append_right _ (List.mem_append_right _ (List.mem_append_right _ (List.mem_append_left _ (List.mem_of_getElem? (i := 8) rfl)))))))))))))))))))
theorem wd_281 : Cond.fieldLink RX4 23 "ClaimRowsModel" "sender" "[I" ∈ al_W := (List.mem_append_right _ (List.mem_append_right _ (List.mem_append_right _ (List.mem_append_right _ (List.mem_append_right _ (List.mem_append_right _ (List.mem_append_right _ (List.mem_append_right _ (List.mem_append_right _ (List.mem_append_right _ (List.mem_append_right _ (List.mem_append_right _ (List.mem_append_right _ (List.mem_append_right _ (List.mem_append_right _ (List.mem_append_right _ (List.mem_append_right _ (List.mem_append_left _ (List.mem_of_getElem? (i := 9) rfl)))))))))))))))))))
theorem wd_282 : Cond.fieldLink RX4 26 "ClaimRowsModel" "passes" "[I" ∈ al_W := (List.mem_append_right _ (List.mem_append_right _ (List.mem_append_right _ (List.mem_append_right _ (List.mem_append_right _ (List.mem_append_right _ (List.mem_append_right _ (List.mem_append_right _ (List.mem_append_right _ (List.mem_append_right _ (List.mem_append_right _ (List.mem_append_right _ (List.mem_append_right _ (List.mem_append_right _ (List.mem_append_right _ (List.mem_append_right _ (List.mem_append_right _ (List.mem_append_left _ (List.mem_of_getElem? (i := 10) rfl)))))))))))))))))))
theorem wd_283 : Cond.fieldLink RX4 29 "ClaimRowsModel" "posts" "[I" ∈ al_W := (List.mem_append_right _ (List.mem_append_right _ (List.mem_append_right _ (List.mem_append_right _ (List.mem_append_right _ (List.mem_append_right _ (List.mem_append_right _ (List.mem_append_right _ (List.mem_append_right _ (List.mem_append_right _ (List.mem_append_right _ (List.mem_append_right _ (List.mem_append_right _ (List.mem_append_right _ (List.mem_append_right _ (List.mem_append_right _ (List.mem_append_right _ (List.mem_append_left _ (List.mem_of_getElem? (i := 11) rfl)))))))))))))))))))
theorem wd_284 : Cond.fieldLink RX4 32 "ClaimRowsModel" "whole" "[Z" ∈ al_W := (List.mem_append_right _ (List.mem_append_right _ (List.mem_append_right _ (List.mem_append_right _ (List.mem_append_right _ (List.mem_append_right _ (List.mem_append_right _ (List.mem_append_right _ (List.mem_append_right _ (List.mem_append_right _ (List.mem_append_right _ (List.mem_append_right _ (List.mem_append_right _ (List.mem_append_right _ (List.mem_append_right _ (List.mem_append_right _ (List.mem_append_right _ (List.mem_append_left _ (List.mem_of_getElem? (i := 12) rfl)))))))))))))))))))
theorem wd_285 : Cond.fieldLink RX4 36 "ClaimRowsModel" "isFound" "[Z" ∈ al_W := (List.mem_append_right _ (List.mem_append_right _ (List.mem_append_right _ (List.mem_append_right _ (List.mem_append_right _ (List.mem_append_right _ (List.mem_append_right _ (List.mem_append_right _ (List.mem_append_right _ (List.mem_append_right _ (List.mem_append_right _ (List.mem_append_right _ (List.mem_append_right _ (List.mem_append_right _ (List.mem_append_right _ (List.mem_append_right _ (List.mem_append_right _ (List.mem_append_left _ (List.mem_of_getElem? (i := 13) rfl)))))))))))))))))))
theorem wd_286 : Cond.fieldLink RX4 39 "ClaimRowsModel" "most" "[J" ∈ al_W := (List.mem_append_right _ (List.mem_append_right _ (List.mem_append_right _ (List.mem_append_right _ (List.mem_append_right _ (List.mem_append_right _ (List.mem_append_right _ (List.mem_append_right _ (List.mem_append_right _ (List.mem_append_right _ (List.mem_append_right _ (List.mem_append_right _ (List.mem_append_right _ (List.mem_append_right _ (List.mem_append_right _ (List.mem_append_right _ (List.mem_append_right _ (List.mem_append_left _ (List.mem_of_getElem? (i := 14) rfl)))))))))))))))))))
theorem wd_287 : Cond.fieldLink RX4 42 "ClaimRowsModel" "days" "[I" ∈ al_W := (List.mem_append_right _ (List.mem_append_right _ (List.mem_append_right _ (List.mem_append_right _ (List.mem_append_right _ (List.mem_append_right _ (List.mem_append_right _ (List.mem_append_right _ (List.mem_append_right _ (List.mem_append_right _ (List.mem_append_right _ (List.mem_append_right _ (List.mem_append_right _ (List.mem_append_right _ (List.mem_append_right _ (List.mem_append_right _ (List.mem_append_right _ (List.mem_append_left _ (List.mem_of_getElem? (i := 15) rfl)))))))))))))))))))
theorem wd_288 : Cond.fieldLink RX4 91 "ClaimRowsModel" "claims" "I" ∈ al_W := (List.mem_append_right _ (List.mem_append_right _ (List.mem_append_right _ (List.mem_append_right _ (List.mem_append_right _ (List.mem_append_right _ (List.mem_append_right _ (List.mem_append_right _ (List.mem_append_right _ (List.mem_append_right _ (List.mem_append_right _ (List.mem_append_right _ (List.mem_append_right _ (List.mem_append_right _ (List.mem_append_right _ (List.mem_append_right _ (List.mem_append_right _ (List.mem_append_right _ (List.mem_append_left _ (List.mem_of_getElem? (i := 0) rfl))))))))))))))))))))
theorem wd_289 : Cond.fieldLink RX4 45 "ClaimRowsModel" "itemOf" "[I" ∈ al_W := (List.mem_append_right _ (List.mem_append_right _ (List.mem_append_right _ (List.mem_append_right _ (List.mem_append_right _ (List.mem_append_right _ (List.mem_append_right _ (List.mem_append_right _ (List.mem_append_right _ (List.mem_append_right _ (List.mem_append_right _ (List.mem_append_right _ (List.mem_append_right _ (List.mem_append_right _ (List.mem_append_right _ (List.mem_append_right _ (List.mem_append_right _ (List.mem_append_right _ (List.mem_append_left _ (List.mem_of_getElem? (i := 1) rfl))))))))))))))))))))
theorem wd_290 : Cond.fieldLink RX4 48 "ClaimRowsModel" "kindOf" "[I" ∈ al_W := (List.mem_append_right _ (List.mem_append_right _ (List.mem_append_right _ (List.mem_append_right _ (List.mem_append_right _ (List.mem_append_right _ (List.mem_append_right _ (List.mem_append_right _ (List.mem_append_right _ (List.mem_append_right _ (List.mem_append_right _ (List.mem_append_right _ (List.mem_append_right _ (List.mem_append_right _ (List.mem_append_right _ (List.mem_append_right _ (List.mem_append_right _ (List.mem_append_right _ (List.mem_append_left _ (List.mem_of_getElem? (i := 2) rfl))))))))))))))))))))
theorem wd_291 : Cond.fieldLink RX4 51 "ClaimRowsModel" "state" "[I" ∈ al_W := (List.mem_append_right _ (List.mem_append_right _ (List.mem_append_right _ (List.mem_append_right _ (List.mem_append_right _ (List.mem_append_right _ (List.mem_append_right _ (List.mem_append_right _ (List.mem_append_right _ (List.mem_append_right _ (List.mem_append_right _ (List.mem_append_right _ (List.mem_append_right _ (List.mem_append_right _ (List.mem_append_right _ (List.mem_append_right _ (List.mem_append_right _ (List.mem_append_right _ (List.mem_append_left _ (List.mem_of_getElem? (i := 3) rfl))))))))))))))))))))
theorem wd_292 : Cond.fieldLink RX4 54 "ClaimRowsModel" "proofs" "[Z" ∈ al_W := (List.mem_append_right _ (List.mem_append_right _ (List.mem_append_right _ (List.mem_append_right _ (List.mem_append_right _ (List.mem_append_right _ (List.mem_append_right _ (List.mem_append_right _ (List.mem_append_right _ (List.mem_append_right _ (List.mem_append_right _ (List.mem_append_right _ (List.mem_append_right _ (List.mem_append_right _ (List.mem_append_right _ (List.mem_append_right _ (List.mem_append_right _ (List.mem_append_right _ (List.mem_append_left _ (List.mem_of_getElem? (i := 4) rfl))))))))))))))))))))
theorem wd_293 : Cond.fieldLink RX4 57 "ClaimRowsModel" "appealed" "[Z" ∈ al_W := (List.mem_append_right _ (List.mem_append_right _ (List.mem_append_right _ (List.mem_append_right _ (List.mem_append_right _ (List.mem_append_right _ (List.mem_append_right _ (List.mem_append_right _ (List.mem_append_right _ (List.mem_append_right _ (List.mem_append_right _ (List.mem_append_right _ (List.mem_append_right _ (List.mem_append_right _ (List.mem_append_right _ (List.mem_append_right _ (List.mem_append_right _ (List.mem_append_right _ (List.mem_append_left _ (List.mem_of_getElem? (i := 5) rfl))))))))))))))))))))
theorem wd_294 : Cond.fieldLink RX4 60 "ClaimRowsModel" "isSaid" "[Z" ∈ al_W := (List.mem_append_right _ (List.mem_append_right _ (List.mem_append_right _ (List.mem_append_right _ (List.mem_append_right _ (List.mem_append_right _ (List.mem_append_right _ (List.mem_append_right _ (List.mem_append_right _ (List.mem_append_right _ (List.mem_append_right _ (List.mem_append_right _ (List.mem_append_right _ (List.mem_append_right _ (List.mem_append_right _ (List.mem_append_right _ (List.mem_append_right _ (List.mem_append_right _ (List.mem_append_left _ (List.mem_of_getElem? (i := 6) rfl))))))))))))))))))))
theorem wd_295 : Cond.fieldLink RX4 63 "ClaimRowsModel" "paidSum" "[J" ∈ al_W := (List.mem_append_right _ (List.mem_append_right _ (List.mem_append_right _ (List.mem_append_right _ (List.mem_append_right _ (List.mem_append_right _ (List.mem_append_right _ (List.mem_append_right _ (List.mem_append_right _ (List.mem_append_right _ (List.mem_append_right _ (List.mem_append_right _ (List.mem_append_right _ (List.mem_append_right _ (List.mem_append_right _ (List.mem_append_right _ (List.mem_append_right _ (List.mem_append_right _ (List.mem_append_left _ (List.mem_of_getElem? (i := 7) rfl))))))))))))))))))))
theorem wd_296 : Cond.fieldLink RX4 145 "ClaimRowsModel" "searches" "I" ∈ al_W := (List.mem_append_right _ (List.mem_append_right _ (List.mem_append_right _ (List.mem_append_right _ (List.mem_append_right _ (List.mem_append_right _ (List.mem_append_right _ (List.mem_append_right _ (List.mem_append_right _ (List.mem_append_right _ (List.mem_append_right _ (List.mem_append_right _ (List.mem_append_right _ (List.mem_append_right _ (List.mem_append_right _ (List.mem_append_right _ (List.mem_append_right _ (List.mem_append_right _ (List.mem_append_left _ (List.mem_of_getElem? (i := 8) rfl))))))))))))))))))))
theorem wd_297 : Cond.fieldLink RX4 66 "ClaimRowsModel" "claimOf" "[I" ∈ al_W := (List.mem_append_right _ (List.mem_append_right _ (List.mem_append_right _ (List.mem_append_right _ (List.mem_append_right _ (List.mem_append_right _ (List.mem_append_right _ (List.mem_append_right _ (List.mem_append_right _ (List.mem_append_right _ (List.mem_append_right _ (List.mem_append_right _ (List.mem_append_right _ (List.mem_append_right _ (List.mem_append_right _ (List.mem_append_right _ (List.mem_append_right _ (List.mem_append_right _ (List.mem_append_left _ (List.mem_of_getElem? (i := 9) rfl))))))))))))))))))))
theorem wd_298 : Cond.fieldLink RX4 69 "ClaimRowsModel" "due" "[I" ∈ al_W := (List.mem_append_right _ (List.mem_append_right _ (List.mem_append_right _ (List.mem_append_right _ (List.mem_append_right _ (List.mem_append_right _ (List.mem_append_right _ (List.mem_append_right _ (List.mem_append_right _ (List.mem_append_right _ (List.mem_append_right _ (List.mem_append_right _ (List.mem_append_right _ (List.mem_append_right _ (List.mem_append_right _ (List.mem_append_right _ (List.mem_append_right _ (List.mem_append_right _ (List.mem_append_left _ (List.mem_of_getElem? (i := 10) rfl))))))))))))))))))))
theorem wd_299 : Cond.fieldLink RX4 72 "ClaimRowsModel" "found" "[I" ∈ al_W := (List.mem_append_right _ (List.mem_append_right _ (List.mem_append_right _ (List.mem_append_right _ (List.mem_append_right _ (List.mem_append_right _ (List.mem_append_right _ (List.mem_append_right _ (List.mem_append_right _ (List.mem_append_right _ (List.mem_append_right _ (List.mem_append_right _ (List.mem_append_right _ (List.mem_append_right _ (List.mem_append_right _ (List.mem_append_right _ (List.mem_append_right _ (List.mem_append_right _ (List.mem_append_left _ (List.mem_of_getElem? (i := 11) rfl))))))))))))))))))))
theorem wd_300 : Cond.fieldLink RX4 75 "ClaimRowsModel" "counts" "[Z" ∈ al_W := (List.mem_append_right _ (List.mem_append_right _ (List.mem_append_right _ (List.mem_append_right _ (List.mem_append_right _ (List.mem_append_right _ (List.mem_append_right _ (List.mem_append_right _ (List.mem_append_right _ (List.mem_append_right _ (List.mem_append_right _ (List.mem_append_right _ (List.mem_append_right _ (List.mem_append_right _ (List.mem_append_right _ (List.mem_append_right _ (List.mem_append_right _ (List.mem_append_right _ (List.mem_append_left _ (List.mem_of_getElem? (i := 12) rfl))))))))))))))))))))
theorem wd_301 : Cond.fieldLink RX4 142 "ClaimRowsModel" "clock" "I" ∈ al_W := (List.mem_append_right _ (List.mem_append_right _ (List.mem_append_right _ (List.mem_append_right _ (List.mem_append_right _ (List.mem_append_right _ (List.mem_append_right _ (List.mem_append_right _ (List.mem_append_right _ (List.mem_append_right _ (List.mem_append_right _ (List.mem_append_right _ (List.mem_append_right _ (List.mem_append_right _ (List.mem_append_right _ (List.mem_append_right _ (List.mem_append_right _ (List.mem_append_right _ (List.mem_append_left _ (List.mem_of_getElem? (i := 13) rfl))))))))))))))))))))
theorem wd_302 : Cond.fieldLink RX4 78 "ClaimRowsModel" "limits" "[J" ∈ al_W := (List.mem_append_right _ (List.mem_append_right _ (List.mem_append_right _ (List.mem_append_right _ (List.mem_append_right _ (List.mem_append_right _ (List.mem_append_right _ (List.mem_append_right _ (List.mem_append_right _ (List.mem_append_right _ (List.mem_append_right _ (List.mem_append_right _ (List.mem_append_right _ (List.mem_append_right _ (List.mem_append_right _ (List.mem_append_right _ (List.mem_append_right _ (List.mem_append_right _ (List.mem_append_left _ (List.mem_of_getElem? (i := 14) rfl))))))))))))))))))))
theorem wd_303 : Cond.fieldLink RX4 94 "ClaimRowsModel" "letters" "I" ∈ al_W := (List.mem_append_right _ (List.mem_append_right _ (List.mem_append_right _ (List.mem_append_right _ (List.mem_append_right _ (List.mem_append_right _ (List.mem_append_right _ (List.mem_append_right _ (List.mem_append_right _ (List.mem_append_right _ (List.mem_append_right _ (List.mem_append_right _ (List.mem_append_right _ (List.mem_append_right _ (List.mem_append_right _ (List.mem_append_right _ (List.mem_append_right _ (List.mem_append_right _ (List.mem_append_left _ (List.mem_of_getElem? (i := 15) rfl))))))))))))))))))))
theorem wd_304 : Cond.fieldLink RX4 81 "ClaimRowsModel" "letterClaims" "[I" ∈ al_W := (List.mem_append_right _ (List.mem_append_right _ (List.mem_append_right _ (List.mem_append_right _ (List.mem_append_right _ (List.mem_append_right _ (List.mem_append_right _ (List.mem_append_right _ (List.mem_append_right _ (List.mem_append_right _ (List.mem_append_right _ (List.mem_append_right _ (List.mem_append_right _ (List.mem_append_right _ (List.mem_append_right _ (List.mem_append_right _ (List.mem_append_right _ (List.mem_append_right _ (List.mem_append_right _ (List.mem_append_left _ (List.mem_of_getElem? (i := 0) rfl)))))))))))))))))))))
theorem wd_305 : Cond.fieldLink RX4 84 "ClaimRowsModel" "letterKinds" "[I" ∈ al_W := (List.mem_append_right _ (List.mem_append_right _ (List.mem_append_right _ (List.mem_append_right _ (List.mem_append_right _ (List.mem_append_right _ (List.mem_append_right _ (List.mem_append_right _ (List.mem_append_right _ (List.mem_append_right _ (List.mem_append_right _ (List.mem_append_right _ (List.mem_append_right _ (List.mem_append_right _ (List.mem_append_right _ (List.mem_append_right _ (List.mem_append_right _ (List.mem_append_right _ (List.mem_append_right _ (List.mem_append_left _ (List.mem_of_getElem? (i := 1) rfl)))))))))))))))))))))
theorem wd_306 : Cond.fieldLink RX4 165 "ClaimRowsModel" "paidAll" "J" ∈ al_W := (List.mem_append_right _ (List.mem_append_right _ (List.mem_append_right _ (List.mem_append_right _ (List.mem_append_right _ (List.mem_append_right _ (List.mem_append_right _ (List.mem_append_right _ (List.mem_append_right _ (List.mem_append_right _ (List.mem_append_right _ (List.mem_append_right _ (List.mem_append_right _ (List.mem_append_right _ (List.mem_append_right _ (List.mem_append_right _ (List.mem_append_right _ (List.mem_append_right _ (List.mem_append_right _ (List.mem_append_left _ (List.mem_of_getElem? (i := 2) rfl)))))))))))))))))))))
theorem wd_307 : Cond.fieldLink RX4 171 "ClaimRowsModel" "recovered" "J" ∈ al_W := (List.mem_append_right _ (List.mem_append_right _ (List.mem_append_right _ (List.mem_append_right _ (List.mem_append_right _ (List.mem_append_right _ (List.mem_append_right _ (List.mem_append_right _ (List.mem_append_right _ (List.mem_append_right _ (List.mem_append_right _ (List.mem_append_right _ (List.mem_append_right _ (List.mem_append_right _ (List.mem_append_right _ (List.mem_append_right _ (List.mem_append_right _ (List.mem_append_right _ (List.mem_append_right _ (List.mem_append_left _ (List.mem_of_getElem? (i := 3) rfl)))))))))))))))))))))
theorem wd_308 : Cond.fieldLink RX4 162 "ClaimRowsModel" "refused" "I" ∈ al_W := (List.mem_append_right _ (List.mem_append_right _ (List.mem_append_right _ (List.mem_append_right _ (List.mem_append_right _ (List.mem_append_right _ (List.mem_append_right _ (List.mem_append_right _ (List.mem_append_right _ (List.mem_append_right _ (List.mem_append_right _ (List.mem_append_right _ (List.mem_append_right _ (List.mem_append_right _ (List.mem_append_right _ (List.mem_append_right _ (List.mem_append_right _ (List.mem_append_right _ (List.mem_append_right _ (List.mem_append_left _ (List.mem_of_getElem? (i := 4) rfl)))))))))))))))))))))
theorem wd_309 : Cond.arrayClass .boolean ∈ al_W := (List.mem_append_right _ (List.mem_append_right _ (List.mem_append_right _ (List.mem_append_right _ (List.mem_append_right _ (List.mem_append_right _ (List.mem_append_right _ (List.mem_append_right _ (List.mem_append_right _ (List.mem_append_right _ (List.mem_append_right _ (List.mem_append_right _ (List.mem_append_right _ (List.mem_append_right _ (List.mem_append_right _ (List.mem_append_right _ (List.mem_append_right _ (List.mem_append_right _ (List.mem_append_right _ (List.mem_append_left _ (List.mem_of_getElem? (i := 5) rfl)))))))))))))))))))))
theorem wd_310 : Cond.methodLink RL 19 yX4_item ∈ al_W := (List.mem_append_right _ (List.mem_append_right _ (List.mem_append_right _ (List.mem_append_right _ (List.mem_append_right _ (List.mem_append_right _ (List.mem_append_right _ (List.mem_append_right _ (List.mem_append_right _ (List.mem_append_right _ (List.mem_append_right _ (List.mem_append_right _ (List.mem_append_right _ (List.mem_append_right _ (List.mem_append_right _ (List.mem_append_right _ (List.mem_append_right _ (List.mem_append_right _ (List.mem_append_right _ (List.mem_append_left _ (List.mem_of_getElem? (i := 6) rfl)))))))))))))))))))))
theorem wd_311 : Cond.instanceMethod yX4_item ∈ al_W := (List.mem_append_right _ (List.mem_append_right _ (List.mem_append_right _ (List.mem_append_right _ (List.mem_append_right _ (List.mem_append_right _ (List.mem_append_right _ (List.mem_append_right _ (List.mem_append_right _ (List.mem_append_right _ (List.mem_append_right _ (List.mem_append_right _ (List.mem_append_right _ (List.mem_append_right _ (List.mem_append_right _ (List.mem_append_right _ (List.mem_append_right _ (List.mem_append_right _ (List.mem_append_right _ (List.mem_append_left _ (List.mem_of_getElem? (i := 7) rfl)))))))))))))))))))))
theorem wd_312 : Cond.selects RX4 yX4_item yX4_item ∈ al_W := (List.mem_append_right _ (List.mem_append_right _ (List.mem_append_right _ (List.mem_append_right _ (List.mem_append_right _ (List.mem_append_right _ (List.mem_append_right _ (List.mem_append_right _ (List.mem_append_right _ (List.mem_append_right _ (List.mem_append_right _ (List.mem_append_right _ (List.mem_append_right _ (List.mem_append_right _ (List.mem_append_right _ (List.mem_append_right _ (List.mem_append_right _ (List.mem_append_right _ (List.mem_append_right _ (List.mem_append_left _ (List.mem_of_getElem? (i := 8) rfl)))))))))))))))))))))
theorem wd_313 : Cond.code yX4_item cX4_item 8 (some .int) ∈ al_W := (List.mem_append_right _ (List.mem_append_right _ (List.mem_append_right _ (List.mem_append_right _ (List.mem_append_right _ (List.mem_append_right _ (List.mem_append_right _ (List.mem_append_right _ (List.mem_append_right _ (List.mem_append_right _ (List.mem_append_right _ (List.mem_append_right _ (List.mem_append_right _ (List.mem_append_right _ (List.mem_append_right _ (List.mem_append_right _ (List.mem_append_right _ (List.mem_append_right _ (List.mem_append_right _ (List.mem_append_left _ (List.mem_of_getElem? (i := 9) rfl)))))))))))))))))))))
theorem wd_314 : Cond.constantLong RX4 97 3 ∈ al_W := (List.mem_append_right _ (List.mem_append_right _ (List.mem_append_right _ (List.mem_append_right _ (List.mem_append_right _ (List.mem_append_right _ (List.mem_append_right _ (List.mem_append_right _ (List.mem_append_right _ (List.mem_append_right _ (List.mem_append_right _ (List.mem_append_right _ (List.mem_append_right _ (List.mem_append_right _ (List.mem_append_right _ (List.mem_append_right _ (List.mem_append_right _ (List.mem_append_right _ (List.mem_append_right _ (List.mem_append_left _ (List.mem_of_getElem? (i := 10) rfl)))))))))))))))))))))
theorem wd_315 : Cond.methodLink RX4 99 yX4_isIn ∈ al_W := (List.mem_append_right _ (List.mem_append_right _ (List.mem_append_right _ (List.mem_append_right _ (List.mem_append_right _ (List.mem_append_right _ (List.mem_append_right _ (List.mem_append_right _ (List.mem_append_right _ (List.mem_append_right _ (List.mem_append_right _ (List.mem_append_right _ (List.mem_append_right _ (List.mem_append_right _ (List.mem_append_right _ (List.mem_append_right _ (List.mem_append_right _ (List.mem_append_right _ (List.mem_append_right _ (List.mem_append_left _ (List.mem_of_getElem? (i := 11) rfl)))))))))))))))))))))
theorem wd_316 : Cond.static yX4_isIn ∈ al_W := (List.mem_append_right _ (List.mem_append_right _ (List.mem_append_right _ (List.mem_append_right _ (List.mem_append_right _ (List.mem_append_right _ (List.mem_append_right _ (List.mem_append_right _ (List.mem_append_right _ (List.mem_append_right _ (List.mem_append_right _ (List.mem_append_right _ (List.mem_append_right _ (List.mem_append_right _ (List.mem_append_right _ (List.mem_append_right _ (List.mem_append_right _ (List.mem_append_right _ (List.mem_append_right _ (List.mem_append_left _ (List.mem_of_getElem? (i := 12) rfl)))))))))))))))))))))
theorem wd_317 : Cond.code yX4_isIn cX4_isIn 6 (some .boolean) ∈ al_W := (List.mem_append_right _ (List.mem_append_right _ (List.mem_append_right _ (List.mem_append_right _ (List.mem_append_right _ (List.mem_append_right _ (List.mem_append_right _ (List.mem_append_right _ (List.mem_append_right _ (List.mem_append_right _ (List.mem_append_right _ (List.mem_append_right _ (List.mem_append_right _ (List.mem_append_right _ (List.mem_append_right _ (List.mem_append_right _ (List.mem_append_right _ (List.mem_append_right _ (List.mem_append_right _ (List.mem_append_left _ (List.mem_of_getElem? (i := 13) rfl)))))))))))))))))))))
theorem wd_318 : Cond.constantLong RX4 103 10000000 ∈ al_W := (List.mem_append_right _ (List.mem_append_right _ (List.mem_append_right _ (List.mem_append_right _ (List.mem_append_right _ (List.mem_append_right _ (List.mem_append_right _ (List.mem_append_right _ (List.mem_append_right _ (List.mem_append_right _ (List.mem_append_right _ (List.mem_append_right _ (List.mem_append_right _ (List.mem_append_right _ (List.mem_append_right _ (List.mem_append_right _ (List.mem_append_right _ (List.mem_append_right _ (List.mem_append_right _ (List.mem_append_left _ (List.mem_of_getElem? (i := 14) rfl)))))))))))))))))))))
theorem wd_319 : Cond.constantLong RX4 105 100000 ∈ al_W := (List.mem_append_right _ (List.mem_append_right _ (List.mem_append_right _ (List.mem_append_right _ (List.mem_append_right _ (List.mem_append_right _ (List.mem_append_right _ (List.mem_append_right _ (List.mem_append_right _ (List.mem_append_right _ (List.mem_append_right _ (List.mem_append_right _ (List.mem_append_right _ (List.mem_append_right _ (List.mem_append_right _ (List.mem_append_right _ (List.mem_append_right _ (List.mem_append_right _ (List.mem_append_right _ (List.mem_append_left _ (List.mem_of_getElem? (i := 15) rfl)))))))))))))))))))))
theorem wd_320 : Cond.constantLong RX4 107 19 ∈ al_W := (List.mem_append_right _ (List.mem_append_right _ (List.mem_append_right _ (List.mem_append_right _ (List.mem_append_right _ (List.mem_append_right _ (List.mem_append_right _ (List.mem_append_right _ (List.mem_append_right _ (List.mem_append_right _ (List.mem_append_right _ (List.mem_append_right _ (List.mem_append_right _ (List.mem_append_right _ (List.mem_append_right _ (List.mem_append_right _ (List.mem_append_right _ (List.mem_append_right _ (List.mem_append_right _ (List.mem_append_right _ (List.mem_append_left _ (List.mem_of_getElem? (i := 0) rfl))))))))))))))))))))))
theorem wd_321 : Cond.methodLink RL 24 yX4_pass ∈ al_W := (List.mem_append_right _ (List.mem_append_right _ (List.mem_append_right _ (List.mem_append_right _ (List.mem_append_right _ (List.mem_append_right _ (List.mem_append_right _ (List.mem_append_right _ (List.mem_append_right _ (List.mem_append_right _ (List.mem_append_right _ (List.mem_append_right _ (List.mem_append_right _ (List.mem_append_right _ (List.mem_append_right _ (List.mem_append_right _ (List.mem_append_right _ (List.mem_append_right _ (List.mem_append_right _ (List.mem_append_right _ (List.mem_append_left _ (List.mem_of_getElem? (i := 1) rfl))))))))))))))))))))))
theorem wd_322 : Cond.instanceMethod yX4_pass ∈ al_W := (List.mem_append_right _ (List.mem_append_right _ (List.mem_append_right _ (List.mem_append_right _ (List.mem_append_right _ (List.mem_append_right _ (List.mem_append_right _ (List.mem_append_right _ (List.mem_append_right _ (List.mem_append_right _ (List.mem_append_right _ (List.mem_append_right _ (List.mem_append_right _ (List.mem_append_right _ (List.mem_append_right _ (List.mem_append_right _ (List.mem_append_right _ (List.mem_append_right _ (List.mem_append_right _ (List.mem_append_right _ (List.mem_append_left _ (List.mem_of_getElem? (i := 2) rfl))))))))))))))))))))))
theorem wd_323 : Cond.selects RX4 yX4_pass yX4_pass ∈ al_W := (List.mem_append_right _ (List.mem_append_right _ (List.mem_append_right _ (List.mem_append_right _ (List.mem_append_right _ (List.mem_append_right _ (List.mem_append_right _ (List.mem_append_right _ (List.mem_append_right _ (List.mem_append_right _ (List.mem_append_right _ (List.mem_append_right _ (List.mem_append_right _ (List.mem_append_right _ (List.mem_append_right _ (List.mem_append_right _ (List.mem_append_right _ (List.mem_append_right _ (List.mem_append_right _ (List.mem_append_right _ (List.mem_append_left _ (List.mem_of_getElem? (i := 3) rfl))))))))))))))))))))))
theorem wd_324 : Cond.code yX4_pass cX4_pass 5 (some .int) ∈ al_W := (List.mem_append_right _ (List.mem_append_right _ (List.mem_append_right _ (List.mem_append_right _ (List.mem_append_right _ (List.mem_append_right _ (List.mem_append_right _ (List.mem_append_right _ (List.mem_append_right _ (List.mem_append_right _ (List.mem_append_right _ (List.mem_append_right _ (List.mem_append_right _ (List.mem_append_right _ (List.mem_append_right _ (List.mem_append_right _ (List.mem_append_right _ (List.mem_append_right _ (List.mem_append_right _ (List.mem_append_right _ (List.mem_append_left _ (List.mem_of_getElem? (i := 4) rfl))))))))))))))))))))))
theorem wd_325 : Cond.methodLink RX4 109 yX4_isItem ∈ al_W := (List.mem_append_right _ (List.mem_append_right _ (List.mem_append_right _ (List.mem_append_right _ (List.mem_append_right _ (List.mem_append_right _ (List.mem_append_right _ (List.mem_append_right _ (List.mem_append_right _ (List.mem_append_right _ (List.mem_append_right _ (List.mem_append_right _ (List.mem_append_right _ (List.mem_append_right _ (List.mem_append_right _ (List.mem_append_right _ (List.mem_append_right _ (List.mem_append_right _ (List.mem_append_right _ (List.mem_append_right _ (List.mem_append_left _ (List.mem_of_getElem? (i := 5) rfl))))))))))))))))))))))
theorem wd_326 : Cond.selects RX4 yX4_isItem yX4_isItem ∈ al_W := (List.mem_append_right _ (List.mem_append_right _ (List.mem_append_right _ (List.mem_append_right _ (List.mem_append_right _ (List.mem_append_right _ (List.mem_append_right _ (List.mem_append_right _ (List.mem_append_right _ (List.mem_append_right _ (List.mem_append_right _ (List.mem_append_right _ (List.mem_append_right _ (List.mem_append_right _ (List.mem_append_right _ (List.mem_append_right _ (List.mem_append_right _ (List.mem_append_right _ (List.mem_append_right _ (List.mem_append_right _ (List.mem_append_left _ (List.mem_of_getElem? (i := 6) rfl))))))))))))))))))))))
theorem wd_327 : Cond.instanceMethod yX4_isItem ∈ al_W := (List.mem_append_right _ (List.mem_append_right _ (List.mem_append_right _ (List.mem_append_right _ (List.mem_append_right _ (List.mem_append_right _ (List.mem_append_right _ (List.mem_append_right _ (List.mem_append_right _ (List.mem_append_right _ (List.mem_append_right _ (List.mem_append_right _ (List.mem_append_right _ (List.mem_append_right _ (List.mem_append_right _ (List.mem_append_right _ (List.mem_append_right _ (List.mem_append_right _ (List.mem_append_right _ (List.mem_append_right _ (List.mem_append_left _ (List.mem_of_getElem? (i := 7) rfl))))))))))))))))))))))
theorem wd_328 : Cond.code yX4_isItem cX4_isItem 2 (some .boolean) ∈ al_W := (List.mem_append_right _ (List.mem_append_right _ (List.mem_append_right _ (List.mem_append_right _ (List.mem_append_right _ (List.mem_append_right _ (List.mem_append_right _ (List.mem_append_right _ (List.mem_append_right _ (List.mem_append_right _ (List.mem_append_right _ (List.mem_append_right _ (List.mem_append_right _ (List.mem_append_right _ (List.mem_append_right _ (List.mem_append_right _ (List.mem_append_right _ (List.mem_append_right _ (List.mem_append_right _ (List.mem_append_right _ (List.mem_append_left _ (List.mem_of_getElem? (i := 8) rfl))))))))))))))))))))))
theorem wd_329 : Cond.constantLong RX4 113 5 ∈ al_W := (List.mem_append_right _ (List.mem_append_right _ (List.mem_append_right _ (List.mem_append_right _ (List.mem_append_right _ (List.mem_append_right _ (List.mem_append_right _ (List.mem_append_right _ (List.mem_append_right _ (List.mem_append_right _ (List.mem_append_right _ (List.mem_append_right _ (List.mem_append_right _ (List.mem_append_right _ (List.mem_append_right _ (List.mem_append_right _ (List.mem_append_right _ (List.mem_append_right _ (List.mem_append_right _ (List.mem_append_right _ (List.mem_append_left _ (List.mem_of_getElem? (i := 9) rfl))))))))))))))))))))))
theorem wd_330 : Cond.methodLink RL 29 yX4_table ∈ al_W := (List.mem_append_right _ (List.mem_append_right _ (List.mem_append_right _ (List.mem_append_right _ (List.mem_append_right _ (List.mem_append_right _ (List.mem_append_right _ (List.mem_append_right _ (List.mem_append_right _ (List.mem_append_right _ (List.mem_append_right _ (List.mem_append_right _ (List.mem_append_right _ (List.mem_append_right _ (List.mem_append_right _ (List.mem_append_right _ (List.mem_append_right _ (List.mem_append_right _ (List.mem_append_right _ (List.mem_append_right _ (List.mem_append_left _ (List.mem_of_getElem? (i := 10) rfl))))))))))))))))))))))
theorem wd_331 : Cond.instanceMethod yX4_table ∈ al_W := (List.mem_append_right _ (List.mem_append_right _ (List.mem_append_right _ (List.mem_append_right _ (List.mem_append_right _ (List.mem_append_right _ (List.mem_append_right _ (List.mem_append_right _ (List.mem_append_right _ (List.mem_append_right _ (List.mem_append_right _ (List.mem_append_right _ (List.mem_append_right _ (List.mem_append_right _ (List.mem_append_right _ (List.mem_append_right _ (List.mem_append_right _ (List.mem_append_right _ (List.mem_append_right _ (List.mem_append_right _ (List.mem_append_left _ (List.mem_of_getElem? (i := 11) rfl))))))))))))))))))))))
theorem wd_332 : Cond.selects RX4 yX4_table yX4_table ∈ al_W := (List.mem_append_right _ (List.mem_append_right _ (List.mem_append_right _ (List.mem_append_right _ (List.mem_append_right _ (List.mem_append_right _ (List.mem_append_right _ (List.mem_append_right _ (List.mem_append_right _ (List.mem_append_right _ (List.mem_append_right _ (List.mem_append_right _ (List.mem_append_right _ (List.mem_append_right _ (List.mem_append_right _ (List.mem_append_right _ (List.mem_append_right _ (List.mem_append_right _ (List.mem_append_right _ (List.mem_append_right _ (List.mem_append_left _ (List.mem_of_getElem? (i := 12) rfl))))))))))))))))))))))
theorem wd_333 : Cond.code yX4_table cX4_table 6 (some .int) ∈ al_W := (List.mem_append_right _ (List.mem_append_right _ (List.mem_append_right _ (List.mem_append_right _ (List.mem_append_right _ (List.mem_append_right _ (List.mem_append_right _ (List.mem_append_right _ (List.mem_append_right _ (List.mem_append_right _ (List.mem_append_right _ (List.mem_append_right _ (List.mem_append_right _ (List.mem_append_right _ (List.mem_append_right _ (List.mem_append_right _ (List.mem_append_right _ (List.mem_append_right _ (List.mem_append_right _ (List.mem_append_right _ (List.mem_append_left _ (List.mem_of_getElem? (i := 13) rfl))))))))))))))))))))))
theorem wd_334 : Cond.constantLong RX4 115 10000 ∈ al_W := (List.mem_append_right _ (List.mem_append_right _ (List.mem_append_right _ (List.mem_append_right _ (List.mem_append_right _ (List.mem_append_right _ (List.mem_append_right _ (List.mem_append_right _ (List.mem_append_right _ (List.mem_append_right _ (List.mem_append_right _ (List.mem_append_right _ (List.mem_append_right _ (List.mem_append_right _ (List.mem_append_right _ (List.mem_append_right _ (List.mem_append_right _ (List.mem_append_right _ (List.mem_append_right _ (List.mem_append_right _ (List.mem_append_left _ (List.mem_of_getElem? (i := 14) rfl))))))))))))))))))))))
theorem wd_335 : Cond.methodLink RL 34 yX4_claim ∈ al_W := (List.mem_append_right _ (List.mem_append_right _ (List.mem_append_right _ (List.mem_append_right _ (List.mem_append_right _ (List.mem_append_right _ (List.mem_append_right _ (List.mem_append_right _ (List.mem_append_right _ (List.mem_append_right _ (List.mem_append_right _ (List.mem_append_right _ (List.mem_append_right _ (List.mem_append_right _ (List.mem_append_right _ (List.mem_append_right _ (List.mem_append_right _ (List.mem_append_right _ (List.mem_append_right _ (List.mem_append_right _ (List.mem_append_left _ (List.mem_of_getElem? (i := 15) rfl))))))))))))))))))))))
theorem wd_336 : Cond.instanceMethod yX4_claim ∈ al_W := (List.mem_append_right _ (List.mem_append_right _ (List.mem_append_right _ (List.mem_append_right _ (List.mem_append_right _ (List.mem_append_right _ (List.mem_append_right _ (List.mem_append_right _ (List.mem_append_right _ (List.mem_append_right _ (List.mem_append_right _ (List.mem_append_right _ (List.mem_append_right _ (List.mem_append_right _ (List.mem_append_right _ (List.mem_append_right _ (List.mem_append_right _ (List.mem_append_right _ (List.mem_append_right _ (List.mem_append_right _ (List.mem_append_right _ (List.mem_append_left _ (List.mem_of_getElem? (i := 0) rfl)))))))))))))))))))))))
theorem wd_337 : Cond.selects RX4 yX4_claim yX4_claim ∈ al_W := (List.mem_append_right _ (List.mem_append_right _ (List.mem_append_right _ (List.mem_append_right _ (List.mem_append_right _ (List.mem_append_right _ (List.mem_append_right _ (List.mem_append_right _ (List.mem_append_right _ (List.mem_append_right _ (List.mem_append_right _ (List.mem_append_right _ (List.mem_append_right _ (List.mem_append_right _ (List.mem_append_right _ (List.mem_append_right _ (List.mem_append_right _ (List.mem_append_right _ (List.mem_append_right _ (List.mem_append_right _ (List.mem_append_right _ (List.mem_append_left _ (List.mem_of_getElem? (i := 1) rfl)))))))))))))))))))))))
theorem wd_338 : Cond.code yX4_claim cX4_claim 6 (some .int) ∈ al_W := (List.mem_append_right _ (List.mem_append_right _ (List.mem_append_right _ (List.mem_append_right _ (List.mem_append_right _ (List.mem_append_right _ (List.mem_append_right _ (List.mem_append_right _ (List.mem_append_right _ (List.mem_append_right _ (List.mem_append_right _ (List.mem_append_right _ (List.mem_append_right _ (List.mem_append_right _ (List.mem_append_right _ (List.mem_append_right _ (List.mem_append_right _ (List.mem_append_right _ (List.mem_append_right _ (List.mem_append_right _ (List.mem_append_right _ (List.mem_append_left _ (List.mem_of_getElem? (i := 2) rfl)))))))))))))))))))))))
theorem wd_339 : Cond.constantLong RX4 117 2 ∈ al_W := (List.mem_append_right _ (List.mem_append_right _ (List.mem_append_right _ (List.mem_append_right _ (List.mem_append_right _ (List.mem_append_right _ (List.mem_append_right _ (List.mem_append_right _ (List.mem_append_right _ (List.mem_append_right _ (List.mem_append_right _ (List.mem_append_right _ (List.mem_append_right _ (List.mem_append_right _ (List.mem_append_right _ (List.mem_append_right _ (List.mem_append_right _ (List.mem_append_right _ (List.mem_append_right _ (List.mem_append_right _ (List.mem_append_right _ (List.mem_append_left _ (List.mem_of_getElem? (i := 3) rfl)))))))))))))))))))))))
theorem wd_340 : Cond.constantLong RX4 119 200000 ∈ al_W := (List.mem_append_right _ (List.mem_append_right _ (List.mem_append_right _ (List.mem_append_right _ (List.mem_append_right _ (List.mem_append_right _ (List.mem_append_right _ (List.mem_append_right _ (List.mem_append_right _ (List.mem_append_right _ (List.mem_append_right _ (List.mem_append_right _ (List.mem_append_right _ (List.mem_append_right _ (List.mem_append_right _ (List.mem_append_right _ (List.mem_append_right _ (List.mem_append_right _ (List.mem_append_right _ (List.mem_append_right _ (List.mem_append_right _ (List.mem_append_left _ (List.mem_of_getElem? (i := 4) rfl)))))))))))))))))))))))
theorem wd_341 : Cond.methodLink RX4 121 yX4_other ∈ al_W := (List.mem_append_right _ (List.mem_append_right _ (List.mem_append_right _ (List.mem_append_right _ (List.mem_append_right _ (List.mem_append_right _ (List.mem_append_right _ (List.mem_append_right _ (List.mem_append_right _ (List.mem_append_right _ (List.mem_append_right _ (List.mem_append_right _ (List.mem_append_right _ (List.mem_append_right _ (List.mem_append_right _ (List.mem_append_right _ (List.mem_append_right _ (List.mem_append_right _ (List.mem_append_right _ (List.mem_append_right _ (List.mem_append_right _ (List.mem_append_left _ (List.mem_of_getElem? (i := 5) rfl)))))))))))))))))))))))
theorem wd_342 : Cond.selects RX4 yX4_other yX4_other ∈ al_W := (List.mem_append_right _ (List.mem_append_right _ (List.mem_append_right _ (List.mem_append_right _ (List.mem_append_right _ (List.mem_append_right _ (List.mem_append_right _ (List.mem_append_right _ (List.mem_append_right _ (List.mem_append_right _ (List.mem_append_right _ (List.mem_append_right _ (List.mem_append_right _ (List.mem_append_right _ (List.mem_append_right _ (List.mem_append_right _ (List.mem_append_right _ (List.mem_append_right _ (List.mem_append_right _ (List.mem_append_right _ (List.mem_append_right _ (List.mem_append_left _ (List.mem_of_getElem? (i := 6) rfl)))))))))))))))))))))))
theorem wd_343 : Cond.instanceMethod yX4_other ∈ al_W := (List.mem_append_right _ (List.mem_append_right _ (List.mem_append_right _ (List.mem_append_right _ (List.mem_append_right _ (List.mem_append_right _ (List.mem_append_right _ (List.mem_append_right _ (List.mem_append_right _ (List.mem_append_right _ (List.mem_append_right _ (List.mem_append_right _ (List.mem_append_right _ (List.mem_append_right _ (List.mem_append_right _ (List.mem_append_right _ (List.mem_append_right _ (List.mem_append_right _ (List.mem_append_right _ (List.mem_append_right _ (List.mem_append_right _ (List.mem_append_left _ (List.mem_of_getElem? (i := 7) rfl)))))))))))))))))))))))
theorem wd_344 : Cond.code yX4_other cX4_other 6 (some .int) ∈ al_W := (List.mem_append_right _ (List.mem_append_right _ (List.mem_append_right _ (List.mem_append_right _ (List.mem_append_right _ (List.mem_append_right _ (List.mem_append_right _ (List.mem_append_right _ (List.mem_append_right _ (List.mem_append_right _ (List.mem_append_right _ (List.mem_append_right _ (List.mem_append_right _ (List.mem_append_right _ (List.mem_append_right _ (List.mem_append_right _ (List.mem_append_right _ (List.mem_append_right _ (List.mem_append_right _ (List.mem_append_right _ (List.mem_append_right _ (List.mem_append_left _ (List.mem_of_getElem? (i := 8) rfl)))))))))))))))))))))))
theorem wd_345 : Cond.methodLink RX4 125 yX4_send ∈ al_W := (List.mem_append_right _ (List.mem_append_right _ (List.mem_append_right _ (List.mem_append_right _ (List.mem_append_right _ (List.mem_append_right _ (List.mem_append_right _ (List.mem_append_right _ (List.mem_append_right _ (List.mem_append_right _ (List.mem_append_right _ (List.mem_append_right _ (List.mem_append_right _ (List.mem_append_right _ (List.mem_append_right _ (List.mem_append_right _ (List.mem_append_right _ (List.mem_append_right _ (List.mem_append_right _ (List.mem_append_right _ (List.mem_append_right _ (List.mem_append_left _ (List.mem_of_getElem? (i := 9) rfl)))))))))))))))))))))))
theorem wd_346 : Cond.selects RX4 yX4_send yX4_send ∈ al_W := (List.mem_append_right _ (List.mem_append_right _ (List.mem_append_right _ (List.mem_append_right _ (List.mem_append_right _ (List.mem_append_right _ (List.mem_append_right _ (List.mem_append_right _ (List.mem_append_right _ (List.mem_append_right _ (List.mem_append_right _ (List.mem_append_right _ (List.mem_append_right _ (List.mem_append_right _ (List.mem_append_right _ (List.mem_append_right _ (List.mem_append_right _ (List.mem_append_right _ (List.mem_append_right _ (List.mem_append_right _ (List.mem_append_right _ (List.mem_append_left _ (List.mem_of_getElem? (i := 10) rfl)))))))))))))))))))))))
theorem wd_347 : Cond.instanceMethod yX4_send ∈ al_W := (List.mem_append_right _ (List.mem_append_right _ (List.mem_append_right _ (List.mem_append_right _ (List.mem_append_right _ (List.mem_append_right _ (List.mem_append_right _ (List.mem_append_right _ (List.mem_append_right _ (List.mem_append_right _ (List.mem_append_right _ (List.mem_append_right _ (List.mem_append_right _ (List.mem_append_right _ (List.mem_append_right _ (List.mem_append_right _ (List.mem_append_right _ (List.mem_append_right _ (List.mem_append_right _ (List.mem_append_right _ (List.mem_append_right _ (List.mem_append_left _ (List.mem_of_getElem? (i := 11) rfl)))))))))))))))))))))))
theorem wd_348 : Cond.code yX4_send cX4_send 3 none ∈ al_W := (List.mem_append_right _ (List.mem_append_right _ (List.mem_append_right _ (List.mem_append_right _ (List.mem_append_right _ (List.mem_append_right _ (List.mem_append_right _ (List.mem_append_right _ (List.mem_append_right _ (List.mem_append_right _ (List.mem_append_right _ (List.mem_append_right _ (List.mem_append_right _ (List.mem_append_right _ (List.mem_append_right _ (List.mem_append_right _ (List.mem_append_right _ (List.mem_append_right _ (List.mem_append_right _ (List.mem_append_right _ (List.mem_append_right _ (List.mem_append_left _ (List.mem_of_getElem? (i := 12) rfl)))))))))))))))))))))))
theorem wd_349 : Cond.methodLink RL 39 yX4_proof ∈ al_W := (List.mem_append_right _ (List.mem_append_right _ (List.mem_append_right _ (List.mem_append_right _ (List.mem_append_right _ (List.mem_append_right _ (List.mem_append_right _ (List.mem_append_right _ (List.mem_append_right _ (List.mem_append_right _ (List.mem_append_right _ (List.mem_append_right _ (List.mem_append_right _ (List.mem_append_right _ (List.mem_append_right _ (List.mem_append_right _ (List.mem_append_right _ (List.mem_append_right _ (List.mem_append_right _ (List.mem_append_right _ (List.mem_append_right _ (List.mem_append_left _ (List.mem_of_getElem? (i := 13) rfl)))))))))))))))))))))))
theorem wd_350 : Cond.instanceMethod yX4_proof ∈ al_W := (List.mem_append_right _ (List.mem_append_right _ (List.mem_append_right _ (List.mem_append_right _ (List.mem_append_right _ (List.mem_append_right _ (List.mem_append_right _ (List.mem_append_right _ (List.mem_append_right _ (List.mem_append_right _ (List.mem_append_right _ (List.mem_append_right _ (List.mem_append_right _ (List.mem_append_right _ (List.mem_append_right _ (List.mem_append_right _ (List.mem_append_right _ (List.mem_append_right _ (List.mem_append_right _ (List.mem_append_right _ (List.mem_append_right _ (List.mem_append_left _ (List.mem_of_getElem? (i := 14) rfl)))))))))))))))))))))))
theorem wd_351 : Cond.selects RX4 yX4_proof yX4_proof ∈ al_W := (List.mem_append_right _ (List.mem_append_right _ (List.mem_append_right _ (List.mem_append_right _ (List.mem_append_right _ (List.mem_append_right _ (List.mem_append_right _ (List.mem_append_right _ (List.mem_append_right _ (List.mem_append_right _ (List.mem_append_right _ (List.mem_append_right _ (List.mem_append_right _ (List.mem_append_right _ (List.mem_append_right _ (List.mem_append_right _ (List.mem_append_right _ (List.mem_append_right _ (List.mem_append_right _ (List.mem_append_right _ (List.mem_append_right _ (List.mem_append_left _ (List.mem_of_getElem? (i := 15) rfl)))))))))))))))))))))))
theorem wd_352 : Cond.code yX4_proof cX4_proof 4 (some .int) ∈ al_W := (List.mem_append_right _ (List.mem_append_right _ (List.mem_append_right _ (List.mem_append_right _ (List.mem_append_right _ (List.mem_append_right _ (List.mem_append_right _ (List.mem_append_right _ (List.mem_append_right _ (List.mem_append_right _ (List.mem_append_right _ (List.mem_append_right _ (List.mem_append_right _ (List.mem_append_right _ (List.mem_append_right _ (List.mem_append_right _ (List.mem_append_right _ (List.mem_append_right _ (List.mem_append_right _ (List.mem_append_right _ (List.mem_append_right _ (List.mem_append_right _ (List.mem_append_left _ (List.mem_of_getElem? (i := 0) rfl))))))))))))))))))))))))
theorem wd_353 : Cond.methodLink RX4 133 yX4_isClaim ∈ al_W := (List.mem_append_right _ (List.mem_append_right _ (List.mem_append_right _ (List.mem_append_right _ (List.mem_append_right _ (List.mem_append_right _ (List.mem_append_right _ (List.mem_append_right _ (List.mem_append_right _ (List.mem_append_right _ (List.mem_append_right _ (List.mem_append_right _ (List.mem_append_right _ (List.mem_append_right _ (List.mem_append_right _ (List.mem_append_right _ (List.mem_append_right _ (List.mem_append_right _ (List.mem_append_right _ (List.mem_append_right _ (List.mem_append_right _ (List.mem_append_right _ (List.mem_append_left _ (List.mem_of_getElem? (i := 1) rfl))))))))))))))))))))))))
theorem wd_354 : Cond.selects RX4 yX4_isClaim yX4_isClaim ∈ al_W := (List.mem_append_right _ (List.mem_append_right _ (List.mem_append_right _ (List.mem_append_right _ (List.mem_append_right _ (List.mem_append_right _ (List.mem_append_right _ (List.mem_append_right _ (List.mem_append_right _ (List.mem_append_right _ (List.mem_append_right _ (List.mem_append_right _ (List.mem_append_right _ (List.mem_append_right _ (List.mem_append_right _ (List.mem_append_right _ (List.mem_append_right _ (List.mem_append_right _ (List.mem_append_right _ (List.mem_append_right _ (List.mem_append_right _ (List.mem_append_right _ (List.mem_append_left _ (List.mem_of_getElem? (i := 2) rfl))))))))))))))))))))))))
theorem wd_355 : Cond.instanceMethod yX4_isClaim ∈ al_W := (List.mem_append_right _ (List.mem_append_right _ (List.mem_append_right _ (List.mem_append_right _ (List.mem_append_right _ (List.mem_append_right _ (List.mem_append_right _ (List.mem_append_right _ (List.mem_append_right _ (List.mem_append_right _ (List.mem_append_right _ (List.mem_append_right _ (List.mem_append_right _ (List.mem_append_right _ (List.mem_append_right _ (List.mem_append_right _ (List.mem_append_right _ (List.mem_append_right _ (List.mem_append_right _ (List.mem_append_right _ (List.mem_append_right _ (List.mem_append_right _ (List.mem_append_left _ (List.mem_of_getElem? (i := 3) rfl))))))))))))))))))))))))
theorem wd_356 : Cond.code yX4_isClaim cX4_isClaim 2 (some .boolean) ∈ al_W := (List.mem_append_right _ (List.mem_append_right _ (List.mem_append_right _ (List.mem_append_right _ (List.mem_append_right _ (List.mem_append_right _ (List.mem_append_right _ (List.mem_append_right _ (List.mem_append_right _ (List.mem_append_right _ (List.mem_append_right _ (List.mem_append_right _ (List.mem_append_right _ (List.mem_append_right _ (List.mem_append_right _ (List.mem_append_right _ (List.mem_append_right _ (List.mem_append_right _ (List.mem_append_right _ (List.mem_append_right _ (List.mem_append_right _ (List.mem_append_right _ (List.mem_append_left _ (List.mem_of_getElem? (i := 4) rfl))))))))))))))))))))))))
theorem wd_357 : Cond.methodLink RX4 129 yX4_needs ∈ al_W := (List.mem_append_right _ (List.mem_append_right _ (List.mem_append_right _ (List.mem_append_right _ (List.mem_append_right _ (List.mem_append_right _ (List.mem_append_right _ (List.mem_append_right _ (List.mem_append_right _ (List.mem_append_right _ (List.mem_append_right _ (List.mem_append_right _ (List.mem_append_right _ (List.mem_append_right _ (List.mem_append_right _ (List.mem_append_right _ (List.mem_append_right _ (List.mem_append_right _ (List.mem_append_right _ (List.mem_append_right _ (List.mem_append_right _ (List.mem_append_right _ (List.mem_append_left _ (List.mem_of_getElem? (i := 5) rfl))))))))))))))))))))))))
theorem wd_358 : Cond.static yX4_needs ∈ al_W := (List.mem_append_right _ (List.mem_append_right _ (List.mem_append_right _ (List.mem_append_right _ (List.mem_append_right _ (List.mem_append_right _ (List.mem_append_right _ (List.mem_append_right _ (List.mem_append_right _ (List.mem_append_right _ (List.mem_append_right _ (List.mem_append_right _ (List.mem_append_right _ (List.mem_append_right _ (List.mem_append_right _ (List.mem_append_right _ (List.mem_append_right _ (List.mem_append_right _ (List.mem_append_right _ (List.mem_append_right _ (List.mem_append_right _ (List.mem_append_right _ (List.mem_append_left _ (List.mem_of_getElem? (i := 6) rfl))))))))))))))))))))))))
theorem wd_359 : Cond.code yX4_needs cX4_needs 2 (some .boolean) ∈ al_W := (List.mem_append_right _ (List.mem_append_right _ (List.mem_append_right _ (List.mem_append_right _ (List.mem_append_right _ (List.mem_append_right _ (List.mem_append_right _ (List.mem_append_right _ (List.mem_append_right _ (List.mem_append_right _ (List.mem_append_right _ (List.mem_append_right _ (List.mem_append_right _ (List.mem_append_right _ (List.mem_append_right _ (List.mem_append_right _ (List.mem_append_right _ (List.mem_append_right _ (List.mem_append_right _ (List.mem_append_right _ (List.mem_append_right _ (List.mem_append_right _ (List.mem_append_left _ (List.mem_of_getElem? (i := 7) rfl))))))))))))))))))))))))
theorem wd_360 : Cond.methodLink RX4 136 yX4_lacks ∈ al_W := (List.mem_append_right _ (List.mem_append_right _ (List.mem_append_right _ (List.mem_append_right _ (List.mem_append_right _ (List.mem_append_right _ (List.mem_append_right _ (List.mem_append_right _ (List.mem_append_right _ (List.mem_append_right _ (List.mem_append_right _ (List.mem_append_right _ (List.mem_append_right _ (List.mem_append_right _ (List.mem_append_right _ (List.mem_append_right _ (List.mem_append_right _ (List.mem_append_right _ (List.mem_append_right _ (List.mem_append_right _ (List.mem_append_right _ (List.mem_append_right _ (List.mem_append_left _ (List.mem_of_getElem? (i := 8) rfl))))))))))))))))))))))))
theorem wd_361 : Cond.selects RX4 yX4_lacks yX4_lacks ∈ al_W := (List.mem_append_right _ (List.mem_append_right _ (List.mem_append_right _ (List.mem_append_right _ (List.mem_append_right _ (List.mem_append_right _ (List.mem_append_right _ (List.mem_append_right _ (List.mem_append_right _ (List.mem_append_right _ (List.mem_append_right _ (List.mem_append_right _ (List.mem_append_right _ (List.mem_append_right _ (List.mem_append_right _ (List.mem_append_right _ (List.mem_append_right _ (List.mem_append_right _ (List.mem_append_right _ (List.mem_append_right _ (List.mem_append_right _ (List.mem_append_right _ (List.mem_append_left _ (List.mem_of_getElem? (i := 9) rfl))))))))))))))))))))))))
theorem wd_362 : Cond.instanceMethod yX4_lacks ∈ al_W := (List.mem_append_right _ (List.mem_append_right _ (List.mem_append_right _ (List.mem_append_right _ (List.mem_append_right _ (List.mem_append_right _ (List.mem_append_right _ (List.mem_append_right _ (List.mem_append_right _ (List.mem_append_right _ (List.mem_append_right _ (List.mem_append_right _ (List.mem_append_right _ (List.mem_append_right _ (List.mem_append_right _ (List.mem_append_right _ (List.mem_append_right _ (List.mem_append_right _ (List.mem_append_right _ (List.mem_append_right _ (List.mem_append_right _ (List.mem_append_right _ (List.mem_append_left _ (List.mem_of_getElem? (i := 10) rfl))))))))))))))))))))))))
theorem wd_363 : Cond.code yX4_lacks cX4_lacks 4 (some .int) ∈ al_W := (List.mem_append_right _ (List.mem_append_right _ (List.mem_append_right _ (List.mem_append_right _ (List.mem_append_right _ (List.mem_append_right _ (List.mem_append_right _ (List.mem_append_right _ (List.mem_append_right _ (List.mem_append_right _ (List.mem_append_right _ (List.mem_append_right _ (List.mem_append_right _ (List.mem_append_right _ (List.mem_append_right _ (List.mem_append_right _ (List.mem_append_right _ (List.mem_append_right _ (List.mem_append_right _ (List.mem_append_right _ (List.mem_append_right _ (List.mem_append_right _ (List.mem_append_left _ (List.mem_of_getElem? (i := 11) rfl))))))))))))))))))))))))
theorem wd_364 : Cond.methodLink RL 44 yX4_search ∈ al_W := (List.mem_append_right _ (List.mem_append_right _ (List.mem_append_right _ (List.mem_append_right _ (List.mem_append_right _ (List.mem_append_right _ (List.mem_append_right _ (List.mem_append_right _ (List.mem_append_right _ (List.mem_append_right _ (List.mem_append_right _ (List.mem_append_right _ (List.mem_append_right _ (List.mem_append_right _ (List.mem_append_right _ (List.mem_append_right _ (List.mem_append_right _ (List.mem_append_right _ (List.mem_append_right _ (List.mem_append_right _ (List.mem_append_right _ (List.mem_append_right _ (List.mem_append_left _ (List.mem_of_getElem? (i := 12) rfl))))))))))))))))))))))))
theorem wd_365 : Cond.instanceMethod yX4_search ∈ al_W := (List.mem_append_right _ (List.mem_append_right _ (List.mem_append_right _ (List.mem_append_right _ (List.mem_append_right _ (List.mem_append_right _ (List.mem_append_right _ (List.mem_append_right _ (List.mem_append_right _ (List.mem_append_right _ (List.mem_append_right _ (List.mem_append_right _ (List.mem_append_right _ (List.mem_append_right _ (List.mem_append_right _ (List.mem_append_right _ (List.mem_append_right _ (List.mem_append_right _ (List.mem_append_right _ (List.mem_append_right _ (List.mem_append_right _ (List.mem_append_right _ (List.mem_append_left _ (List.mem_of_getElem? (i := 13) rfl))))))))))))))))))))))))
theorem wd_366 : Cond.selects RX4 yX4_search yX4_search ∈ al_W := (List.mem_append_right _ (List.mem_append_right _ (List.mem_append_right _ (List.mem_append_right _ (List.mem_append_right _ (List.mem_append_right _ (List.mem_append_right _ (List.mem_append_right _ (List.mem_append_right _ (List.mem_append_right _ (List.mem_append_right _ (List.mem_append_right _ (List.mem_append_right _ (List.mem_append_right _ (List.mem_append_right _ (List.mem_append_right _ (List.mem_append_right _ (List.mem_append_right _ (List.mem_append_right _ (List.mem_append_right _ (List.mem_append_right _ (List.mem_append_right _ (List.mem_append_left _ (List.mem_of_getElem? (i := 14) rfl))))))))))))))))))))))))
theorem wd_367 : Cond.code yX4_search cX4_search 4 (some .int) ∈ al_W := (List.mem_append_right _ (List.mem_append_right _ (List.mem_append_right _ (List.mem_append_right _ (List.mem_append_right _ (List.mem_append_right _ (List.mem_append_right _ (List.mem_append_right _ (List.mem_append_right _ (List.mem_append_right _ (List.mem_append_right _ (List.mem_append_right _ (List.mem_append_right _ (List.mem_append_right _ (List.mem_append_right _ (List.mem_append_right _ (List.mem_append_right _ (List.mem_append_right _ (List.mem_append_right _ (List.mem_append_right _ (List.mem_append_right _ (List.mem_append_right _ (List.mem_append_left _ (List.mem_of_getElem? (i := 15) rfl))))))))))))))))))))))))
theorem wd_368 : Cond.constantLong RX4 140 49 ∈ al_W := (List.mem_append_right _ (List.mem_append_right _ (List.mem_append_right _ (List.mem_append_right _ (List.mem_append_right _ (List.mem_append_right _ (List.mem_append_right _ (List.mem_append_right _ (List.mem_append_right _ (List.mem_append_right _ (List.mem_append_right _ (List.mem_append_right _ (List.mem_append_right _ (List.mem_append_right _ (List.mem_append_right _ (List.mem_append_right _ (List.mem_append_right _ (List.mem_append_right _ (List.mem_append_right _ (List.mem_append_right _ (List.mem_append_right _ (List.mem_append_right _ (List.mem_append_right _ (List.mem_append_left _ (List.mem_of_getElem? (i := 0) rfl)))))))))))))))))))))))))
theorem wd_369 : Cond.methodLink RL 49 yX4_answer ∈ al_W := (List.mem_append_right _ (List.mem_append_right _ (List.mem_append_right _ (List.mem_append_right _ (List.mem_append_right _ (List.mem_append_right _ (List.mem_append_right _ (List.mem_append_right _ (List.mem_append_right _ (List.mem_append_right _ (List.mem_append_right _ (List.mem_append_right _ (List.mem_append_right _ (List.mem_append_right _ (List.mem_append_right _ (List.mem_append_right _ (List.mem_append_right _ (List.mem_append_right _ (List.mem_append_right _ (List.mem_append_right _ (List.mem_append_right _ (List.mem_append_right _ (List.mem_append_right _ (List.mem_append_left _ (List.mem_of_getElem? (i := 1) rfl)))))))))))))))))))))))))
theorem wd_370 : Cond.instanceMethod yX4_answer ∈ al_W := (List.mem_append_right _ (List.mem_append_right _ (List.mem_append_right _ (List.mem_append_right _ (List.mem_append_right _ (List.mem_append_right _ (List.mem_append_right _ (List.mem_append_right _ (List.mem_append_right _ (List.mem_append_right _ (List.mem_append_right _ (List.mem_append_right _ (List.mem_append_right _ (List.mem_append_right _ (List.mem_append_right _ (List.mem_append_right _ (List.mem_append_right _ (List.mem_append_right _ (List.mem_append_right _ (List.mem_append_right _ (List.mem_append_right _ (List.mem_append_right _ (List.mem_append_right _ (List.mem_append_left _ (List.mem_of_getElem? (i := 2) rfl)))))))))))))))))))))))))
theorem wd_371 : Cond.selects RX4 yX4_answer yX4_answer ∈ al_W := (List.mem_append_right _ (List.mem_append_right _ (List.mem_append_right _ (List.mem_append_right _ (List.mem_append_right _ (List.mem_append_right _ (List.mem_append_right _ (List.mem_append_right _ (List.mem_append_right _ (List.mem_append_right _ (List.mem_append_right _ (List.mem_append_right _ (List.mem_append_right _ (List.mem_append_right _ (List.mem_append_right _ (List.mem_append_right _ (List.mem_append_right _ (List.mem_append_right _ (List.mem_append_right _ (List.mem_append_right _ (List.mem_append_right _ (List.mem_append_right _ (List.mem_append_right _ (List.mem_append_left _ (List.mem_of_getElem? (i := 3) rfl)))))))))))))))))))))))))
theorem wd_372 : Cond.code yX4_answer cX4_answer 3 (some .int) ∈ al_W := (List.mem_append_right _ (List.mem_append_right _ (List.mem_append_right _ (List.mem_append_right _ (List.mem_append_right _ (List.mem_append_right _ (List.mem_append_right _ (List.mem_append_right _ (List.mem_append_right _ (List.mem_append_right _ (List.mem_append_right _ (List.mem_append_right _ (List.mem_append_right _ (List.mem_append_right _ (List.mem_append_right _ (List.mem_append_right _ (List.mem_append_right _ (List.mem_append_right _ (List.mem_append_right _ (List.mem_append_right _ (List.mem_append_right _ (List.mem_append_right _ (List.mem_append_right _ (List.mem_append_left _ (List.mem_of_getElem? (i := 4) rfl)))))))))))))))))))))))))
theorem wd_373 : Cond.methodLink RL 54 yX4_tick ∈ al_W := (List.mem_append_right _ (List.mem_append_right _ (List.mem_append_right _ (List.mem_append_right _ (List.mem_append_right _ (List.mem_append_right _ (List.mem_append_right _ (List.mem_append_right _ (List.mem_append_right _ (List.mem_append_right _ (List.mem_append_right _ (List.mem_append_right _ (List.mem_append_right _ (List.mem_append_right _ (List.mem_append_right _ (List.mem_append_right _ (List.mem_append_right _ (List.mem_append_right _ (List.mem_append_right _ (List.mem_append_right _ (List.mem_append_right _ (List.mem_append_right _ (List.mem_append_right _ (List.mem_append_left _ (List.mem_of_getElem? (i := 5) rfl)))))))))))))))))))))))))
theorem wd_374 : Cond.instanceMethod yX4_tick ∈ al_W := (List.mem_append_right _ (List.mem_append_right _ (List.mem_append_right _ (List.mem_append_right _ (List.mem_append_right _ (List.mem_append_right _ (List.mem_append_right _ (List.mem_append_right _ (List.mem_append_right _ (List.mem_append_right _ (List.mem_append_right _ (List.mem_append_right _ (List.mem_append_right _ (List.mem_append_right _ (List.mem_append_right _ (List.mem_append_right _ (List.mem_append_right _ (List.mem_append_right _ (List.mem_append_right _ (List.mem_append_right _ (List.mem_append_right _ (List.mem_append_right _ (List.mem_append_right _ (List.mem_append_left _ (List.mem_of_getElem? (i := 6) rfl)))))))))))))))))))))))))
theorem wd_375 : Cond.selects RX4 yX4_tick yX4_tick ∈ al_W := (List.mem_append_right _ (List.mem_append_right _ (List.mem_append_right _ (List.mem_append_right _ (List.mem_append_right _ (List.mem_append_right _ (List.mem_append_right _ (List.mem_append_right _ (List.mem_append_right _ (List.mem_append_right _ (List.mem_append_right _ (List.mem_append_right _ (List.mem_append_right _ (List.mem_append_right _ (List.mem_append_right _ (List.mem_append_right _ (List.mem_append_right _ (List.mem_append_right _ (List.mem_append_right _ (List.mem_append_right _ (List.mem_append_right _ (List.mem_append_right _ (List.mem_append_right _ (List.mem_append_left _ (List.mem_of_getElem? (i := 7) rfl)))))))))))))))))))))))))
theorem wd_376 : Cond.code yX4_tick cX4_tick 4 (some .int) ∈ al_W := (List.mem_append_right _ (List.mem_append_right _ (List.mem_append_right _ (List.mem_append_right _ (List.mem_append_right _ (List.mem_append_right _ (List.mem_append_right _ (List.mem_append_right _ (List.mem_append_right _ (List.mem_append_right _ (List.mem_append_right _ (List.mem_append_right _ (List.mem_append_right _ (List.mem_append_right _ (List.mem_append_right _ (List.mem_append_right _ (List.mem_append_right _ (List.mem_append_right _ (List.mem_append_right _ (List.mem_append_right _ (List.mem_append_right _ (List.mem_append_right _ (List.mem_append_right _ (List.mem_append_left _ (List.mem_of_getElem? (i := 8) rfl)))))))))))))))))))))))))
theorem wd_377 : Cond.methodLink RL 59 yX4_sum ∈ al_W := (List.mem_append_right _ (List.mem_append_right _ (List.mem_append_right _ (List.mem_append_right _ (List.mem_append_right _ (List.mem_append_right _ (List.mem_append_right _ (List.mem_append_right _ (List.mem_append_right _ (List.mem_append_right _ (List.mem_append_right _ (List.mem_append_right _ (List.mem_append_right _ (List.mem_append_right _ (List.mem_append_right _ (List.mem_append_right _ (List.mem_append_right _ (List.mem_append_right _ (List.mem_append_right _ (List.mem_append_right _ (List.mem_append_right _ (List.mem_append_right _ (List.mem_append_right _ (List.mem_append_left _ (List.mem_of_getElem? (i := 9) rfl)))))))))))))))))))))))))
theorem wd_378 : Cond.instanceMethod yX4_sum ∈ al_W := (List.mem_append_right _ (List.mem_append_right _ (List.mem_append_right _ (List.mem_append_right _ (List.mem_append_right _ (List.mem_append_right _ (List.mem_append_right _ (List.mem_append_right _ (List.mem_append_right _ (List.mem_append_right _ (List.mem_append_right _ (List.mem_append_right _ (List.mem_append_right _ (List.mem_append_right _ (List.mem_append_right _ (List.mem_append_right _ (List.mem_append_right _ (List.mem_append_right _ (List.mem_append_right _ (List.mem_append_right _ (List.mem_append_right _ (List.mem_append_right _ (List.mem_append_right _ (List.mem_append_left _ (List.mem_of_getElem? (i := 10) rfl)))))))))))))))))))))))))
theorem wd_379 : Cond.selects RX4 yX4_sum yX4_sum ∈ al_W := (List.mem_append_right _ (List.mem_append_right _ (List.mem_append_right _ (List.mem_append_right _ (List.mem_append_right _ (List.mem_append_right _ (List.mem_append_right _ (List.mem_append_right _ (List.mem_append_right _ (List.mem_append_right _ (List.mem_append_right _ (List.mem_append_right _ (List.mem_append_right _ (List.mem_append_right _ (List.mem_append_right _ (List.mem_append_right _ (List.mem_append_right _ (List.mem_append_right _ (List.mem_append_right _ (List.mem_append_right _ (List.mem_append_right _ (List.mem_append_right _ (List.mem_append_right _ (List.mem_append_left _ (List.mem_of_getElem? (i := 11) rfl)))))))))))))))))))))))))
theorem wd_380 : Cond.code yX4_sum cX4_sum 2 (some .long) ∈ al_W := (List.mem_append_right _ (List.mem_append_right _ (List.mem_append_right _ (List.mem_append_right _ (List.mem_append_right _ (List.mem_append_right _ (List.mem_append_right _ (List.mem_append_right _ (List.mem_append_right _ (List.mem_append_right _ (List.mem_append_right _ (List.mem_append_right _ (List.mem_append_right _ (List.mem_append_right _ (List.mem_append_right _ (List.mem_append_right _ (List.mem_append_right _ (List.mem_append_right _ (List.mem_append_right _ (List.mem_append_right _ (List.mem_append_right _ (List.mem_append_right _ (List.mem_append_right _ (List.mem_append_left _ (List.mem_of_getElem? (i := 12) rfl)))))))))))))))))))))))))
theorem wd_381 : Cond.constantLong RX4 150 (-101) ∈ al_W := (List.mem_append_right _ (List.mem_append_right _ (List.mem_append_right _ (List.mem_append_right _ (List.mem_append_right _ (List.mem_append_right _ (List.mem_append_right _ (List.mem_append_right _ (List.mem_append_right _ (List.mem_append_right _ (List.mem_append_right _ (List.mem_append_right _ (List.mem_append_right _ (List.mem_append_right _ (List.mem_append_right _ (List.mem_append_right _ (List.mem_append_right _ (List.mem_append_right _ (List.mem_append_right _ (List.mem_append_right _ (List.mem_append_right _ (List.mem_append_right _ (List.mem_append_right _ (List.mem_append_left _ (List.mem_of_getElem? (i := 13) rfl)))))))))))))))))))))))))
theorem wd_382 : Cond.methodLink RX4 152 yX4_sumNow ∈ al_W := (List.mem_append_right _ (List.mem_append_right _ (List.mem_append_right _ (List.mem_append_right _ (List.mem_append_right _ (List.mem_append_right _ (List.mem_append_right _ (List.mem_append_right _ (List.mem_append_right _ (List.mem_append_right _ (List.mem_append_right _ (List.mem_append_right _ (List.mem_append_right _ (List.mem_append_right _ (List.mem_append_right _ (List.mem_append_right _ (List.mem_append_right _ (List.mem_append_right _ (List.mem_append_right _ (List.mem_append_right _ (List.mem_append_right _ (List.mem_append_right _ (List.mem_append_right _ (List.mem_append_left _ (List.mem_of_getElem? (i := 14) rfl)))))))))))))))))))))))))
theorem wd_383 : Cond.selects RX4 yX4_sumNow yX4_sumNow ∈ al_W := (List.mem_append_right _ (List.mem_append_right _ (List.mem_append_right _ (List.mem_append_right _ (List.mem_append_right _ (List.mem_append_right _ (List.mem_append_right _ (List.mem_append_right _ (List.mem_append_right _ (List.mem_append_right _ (List.mem_append_right _ (List.mem_append_right _ (List.mem_append_right _ (List.mem_append_right _ (List.mem_append_right _ (List.mem_append_right _ (List.mem_append_right _ (List.mem_append_right _ (List.mem_append_right _ (List.mem_append_right _ (List.mem_append_right _ (List.mem_append_right _ (List.mem_append_right _ (List.mem_append_left _ (List.mem_of_getElem? (i := 15) rfl)))))))))))))))))))))))))
theorem wd_384 : Cond.instanceMethod yX4_sumNow ∈ al_W := (List.mem_append_right _ (List.mem_append_right _ (List.mem_append_right _ (List.mem_append_right _ (List.mem_append_right _ (List.mem_append_right _ (List.mem_append_right _ (List.mem_append_right _ (List.mem_append_right _ (List.mem_append_right _ (List.mem_append_right _ (List.mem_append_right _ (List.mem_append_right _ (List.mem_append_right _ (List.mem_append_right _ (List.mem_append_right _ (List.mem_append_right _ (List.mem_append_right _ (List.mem_append_right _ (List.mem_append_right _ (List.mem_append_right _ (List.mem_append_right _ (List.mem_append_right _ (List.mem_append_right _ (List.mem_append_left _ (List.mem_of_getElem? (i := 0) rfl))))))))))))))))))))))))))
theorem wd_385 : Cond.code yX4_sumNow cX4_sumNow 8 (some .long) ∈ al_W := (List.mem_append_right _ (List.mem_append_right _ (List.mem_append_right _ (List.mem_append_right _ (List.mem_append_right _ (List.mem_append_right _ (List.mem_append_right _ (List.mem_append_right _ (List.mem_append_right _ (List.mem_append_right _ (List.mem_append_right _ (List.mem_append_right _ (List.mem_append_right _ (List.mem_append_right _ (List.mem_append_right _ (List.mem_append_right _ (List.mem_append_right _ (List.mem_append_right _ (List.mem_append_right _ (List.mem_append_right _ (List.mem_append_right _ (List.mem_append_right _ (List.mem_append_right _ (List.mem_append_right _ (List.mem_append_left _ (List.mem_of_getElem? (i := 1) rfl))))))))))))))))))))))))))
theorem wd_386 : Cond.constantLong RX4 148 10 ∈ al_W := (List.mem_append_right _ (List.mem_append_right _ (List.mem_append_right _ (List.mem_append_right _ (List.mem_append_right _ (List.mem_append_right _ (List.mem_append_right _ (List.mem_append_right _ (List.mem_append_right _ (List.mem_append_right _ (List.mem_append_right _ (List.mem_append_right _ (List.mem_append_right _ (List.mem_append_right _ (List.mem_append_right _ (List.mem_append_right _ (List.mem_append_right _ (List.mem_append_right _ (List.mem_append_right _ (List.mem_append_right _ (List.mem_append_right _ (List.mem_append_right _ (List.mem_append_right _ (List.mem_append_right _ (List.mem_append_left _ (List.mem_of_getElem? (i := 2) rfl))))))))))))))))))))))))))
theorem wd_387 : Cond.methodLink RL 64 yX4_limit ∈ al_W := (List.mem_append_right _ (List.mem_append_right _ (List.mem_append_right _ (List.mem_append_right _ (List.mem_append_right _ (List.mem_append_right _ (List.mem_append_right _ (List.mem_append_right _ (List.mem_append_right _ (List.mem_append_right _ (List.mem_append_right _ (List.mem_append_right _ (List.mem_append_right _ (List.mem_append_right _ (List.mem_append_right _ (List.mem_append_right _ (List.mem_append_right _ (List.mem_append_right _ (List.mem_append_right _ (List.mem_append_right _ (List.mem_append_right _ (List.mem_append_right _ (List.mem_append_right _ (List.mem_append_right _ (List.mem_append_left _ (List.mem_of_getElem? (i := 3) rfl))))))))))))))))))))))))))
theorem wd_388 : Cond.instanceMethod yX4_limit ∈ al_W := (List.mem_append_right _ (List.mem_append_right _ (List.mem_append_right _ (List.mem_append_right _ (List.mem_append_right _ (List.mem_append_right _ (List.mem_append_right _ (List.mem_append_right _ (List.mem_append_right _ (List.mem_append_right _ (List.mem_append_right _ (List.mem_append_right _ (List.mem_append_right _ (List.mem_append_right _ (List.mem_append_right _ (List.mem_append_right _ (List.mem_append_right _ (List.mem_append_right _ (List.mem_append_right _ (List.mem_append_right _ (List.mem_append_right _ (List.mem_append_right _ (List.mem_append_right _ (List.mem_append_right _ (List.mem_append_left _ (List.mem_of_getElem? (i := 4) rfl))))))))))))))))))))))))))
theorem wd_389 : Cond.selects RX4 yX4_limit yX4_limit ∈ al_W := (List.mem_append_right _ (List.mem_append_right _ (List.mem_append_right _ (List.mem_append_right _ (List.mem_append_right _ (List.mem_append_right _ (List.mem_append_right _ (List.mem_append_right _ (List.mem_append_right _ (List.mem_append_right _ (List.mem_append_right _ (List.mem_append_right _ (List.mem_append_right _ (List.mem_append_right _ (List.mem_append_right _ (List.mem_append_right _ (List.mem_append_right _ (List.mem_append_right _ (List.mem_append_right _ (List.mem_append_right _ (List.mem_append_right _ (List.mem_append_right _ (List.mem_append_right _ (List.mem_append_right _ (List.mem_append_left _ (List.mem_of_getElem? (i := 5) rfl))))))))))))))))))))))))))
theorem wd_390 : Cond.code yX4_limit cX4_limit 4 (some .int) ∈ al_W := (List.mem_append_right _ (List.mem_append_right _ (List.mem_append_right _ (List.mem_append_right _ (List.mem_append_right _ (List.mem_append_right _ (List.mem_append_right _ (List.mem_append_right _ (List.mem_append_right _ (List.mem_append_right _ (List.mem_append_right _ (List.mem_append_right _ (List.mem_append_right _ (List.mem_append_right _ (List.mem_append_right _ (List.mem_append_right _ (List.mem_append_right _ (List.mem_append_right _ (List.mem_append_right _ (List.mem_append_right _ (List.mem_append_right _ (List.mem_append_right _ (List.mem_append_right _ (List.mem_append_right _ (List.mem_append_left _ (List.mem_of_getElem? (i := 6) rfl))))))))))))))))))))))))))
theorem wd_391 : Cond.constantLong RX4 156 9 ∈ al_W := (List.mem_append_right _ (List.mem_append_right _ (List.mem_append_right _ (List.mem_append_right _ (List.mem_append_right _ (List.mem_append_right _ (List.mem_append_right _ (List.mem_append_right _ (List.mem_append_right _ (List.mem_append_right _ (List.mem_append_right _ (List.mem_append_right _ (List.mem_append_right _ (List.mem_append_right _ (List.mem_append_right _ (List.mem_append_right _ (List.mem_append_right _ (List.mem_append_right _ (List.mem_append_right _ (List.mem_append_right _ (List.mem_append_right _ (List.mem_append_right _ (List.mem_append_right _ (List.mem_append_right _ (List.mem_append_left _ (List.mem_of_getElem? (i := 7) rfl))))))))))))))))))))))))))
theorem wd_392 : Cond.methodLink RL 68 yX4_decide ∈ al_W := (List.mem_append_right _ (List.mem_append_right _ (List.mem_append_right _ (List.mem_append_right _ (List.mem_append_right _ (List.mem_append_right _ (List.mem_append_right _ (List.mem_append_right _ (List.mem_append_right _ (List.mem_append_right _ (List.mem_append_right _ (List.mem_append_right _ (List.mem_append_right _ (List.mem_append_right _ (List.mem_append_right _ (List.mem_append_right _ (List.mem_append_right _ (List.mem_append_right _ (List.mem_append_right _ (List.mem_append_right _ (List.mem_append_right _ (List.mem_append_right _ (List.mem_append_right _ (List.mem_append_right _ (List.mem_append_left _ (List.mem_of_getElem? (i := 8) rfl))))))))))))))))))))))))))
theorem wd_393 : Cond.instanceMethod yX4_decide ∈ al_W := (List.mem_append_right _ (List.mem_append_right _ (List.mem_append_right _ (List.mem_append_right _ (List.mem_append_right _ (List.mem_append_right _ (List.mem_append_right _ (List.mem_append_right _ (List.mem_append_right _ (List.mem_append_right _ (List.mem_append_right _ (List.mem_append_right _ (List.mem_append_right _ (List.mem_append_right _ (List.mem_append_right _ (List.mem_append_right _ (List.mem_append_right _ (List.mem_append_right _ (List.mem_append_right _ (List.mem_append_right _ (List.mem_append_right _ (List.mem_append_right _ (List.mem_append_right _ (List.mem_append_right _ (List.mem_append_left _ (List.mem_of_getElem? (i := 9) rfl))))))))))))))))))))))))))
theorem wd_394 : Cond.selects RX4 yX4_decide yX4_decide ∈ al_W := (List.mem_append_right _ (List.mem_append_right _ (List.mem_append_right _ (List.mem_append_right _ (List.mem_append_right _ (List.mem_append_right _ (List.mem_append_right _ (List.mem_append_right _ (List.mem_append_right _ (List.mem_append_right _ (List.mem_append_right _ (List.mem_append_right _ (List.mem_append_right _ (List.mem_append_right _ (List.mem_append_right _ (List.mem_append_right _ (List.mem_append_right _ (List.mem_append_right _ (List.mem_append_right _ (List.mem_append_right _ (List.mem_append_right _ (List.mem_append_right _ (List.mem_append_right _ (List.mem_append_right _ (List.mem_append_left _ (List.mem_of_getElem? (i := 10) rfl))))))))))))))))))))))))))
theorem wd_395 : Cond.code yX4_decide cX4_decide 6 (some .int) ∈ al_W := (List.mem_append_right _ (List.mem_append_right _ (List.mem_append_right _ (List.mem_append_right _ (List.mem_append_right _ (List.mem_append_right _ (List.mem_append_right _ (List.mem_append_right _ (List.mem_append_right _ (List.mem_append_right _ (List.mem_append_right _ (List.mem_append_right _ (List.mem_append_right _ (List.mem_append_right _ (List.mem_append_right _ (List.mem_append_right _ (List.mem_append_right _ (List.mem_append_right _ (List.mem_append_right _ (List.mem_append_right _ (List.mem_append_right _ (List.mem_append_right _ (List.mem_append_right _ (List.mem_append_right _ (List.mem_append_left _ (List.mem_of_getElem? (i := 11) rfl))))))))))))))))))))))))))
theorem wd_396 : Cond.methodLink RX4 158 yX4_many ∈ al_W := (List.mem_append_right _ (List.mem_append_right _ (List.mem_append_right _ (List.mem_append_right _ (List.mem_append_right _ (List.mem_append_right _ (List.mem_append_right _ (List.mem_append_right _ (List.mem_append_right _ (List.mem_append_right _ (List.mem_append_right _ (List.mem_append_right _ (List.mem_append_right _ (List.mem_append_right _ (List.mem_append_right _ (List.mem_append_right _ (List.mem_append_right _ (List.mem_append_right _ (List.mem_append_right _ (List.mem_append_right _ (List.mem_append_right _ (List.mem_append_right _ (List.mem_append_right _ (List.mem_append_right _ (List.mem_append_left _ (List.mem_of_getElem? (i := 12) rfl))))))))))))))))))))))))))
theorem wd_397 : Cond.selects RX4 yX4_many yX4_many ∈ al_W := (List.mem_append_right _ (List.mem_append_right _ (List.mem_append_right _ (List.mem_append_right _ (List.mem_append_right _ (List.mem_append_right _ (List.mem_append_right _ (List.mem_append_right _ (List.mem_append_right _ (List.mem_append_right _ (List.mem_append_right _ (List.mem_append_right _ (List.mem_append_right _ (List.mem_append_right _ (List.mem_append_right _ (List.mem_append_right _ (List.mem_append_right _ (List.mem_append_right _ (List.mem_append_right _ (List.mem_append_right _ (List.mem_append_right _ (List.mem_append_right _ (List.mem_append_right _ (List.mem_append_right _ (List.mem_append_left _ (List.mem_of_getElem? (i := 13) rfl))))))))))))))))))))))))))
theorem wd_398 : Cond.instanceMethod yX4_many ∈ al_W := (List.mem_append_right _ (List.mem_append_right _ (List.mem_append_right _ (List.mem_append_right _ (List.mem_append_right _ (List.mem_append_right _ (List.mem_append_right _ (List.mem_append_right _ (List.mem_append_right _ (List.mem_append_right _ (List.mem_append_right _ (List.mem_append_right _ (List.mem_append_right _ (List.mem_append_right _ (List.mem_append_right _ (List.mem_append_right _ (List.mem_append_right _ (List.mem_append_right _ (List.mem_append_right _ (List.mem_append_right _ (List.mem_append_right _ (List.mem_append_right _ (List.mem_append_right _ (List.mem_append_right _ (List.mem_append_left _ (List.mem_of_getElem? (i := 14) rfl))))))))))))))))))))))))))
theorem wd_399 : Cond.code yX4_many cX4_many 5 (some .int) ∈ al_W := (List.mem_append_right _ (List.mem_append_right _ (List.mem_append_right _ (List.mem_append_right _ (List.mem_append_right _ (List.mem_append_right _ (List.mem_append_right _ (List.mem_append_right _ (List.mem_append_right _ (List.mem_append_right _ (List.mem_append_right _ (List.mem_append_right _ (List.mem_append_right _ (List.mem_append_right _ (List.mem_append_right _ (List.mem_append_right _ (List.mem_append_right _ (List.mem_append_right _ (List.mem_append_right _ (List.mem_append_right _ (List.mem_append_right _ (List.mem_append_right _ (List.mem_append_right _ (List.mem_append_right _ (List.mem_append_left _ (List.mem_of_getElem? (i := 15) rfl))))))))))))))))))))))))))
theorem wd_400 : Cond.methodLink RL 73 yX4_share ∈ al_W := (List.mem_append_right _ (List.mem_append_right _ (List.mem_append_right _ (List.mem_append_right _ (List.mem_append_right _ (List.mem_append_right _ (List.mem_append_right _ (List.mem_append_right _ (List.mem_append_right _ (List.mem_append_right _ (List.mem_append_right _ (List.mem_append_right _ (List.mem_append_right _ (List.mem_append_right _ (List.mem_append_right _ (List.mem_append_right _ (List.mem_append_right _ (List.mem_append_right _ (List.mem_append_right _ (List.mem_append_right _ (List.mem_append_right _ (List.mem_append_right _ (List.mem_append_right _ (List.mem_append_right _ (List.mem_append_right _ (List.mem_append_left _ (List.mem_of_getElem? (i := 0) rfl)))))))))))))))))))))))))))
theorem wd_401 : Cond.instanceMethod yX4_share ∈ al_W := (List.mem_append_right _ (List.mem_append_right _ (List.mem_append_right _ (List.mem_append_right _ (List.mem_append_right _ (List.mem_append_right _ (List.mem_append_right _ (List.mem_append_right _ (List.mem_append_right _ (List.mem_append_right _ (List.mem_append_right _ (List.mem_append_right _ (List.mem_append_right _ (List.mem_append_right _ (List.mem_append_right _ (List.mem_append_right _ (List.mem_append_right _ (List.mem_append_right _ (List.mem_append_right _ (List.mem_append_right _ (List.mem_append_right _ (List.mem_append_right _ (List.mem_append_right _ (List.mem_append_right _ (List.mem_append_right _ (List.mem_append_left _ (List.mem_of_getElem? (i := 1) rfl)))))))))))))))))))))))))))
theorem wd_402 : Cond.selects RX4 yX4_share yX4_share ∈ al_W := (List.mem_append_right _ (List.mem_append_right _ (List.mem_append_right _ (List.mem_append_right _ (List.mem_append_right _ (List.mem_append_right _ (List.mem_append_right _ (List.mem_append_right _ (List.mem_append_right _ (List.mem_append_right _ (List.mem_append_right _ (List.mem_append_right _ (List.mem_append_right _ (List.mem_append_right _ (List.mem_append_right _ (List.mem_append_right _ (List.mem_append_right _ (List.mem_append_right _ (List.mem_append_right _ (List.mem_append_right _ (List.mem_append_right _ (List.mem_append_right _ (List.mem_append_right _ (List.mem_append_right _ (List.mem_append_right _ (List.mem_append_left _ (List.mem_of_getElem? (i := 2) rfl)))))))))))))))))))))))))))
theorem wd_403 : Cond.code yX4_share cX4_share 13 (some .long) ∈ al_W := (List.mem_append_right _ (List.mem_append_right _ (List.mem_append_right _ (List.mem_append_right _ (List.mem_append_right _ (List.mem_append_right _ (List.mem_append_right _ (List.mem_append_right _ (List.mem_append_right _ (List.mem_append_right _ (List.mem_append_right _ (List.mem_append_right _ (List.mem_append_right _ (List.mem_append_right _ (List.mem_append_right _ (List.mem_append_right _ (List.mem_append_right _ (List.mem_append_right _ (List.mem_append_right _ (List.mem_append_right _ (List.mem_append_right _ (List.mem_append_right _ (List.mem_append_right _ (List.mem_append_right _ (List.mem_append_right _ (List.mem_append_left _ (List.mem_of_getElem? (i := 3) rfl)))))))))))))))))))))))))))
theorem wd_404 : Cond.constantLong RX4 169 (-102) ∈ al_W := (List.mem_append_right _ (List.mem_append_right _ (List.mem_append_right _ (List.mem_append_right _ (List.mem_append_right _ (List.mem_append_right _ (List.mem_append_right _ (List.mem_append_right _ (List.mem_append_right _ (List.mem_append_right _ (List.mem_append_right _ (List.mem_append_right _ (List.mem_append_right _ (List.mem_append_right _ (List.mem_append_right _ (List.mem_append_right _ (List.mem_append_right _ (List.mem_append_right _ (List.mem_append_right _ (List.mem_append_right _ (List.mem_append_right _ (List.mem_append_right _ (List.mem_append_right _ (List.mem_append_right _ (List.mem_append_right _ (List.mem_append_left _ (List.mem_of_getElem? (i := 4) rfl)))))))))))))))))))))))))))
theorem wd_405 : Cond.methodLink RL 77 yX4_found ∈ al_W := (List.mem_append_right _ (List.mem_append_right _ (List.mem_append_right _ (List.mem_append_right _ (List.mem_append_right _ (List.mem_append_right _ (List.mem_append_right _ (List.mem_append_right _ (List.mem_append_right _ (List.mem_append_right _ (List.mem_append_right _ (List.mem_append_right _ (List.mem_append_right _ (List.mem_append_right _ (List.mem_append_right _ (List.mem_append_right _ (List.mem_append_right _ (List.mem_append_right _ (List.mem_append_right _ (List.mem_append_right _ (List.mem_append_right _ (List.mem_append_right _ (List.mem_append_right _ (List.mem_append_right _ (List.mem_append_right _ (List.mem_append_left _ (List.mem_of_getElem? (i := 5) rfl)))))))))))))))))))))))))))
theorem wd_406 : Cond.instanceMethod yX4_found ∈ al_W := (List.mem_append_right _ (List.mem_append_right _ (List.mem_append_right _ (List.mem_append_right _ (List.mem_append_right _ (List.mem_append_right _ (List.mem_append_right _ (List.mem_append_right _ (List.mem_append_right _ (List.mem_append_right _ (List.mem_append_right _ (List.mem_append_right _ (List.mem_append_right _ (List.mem_append_right _ (List.mem_append_right _ (List.mem_append_right _ (List.mem_append_right _ (List.mem_append_right _ (List.mem_append_right _ (List.mem_append_right _ (List.mem_append_right _ (List.mem_append_right _ (List.mem_append_right _ (List.mem_append_right _ (List.mem_append_right _ (List.mem_append_left _ (List.mem_of_getElem? (i := 6) rfl)))))))))))))))))))))))))))
theorem wd_407 : Cond.selects RX4 yX4_found yX4_found ∈ al_W := (List.mem_append_right _ (List.mem_append_right _ (List.mem_append_right _ (List.mem_append_right _ (List.mem_append_right _ (List.mem_append_right _ (List.mem_append_right _ (List.mem_append_right _ (List.mem_append_right _ (List.mem_append_right _ (List.mem_append_right _ (List.mem_append_right _ (List.mem_append_right _ (List.mem_append_right _ (List.mem_append_right _ (List.mem_append_right _ (List.mem_append_right _ (List.mem_append_right _ (List.mem_append_right _ (List.mem_append_right _ (List.mem_append_right _ (List.mem_append_right _ (List.mem_append_right _ (List.mem_append_right _ (List.mem_append_right _ (List.mem_append_left _ (List.mem_of_getElem? (i := 7) rfl)))))))))))))))))))))))))))
theorem wd_408 : Cond.code yX4_found cX4_found 3 (some .int) ∈ al_W := (List.mem_append_right _ (List.mem_append_right _ (List.mem_append_right _ (List.mem_append_right _ (List.mem_append_right _ (List.mem_append_right _ (List.mem_append_right _ (List.mem_append_right _ (List.mem_append_right _ (List.mem_append_right _ (List.mem_append_right _ (List.mem_append_right _ (List.mem_append_right _ (List.mem_append_right _ (List.mem_append_right _ (List.mem_append_right _ (List.mem_append_right _ (List.mem_append_right _ (List.mem_append_right _ (List.mem_append_right _ (List.mem_append_right _ (List.mem_append_right _ (List.mem_append_right _ (List.mem_append_right _ (List.mem_append_right _ (List.mem_append_left _ (List.mem_of_getElem? (i := 8) rfl)))))))))))))))))))))))))))
theorem wd_409 : Cond.methodLink RL 81 yX4_back ∈ al_W := (List.mem_append_right _ (List.mem_append_right _ (List.mem_append_right _ (List.mem_append_right _ (List.mem_append_right _ (List.mem_append_right _ (List.mem_append_right _ (List.mem_append_right _ (List.mem_append_right _ (List.mem_append_right _ (List.mem_append_right _ (List.mem_append_right _ (List.mem_append_right _ (List.mem_append_right _ (List.mem_append_right _ (List.mem_append_right _ (List.mem_append_right _ (List.mem_append_right _ (List.mem_append_right _ (List.mem_append_right _ (List.mem_append_right _ (List.mem_append_right _ (List.mem_append_right _ (List.mem_append_right _ (List.mem_append_right _ (List.mem_append_left _ (List.mem_of_getElem? (i := 9) rfl)))))))))))))))))))))))))))
theorem wd_410 : Cond.instanceMethod yX4_back ∈ al_W := (List.mem_append_right _ (List.mem_append_right _ (List.mem_append_right _ (List.mem_append_right _ (List.mem_append_right _ (List.mem_append_right _ (List.mem_append_right _ (List.mem_append_right _ (List.mem_append_right _ (List.mem_append_right _ (List.mem_append_right _ (List.mem_append_right _ (List.mem_append_right _ (List.mem_append_right _ (List.mem_append_right _ (List.mem_append_right _ (List.mem_append_right _ (List.mem_append_right _ (List.mem_append_right _ (List.mem_append_right _ (List.mem_append_right _ (List.mem_append_right _ (List.mem_append_right _ (List.mem_append_right _ (List.mem_append_right _ (List.mem_append_left _ (List.mem_of_getElem? (i := 10) rfl)))))))))))))))))))))))))))
theorem wd_411 : Cond.selects RX4 yX4_back yX4_back ∈ al_W := (List.mem_append_right _ (List.mem_append_right _ (List.mem_append_right _ (List.mem_append_right _ (List.mem_append_right _ (List.mem_append_right _ (List.mem_append_right _ (List.mem_append_right _ (List.mem_append_right _ (List.mem_append_right _ (List.mem_append_right _ (List.mem_append_right _ (List.mem_append_right _ (List.mem_append_right _ (List.mem_append_right _ (List.mem_append_right _ (List.mem_append_right _ (List.mem_append_right _ (List.mem_append_right _ (List.mem_append_right _ (List.mem_append_right _ (List.mem_append_right _ (List.mem_append_right _ (List.mem_append_right _ (List.mem_append_right _ (List.mem_append_left _ (List.mem_of_getElem? (i := 11) rfl)))))))))))))))))))))))))))
theorem wd_412 : Cond.code yX4_back cX4_back 3 (some .int) ∈ al_W := (List.mem_append_right _ (List.mem_append_right _ (List.mem_append_right _ (List.mem_append_right _ (List.mem_append_right _ (List.mem_append_right _ (List.mem_append_right _ (List.mem_append_right _ (List.mem_append_right _ (List.mem_append_right _ (List.mem_append_right _ (List.mem_append_right _ (List.mem_append_right _ (List.mem_append_right _ (List.mem_append_right _ (List.mem_append_right _ (List.mem_append_right _ (List.mem_append_right _ (List.mem_append_right _ (List.mem_append_right _ (List.mem_append_right _ (List.mem_append_right _ (List.mem_append_right _ (List.mem_append_right _ (List.mem_append_right _ (List.mem_append_left _ (List.mem_of_getElem? (i := 12) rfl)))))))))))))))))))))))))))
theorem wd_413 : Cond.methodLink RL 85 yX4_appeal ∈ al_W := (List.mem_append_right _ (List.mem_append_right _ (List.mem_append_right _ (List.mem_append_right _ (List.mem_append_right _ (List.mem_append_right _ (List.mem_append_right _ (List.mem_append_right _ (List.mem_append_right _ (List.mem_append_right _ (List.mem_append_right _ (List.mem_append_right _ (List.mem_append_right _ (List.mem_append_right _ (List.mem_append_right _ (List.mem_append_right _ (List.mem_append_right _ (List.mem_append_right _ (List.mem_append_right _ (List.mem_append_right _ (List.mem_append_right _ (List.mem_append_right _ (List.mem_append_right _ (List.mem_append_right _ (List.mem_append_right _ (List.mem_append_left _ (List.mem_of_getElem? (i := 13) rfl)))))))))))))))))))))))))))
theorem wd_414 : Cond.instanceMethod yX4_appeal ∈ al_W := (List.mem_append_right _ (List.mem_append_right _ (List.mem_append_right _ (List.mem_append_right _ (List.mem_append_right _ (List.mem_append_right _ (List.mem_append_right _ (List.mem_append_right _ (List.mem_append_right _ (List.mem_append_right _ (List.mem_append_right _ (List.mem_append_right _ (List.mem_append_right _ (List.mem_append_right _ (List.mem_append_right _ (List.mem_append_right _ (List.mem_append_right _ (List.mem_append_right _ (List.mem_append_right _ (List.mem_append_right _ (List.mem_append_right _ (List.mem_append_right _ (List.mem_append_right _ (List.mem_append_right _ (List.mem_append_right _ (List.mem_append_left _ (List.mem_of_getElem? (i := 14) rfl)))))))))))))))))))))))))))
theorem wd_415 : Cond.selects RX4 yX4_appeal yX4_appeal ∈ al_W := (List.mem_append_right _ (List.mem_append_right _ (List.mem_append_right _ (List.mem_append_right _ (List.mem_append_right _ (List.mem_append_right _ (List.mem_append_right _ (List.mem_append_right _ (List.mem_append_right _ (List.mem_append_right _ (List.mem_append_right _ (List.mem_append_right _ (List.mem_append_right _ (List.mem_append_right _ (List.mem_append_right _ (List.mem_append_right _ (List.mem_append_right _ (List.mem_append_right _ (List.mem_append_right _ (List.mem_append_right _ (List.mem_append_right _ (List.mem_append_right _ (List.mem_append_right _ (List.mem_append_right _ (List.mem_append_right _ (List.mem_append_left _ (List.mem_of_getElem? (i := 15) rfl)))))))))))))))))))))))))))
theorem wd_416 : Cond.code yX4_appeal cX4_appeal 3 (some .int) ∈ al_W := (List.mem_append_right _ (List.mem_append_right _ (List.mem_append_right _ (List.mem_append_right _ (List.mem_append_right _ (List.mem_append_right _ (List.mem_append_right _ (List.mem_append_right _ (List.mem_append_right _ (List.mem_append_right _ (List.mem_append_right _ (List.mem_append_right _ (List.mem_append_right _ (List.mem_append_right _ (List.mem_append_right _ (List.mem_append_right _ (List.mem_append_right _ (List.mem_append_right _ (List.mem_append_right _ (List.mem_append_right _ (List.mem_append_right _ (List.mem_append_right _ (List.mem_append_right _ (List.mem_append_right _ (List.mem_append_right _ (List.mem_append_right _ (List.mem_append_left _ (List.mem_of_getElem? (i := 0) rfl))))))))))))))))))))))))))))
theorem wd_417 : Cond.methodLink RL 90 yX4_paid ∈ al_W := (List.mem_append_right _ (List.mem_append_right _ (List.mem_append_right _ (List.mem_append_right _ (List.mem_append_right _ (List.mem_append_right _ (List.mem_append_right _ (List.mem_append_right _ (List.mem_append_right _ (List.mem_append_right _ (List.mem_append_right _ (List.mem_append_right _ (List.mem_append_right _ (List.mem_append_right _ (List.mem_append_right _ (List.mem_append_right _ (List.mem_append_right _ (List.mem_append_right _ (List.mem_append_right _ (List.mem_append_right _ (List.mem_append_right _ (List.mem_append_right _ (List.mem_append_right _ (List.mem_append_right _ (List.mem_append_right _ (List.mem_append_right _ (List.mem_append_left _ (List.mem_of_getElem? (i := 1) rfl))))))))))))))))))))))))))))
theorem wd_418 : Cond.instanceMethod yX4_paid ∈ al_W := (List.mem_append_right _ (List.mem_append_right _ (List.mem_append_right _ (List.mem_append_right _ (List.mem_append_right _ (List.mem_append_right _ (List.mem_append_right _ (List.mem_append_right _ (List.mem_append_right _ (List.mem_append_right _ (List.mem_append_right _ (List.mem_append_right _ (List.mem_append_right _ (List.mem_append_right _ (List.mem_append_right _ (List.mem_append_right _ (List.mem_append_right _ (List.mem_append_right _ (List.mem_append_right _ (List.mem_append_right _ (List.mem_append_right _ (List.mem_append_right _ (List.mem_append_right _ (List.mem_append_right _ (List.mem_append_right _ (List.mem_append_right _ (List.mem_append_left _ (List.mem_of_getElem? (i := 2) rfl))))))))))))))))))))))))))))
theorem wd_419 : Cond.selects RX4 yX4_paid yX4_paid ∈ al_W := (List.mem_append_right _ (List.mem_append_right _ (List.mem_append_right _ (List.mem_append_right _ (List.mem_append_right _ (List.mem_append_right _ (List.mem_append_right _ (List.mem_append_right _ (List.mem_append_right _ (List.mem_append_right _ (List.mem_append_right _ (List.mem_append_right _ (List.mem_append_right _ (List.mem_append_right _ (List.mem_append_right _ (List.mem_append_right _ (List.mem_append_right _ (List.mem_append_right _ (List.mem_append_right _ (List.mem_append_right _ (List.mem_append_right _ (List.mem_append_right _ (List.mem_append_right _ (List.mem_append_right _ (List.mem_append_right _ (List.mem_append_right _ (List.mem_append_left _ (List.mem_of_getElem? (i := 3) rfl))))))))))))))))))))))))))))
theorem wd_420 : Cond.code yX4_paid cX4_paid 5 (some .boolean) ∈ al_W := (List.mem_append_right _ (List.mem_append_right _ (List.mem_append_right _ (List.mem_append_right _ (List.mem_append_right _ (List.mem_append_right _ (List.mem_append_right _ (List.mem_append_right _ (List.mem_append_right _ (List.mem_append_right _ (List.mem_append_right _ (List.mem_append_right _ (List.mem_append_right _ (List.mem_append_right _ (List.mem_append_right _ (List.mem_append_right _ (List.mem_append_right _ (List.mem_append_right _ (List.mem_append_right _ (List.mem_append_right _ (List.mem_append_right _ (List.mem_append_right _ (List.mem_append_right _ (List.mem_append_right _ (List.mem_append_right _ (List.mem_append_right _ (List.mem_append_left _ (List.mem_of_getElem? (i := 4) rfl))))))))))))))))))))))))))))
theorem wd_421 : Cond.methodLink RL 94 yX4_about ∈ al_W := (List.mem_append_right _ (List.mem_append_right _ (List.mem_append_right _ (List.mem_append_right _ (List.mem_append_right _ (List.mem_append_right _ (List.mem_append_right _ (List.mem_append_right _ (List.mem_append_right _ (List.mem_append_right _ (List.mem_append_right _ (List.mem_append_right _ (List.mem_append_right _ (List.mem_append_right _ (List.mem_append_right _ (List.mem_append_right _ (List.mem_append_right _ (List.mem_append_right _ (List.mem_append_right _ (List.mem_append_right _ (List.mem_append_right _ (List.mem_append_right _ (List.mem_append_right _ (List.mem_append_right _ (List.mem_append_right _ (List.mem_append_right _ (List.mem_append_left _ (List.mem_of_getElem? (i := 5) rfl))))))))))))))))))))))))))))
theorem wd_422 : Cond.instanceMethod yX4_about ∈ al_W := (List.mem_append_right _ (List.mem_append_right _ (List.mem_append_right _ (List.mem_append_right _ (List.mem_append_right _ (List.mem_append_right _ (List.mem_append_right _ (List.mem_append_right _ (List.mem_append_right _ (List.mem_append_right _ (List.mem_append_right _ (List.mem_append_right _ (List.mem_append_right _ (List.mem_append_right _ (List.mem_append_right _ (List.mem_append_right _ (List.mem_append_right _ (List.mem_append_right _ (List.mem_append_right _ (List.mem_append_right _ (List.mem_append_right _ (List.mem_append_right _ (List.mem_append_right _ (List.mem_append_right _ (List.mem_append_right _ (List.mem_append_right _ (List.mem_append_left _ (List.mem_of_getElem? (i := 6) rfl))))))))))))))))))))))))))))
theorem wd_423 : Cond.selects RX4 yX4_about yX4_about ∈ al_W := (List.mem_append_right _ (List.mem_append_right _ (List.mem_append_right _ (List.mem_append_right _ (List.mem_append_right _ (List.mem_append_right _ (List.mem_append_right _ (List.mem_append_right _ (List.mem_append_right _ (List.mem_append_right _ (List.mem_append_right _ (List.mem_append_right _ (List.mem_append_right _ (List.mem_append_right _ (List.mem_append_right _ (List.mem_append_right _ (List.mem_append_right _ (List.mem_append_right _ (List.mem_append_right _ (List.mem_append_right _ (List.mem_append_right _ (List.mem_append_right _ (List.mem_append_right _ (List.mem_append_right _ (List.mem_append_right _ (List.mem_append_right _ (List.mem_append_left _ (List.mem_of_getElem? (i := 7) rfl))))))))))))))))))))))))))))
theorem wd_424 : Cond.code yX4_about cX4_about 3 (some .int) ∈ al_W := (List.mem_append_right _ (List.mem_append_right _ (List.mem_append_right _ (List.mem_append_right _ (List.mem_append_right _ (List.mem_append_right _ (List.mem_append_right _ (List.mem_append_right _ (List.mem_append_right _ (List.mem_append_right _ (List.mem_append_right _ (List.mem_append_right _ (List.mem_append_right _ (List.mem_append_right _ (List.mem_append_right _ (List.mem_append_right _ (List.mem_append_right _ (List.mem_append_right _ (List.mem_append_right _ (List.mem_append_right _ (List.mem_append_right _ (List.mem_append_right _ (List.mem_append_right _ (List.mem_append_right _ (List.mem_append_right _ (List.mem_append_right _ (List.mem_append_left _ (List.mem_of_getElem? (i := 8) rfl))))))))))))))))))))))))))))
theorem wd_425 : Cond.methodLink RX4 174 yX4_before ∈ al_W := (List.mem_append_right _ (List.mem_append_right _ (List.mem_append_right _ (List.mem_append_right _ (List.mem_append_right _ (List.mem_append_right _ (List.mem_append_right _ (List.mem_append_right _ (List.mem_append_right _ (List.mem_append_right _ (List.mem_append_right _ (List.mem_append_right _ (List.mem_append_right _ (List.mem_append_right _ (List.mem_append_right _ (List.mem_append_right _ (List.mem_append_right _ (List.mem_append_right _ (List.mem_append_right _ (List.mem_append_right _ (List.mem_append_right _ (List.mem_append_right _ (List.mem_append_right _ (List.mem_append_right _ (List.mem_append_right _ (List.mem_append_right _ (List.mem_append_left _ (List.mem_of_getElem? (i := 9) rfl))))))))))))))))))))))))))))
theorem wd_426 : Cond.selects RX4 yX4_before yX4_before ∈ al_W := (List.mem_append_right _ (List.mem_append_right _ (List.mem_append_right _ (List.mem_append_right _ (List.mem_append_right _ (List.mem_append_right _ (List.mem_append_right _ (List.mem_append_right _ (List.mem_append_right _ (List.mem_append_right _ (List.mem_append_right _ (List.mem_append_right _ (List.mem_append_right _ (List.mem_append_right _ (List.mem_append_right _ (List.mem_append_right _ (List.mem_append_right _ (List.mem_append_right _ (List.mem_append_right _ (List.mem_append_right _ (List.mem_append_right _ (List.mem_append_right _ (List.mem_append_right _ (List.mem_append_right _ (List.mem_append_right _ (List.mem_append_right _ (List.mem_append_left _ (List.mem_of_getElem? (i := 10) rfl))))))))))))))))))))))))))))
theorem wd_427 : Cond.instanceMethod yX4_before ∈ al_W := (List.mem_append_right _ (List.mem_append_right _ (List.mem_append_right _ (List.mem_append_right _ (List.mem_append_right _ (List.mem_append_right _ (List.mem_append_right _ (List.mem_append_right _ (List.mem_append_right _ (List.mem_append_right _ (List.mem_append_right _ (List.mem_append_right _ (List.mem_append_right _ (List.mem_append_right _ (List.mem_append_right _ (List.mem_append_right _ (List.mem_append_right _ (List.mem_append_right _ (List.mem_append_right _ (List.mem_append_right _ (List.mem_append_right _ (List.mem_append_right _ (List.mem_append_right _ (List.mem_append_right _ (List.mem_append_right _ (List.mem_append_right _ (List.mem_append_left _ (List.mem_of_getElem? (i := 11) rfl))))))))))))))))))))))))))))
theorem wd_428 : Cond.code yX4_before cX4_before 4 (some .int) ∈ al_W := (List.mem_append_right _ (List.mem_append_right _ (List.mem_append_right _ (List.mem_append_right _ (List.mem_append_right _ (List.mem_append_right _ (List.mem_append_right _ (List.mem_append_right _ (List.mem_append_right _ (List.mem_append_right _ (List.mem_append_right _ (List.mem_append_right _ (List.mem_append_right _ (List.mem_append_right _ (List.mem_append_right _ (List.mem_append_right _ (List.mem_append_right _ (List.mem_append_right _ (List.mem_append_right _ (List.mem_append_right _ (List.mem_append_right _ (List.mem_append_right _ (List.mem_append_right _ (List.mem_append_right _ (List.mem_append_right _ (List.mem_append_right _ (List.mem_append_left _ (List.mem_of_getElem? (i := 12) rfl))))))))))))))))))))))))))))
theorem wd_429 : Cond.methodLink RL 98 yX4_letter ∈ al_W := (List.mem_append_right _ (List.mem_append_right _ (List.mem_append_right _ (List.mem_append_right _ (List.mem_append_right _ (List.mem_append_right _ (List.mem_append_right _ (List.mem_append_right _ (List.mem_append_right _ (List.mem_append_right _ (List.mem_append_right _ (List.mem_append_right _ (List.mem_append_right _ (List.mem_append_right _ (List.mem_append_right _ (List.mem_append_right _ (List.mem_append_right _ (List.mem_append_right _ (List.mem_append_right _ (List.mem_append_right _ (List.mem_append_right _ (List.mem_append_right _ (List.mem_append_right _ (List.mem_append_right _ (List.mem_append_right _ (List.mem_append_right _ (List.mem_append_left _ (List.mem_of_getElem? (i := 13) rfl))))))))))))))))))))))))))))
theorem wd_430 : Cond.instanceMethod yX4_letter ∈ al_W := (List.mem_append_right _ (List.mem_append_right _ (List.mem_append_right _ (List.mem_append_right _ (List.mem_append_right _ (List.mem_append_right _ (List.mem_append_right _ (List.mem_append_right _ (List.mem_append_right _ (List.mem_append_right _ (List.mem_append_right _ (List.mem_append_right _ (List.mem_append_right _ (List.mem_append_right _ (List.mem_append_right _ (List.mem_append_right _ (List.mem_append_right _ (List.mem_append_right _ (List.mem_append_right _ (List.mem_append_right _ (List.mem_append_right _ (List.mem_append_right _ (List.mem_append_right _ (List.mem_append_right _ (List.mem_append_right _ (List.mem_append_right _ (List.mem_append_left _ (List.mem_of_getElem? (i := 14) rfl))))))))))))))))))))))))))))
theorem wd_431 : Cond.selects RX4 yX4_letter yX4_letter ∈ al_W := (List.mem_append_right _ (List.mem_append_right _ (List.mem_append_right _ (List.mem_append_right _ (List.mem_append_right _ (List.mem_append_right _ (List.mem_append_right _ (List.mem_append_right _ (List.mem_append_right _ (List.mem_append_right _ (List.mem_append_right _ (List.mem_append_right _ (List.mem_append_right _ (List.mem_append_right _ (List.mem_append_right _ (List.mem_append_right _ (List.mem_append_right _ (List.mem_append_right _ (List.mem_append_right _ (List.mem_append_right _ (List.mem_append_right _ (List.mem_append_right _ (List.mem_append_right _ (List.mem_append_right _ (List.mem_append_right _ (List.mem_append_right _ (List.mem_append_left _ (List.mem_of_getElem? (i := 15) rfl))))))))))))))))))))))))))))
theorem wd_432 : Cond.code yX4_letter cX4_letter 3 (some .int) ∈ al_W := (List.mem_append_right _ (List.mem_append_right _ (List.mem_append_right _ (List.mem_append_right _ (List.mem_append_right _ (List.mem_append_right _ (List.mem_append_right _ (List.mem_append_right _ (List.mem_append_right _ (List.mem_append_right _ (List.mem_append_right _ (List.mem_append_right _ (List.mem_append_right _ (List.mem_append_right _ (List.mem_append_right _ (List.mem_append_right _ (List.mem_append_right _ (List.mem_append_right _ (List.mem_append_right _ (List.mem_append_right _ (List.mem_append_right _ (List.mem_append_right _ (List.mem_append_right _ (List.mem_append_right _ (List.mem_append_right _ (List.mem_append_right _ (List.mem_append_right _ (List.mem_append_left _ (List.mem_of_getElem? (i := 0) rfl)))))))))))))))))))))))))))))
theorem wd_433 : Cond.methodLink RL 102 yX4_all ∈ al_W := (List.mem_append_right _ (List.mem_append_right _ (List.mem_append_right _ (List.mem_append_right _ (List.mem_append_right _ (List.mem_append_right _ (List.mem_append_right _ (List.mem_append_right _ (List.mem_append_right _ (List.mem_append_right _ (List.mem_append_right _ (List.mem_append_right _ (List.mem_append_right _ (List.mem_append_right _ (List.mem_append_right _ (List.mem_append_right _ (List.mem_append_right _ (List.mem_append_right _ (List.mem_append_right _ (List.mem_append_right _ (List.mem_append_right _ (List.mem_append_right _ (List.mem_append_right _ (List.mem_append_right _ (List.mem_append_right _ (List.mem_append_right _ (List.mem_append_right _ (List.mem_append_left _ (List.mem_of_getElem? (i := 1) rfl)))))))))))))))))))))))))))))
theorem wd_434 : Cond.instanceMethod yX4_all ∈ al_W := (List.mem_append_right _ (List.mem_append_right _ (List.mem_append_right _ (List.mem_append_right _ (List.mem_append_right _ (List.mem_append_right _ (List.mem_append_right _ (List.mem_append_right _ (List.mem_append_right _ (List.mem_append_right _ (List.mem_append_right _ (List.mem_append_right _ (List.mem_append_right _ (List.mem_append_right _ (List.mem_append_right _ (List.mem_append_right _ (List.mem_append_right _ (List.mem_append_right _ (List.mem_append_right _ (List.mem_append_right _ (List.mem_append_right _ (List.mem_append_right _ (List.mem_append_right _ (List.mem_append_right _ (List.mem_append_right _ (List.mem_append_right _ (List.mem_append_right _ (List.mem_append_left _ (List.mem_of_getElem? (i := 2) rfl)))))))))))))))))))))))))))))
theorem wd_435 : Cond.selects RX4 yX4_all yX4_all ∈ al_W := (List.mem_append_right _ (List.mem_append_right _ (List.mem_append_right _ (List.mem_append_right _ (List.mem_append_right _ (List.mem_append_right _ (List.mem_append_right _ (List.mem_append_right _ (List.mem_append_right _ (List.mem_append_right _ (List.mem_append_right _ (List.mem_append_right _ (List.mem_append_right _ (List.mem_append_right _ (List.mem_append_right _ (List.mem_append_right _ (List.mem_append_right _ (List.mem_append_right _ (List.mem_append_right _ (List.mem_append_right _ (List.mem_append_right _ (List.mem_append_right _ (List.mem_append_right _ (List.mem_append_right _ (List.mem_append_right _ (List.mem_append_right _ (List.mem_append_right _ (List.mem_append_left _ (List.mem_of_getElem? (i := 3) rfl)))))))))))))))))))))))))))))
theorem wd_436 : Cond.code yX4_all cX4_all 2 (some .long) ∈ al_W := (List.mem_append_right _ (List.mem_append_right _ (List.mem_append_right _ (List.mem_append_right _ (List.mem_append_right _ (List.mem_append_right _ (List.mem_append_right _ (List.mem_append_right _ (List.mem_append_right _ (List.mem_append_right _ (List.mem_append_right _ (List.mem_append_right _ (List.mem_append_right _ (List.mem_append_right _ (List.mem_append_right _ (List.mem_append_right _ (List.mem_append_right _ (List.mem_append_right _ (List.mem_append_right _ (List.mem_append_right _ (List.mem_append_right _ (List.mem_append_right _ (List.mem_append_right _ (List.mem_append_right _ (List.mem_append_right _ (List.mem_append_right _ (List.mem_append_right _ (List.mem_append_left _ (List.mem_of_getElem? (i := 4) rfl)))))))))))))))))))))))))))))
theorem wd_437 : Cond.constantLong RL 13 4294967295 ∈ al_W := (List.mem_append_right _ (List.mem_append_right _ (List.mem_append_right _ (List.mem_append_right _ (List.mem_append_right _ (List.mem_append_right _ (List.mem_append_right _ (List.mem_append_right _ (List.mem_append_right _ (List.mem_append_right _ (List.mem_append_right _ (List.mem_append_right _ (List.mem_append_right _ (List.mem_append_right _ (List.mem_append_right _ (List.mem_append_right _ (List.mem_append_right _ (List.mem_append_right _ (List.mem_append_right _ (List.mem_append_right _ (List.mem_append_right _ (List.mem_append_right _ (List.mem_append_right _ (List.mem_append_right _ (List.mem_append_right _ (List.mem_append_right _ (List.mem_append_right _ (List.mem_append_left _ (List.mem_of_getElem? (i := 5) rfl)))))))))))))))))))))))))))))
theorem wu_X0 : ∀ w ∈ u_ws RX0 TX0 13, w ∈ al_W := fun _ h => (List.mem_append_right _ (List.mem_append_right _ (List.mem_append_right _ (List.mem_append_right _ (List.mem_append_right _ (List.mem_append_right _ (List.mem_append_right _ (List.mem_append_right _ (List.mem_append_right _ (List.mem_append_right _ (List.mem_append_right _ (List.mem_append_right _ (List.mem_append_right _ (List.mem_append_right _ (List.mem_append_right _ (List.mem_append_right _ (List.mem_append_right _ (List.mem_append_right _ (List.mem_append_right _ (List.mem_append_right _ (List.mem_append_right _ (List.mem_append_right _ (List.mem_append_right _ (List.mem_append_right _ (List.mem_append_right _ (List.mem_append_right _ (List.mem_append_right _ (List.mem_append_right _ (List.mem_append_left _ h)))))))))))))))))))))))))))))
theorem wu_X1 : ∀ w ∈ u_ws RX1 TX1 9, w ∈ al_W := fun _ h => (List.mem_append_right _ (List.mem_append_right _ (List.mem_append_right _ (List.mem_append_right _ (List.mem_append_right _ (List.mem_append_right _ (List.mem_append_right _ (List.mem_append_right _ (List.mem_append_right _ (List.mem_append_right _ (List.mem_append_right _ (List.mem_append_right _ (List.mem_append_right _ (List.mem_append_right _ (List.mem_append_right _ (List.mem_append_right _ (List.mem_append_right _ (List.mem_append_right _ (List.mem_append_right _ (List.mem_append_right _ (List.mem_append_right _ (List.mem_append_right _ (List.mem_append_right _ (List.mem_append_right _ (List.mem_append_right _ (List.mem_append_right _ (List.mem_append_right _ (List.mem_append_right _ (List.mem_append_right _ (List.mem_append_left _ h))))))))))))))))))))))))))))))
theorem wu_X2 : ∀ w ∈ u_ws RX2 TX2 3, w ∈ al_W := fun _ h => (List.mem_append_right _ (List.mem_append_right _ (List.mem_append_right _ (List.mem_append_right _ (List.mem_append_right _ (List.mem_append_right _ (List.mem_append_right _ (List.mem_append_right _ (List.mem_append_right _ (List.mem_append_right _ (List.mem_append_right _ (List.mem_append_right _ (List.mem_append_right _ (List.mem_append_right _ (List.mem_append_right _ (List.mem_append_right _ (List.mem_append_right _ (List.mem_append_right _ (List.mem_append_right _ (List.mem_append_right _ (List.mem_append_right _ (List.mem_append_right _ (List.mem_append_right _ (List.mem_append_right _ (List.mem_append_right _ (List.mem_append_right _ (List.mem_append_right _ (List.mem_append_right _ (List.mem_append_right _ (List.mem_append_right _ (List.mem_append_left _ h)))))))))))))))))))))))))))))))
theorem wu_X3 : ∀ w ∈ u_ws RX3 TX3 16, w ∈ al_W := fun _ h => (List.mem_append_right _ (List.mem_append_right _ (List.mem_append_right _ (List.mem_append_right _ (List.mem_append_right _ (List.mem_append_right _ (List.mem_append_right _ (List.mem_append_right _ (List.mem_append_right _ (List.mem_append_right _ (List.mem_append_right _ (List.mem_append_right _ (List.mem_append_right _ (List.mem_append_right _ (List.mem_append_right _ (List.mem_append_right _ (List.mem_append_right _ (List.mem_append_right _ (List.mem_append_right _ (List.mem_append_right _ (List.mem_append_right _ (List.mem_append_right _ (List.mem_append_right _ (List.mem_append_right _ (List.mem_append_right _ (List.mem_append_right _ (List.mem_append_right _ (List.mem_append_right _ (List.mem_append_right _ (List.mem_append_right _ (List.mem_append_right _ (List.mem_append_left _ h))))))))))))))))))))))))))))))))
theorem wu_X4 : ∀ w ∈ u_ws RX4 TX4 33, w ∈ al_W := fun _ h => (List.mem_append_right _ (List.mem_append_right _ (List.mem_append_right _ (List.mem_append_right _ (List.mem_append_right _ (List.mem_append_right _ (List.mem_append_right _ (List.mem_append_right _ (List.mem_append_right _ (List.mem_append_right _ (List.mem_append_right _ (List.mem_append_right _ (List.mem_append_right _ (List.mem_append_right _ (List.mem_append_right _ (List.mem_append_right _ (List.mem_append_right _ (List.mem_append_right _ (List.mem_append_right _ (List.mem_append_right _ (List.mem_append_right _ (List.mem_append_right _ (List.mem_append_right _ (List.mem_append_right _ (List.mem_append_right _ (List.mem_append_right _ (List.mem_append_right _ (List.mem_append_right _ (List.mem_append_right _ (List.mem_append_right _ (List.mem_append_right _ (List.mem_append_right _ h))))))))))))))))))))))))))))))))
theorem al_ok : al_W.all goodWord = true := by decide +kernel
theorem al_g {c c1 : Cond} (h : c1 ∈ al_W) : GoodIn (c :: al_W) (c1 :: al_W) := fun w hw => by
  have hm : w ∈ al_W := by rcases List.mem_cons.mp hw with rfl | z
                           · exact h
                           · exact z
  exact ⟨List.mem_cons_of_mem _ hm, good_of_word (List.all_eq_true.mp al_ok w hm)⟩
theorem al_gS {c c1 : Cond} {own : String} {i : Nat} {y : MethodName} (h1 : Cond.methodLink own i y ∈ al_W) (h2 : Cond.static y ∈ al_W) (h3 : Cond.initialized y.cls ∈ al_W) (h : c1 ∈ al_W) : GoodIn (c :: al_W) (va_wsS own i y (c1 :: al_W)) := fun w hw => by
  rcases List.mem_append.mp hw with z | z
  · have hm : w ∈ al_W := by
      rcases List.mem_cons.mp z with rfl | z
      · exact h1
      · rcases List.mem_cons.mp z with rfl | z
        · exact h2
        · rcases List.mem_singleton.mp z with rfl
          exact h3
    exact ⟨List.mem_cons_of_mem _ hm, good_of_word (List.all_eq_true.mp al_ok w hm)⟩
  · exact al_g h w z
theorem al_gV {c c1 : Cond} {own C : String} {i : Nat} {y : MethodName} (h1 : Cond.methodLink own i y ∈ al_W) (h2 : Cond.instanceMethod y ∈ al_W) (h3 : Cond.selects C y y ∈ al_W) (h4 : Cond.initialized C ∈ al_W) (h : c1 ∈ al_W) : GoodIn (c :: al_W) (wsV own i C y (c1 :: al_W)) := fun w hw => by
  rcases List.mem_append.mp hw with z | z
  · have hm : w ∈ al_W := by
      rcases List.mem_cons.mp z with rfl | z
      · exact h1
      · rcases List.mem_cons.mp z with rfl | z
        · exact h2
        · rcases List.mem_cons.mp z with rfl | z
          · exact h3
          · rcases List.mem_singleton.mp z with rfl
            exact h4
    exact ⟨List.mem_cons_of_mem _ hm, good_of_word (List.all_eq_true.mp al_ok w hm)⟩
  · exact al_g h w z
abbrev wsX3_init : List Cond := .code yX3_init cX3_init 1 none :: al_W
abbrev wsX3_item : List Cond := .code yX3_item cX3_item 8 (some .int) :: al_W
abbrev wsX3_isBelow : List Cond := .code yX3_isBelow cX3_isBelow 2 (some .boolean) :: al_W
abbrev wsX3_areCents : List Cond := .code yX3_areCents cX3_areCents 2 (some .boolean) :: al_W
abbrev wsX3_isWithin : List Cond := .code yX3_isWithin cX3_isWithin 6 (some .boolean) :: al_W
abbrev wsX1_init : List Cond := .code yX1_init cX1_init 8 none :: al_W
abbrev wsX3_pass : List Cond := .code yX3_pass cX3_pass 5 (some .int) :: al_W
abbrev wsX3_itemNumbered : List Cond := .code yX3_itemNumbered cX3_itemNumbered 2 (some (.object "ClaimRows$Item")) :: al_W
abbrev wsX1_addPost : List Cond := .code yX1_addPost cX1_addPost 3 none :: al_W
abbrev wsX3_table : List Cond := .code yX3_table cX3_table 7 (some .int) :: al_W
abbrev wsX3_rowOf : List Cond := .code yX3_rowOf cX3_rowOf 2 (some .int) :: al_W
abbrev wsX3_claim : List Cond := .code yX3_claim cX3_claim 7 (some .int) :: al_W
abbrev wsX3_mayClaim : List Cond := .code yX3_mayClaim cX3_mayClaim 2 (some .boolean) :: al_W
abbrev wsX3_standingClaim : List Cond := .code yX3_standingClaim cX3_standingClaim 5 (some (.object "ClaimRows$Claim")) :: al_W
abbrev wsX3_claimNumbered : List Cond := .code yX3_claimNumbered cX3_claimNumbered 2 (some (.object "ClaimRows$Claim")) :: al_W
abbrev wsX3_claimsOfSender : List Cond := .code yX3_claimsOfSender cX3_claimsOfSender 5 (some .int) :: al_W
abbrev wsX0_init : List Cond := .code yX0_init cX0_init 6 none :: al_W
abbrev wsX3_send : List Cond := .code yX3_send cX3_send 3 none :: al_W
abbrev wsX3_proof : List Cond := .code yX3_proof cX3_proof 6 (some .int) :: al_W
abbrev wsJ6_bitCount : List Cond := .code yJ6_bitCount cJ6_bitCount 1 (some .int) :: al_W
abbrev wsX3_search : List Cond := .code yX3_search cX3_search 5 (some .int) :: al_W
abbrev wsX2_init : List Cond := .code yX2_init cX2_init 3 none :: al_W
abbrev wsX0_addSearch : List Cond := .code yX0_addSearch cX0_addSearch 1 none :: al_W
abbrev wsX3_answer : List Cond := .code yX3_answer cX3_answer 4 (some .int) :: al_W
abbrev wsX3_searchNumbered : List Cond := .code yX3_searchNumbered cX3_searchNumbered 2 (some (.object "ClaimRows$Search")) :: al_W
abbrev wsX2_close : List Cond := .code yX2_close cX2_close 2 none :: al_W
abbrev wsX0_endSearch : List Cond := .code yX0_endSearch cX0_endSearch 2 none :: al_W
abbrev wsX3_tick : List Cond := .code yX3_tick cX3_tick 5 (some .int) :: al_W
abbrev wsX3_sum : List Cond := .code yX3_sum cX3_sum 3 (some .long) :: al_W
abbrev wsX3_sumByTable : List Cond := .code yX3_sumByTable cX3_sumByTable 7 (some .long) :: al_W
abbrev wsJ9_min_long : List Cond := .code yJ9_min_long cJ9_min_long 4 (some .long) :: al_W
abbrev wsX3_limit : List Cond := .code yX3_limit cX3_limit 4 (some .int) :: al_W
abbrev wsX3_decide : List Cond := .code yX3_decide cX3_decide 6 (some .int) :: al_W
abbrev wsX0_isReady : List Cond := .code yX0_isReady cX0_isReady 1 (some .boolean) :: al_W
abbrev wsX3_refuse : List Cond := .code yX3_refuse cX3_refuse 2 (some .int) :: al_W
abbrev wsX3_pay : List Cond := .code yX3_pay cX3_pay 4 (some .int) :: al_W
abbrev wsX3_share : List Cond := .code yX3_share cX3_share 4 (some .long) :: al_W
abbrev wsX1_partOf : List Cond := .code yX1_partOf cX1_partOf 12 (some .long) :: al_W
abbrev wsX3_found : List Cond := .code yX3_found cX3_found 4 (some .int) :: al_W
abbrev wsX3_back : List Cond := .code yX3_back cX3_back 4 (some .int) :: al_W
abbrev wsX3_appeal : List Cond := .code yX3_appeal cX3_appeal 3 (some .int) :: al_W
abbrev wsX0_reopen : List Cond := .code yX0_reopen cX0_reopen 1 none :: al_W
abbrev wsX3_paid : List Cond := .code yX3_paid cX3_paid 4 (some .boolean) :: al_W
abbrev wsX3_about : List Cond := .code yX3_about cX3_about 4 (some .int) :: al_W
abbrev wsX3_letter : List Cond := .code yX3_letter cX3_letter 3 (some .int) :: al_W
abbrev wsJ9_min : List Cond := .code yJ9_min cJ9_min 2 (some .int) :: al_W
abbrev wsX3_all : List Cond := .code yX3_all cX3_all 2 (some .long) :: al_W
abbrev wsX4_init : List Cond := .code yX4_init cX4_init 1 none :: al_W
abbrev wsX4_item : List Cond := .code yX4_item cX4_item 8 (some .int) :: al_W
abbrev wsX4_isIn : List Cond := .code yX4_isIn cX4_isIn 6 (some .boolean) :: al_W
abbrev wsX4_pass : List Cond := .code yX4_pass cX4_pass 5 (some .int) :: al_W
abbrev wsX4_isItem : List Cond := .code yX4_isItem cX4_isItem 2 (some .boolean) :: al_W
abbrev wsX4_table : List Cond := .code yX4_table cX4_table 6 (some .int) :: al_W
abbrev wsX4_claim : List Cond := .code yX4_claim cX4_claim 6 (some .int) :: al_W
abbrev wsX4_other : List Cond := .code yX4_other cX4_other 6 (some .int) :: al_W
abbrev wsX4_send : List Cond := .code yX4_send cX4_send 3 none :: al_W
abbrev wsX4_proof : List Cond := .code yX4_proof cX4_proof 4 (some .int) :: al_W
abbrev wsX4_isClaim : List Cond := .code yX4_isClaim cX4_isClaim 2 (some .boolean) :: al_W
abbrev wsX4_needs : List Cond := .code yX4_needs cX4_needs 2 (some .boolean) :: al_W
abbrev wsX4_lacks : List Cond := .code yX4_lacks cX4_lacks 4 (some .int) :: al_W
abbrev wsX4_search : List Cond := .code yX4_search cX4_search 4 (some .int) :: al_W
abbrev wsX4_answer : List Cond := .code yX4_answer cX4_answer 3 (some .int) :: al_W
abbrev wsX4_tick : List Cond := .code yX4_tick cX4_tick 4 (some .int) :: al_W
abbrev wsX4_sum : List Cond := .code yX4_sum cX4_sum 2 (some .long) :: al_W
abbrev wsX4_sumNow : List Cond := .code yX4_sumNow cX4_sumNow 8 (some .long) :: al_W
abbrev wsX4_limit : List Cond := .code yX4_limit cX4_limit 4 (some .int) :: al_W
abbrev wsX4_decide : List Cond := .code yX4_decide cX4_decide 6 (some .int) :: al_W
abbrev wsX4_many : List Cond := .code yX4_many cX4_many 5 (some .int) :: al_W
abbrev wsX4_share : List Cond := .code yX4_share cX4_share 13 (some .long) :: al_W
abbrev wsX4_found : List Cond := .code yX4_found cX4_found 3 (some .int) :: al_W
abbrev wsX4_back : List Cond := .code yX4_back cX4_back 3 (some .int) :: al_W
abbrev wsX4_appeal : List Cond := .code yX4_appeal cX4_appeal 3 (some .int) :: al_W
abbrev wsX4_paid : List Cond := .code yX4_paid cX4_paid 5 (some .boolean) :: al_W
abbrev wsX4_about : List Cond := .code yX4_about cX4_about 3 (some .int) :: al_W
abbrev wsX4_before : List Cond := .code yX4_before cX4_before 4 (some .int) :: al_W
abbrev wsX4_letter : List Cond := .code yX4_letter cX4_letter 3 (some .int) :: al_W
abbrev wsX4_all : List Cond := .code yX4_all cX4_all 2 (some .long) :: al_W
end
section
theorem dX3_init_0 : decode cX3_init 0 = .ok (.aload_n 0, 1) := by decide +kernel
theorem dX3_init_1 : decode cX3_init 1 = .ok (.invokespecial 1, 3) := by decide +kernel
theorem dX3_init_4 : decode cX3_init 4 = .ok (.aload_n 0, 1) := by decide +kernel
theorem dX3_init_5 : decode cX3_init 5 = .ok (.bipush 100, 2) := by decide +kernel
theorem dX3_init_7 : decode cX3_init 7 = .ok (.anewarray 9, 3) := by decide +kernel
theorem dX3_init_10 : decode cX3_init 10 = .ok (.putfield 11, 3) := by decide +kernel
theorem dX3_init_13 : decode cX3_init 13 = .ok (.aload_n 0, 1) := by decide +kernel
theorem dX3_init_14 : decode cX3_init 14 = .ok (.bipush 60, 2) := by decide +kernel
theorem dX3_init_16 : decode cX3_init 16 = .ok (.anewarray 15, 3) := by decide +kernel
theorem dX3_init_19 : decode cX3_init 19 = .ok (.putfield 17, 3) := by decide +kernel
theorem dX3_init_22 : decode cX3_init 22 = .ok (.aload_n 0, 1) := by decide +kernel
theorem dX3_init_23 : decode cX3_init 23 = .ok (.bipush 100, 2) := by decide +kernel
theorem dX3_init_25 : decode cX3_init 25 = .ok (.anewarray 21, 3) := by decide +kernel
theorem dX3_init_28 : decode cX3_init 28 = .ok (.putfield 23, 3) := by decide +kernel
theorem dX3_init_31 : decode cX3_init 31 = .ok (.aload_n 0, 1) := by decide +kernel
theorem dX3_init_32 : decode cX3_init 32 = .ok (.bipush 16, 2) := by decide +kernel
theorem dX3_init_34 : decode cX3_init 34 = .ok (.newarray .long, 2) := by decide +kernel
theorem dX3_init_36 : decode cX3_init 36 = .ok (.putfield 27, 3) := by decide +kernel
theorem dX3_init_39 : decode cX3_init 39 = .ok (.aload_n 0, 1) := by decide +kernel
theorem dX3_init_40 : decode cX3_init 40 = .ok (.bipush 16, 2) := by decide +kernel
theorem dX3_init_42 : decode cX3_init 42 = .ok (.newarray .int, 2) := by decide +kernel
theorem dX3_init_44 : decode cX3_init 44 = .ok (.putfield 31, 3) := by decide +kernel
theorem dX3_init_47 : decode cX3_init 47 = .ok (.aload_n 0, 1) := by decide +kernel
theorem dX3_init_48 : decode cX3_init 48 = .ok (.bipush 10, 2) := by decide +kernel
theorem dX3_init_50 : decode cX3_init 50 = .ok (.newarray .long, 2) := by decide +kernel
theorem dX3_init_52 : decode cX3_init 52 = .ok (.putfield 35, 3) := by decide +kernel
theorem dX3_init_55 : decode cX3_init 55 = .ok (.aload_n 0, 1) := by decide +kernel
theorem dX3_init_56 : decode cX3_init 56 = .ok (.sipush 200, 3) := by decide +kernel
theorem dX3_init_59 : decode cX3_init 59 = .ok (.newarray .int, 2) := by decide +kernel
theorem dX3_init_61 : decode cX3_init 61 = .ok (.putfield 38, 3) := by decide +kernel
theorem dX3_init_64 : decode cX3_init 64 = .ok (.aload_n 0, 1) := by decide +kernel
theorem dX3_init_65 : decode cX3_init 65 = .ok (.sipush 200, 3) := by decide +kernel
theorem dX3_init_68 : decode cX3_init 68 = .ok (.newarray .int, 2) := by decide +kernel
theorem dX3_init_70 : decode cX3_init 70 = .ok (.putfield 41, 3) := by decide +kernel
theorem dX3_init_73 : decode cX3_init 73 = .ok (.return_, 1) := by decide +kernel
theorem dX3_item_0 : decode cX3_item 0 = .ok (.iload_n 1, 1) := by decide +kernel
theorem dX3_item_1 : decode cX3_item 1 = .ok (.iconst 4, 1) := by decide +kernel
theorem dX3_item_2 : decode cX3_item 2 = .ok (.invokestatic 44, 3) := by decide +kernel
theorem dX3_item_5 : decode cX3_item 5 = .ok (.ifCond .eq 18, 3) := by decide +kernel
theorem dX3_item_8 : decode cX3_item 8 = .ok (.lload_n 2, 1) := by decide +kernel
theorem dX3_item_9 : decode cX3_item 9 = .ok (.invokestatic 48, 3) := by decide +kernel
theorem dX3_item_12 : decode cX3_item 12 = .ok (.ifCond .eq 11, 3) := by decide +kernel
theorem dX3_item_15 : decode cX3_item 15 = .ok (.lload 4, 2) := by decide +kernel
theorem dX3_item_17 : decode cX3_item 17 = .ok (.invokestatic 48, 3) := by decide +kernel
theorem dX3_item_20 : decode cX3_item 20 = .ok (.ifCond .ne 6, 3) := by decide +kernel
theorem dX3_item_23 : decode cX3_item 23 = .ok (.bipush (-102), 2) := by decide +kernel
theorem dX3_item_25 : decode cX3_item 25 = .ok (.ireturn, 1) := by decide +kernel
theorem dX3_item_26 : decode cX3_item 26 = .ok (.iload 6, 2) := by decide +kernel
theorem dX3_item_28 : decode cX3_item 28 = .ok (.i2l, 1) := by decide +kernel
theorem dX3_item_29 : decode cX3_item 29 = .ok (.lconst 0, 1) := by decide +kernel
theorem dX3_item_30 : decode cX3_item 30 = .ok (.ldc2_w 52, 3) := by decide +kernel
theorem dX3_item_33 : decode cX3_item 33 = .ok (.invokestatic 54, 3) := by decide +kernel
theorem dX3_item_36 : decode cX3_item 36 = .ok (.ifCond .eq 13, 3) := by decide +kernel
theorem dX3_item_39 : decode cX3_item 39 = .ok (.iload 7, 2) := by decide +kernel
theorem dX3_item_41 : decode cX3_item 41 = .ok (.bipush 20, 2) := by decide +kernel
theorem dX3_item_43 : decode cX3_item 43 = .ok (.invokestatic 44, 3) := by decide +kernel
theorem dX3_item_46 : decode cX3_item 46 = .ok (.ifCond .ne 6, 3) := by decide +kernel
theorem dX3_item_49 : decode cX3_item 49 = .ok (.bipush (-102), 2) := by decide +kernel
theorem dX3_item_51 : decode cX3_item 51 = .ok (.ireturn, 1) := by decide +kernel
theorem dX3_item_52 : decode cX3_item 52 = .ok (.aload_n 0, 1) := by decide +kernel
theorem dX3_item_53 : decode cX3_item 53 = .ok (.getfield 58, 3) := by decide +kernel
theorem dX3_item_56 : decode cX3_item 56 = .ok (.bipush 100, 2) := by decide +kernel
theorem dX3_item_58 : decode cX3_item 58 = .ok (.if_icmp .lt 6, 3) := by decide +kernel
theorem dX3_item_61 : decode cX3_item 61 = .ok (.bipush (-104), 2) := by decide +kernel
theorem dX3_item_63 : decode cX3_item 63 = .ok (.ireturn, 1) := by decide +kernel
theorem dX3_item_64 : decode cX3_item 64 = .ok (.aload_n 0, 1) := by decide +kernel
theorem dX3_item_65 : decode cX3_item 65 = .ok (.getfield 11, 3) := by decide +kernel
theorem dX3_item_68 : decode cX3_item 68 = .ok (.aload_n 0, 1) := by decide +kernel
theorem dX3_item_69 : decode cX3_item 69 = .ok (.getfield 58, 3) := by decide +kernel
theorem dX3_item_72 : decode cX3_item 72 = .ok (.new 9, 3) := by decide +kernel
theorem dX3_item_75 : decode cX3_item 75 = .ok (.dup, 1) := by decide +kernel
theorem dX3_item_76 : decode cX3_item 76 = .ok (.iload_n 1, 1) := by decide +kernel
theorem dX3_item_77 : decode cX3_item 77 = .ok (.lload_n 2, 1) := by decide +kernel
theorem dX3_item_78 : decode cX3_item 78 = .ok (.lload 4, 2) := by decide +kernel
theorem dX3_item_80 : decode cX3_item 80 = .ok (.iload 6, 2) := by decide +kernel
theorem dX3_item_82 : decode cX3_item 82 = .ok (.iload 7, 2) := by decide +kernel
theorem dX3_item_84 : decode cX3_item 84 = .ok (.invokespecial 62, 3) := by decide +kernel
theorem dX3_item_87 : decode cX3_item 87 = .ok (.aastore, 1) := by decide +kernel
theorem dX3_item_88 : decode cX3_item 88 = .ok (.aload_n 0, 1) := by decide +kernel
theorem dX3_item_89 : decode cX3_item 89 = .ok (.dup, 1) := by decide +kernel
theorem dX3_item_90 : decode cX3_item 90 = .ok (.getfield 58, 3) := by decide +kernel
theorem dX3_item_93 : decode cX3_item 93 = .ok (.iconst 1, 1) := by decide +kernel
theorem dX3_item_94 : decode cX3_item 94 = .ok (.iadd, 1) := by decide +kernel
theorem dX3_item_95 : decode cX3_item 95 = .ok (.putfield 58, 3) := by decide +kernel
theorem dX3_item_98 : decode cX3_item 98 = .ok (.aload_n 0, 1) := by decide +kernel
theorem dX3_item_99 : decode cX3_item 99 = .ok (.getfield 58, 3) := by decide +kernel
theorem dX3_item_102 : decode cX3_item 102 = .ok (.ireturn, 1) := by decide +kernel
theorem dX3_isBelow_0 : decode cX3_isBelow 0 = .ok (.iload_n 0, 1) := by decide +kernel
theorem dX3_isBelow_1 : decode cX3_isBelow 1 = .ok (.ifCond .lt 12, 3) := by decide +kernel
theorem dX3_isBelow_4 : decode cX3_isBelow 4 = .ok (.iload_n 0, 1) := by decide +kernel
theorem dX3_isBelow_5 : decode cX3_isBelow 5 = .ok (.iload_n 1, 1) := by decide +kernel
theorem dX3_isBelow_6 : decode cX3_isBelow 6 = .ok (.if_icmp .ge 7, 3) := by decide +kernel
theorem dX3_isBelow_9 : decode cX3_isBelow 9 = .ok (.iconst 1, 1) := by decide +kernel
theorem dX3_isBelow_10 : decode cX3_isBelow 10 = .ok (.goto 4, 3) := by decide +kernel
theorem dX3_isBelow_13 : decode cX3_isBelow 13 = .ok (.iconst 0, 1) := by decide +kernel
theorem dX3_isBelow_14 : decode cX3_isBelow 14 = .ok (.ireturn, 1) := by decide +kernel
theorem dX3_areCents_0 : decode cX3_areCents 0 = .ok (.lload_n 0, 1) := by decide +kernel
theorem dX3_areCents_1 : decode cX3_areCents 1 = .ok (.lconst 0, 1) := by decide +kernel
theorem dX3_areCents_2 : decode cX3_areCents 2 = .ok (.ldc2_w 236, 3) := by decide +kernel
theorem dX3_areCents_5 : decode cX3_areCents 5 = .ok (.invokestatic 54, 3) := by decide +kernel
theorem dX3_areCents_8 : decode cX3_areCents 8 = .ok (.ireturn, 1) := by decide +kernel
theorem dX3_isWithin_0 : decode cX3_isWithin 0 = .ok (.lload_n 0, 1) := by decide +kernel
theorem dX3_isWithin_1 : decode cX3_isWithin 1 = .ok (.lload_n 2, 1) := by decide +kernel
theorem dX3_isWithin_2 : decode cX3_isWithin 2 = .ok (.lcmp, 1) := by decide +kernel
theorem dX3_isWithin_3 : decode cX3_isWithin 3 = .ok (.ifCond .lt 14, 3) := by decide +kernel
theorem dX3_isWithin_6 : decode cX3_isWithin 6 = .ok (.lload_n 0, 1) := by decide +kernel
theorem dX3_isWithin_7 : decode cX3_isWithin 7 = .ok (.lload 4, 2) := by decide +kernel
theorem dX3_isWithin_9 : decode cX3_isWithin 9 = .ok (.lcmp, 1) := by decide +kernel
theorem dX3_isWithin_10 : decode cX3_isWithin 10 = .ok (.ifCond .gt 7, 3) := by decide +kernel
theorem dX3_isWithin_13 : decode cX3_isWithin 13 = .ok (.iconst 1, 1) := by decide +kernel
theorem dX3_isWithin_14 : decode cX3_isWithin 14 = .ok (.goto 4, 3) := by decide +kernel
theorem dX3_isWithin_17 : decode cX3_isWithin 17 = .ok (.iconst 0, 1) := by decide +kernel
theorem dX3_isWithin_18 : decode cX3_isWithin 18 = .ok (.ireturn, 1) := by decide +kernel
theorem dX1_init_0 : decode cX1_init 0 = .ok (.aload_n 0, 1) := by decide +kernel
theorem dX1_init_1 : decode cX1_init 1 = .ok (.invokespecial 3, 3) := by decide +kernel
theorem dX1_init_4 : decode cX1_init 4 = .ok (.aload_n 0, 1) := by decide +kernel
theorem dX1_init_5 : decode cX1_init 5 = .ok (.bipush 8, 2) := by decide +kernel
theorem dX1_init_7 : decode cX1_init 7 = .ok (.newarray .int, 2) := by decide +kernel
theorem dX1_init_9 : decode cX1_init 9 = .ok (.putfield 9, 3) := by decide +kernel
theorem dX1_init_12 : decode cX1_init 12 = .ok (.aload_n 0, 1) := by decide +kernel
theorem dX1_init_13 : decode cX1_init 13 = .ok (.iload_n 1, 1) := by decide +kernel
theorem dX1_init_14 : decode cX1_init 14 = .ok (.putfield 15, 3) := by decide +kernel
theorem dX1_init_17 : decode cX1_init 17 = .ok (.aload_n 0, 1) := by decide +kernel
theorem dX1_init_18 : decode cX1_init 18 = .ok (.lload_n 2, 1) := by decide +kernel
theorem dX1_init_19 : decode cX1_init 19 = .ok (.putfield 19, 3) := by decide +kernel
theorem dX1_init_22 : decode cX1_init 22 = .ok (.aload_n 0, 1) := by decide +kernel
theorem dX1_init_23 : decode cX1_init 23 = .ok (.lload 4, 2) := by decide +kernel
theorem dX1_init_25 : decode cX1_init 25 = .ok (.putfield 23, 3) := by decide +kernel
theorem dX1_init_28 : decode cX1_init 28 = .ok (.aload_n 0, 1) := by decide +kernel
theorem dX1_init_29 : decode cX1_init 29 = .ok (.iload 6, 2) := by decide +kernel
theorem dX1_init_31 : decode cX1_init 31 = .ok (.putfield 26, 3) := by decide +kernel
theorem dX1_init_34 : decode cX1_init 34 = .ok (.aload_n 0, 1) := by decide +kernel
theorem dX1_init_35 : decode cX1_init 35 = .ok (.iload 7, 2) := by decide +kernel
theorem dX1_init_37 : decode cX1_init 37 = .ok (.putfield 29, 3) := by decide +kernel
theorem dX1_init_40 : decode cX1_init 40 = .ok (.return_, 1) := by decide +kernel
theorem dX3_pass_0 : decode cX3_pass 0 = .ok (.aload_n 0, 1) := by decide +kernel
theorem dX3_pass_1 : decode cX3_pass 1 = .ok (.iload_n 1, 1) := by decide +kernel
theorem dX3_pass_2 : decode cX3_pass 2 = .ok (.invokevirtual 65, 3) := by decide +kernel
theorem dX3_pass_5 : decode cX3_pass 5 = .ok (.astore 4, 2) := by decide +kernel
theorem dX3_pass_7 : decode cX3_pass 7 = .ok (.aload 4, 2) := by decide +kernel
theorem dX3_pass_9 : decode cX3_pass 9 = .ok (.ifnonnull 6, 3) := by decide +kernel
theorem dX3_pass_12 : decode cX3_pass 12 = .ok (.bipush (-101), 2) := by decide +kernel
theorem dX3_pass_14 : decode cX3_pass 14 = .ok (.ireturn, 1) := by decide +kernel
theorem dX3_pass_15 : decode cX3_pass 15 = .ok (.iload_n 2, 1) := by decide +kernel
theorem dX3_pass_16 : decode cX3_pass 16 = .ok (.bipush 6, 2) := by decide +kernel
theorem dX3_pass_18 : decode cX3_pass 18 = .ok (.invokestatic 44, 3) := by decide +kernel
theorem dX3_pass_21 : decode cX3_pass 21 = .ok (.ifCond .ne 6, 3) := by decide +kernel
theorem dX3_pass_24 : decode cX3_pass 24 = .ok (.bipush (-102), 2) := by decide +kernel
theorem dX3_pass_26 : decode cX3_pass 26 = .ok (.ireturn, 1) := by decide +kernel
theorem dX3_pass_27 : decode cX3_pass 27 = .ok (.aload 4, 2) := by decide +kernel
theorem dX3_pass_29 : decode cX3_pass 29 = .ok (.getfield 69, 3) := by decide +kernel
theorem dX3_pass_32 : decode cX3_pass 32 = .ok (.bipush 8, 2) := by decide +kernel
theorem dX3_pass_34 : decode cX3_pass 34 = .ok (.if_icmp .lt 6, 3) := by decide +kernel
theorem dX3_pass_37 : decode cX3_pass 37 = .ok (.bipush (-104), 2) := by decide +kernel
theorem dX3_pass_39 : decode cX3_pass 39 = .ok (.ireturn, 1) := by decide +kernel
theorem dX3_pass_40 : decode cX3_pass 40 = .ok (.aload 4, 2) := by decide +kernel
theorem dX3_pass_42 : decode cX3_pass 42 = .ok (.iload_n 2, 1) := by decide +kernel
theorem dX3_pass_43 : decode cX3_pass 43 = .ok (.iload_n 3, 1) := by decide +kernel
theorem dX3_pass_44 : decode cX3_pass 44 = .ok (.invokevirtual 72, 3) := by decide +kernel
theorem dX3_pass_47 : decode cX3_pass 47 = .ok (.aload 4, 2) := by decide +kernel
theorem dX3_pass_49 : decode cX3_pass 49 = .ok (.getfield 69, 3) := by decide +kernel
theorem dX3_pass_52 : decode cX3_pass 52 = .ok (.ireturn, 1) := by decide +kernel
theorem dX3_itemNumbered_0 : decode cX3_itemNumbered 0 = .ok (.iload_n 1, 1) := by decide +kernel
theorem dX3_itemNumbered_1 : decode cX3_itemNumbered 1 = .ok (.i2l, 1) := by decide +kernel
theorem dX3_itemNumbered_2 : decode cX3_itemNumbered 2 = .ok (.lconst 1, 1) := by decide +kernel
theorem dX3_itemNumbered_3 : decode cX3_itemNumbered 3 = .ok (.aload_n 0, 1) := by decide +kernel
theorem dX3_itemNumbered_4 : decode cX3_itemNumbered 4 = .ok (.getfield 58, 3) := by decide +kernel
theorem dX3_itemNumbered_7 : decode cX3_itemNumbered 7 = .ok (.i2l, 1) := by decide +kernel
theorem dX3_itemNumbered_8 : decode cX3_itemNumbered 8 = .ok (.invokestatic 54, 3) := by decide +kernel
theorem dX3_itemNumbered_11 : decode cX3_itemNumbered 11 = .ok (.ifCond .eq 14, 3) := by decide +kernel
theorem dX3_itemNumbered_14 : decode cX3_itemNumbered 14 = .ok (.aload_n 0, 1) := by decide +kernel
theorem dX3_itemNumbered_15 : decode cX3_itemNumbered 15 = .ok (.getfield 11, 3) := by decide +kernel
theorem dX3_itemNumbered_18 : decode cX3_itemNumbered 18 = .ok (.iload_n 1, 1) := by decide +kernel
theorem dX3_itemNumbered_19 : decode cX3_itemNumbered 19 = .ok (.iconst 1, 1) := by decide +kernel
theorem dX3_itemNumbered_20 : decode cX3_itemNumbered 20 = .ok (.isub, 1) := by decide +kernel
theorem dX3_itemNumbered_21 : decode cX3_itemNumbered 21 = .ok (.aaload, 1) := by decide +kernel
theorem dX3_itemNumbered_22 : decode cX3_itemNumbered 22 = .ok (.goto 4, 3) := by decide +kernel
theorem dX3_itemNumbered_25 : decode cX3_itemNumbered 25 = .ok (.aconst_null, 1) := by decide +kernel
theorem dX3_itemNumbered_26 : decode cX3_itemNumbered 26 = .ok (.areturn, 1) := by decide +kernel
theorem dX1_addPost_0 : decode cX1_addPost 0 = .ok (.aload_n 0, 1) := by decide +kernel
theorem dX1_addPost_1 : decode cX1_addPost 1 = .ok (.getfield 32, 3) := by decide +kernel
theorem dX1_addPost_4 : decode cX1_addPost 4 = .ok (.bipush 8, 2) := by decide +kernel
theorem dX1_addPost_6 : decode cX1_addPost 6 = .ok (.if_icmp .lt 4, 3) := by decide +kernel
theorem dX1_addPost_9 : decode cX1_addPost 9 = .ok (.return_, 1) := by decide +kernel
theorem dX1_addPost_10 : decode cX1_addPost 10 = .ok (.aload_n 0, 1) := by decide +kernel
theorem dX1_addPost_11 : decode cX1_addPost 11 = .ok (.getfield 9, 3) := by decide +kernel
theorem dX1_addPost_14 : decode cX1_addPost 14 = .ok (.aload_n 0, 1) := by decide +kernel
theorem dX1_addPost_15 : decode cX1_addPost 15 = .ok (.getfield 32, 3) := by decide +kernel
theorem dX1_addPost_18 : decode cX1_addPost 18 = .ok (.iload_n 1, 1) := by decide +kernel
theorem dX1_addPost_19 : decode cX1_addPost 19 = .ok (.iastore, 1) := by decide +kernel
theorem dX1_addPost_20 : decode cX1_addPost 20 = .ok (.iload_n 2, 1) := by decide +kernel
theorem dX1_addPost_21 : decode cX1_addPost 21 = .ok (.ifCond .eq 11, 3) := by decide +kernel
theorem dX1_addPost_24 : decode cX1_addPost 24 = .ok (.aload_n 0, 1) := by decide +kernel
theorem dX1_addPost_25 : decode cX1_addPost 25 = .ok (.aload_n 0, 1) := by decide +kernel
theorem dX1_addPost_26 : decode cX1_addPost 26 = .ok (.getfield 32, 3) := by decide +kernel
theorem dX1_addPost_29 : decode cX1_addPost 29 = .ok (.putfield 35, 3) := by decide +kernel
theorem dX1_addPost_32 : decode cX1_addPost 32 = .ok (.aload_n 0, 1) := by decide +kernel
theorem dX1_addPost_33 : decode cX1_addPost 33 = .ok (.dup, 1) := by decide +kernel
theorem dX1_addPost_34 : decode cX1_addPost 34 = .ok (.getfield 32, 3) := by decide +kernel
theorem dX1_addPost_37 : decode cX1_addPost 37 = .ok (.iconst 1, 1) := by decide +kernel
theorem dX1_addPost_38 : decode cX1_addPost 38 = .ok (.iadd, 1) := by decide +kernel
theorem dX1_addPost_39 : decode cX1_addPost 39 = .ok (.putfield 32, 3) := by decide +kernel
theorem dX1_addPost_42 : decode cX1_addPost 42 = .ok (.return_, 1) := by decide +kernel
theorem dX3_table_0 : decode cX3_table 0 = .ok (.iload_n 1, 1) := by decide +kernel
theorem dX3_table_1 : decode cX3_table 1 = .ok (.iconst 4, 1) := by decide +kernel
theorem dX3_table_2 : decode cX3_table 2 = .ok (.invokestatic 44, 3) := by decide +kernel
theorem dX3_table_5 : decode cX3_table 5 = .ok (.ifCond .eq 11, 3) := by decide +kernel
theorem dX3_table_8 : decode cX3_table 8 = .ok (.iload_n 2, 1) := by decide +kernel
theorem dX3_table_9 : decode cX3_table 9 = .ok (.iconst 4, 1) := by decide +kernel
theorem dX3_table_10 : decode cX3_table 10 = .ok (.invokestatic 44, 3) := by decide +kernel
theorem dX3_table_13 : decode cX3_table 13 = .ok (.ifCond .ne 6, 3) := by decide +kernel
theorem dX3_table_16 : decode cX3_table 16 = .ok (.bipush (-102), 2) := by decide +kernel
theorem dX3_table_18 : decode cX3_table 18 = .ok (.ireturn, 1) := by decide +kernel
theorem dX3_table_19 : decode cX3_table 19 = .ok (.lload_n 3, 1) := by decide +kernel
theorem dX3_table_20 : decode cX3_table 20 = .ok (.invokestatic 48, 3) := by decide +kernel
theorem dX3_table_23 : decode cX3_table 23 = .ok (.ifCond .eq 16, 3) := by decide +kernel
theorem dX3_table_26 : decode cX3_table 26 = .ok (.iload 5, 2) := by decide +kernel
theorem dX3_table_28 : decode cX3_table 28 = .ok (.i2l, 1) := by decide +kernel
theorem dX3_table_29 : decode cX3_table 29 = .ok (.lconst 0, 1) := by decide +kernel
theorem dX3_table_30 : decode cX3_table 30 = .ok (.ldc2_w 76, 3) := by decide +kernel
theorem dX3_table_33 : decode cX3_table 33 = .ok (.invokestatic 54, 3) := by decide +kernel
theorem dX3_table_36 : decode cX3_table 36 = .ok (.ifCond .ne 6, 3) := by decide +kernel
theorem dX3_table_39 : decode cX3_table 39 = .ok (.bipush (-102), 2) := by decide +kernel
theorem dX3_table_41 : decode cX3_table 41 = .ok (.ireturn, 1) := by decide +kernel
theorem dX3_table_42 : decode cX3_table 42 = .ok (.iload_n 1, 1) := by decide +kernel
theorem dX3_table_43 : decode cX3_table 43 = .ok (.iload_n 2, 1) := by decide +kernel
theorem dX3_table_44 : decode cX3_table 44 = .ok (.invokestatic 78, 3) := by decide +kernel
theorem dX3_table_47 : decode cX3_table 47 = .ok (.istore 6, 2) := by decide +kernel
theorem dX3_table_49 : decode cX3_table 49 = .ok (.aload_n 0, 1) := by decide +kernel
theorem dX3_table_50 : decode cX3_table 50 = .ok (.getfield 27, 3) := by decide +kernel
theorem dX3_table_53 : decode cX3_table 53 = .ok (.iload 6, 2) := by decide +kernel
theorem dX3_table_55 : decode cX3_table 55 = .ok (.lload_n 3, 1) := by decide +kernel
theorem dX3_table_56 : decode cX3_table 56 = .ok (.lastore, 1) := by decide +kernel
theorem dX3_table_57 : decode cX3_table 57 = .ok (.aload_n 0, 1) := by decide +kernel
theorem dX3_table_58 : decode cX3_table 58 = .ok (.getfield 31, 3) := by decide +kernel
theorem dX3_table_61 : decode cX3_table 61 = .ok (.iload 6, 2) := by decide +kernel
theorem dX3_table_63 : decode cX3_table 63 = .ok (.iload 5, 2) := by decide +kernel
theorem dX3_table_65 : decode cX3_table 65 = .ok (.iastore, 1) := by decide +kernel
theorem dX3_table_66 : decode cX3_table 66 = .ok (.iconst 1, 1) := by decide +kernel
theorem dX3_table_67 : decode cX3_table 67 = .ok (.ireturn, 1) := by decide +kernel
theorem dX3_rowOf_0 : decode cX3_rowOf 0 = .ok (.iload_n 0, 1) := by decide +kernel
theorem dX3_rowOf_1 : decode cX3_rowOf 1 = .ok (.iconst 4, 1) := by decide +kernel
theorem dX3_rowOf_2 : decode cX3_rowOf 2 = .ok (.imul, 1) := by decide +kernel
theorem dX3_rowOf_3 : decode cX3_rowOf 3 = .ok (.iload_n 1, 1) := by decide +kernel
theorem dX3_rowOf_4 : decode cX3_rowOf 4 = .ok (.iadd, 1) := by decide +kernel
theorem dX3_rowOf_5 : decode cX3_rowOf 5 = .ok (.ireturn, 1) := by decide +kernel
theorem dX3_claim_0 : decode cX3_claim 0 = .ok (.aload_n 0, 1) := by decide +kernel
theorem dX3_claim_1 : decode cX3_claim 1 = .ok (.iload_n 1, 1) := by decide +kernel
theorem dX3_claim_2 : decode cX3_claim 2 = .ok (.invokevirtual 65, 3) := by decide +kernel
theorem dX3_claim_5 : decode cX3_claim 5 = .ok (.astore 5, 2) := by decide +kernel
theorem dX3_claim_7 : decode cX3_claim 7 = .ok (.aload 5, 2) := by decide +kernel
theorem dX3_claim_9 : decode cX3_claim 9 = .ok (.ifnonnull 6, 3) := by decide +kernel
theorem dX3_claim_12 : decode cX3_claim 12 = .ok (.bipush (-101), 2) := by decide +kernel
theorem dX3_claim_14 : decode cX3_claim 14 = .ok (.ireturn, 1) := by decide +kernel
theorem dX3_claim_15 : decode cX3_claim 15 = .ok (.iload_n 2, 1) := by decide +kernel
theorem dX3_claim_16 : decode cX3_claim 16 = .ok (.iconst 4, 1) := by decide +kernel
theorem dX3_claim_17 : decode cX3_claim 17 = .ok (.invokestatic 44, 3) := by decide +kernel
theorem dX3_claim_20 : decode cX3_claim 20 = .ok (.ifCond .eq 28, 3) := by decide +kernel
theorem dX3_claim_23 : decode cX3_claim 23 = .ok (.iload_n 3, 1) := by decide +kernel
theorem dX3_claim_24 : decode cX3_claim 24 = .ok (.i2l, 1) := by decide +kernel
theorem dX3_claim_25 : decode cX3_claim 25 = .ok (.lconst 0, 1) := by decide +kernel
theorem dX3_claim_26 : decode cX3_claim 26 = .ok (.ldc2_w 82, 3) := by decide +kernel
theorem dX3_claim_29 : decode cX3_claim 29 = .ok (.invokestatic 54, 3) := by decide +kernel
theorem dX3_claim_32 : decode cX3_claim 32 = .ok (.ifCond .eq 16, 3) := by decide +kernel
theorem dX3_claim_35 : decode cX3_claim 35 = .ok (.iload 4, 2) := by decide +kernel
theorem dX3_claim_37 : decode cX3_claim 37 = .ok (.i2l, 1) := by decide +kernel
theorem dX3_claim_38 : decode cX3_claim 38 = .ok (.lconst 0, 1) := by decide +kernel
theorem dX3_claim_39 : decode cX3_claim 39 = .ok (.ldc2_w 84, 3) := by decide +kernel
theorem dX3_claim_42 : decode cX3_claim 42 = .ok (.invokestatic 54, 3) := by decide +kernel
theorem dX3_claim_45 : decode cX3_claim 45 = .ok (.ifCond .ne 6, 3) := by decide +kernel
theorem dX3_claim_48 : decode cX3_claim 48 = .ok (.bipush (-102), 2) := by decide +kernel
theorem dX3_claim_50 : decode cX3_claim 50 = .ok (.ireturn, 1) := by decide +kernel
theorem dX3_claim_51 : decode cX3_claim 51 = .ok (.iload_n 2, 1) := by decide +kernel
theorem dX3_claim_52 : decode cX3_claim 52 = .ok (.iload_n 3, 1) := by decide +kernel
theorem dX3_claim_53 : decode cX3_claim 53 = .ok (.invokestatic 86, 3) := by decide +kernel
theorem dX3_claim_56 : decode cX3_claim 56 = .ok (.ifCond .ne 6, 3) := by decide +kernel
theorem dX3_claim_59 : decode cX3_claim 59 = .ok (.bipush (-105), 2) := by decide +kernel
theorem dX3_claim_61 : decode cX3_claim 61 = .ok (.ireturn, 1) := by decide +kernel
theorem dX3_claim_62 : decode cX3_claim 62 = .ok (.iload 4, 2) := by decide +kernel
theorem dX3_claim_64 : decode cX3_claim 64 = .ok (.aload 5, 2) := by decide +kernel
theorem dX3_claim_66 : decode cX3_claim 66 = .ok (.getfield 89, 3) := by decide +kernel
theorem dX3_claim_69 : decode cX3_claim 69 = .ok (.aload_n 0, 1) := by decide +kernel
theorem dX3_claim_70 : decode cX3_claim 70 = .ok (.getfield 31, 3) := by decide +kernel
theorem dX3_claim_73 : decode cX3_claim 73 = .ok (.aload 5, 2) := by decide +kernel
theorem dX3_claim_75 : decode cX3_claim 75 = .ok (.getfield 92, 3) := by decide +kernel
theorem dX3_claim_78 : decode cX3_claim 78 = .ok (.iload_n 2, 1) := by decide +kernel
theorem dX3_claim_79 : decode cX3_claim 79 = .ok (.invokestatic 78, 3) := by decide +kernel
theorem dX3_claim_82 : decode cX3_claim 82 = .ok (.iaload, 1) := by decide +kernel
theorem dX3_claim_83 : decode cX3_claim 83 = .ok (.iadd, 1) := by decide +kernel
theorem dX3_claim_84 : decode cX3_claim 84 = .ok (.if_icmp .le 6, 3) := by decide +kernel
theorem dX3_claim_87 : decode cX3_claim 87 = .ok (.bipush (-106), 2) := by decide +kernel
theorem dX3_claim_89 : decode cX3_claim 89 = .ok (.ireturn, 1) := by decide +kernel
theorem dX3_claim_90 : decode cX3_claim 90 = .ok (.aload_n 0, 1) := by decide +kernel
theorem dX3_claim_91 : decode cX3_claim 91 = .ok (.iload_n 1, 1) := by decide +kernel
theorem dX3_claim_92 : decode cX3_claim 92 = .ok (.iload_n 2, 1) := by decide +kernel
theorem dX3_claim_93 : decode cX3_claim 93 = .ok (.invokevirtual 95, 3) := by decide +kernel
theorem dX3_claim_96 : decode cX3_claim 96 = .ok (.ifnull 6, 3) := by decide +kernel
theorem dX3_claim_99 : decode cX3_claim 99 = .ok (.bipush (-103), 2) := by decide +kernel
theorem dX3_claim_101 : decode cX3_claim 101 = .ok (.ireturn, 1) := by decide +kernel
theorem dX3_claim_102 : decode cX3_claim 102 = .ok (.aload_n 0, 1) := by decide +kernel
theorem dX3_claim_103 : decode cX3_claim 103 = .ok (.getfield 99, 3) := by decide +kernel
theorem dX3_claim_106 : decode cX3_claim 106 = .ok (.bipush 60, 2) := by decide +kernel
theorem dX3_claim_108 : decode cX3_claim 108 = .ok (.if_icmp .lt 6, 3) := by decide +kernel
theorem dX3_claim_111 : decode cX3_claim 111 = .ok (.bipush (-104), 2) := by decide +kernel
theorem dX3_claim_113 : decode cX3_claim 113 = .ok (.ireturn, 1) := by decide +kernel
theorem dX3_claim_114 : decode cX3_claim 114 = .ok (.aload_n 0, 1) := by decide +kernel
theorem dX3_claim_115 : decode cX3_claim 115 = .ok (.aload 5, 2) := by decide +kernel
theorem dX3_claim_117 : decode cX3_claim 117 = .ok (.getfield 102, 3) := by decide +kernel
theorem dX3_claim_120 : decode cX3_claim 120 = .ok (.invokevirtual 105, 3) := by decide +kernel
theorem dX3_claim_123 : decode cX3_claim 123 = .ok (.istore 6, 2) := by decide +kernel
theorem dX3_claim_125 : decode cX3_claim 125 = .ok (.aload_n 0, 1) := by decide +kernel
theorem dX3_claim_126 : decode cX3_claim 126 = .ok (.getfield 17, 3) := by decide +kernel
theorem dX3_claim_129 : decode cX3_claim 129 = .ok (.aload_n 0, 1) := by decide +kernel
theorem dX3_claim_130 : decode cX3_claim 130 = .ok (.getfield 99, 3) := by decide +kernel
theorem dX3_claim_133 : decode cX3_claim 133 = .ok (.new 15, 3) := by decide +kernel
theorem dX3_claim_136 : decode cX3_claim 136 = .ok (.dup, 1) := by decide +kernel
theorem dX3_claim_137 : decode cX3_claim 137 = .ok (.aload_n 0, 1) := by decide +kernel
theorem dX3_claim_138 : decode cX3_claim 138 = .ok (.getfield 99, 3) := by decide +kernel
theorem dX3_claim_141 : decode cX3_claim 141 = .ok (.iconst 1, 1) := by decide +kernel
theorem dX3_claim_142 : decode cX3_claim 142 = .ok (.iadd, 1) := by decide +kernel
theorem dX3_claim_143 : decode cX3_claim 143 = .ok (.iload_n 1, 1) := by decide +kernel
theorem dX3_claim_144 : decode cX3_claim 144 = .ok (.aload 5, 2) := by decide +kernel
theorem dX3_claim_146 : decode cX3_claim 146 = .ok (.iload_n 2, 1) := by decide +kernel
theorem dX3_claim_147 : decode cX3_claim 147 = .ok (.iload 6, 2) := by decide +kernel
theorem dX3_claim_149 : decode cX3_claim 149 = .ok (.invokespecial 109, 3) := by decide +kernel
theorem dX3_claim_152 : decode cX3_claim 152 = .ok (.aastore, 1) := by decide +kernel
theorem dX3_claim_153 : decode cX3_claim 153 = .ok (.aload_n 0, 1) := by decide +kernel
theorem dX3_claim_154 : decode cX3_claim 154 = .ok (.dup, 1) := by decide +kernel
theorem dX3_claim_155 : decode cX3_claim 155 = .ok (.getfield 99, 3) := by decide +kernel
theorem dX3_claim_158 : decode cX3_claim 158 = .ok (.iconst 1, 1) := by decide +kernel
theorem dX3_claim_159 : decode cX3_claim 159 = .ok (.iadd, 1) := by decide +kernel
theorem dX3_claim_160 : decode cX3_claim 160 = .ok (.putfield 99, 3) := by decide +kernel
theorem dX3_claim_163 : decode cX3_claim 163 = .ok (.aload_n 0, 1) := by decide +kernel
theorem dX3_claim_164 : decode cX3_claim 164 = .ok (.aload_n 0, 1) := by decide +kernel
theorem dX3_claim_165 : decode cX3_claim 165 = .ok (.getfield 99, 3) := by decide +kernel
theorem dX3_claim_168 : decode cX3_claim 168 = .ok (.iconst 1, 1) := by decide +kernel
theorem dX3_claim_169 : decode cX3_claim 169 = .ok (.invokevirtual 112, 3) := by decide +kernel
theorem dX3_claim_172 : decode cX3_claim 172 = .ok (.aload_n 0, 1) := by decide +kernel
theorem dX3_claim_173 : decode cX3_claim 173 = .ok (.getfield 99, 3) := by decide +kernel
theorem dX3_claim_176 : decode cX3_claim 176 = .ok (.ireturn, 1) := by decide +kernel
theorem dX3_mayClaim_0 : decode cX3_mayClaim 0 = .ok (.iload_n 1, 1) := by decide +kernel
theorem dX3_mayClaim_1 : decode cX3_mayClaim 1 = .ok (.ifCond .ne 5, 3) := by decide +kernel
theorem dX3_mayClaim_4 : decode cX3_mayClaim 4 = .ok (.iconst 1, 1) := by decide +kernel
theorem dX3_mayClaim_5 : decode cX3_mayClaim 5 = .ok (.ireturn, 1) := by decide +kernel
theorem dX3_mayClaim_6 : decode cX3_mayClaim 6 = .ok (.iload_n 1, 1) := by decide +kernel
theorem dX3_mayClaim_7 : decode cX3_mayClaim 7 = .ok (.iconst 1, 1) := by decide +kernel
theorem dX3_mayClaim_8 : decode cX3_mayClaim 8 = .ok (.if_icmp .ne 17, 3) := by decide +kernel
theorem dX3_mayClaim_11 : decode cX3_mayClaim 11 = .ok (.iload_n 0, 1) := by decide +kernel
theorem dX3_mayClaim_12 : decode cX3_mayClaim 12 = .ok (.iconst 1, 1) := by decide +kernel
theorem dX3_mayClaim_13 : decode cX3_mayClaim 13 = .ok (.if_icmp .eq 8, 3) := by decide +kernel
theorem dX3_mayClaim_16 : decode cX3_mayClaim 16 = .ok (.iload_n 0, 1) := by decide +kernel
theorem dX3_mayClaim_17 : decode cX3_mayClaim 17 = .ok (.iconst 2, 1) := by decide +kernel
theorem dX3_mayClaim_18 : decode cX3_mayClaim 18 = .ok (.if_icmp .ne 7, 3) := by decide +kernel
theorem dX3_mayClaim_21 : decode cX3_mayClaim 21 = .ok (.iconst 1, 1) := by decide +kernel
theorem dX3_mayClaim_22 : decode cX3_mayClaim 22 = .ok (.goto 4, 3) := by decide +kernel
theorem dX3_mayClaim_25 : decode cX3_mayClaim 25 = .ok (.iconst 0, 1) := by decide +kernel
theorem dX3_mayClaim_26 : decode cX3_mayClaim 26 = .ok (.ireturn, 1) := by decide +kernel
theorem dX3_standingClaim_0 : decode cX3_standingClaim 0 = .ok (.iconst 1, 1) := by decide +kernel
theorem dX3_standingClaim_1 : decode cX3_standingClaim 1 = .ok (.istore_n 3, 1) := by decide +kernel
theorem dX3_standingClaim_2 : decode cX3_standingClaim 2 = .ok (.iload_n 3, 1) := by decide +kernel
theorem dX3_standingClaim_3 : decode cX3_standingClaim 3 = .ok (.aload_n 0, 1) := by decide +kernel
theorem dX3_standingClaim_4 : decode cX3_standingClaim 4 = .ok (.getfield 99, 3) := by decide +kernel
theorem dX3_standingClaim_7 : decode cX3_standingClaim 7 = .ok (.if_icmp .gt 51, 3) := by decide +kernel
theorem dX3_standingClaim_10 : decode cX3_standingClaim 10 = .ok (.aload_n 0, 1) := by decide +kernel
theorem dX3_standingClaim_11 : decode cX3_standingClaim 11 = .ok (.iload_n 3, 1) := by decide +kernel
theorem dX3_standingClaim_12 : decode cX3_standingClaim 12 = .ok (.invokevirtual 116, 3) := by decide +kernel
theorem dX3_standingClaim_15 : decode cX3_standingClaim 15 = .ok (.astore 4, 2) := by decide +kernel
theorem dX3_standingClaim_17 : decode cX3_standingClaim 17 = .ok (.aload 4, 2) := by decide +kernel
theorem dX3_standingClaim_19 : decode cX3_standingClaim 19 = .ok (.ifnull 33, 3) := by decide +kernel
theorem dX3_standingClaim_22 : decode cX3_standingClaim 22 = .ok (.aload 4, 2) := by decide +kernel
theorem dX3_standingClaim_24 : decode cX3_standingClaim 24 = .ok (.getfield 211, 3) := by decide +kernel
theorem dX3_standingClaim_27 : decode cX3_standingClaim 27 = .ok (.iload_n 1, 1) := by decide +kernel
theorem dX3_standingClaim_28 : decode cX3_standingClaim 28 = .ok (.if_icmp .ne 24, 3) := by decide +kernel
theorem dX3_standingClaim_31 : decode cX3_standingClaim 31 = .ok (.aload 4, 2) := by decide +kernel
theorem dX3_standingClaim_33 : decode cX3_standingClaim 33 = .ok (.getfield 134, 3) := by decide +kernel
theorem dX3_standingClaim_36 : decode cX3_standingClaim 36 = .ok (.iload_n 2, 1) := by decide +kernel
theorem dX3_standingClaim_37 : decode cX3_standingClaim 37 = .ok (.if_icmp .ne 15, 3) := by decide +kernel
theorem dX3_standingClaim_40 : decode cX3_standingClaim 40 = .ok (.aload 4, 2) := by decide +kernel
theorem dX3_standingClaim_42 : decode cX3_standingClaim 42 = .ok (.getfield 120, 3) := by decide +kernel
theorem dX3_standingClaim_45 : decode cX3_standingClaim 45 = .ok (.iconst 2, 1) := by decide +kernel
theorem dX3_standingClaim_46 : decode cX3_standingClaim 46 = .ok (.if_icmp .eq 6, 3) := by decide +kernel
theorem dX3_standingClaim_49 : decode cX3_standingClaim 49 = .ok (.aload 4, 2) := by decide +kernel
theorem dX3_standingClaim_51 : decode cX3_standingClaim 51 = .ok (.areturn, 1) := by decide +kernel
theorem dX3_standingClaim_52 : decode cX3_standingClaim 52 = .ok (.iinc 3 1, 3) := by decide +kernel
theorem dX3_standingClaim_55 : decode cX3_standingClaim 55 = .ok (.goto (-53), 3) := by decide +kernel
theorem dX3_standingClaim_58 : decode cX3_standingClaim 58 = .ok (.aconst_null, 1) := by decide +kernel
theorem dX3_standingClaim_59 : decode cX3_standingClaim 59 = .ok (.areturn, 1) := by decide +kernel
theorem dX3_claimNumbered_0 : decode cX3_claimNumbered 0 = .ok (.iload_n 1, 1) := by decide +kernel
theorem dX3_claimNumbered_1 : decode cX3_claimNumbered 1 = .ok (.i2l, 1) := by decide +kernel
theorem dX3_claimNumbered_2 : decode cX3_claimNumbered 2 = .ok (.lconst 1, 1) := by decide +kernel
theorem dX3_claimNumbered_3 : decode cX3_claimNumbered 3 = .ok (.aload_n 0, 1) := by decide +kernel
theorem dX3_claimNumbered_4 : decode cX3_claimNumbered 4 = .ok (.getfield 99, 3) := by decide +kernel
theorem dX3_claimNumbered_7 : decode cX3_claimNumbered 7 = .ok (.i2l, 1) := by decide +kernel
theorem dX3_claimNumbered_8 : decode cX3_claimNumbered 8 = .ok (.invokestatic 54, 3) := by decide +kernel
theorem dX3_claimNumbered_11 : decode cX3_claimNumbered 11 = .ok (.ifCond .eq 14, 3) := by decide +kernel
theorem dX3_claimNumbered_14 : decode cX3_claimNumbered 14 = .ok (.aload_n 0, 1) := by decide +kernel
theorem dX3_claimNumbered_15 : decode cX3_claimNumbered 15 = .ok (.getfield 17, 3) := by decide +kernel
theorem dX3_claimNumbered_18 : decode cX3_claimNumbered 18 = .ok (.iload_n 1, 1) := by decide +kernel
theorem dX3_claimNumbered_19 : decode cX3_claimNumbered 19 = .ok (.iconst 1, 1) := by decide +kernel
theorem dX3_claimNumbered_20 : decode cX3_claimNumbered 20 = .ok (.isub, 1) := by decide +kernel
end
section
theorem dX3_claimNumbered_21 : decode cX3_claimNumbered 21 = .ok (.aaload, 1) := by decide +kernel
theorem dX3_claimNumbered_22 : decode cX3_claimNumbered 22 = .ok (.goto 4, 3) := by decide +kernel
theorem dX3_claimNumbered_25 : decode cX3_claimNumbered 25 = .ok (.aconst_null, 1) := by decide +kernel
theorem dX3_claimNumbered_26 : decode cX3_claimNumbered 26 = .ok (.areturn, 1) := by decide +kernel
theorem dX3_claimsOfSender_0 : decode cX3_claimsOfSender 0 = .ok (.iconst 0, 1) := by decide +kernel
theorem dX3_claimsOfSender_1 : decode cX3_claimsOfSender 1 = .ok (.istore_n 2, 1) := by decide +kernel
theorem dX3_claimsOfSender_2 : decode cX3_claimsOfSender 2 = .ok (.iconst 1, 1) := by decide +kernel
theorem dX3_claimsOfSender_3 : decode cX3_claimsOfSender 3 = .ok (.istore_n 3, 1) := by decide +kernel
theorem dX3_claimsOfSender_4 : decode cX3_claimsOfSender 4 = .ok (.iload_n 3, 1) := by decide +kernel
theorem dX3_claimsOfSender_5 : decode cX3_claimsOfSender 5 = .ok (.aload_n 0, 1) := by decide +kernel
theorem dX3_claimsOfSender_6 : decode cX3_claimsOfSender 6 = .ok (.getfield 99, 3) := by decide +kernel
theorem dX3_claimsOfSender_9 : decode cX3_claimsOfSender 9 = .ok (.if_icmp .gt 36, 3) := by decide +kernel
theorem dX3_claimsOfSender_12 : decode cX3_claimsOfSender 12 = .ok (.aload_n 0, 1) := by decide +kernel
theorem dX3_claimsOfSender_13 : decode cX3_claimsOfSender 13 = .ok (.iload_n 3, 1) := by decide +kernel
theorem dX3_claimsOfSender_14 : decode cX3_claimsOfSender 14 = .ok (.invokevirtual 116, 3) := by decide +kernel
theorem dX3_claimsOfSender_17 : decode cX3_claimsOfSender 17 = .ok (.astore 4, 2) := by decide +kernel
theorem dX3_claimsOfSender_19 : decode cX3_claimsOfSender 19 = .ok (.aload 4, 2) := by decide +kernel
theorem dX3_claimsOfSender_21 : decode cX3_claimsOfSender 21 = .ok (.ifnull 18, 3) := by decide +kernel
theorem dX3_claimsOfSender_24 : decode cX3_claimsOfSender 24 = .ok (.aload 4, 2) := by decide +kernel
theorem dX3_claimsOfSender_26 : decode cX3_claimsOfSender 26 = .ok (.getfield 188, 3) := by decide +kernel
theorem dX3_claimsOfSender_29 : decode cX3_claimsOfSender 29 = .ok (.getfield 102, 3) := by decide +kernel
theorem dX3_claimsOfSender_32 : decode cX3_claimsOfSender 32 = .ok (.iload_n 1, 1) := by decide +kernel
theorem dX3_claimsOfSender_33 : decode cX3_claimsOfSender 33 = .ok (.if_icmp .ne 6, 3) := by decide +kernel
theorem dX3_claimsOfSender_36 : decode cX3_claimsOfSender 36 = .ok (.iinc 2 1, 3) := by decide +kernel
theorem dX3_claimsOfSender_39 : decode cX3_claimsOfSender 39 = .ok (.iinc 3 1, 3) := by decide +kernel
theorem dX3_claimsOfSender_42 : decode cX3_claimsOfSender 42 = .ok (.goto (-38), 3) := by decide +kernel
theorem dX3_claimsOfSender_45 : decode cX3_claimsOfSender 45 = .ok (.iload_n 2, 1) := by decide +kernel
theorem dX3_claimsOfSender_46 : decode cX3_claimsOfSender 46 = .ok (.ireturn, 1) := by decide +kernel
theorem dX0_init_0 : decode cX0_init 0 = .ok (.aload_n 0, 1) := by decide +kernel
theorem dX0_init_1 : decode cX0_init 1 = .ok (.invokespecial 3, 3) := by decide +kernel
theorem dX0_init_4 : decode cX0_init 4 = .ok (.aload_n 0, 1) := by decide +kernel
theorem dX0_init_5 : decode cX0_init 5 = .ok (.iconst 0, 1) := by decide +kernel
theorem dX0_init_6 : decode cX0_init 6 = .ok (.putfield 9, 3) := by decide +kernel
theorem dX0_init_9 : decode cX0_init 9 = .ok (.aload_n 0, 1) := by decide +kernel
theorem dX0_init_10 : decode cX0_init 10 = .ok (.iload_n 1, 1) := by decide +kernel
theorem dX0_init_11 : decode cX0_init 11 = .ok (.putfield 15, 3) := by decide +kernel
theorem dX0_init_14 : decode cX0_init 14 = .ok (.aload_n 0, 1) := by decide +kernel
theorem dX0_init_15 : decode cX0_init 15 = .ok (.iload_n 2, 1) := by decide +kernel
theorem dX0_init_16 : decode cX0_init 16 = .ok (.putfield 18, 3) := by decide +kernel
theorem dX0_init_19 : decode cX0_init 19 = .ok (.aload_n 0, 1) := by decide +kernel
theorem dX0_init_20 : decode cX0_init 20 = .ok (.aload_n 3, 1) := by decide +kernel
theorem dX0_init_21 : decode cX0_init 21 = .ok (.putfield 21, 3) := by decide +kernel
theorem dX0_init_24 : decode cX0_init 24 = .ok (.aload_n 0, 1) := by decide +kernel
theorem dX0_init_25 : decode cX0_init 25 = .ok (.iload 4, 2) := by decide +kernel
theorem dX0_init_27 : decode cX0_init 27 = .ok (.putfield 25, 3) := by decide +kernel
theorem dX0_init_30 : decode cX0_init 30 = .ok (.aload_n 0, 1) := by decide +kernel
theorem dX0_init_31 : decode cX0_init 31 = .ok (.iload 5, 2) := by decide +kernel
theorem dX0_init_33 : decode cX0_init 33 = .ok (.putfield 28, 3) := by decide +kernel
theorem dX0_init_36 : decode cX0_init 36 = .ok (.aload_n 0, 1) := by decide +kernel
theorem dX0_init_37 : decode cX0_init 37 = .ok (.iload 4, 2) := by decide +kernel
theorem dX0_init_39 : decode cX0_init 39 = .ok (.getstatic 31, 3) := by decide +kernel
theorem dX0_init_42 : decode cX0_init 42 = .ok (.arraylength, 1) := by decide +kernel
theorem dX0_init_43 : decode cX0_init 43 = .ok (.invokestatic 35, 3) := by decide +kernel
theorem dX0_init_46 : decode cX0_init 46 = .ok (.ifCond .eq 12, 3) := by decide +kernel
theorem dX0_init_49 : decode cX0_init 49 = .ok (.getstatic 31, 3) := by decide +kernel
theorem dX0_init_52 : decode cX0_init 52 = .ok (.iload 4, 2) := by decide +kernel
theorem dX0_init_54 : decode cX0_init 54 = .ok (.iaload, 1) := by decide +kernel
theorem dX0_init_55 : decode cX0_init 55 = .ok (.goto 4, 3) := by decide +kernel
theorem dX0_init_58 : decode cX0_init 58 = .ok (.iconst 0, 1) := by decide +kernel
theorem dX0_init_59 : decode cX0_init 59 = .ok (.putfield 39, 3) := by decide +kernel
theorem dX0_init_62 : decode cX0_init 62 = .ok (.return_, 1) := by decide +kernel
theorem dX3_send_0 : decode cX3_send 0 = .ok (.aload_n 0, 1) := by decide +kernel
theorem dX3_send_1 : decode cX3_send 1 = .ok (.getfield 222, 3) := by decide +kernel
theorem dX3_send_4 : decode cX3_send 4 = .ok (.sipush 200, 3) := by decide +kernel
theorem dX3_send_7 : decode cX3_send 7 = .ok (.if_icmp .ge 23, 3) := by decide +kernel
theorem dX3_send_10 : decode cX3_send 10 = .ok (.aload_n 0, 1) := by decide +kernel
theorem dX3_send_11 : decode cX3_send 11 = .ok (.getfield 38, 3) := by decide +kernel
theorem dX3_send_14 : decode cX3_send 14 = .ok (.aload_n 0, 1) := by decide +kernel
theorem dX3_send_15 : decode cX3_send 15 = .ok (.getfield 222, 3) := by decide +kernel
theorem dX3_send_18 : decode cX3_send 18 = .ok (.iload_n 1, 1) := by decide +kernel
theorem dX3_send_19 : decode cX3_send 19 = .ok (.iastore, 1) := by decide +kernel
theorem dX3_send_20 : decode cX3_send 20 = .ok (.aload_n 0, 1) := by decide +kernel
theorem dX3_send_21 : decode cX3_send 21 = .ok (.getfield 41, 3) := by decide +kernel
theorem dX3_send_24 : decode cX3_send 24 = .ok (.aload_n 0, 1) := by decide +kernel
theorem dX3_send_25 : decode cX3_send 25 = .ok (.getfield 222, 3) := by decide +kernel
theorem dX3_send_28 : decode cX3_send 28 = .ok (.iload_n 2, 1) := by decide +kernel
theorem dX3_send_29 : decode cX3_send 29 = .ok (.iastore, 1) := by decide +kernel
theorem dX3_send_30 : decode cX3_send 30 = .ok (.aload_n 0, 1) := by decide +kernel
theorem dX3_send_31 : decode cX3_send 31 = .ok (.dup, 1) := by decide +kernel
theorem dX3_send_32 : decode cX3_send 32 = .ok (.getfield 222, 3) := by decide +kernel
theorem dX3_send_35 : decode cX3_send 35 = .ok (.iconst 1, 1) := by decide +kernel
theorem dX3_send_36 : decode cX3_send 36 = .ok (.iadd, 1) := by decide +kernel
theorem dX3_send_37 : decode cX3_send 37 = .ok (.putfield 222, 3) := by decide +kernel
theorem dX3_send_40 : decode cX3_send 40 = .ok (.return_, 1) := by decide +kernel
theorem dX3_proof_0 : decode cX3_proof 0 = .ok (.aload_n 0, 1) := by decide +kernel
theorem dX3_proof_1 : decode cX3_proof 1 = .ok (.iload_n 1, 1) := by decide +kernel
theorem dX3_proof_2 : decode cX3_proof 2 = .ok (.invokevirtual 116, 3) := by decide +kernel
theorem dX3_proof_5 : decode cX3_proof 5 = .ok (.astore_n 3, 1) := by decide +kernel
theorem dX3_proof_6 : decode cX3_proof 6 = .ok (.aload_n 3, 1) := by decide +kernel
theorem dX3_proof_7 : decode cX3_proof 7 = .ok (.ifnonnull 6, 3) := by decide +kernel
theorem dX3_proof_10 : decode cX3_proof 10 = .ok (.bipush (-101), 2) := by decide +kernel
theorem dX3_proof_12 : decode cX3_proof 12 = .ok (.ireturn, 1) := by decide +kernel
theorem dX3_proof_13 : decode cX3_proof 13 = .ok (.iload_n 2, 1) := by decide +kernel
theorem dX3_proof_14 : decode cX3_proof 14 = .ok (.iconst 4, 1) := by decide +kernel
theorem dX3_proof_15 : decode cX3_proof 15 = .ok (.invokestatic 44, 3) := by decide +kernel
theorem dX3_proof_18 : decode cX3_proof 18 = .ok (.ifCond .ne 6, 3) := by decide +kernel
theorem dX3_proof_21 : decode cX3_proof 21 = .ok (.bipush (-102), 2) := by decide +kernel
theorem dX3_proof_23 : decode cX3_proof 23 = .ok (.ireturn, 1) := by decide +kernel
theorem dX3_proof_24 : decode cX3_proof 24 = .ok (.iconst 1, 1) := by decide +kernel
theorem dX3_proof_25 : decode cX3_proof 25 = .ok (.iload_n 2, 1) := by decide +kernel
theorem dX3_proof_26 : decode cX3_proof 26 = .ok (.ishl, 1) := by decide +kernel
theorem dX3_proof_27 : decode cX3_proof 27 = .ok (.istore 4, 2) := by decide +kernel
theorem dX3_proof_29 : decode cX3_proof 29 = .ok (.aload_n 3, 1) := by decide +kernel
theorem dX3_proof_30 : decode cX3_proof 30 = .ok (.getfield 120, 3) := by decide +kernel
theorem dX3_proof_33 : decode cX3_proof 33 = .ok (.ifCond .ne 13, 3) := by decide +kernel
theorem dX3_proof_36 : decode cX3_proof 36 = .ok (.aload_n 3, 1) := by decide +kernel
theorem dX3_proof_37 : decode cX3_proof 37 = .ok (.getfield 123, 3) := by decide +kernel
theorem dX3_proof_40 : decode cX3_proof 40 = .ok (.iload 4, 2) := by decide +kernel
theorem dX3_proof_42 : decode cX3_proof 42 = .ok (.iand, 1) := by decide +kernel
theorem dX3_proof_43 : decode cX3_proof 43 = .ok (.ifCond .ne 6, 3) := by decide +kernel
theorem dX3_proof_46 : decode cX3_proof 46 = .ok (.bipush (-103), 2) := by decide +kernel
theorem dX3_proof_48 : decode cX3_proof 48 = .ok (.ireturn, 1) := by decide +kernel
theorem dX3_proof_49 : decode cX3_proof 49 = .ok (.aload_n 3, 1) := by decide +kernel
theorem dX3_proof_50 : decode cX3_proof 50 = .ok (.dup, 1) := by decide +kernel
theorem dX3_proof_51 : decode cX3_proof 51 = .ok (.getfield 123, 3) := by decide +kernel
theorem dX3_proof_54 : decode cX3_proof 54 = .ok (.iload 4, 2) := by decide +kernel
theorem dX3_proof_56 : decode cX3_proof 56 = .ok (.iconst (-1), 1) := by decide +kernel
theorem dX3_proof_57 : decode cX3_proof 57 = .ok (.ixor, 1) := by decide +kernel
theorem dX3_proof_58 : decode cX3_proof 58 = .ok (.iand, 1) := by decide +kernel
theorem dX3_proof_59 : decode cX3_proof 59 = .ok (.putfield 123, 3) := by decide +kernel
theorem dX3_proof_62 : decode cX3_proof 62 = .ok (.aload_n 3, 1) := by decide +kernel
theorem dX3_proof_63 : decode cX3_proof 63 = .ok (.getfield 123, 3) := by decide +kernel
theorem dX3_proof_66 : decode cX3_proof 66 = .ok (.invokestatic 126, 3) := by decide +kernel
theorem dX3_proof_69 : decode cX3_proof 69 = .ok (.istore 5, 2) := by decide +kernel
theorem dX3_proof_71 : decode cX3_proof 71 = .ok (.iload 5, 2) := by decide +kernel
theorem dX3_proof_73 : decode cX3_proof 73 = .ok (.ifCond .le 9, 3) := by decide +kernel
theorem dX3_proof_76 : decode cX3_proof 76 = .ok (.aload_n 0, 1) := by decide +kernel
theorem dX3_proof_77 : decode cX3_proof 77 = .ok (.iload_n 1, 1) := by decide +kernel
theorem dX3_proof_78 : decode cX3_proof 78 = .ok (.iconst 2, 1) := by decide +kernel
theorem dX3_proof_79 : decode cX3_proof 79 = .ok (.invokevirtual 112, 3) := by decide +kernel
theorem dX3_proof_82 : decode cX3_proof 82 = .ok (.iload 5, 2) := by decide +kernel
theorem dX3_proof_84 : decode cX3_proof 84 = .ok (.ireturn, 1) := by decide +kernel
theorem dJ6_bitCount_0 : decode cJ6_bitCount 0 = .ok (.iload_n 0, 1) := by decide +kernel
theorem dJ6_bitCount_1 : decode cJ6_bitCount 1 = .ok (.iload_n 0, 1) := by decide +kernel
theorem dJ6_bitCount_2 : decode cJ6_bitCount 2 = .ok (.iconst 1, 1) := by decide +kernel
theorem dJ6_bitCount_3 : decode cJ6_bitCount 3 = .ok (.iushr, 1) := by decide +kernel
theorem dJ6_bitCount_4 : decode cJ6_bitCount 4 = .ok (.ldc_w 265, 3) := by decide +kernel
theorem dJ6_bitCount_7 : decode cJ6_bitCount 7 = .ok (.iand, 1) := by decide +kernel
theorem dJ6_bitCount_8 : decode cJ6_bitCount 8 = .ok (.isub, 1) := by decide +kernel
theorem dJ6_bitCount_9 : decode cJ6_bitCount 9 = .ok (.istore_n 0, 1) := by decide +kernel
theorem dJ6_bitCount_10 : decode cJ6_bitCount 10 = .ok (.iload_n 0, 1) := by decide +kernel
theorem dJ6_bitCount_11 : decode cJ6_bitCount 11 = .ok (.ldc_w 266, 3) := by decide +kernel
theorem dJ6_bitCount_14 : decode cJ6_bitCount 14 = .ok (.iand, 1) := by decide +kernel
theorem dJ6_bitCount_15 : decode cJ6_bitCount 15 = .ok (.iload_n 0, 1) := by decide +kernel
theorem dJ6_bitCount_16 : decode cJ6_bitCount 16 = .ok (.iconst 2, 1) := by decide +kernel
theorem dJ6_bitCount_17 : decode cJ6_bitCount 17 = .ok (.iushr, 1) := by decide +kernel
theorem dJ6_bitCount_18 : decode cJ6_bitCount 18 = .ok (.ldc_w 266, 3) := by decide +kernel
theorem dJ6_bitCount_21 : decode cJ6_bitCount 21 = .ok (.iand, 1) := by decide +kernel
theorem dJ6_bitCount_22 : decode cJ6_bitCount 22 = .ok (.iadd, 1) := by decide +kernel
theorem dJ6_bitCount_23 : decode cJ6_bitCount 23 = .ok (.istore_n 0, 1) := by decide +kernel
theorem dJ6_bitCount_24 : decode cJ6_bitCount 24 = .ok (.iload_n 0, 1) := by decide +kernel
theorem dJ6_bitCount_25 : decode cJ6_bitCount 25 = .ok (.iload_n 0, 1) := by decide +kernel
theorem dJ6_bitCount_26 : decode cJ6_bitCount 26 = .ok (.iconst 4, 1) := by decide +kernel
theorem dJ6_bitCount_27 : decode cJ6_bitCount 27 = .ok (.iushr, 1) := by decide +kernel
theorem dJ6_bitCount_28 : decode cJ6_bitCount 28 = .ok (.iadd, 1) := by decide +kernel
theorem dJ6_bitCount_29 : decode cJ6_bitCount 29 = .ok (.ldc_w 267, 3) := by decide +kernel
theorem dJ6_bitCount_32 : decode cJ6_bitCount 32 = .ok (.iand, 1) := by decide +kernel
theorem dJ6_bitCount_33 : decode cJ6_bitCount 33 = .ok (.istore_n 0, 1) := by decide +kernel
theorem dJ6_bitCount_34 : decode cJ6_bitCount 34 = .ok (.iload_n 0, 1) := by decide +kernel
theorem dJ6_bitCount_35 : decode cJ6_bitCount 35 = .ok (.iload_n 0, 1) := by decide +kernel
theorem dJ6_bitCount_36 : decode cJ6_bitCount 36 = .ok (.bipush 8, 2) := by decide +kernel
theorem dJ6_bitCount_38 : decode cJ6_bitCount 38 = .ok (.iushr, 1) := by decide +kernel
theorem dJ6_bitCount_39 : decode cJ6_bitCount 39 = .ok (.iadd, 1) := by decide +kernel
theorem dJ6_bitCount_40 : decode cJ6_bitCount 40 = .ok (.istore_n 0, 1) := by decide +kernel
theorem dJ6_bitCount_41 : decode cJ6_bitCount 41 = .ok (.iload_n 0, 1) := by decide +kernel
theorem dJ6_bitCount_42 : decode cJ6_bitCount 42 = .ok (.iload_n 0, 1) := by decide +kernel
theorem dJ6_bitCount_43 : decode cJ6_bitCount 43 = .ok (.bipush 16, 2) := by decide +kernel
theorem dJ6_bitCount_45 : decode cJ6_bitCount 45 = .ok (.iushr, 1) := by decide +kernel
theorem dJ6_bitCount_46 : decode cJ6_bitCount 46 = .ok (.iadd, 1) := by decide +kernel
theorem dJ6_bitCount_47 : decode cJ6_bitCount 47 = .ok (.istore_n 0, 1) := by decide +kernel
theorem dJ6_bitCount_48 : decode cJ6_bitCount 48 = .ok (.iload_n 0, 1) := by decide +kernel
theorem dJ6_bitCount_49 : decode cJ6_bitCount 49 = .ok (.bipush 63, 2) := by decide +kernel
theorem dJ6_bitCount_51 : decode cJ6_bitCount 51 = .ok (.iand, 1) := by decide +kernel
theorem dJ6_bitCount_52 : decode cJ6_bitCount 52 = .ok (.ireturn, 1) := by decide +kernel
theorem dX3_search_0 : decode cX3_search 0 = .ok (.aload_n 0, 1) := by decide +kernel
theorem dX3_search_1 : decode cX3_search 1 = .ok (.iload_n 1, 1) := by decide +kernel
theorem dX3_search_2 : decode cX3_search 2 = .ok (.invokevirtual 116, 3) := by decide +kernel
theorem dX3_search_5 : decode cX3_search 5 = .ok (.astore 4, 2) := by decide +kernel
theorem dX3_search_7 : decode cX3_search 7 = .ok (.aload 4, 2) := by decide +kernel
theorem dX3_search_9 : decode cX3_search 9 = .ok (.ifnonnull 6, 3) := by decide +kernel
theorem dX3_search_12 : decode cX3_search 12 = .ok (.bipush (-101), 2) := by decide +kernel
theorem dX3_search_14 : decode cX3_search 14 = .ok (.ireturn, 1) := by decide +kernel
theorem dX3_search_15 : decode cX3_search 15 = .ok (.iload_n 2, 1) := by decide +kernel
theorem dX3_search_16 : decode cX3_search 16 = .ok (.bipush 50, 2) := by decide +kernel
theorem dX3_search_18 : decode cX3_search 18 = .ok (.invokestatic 44, 3) := by decide +kernel
theorem dX3_search_21 : decode cX3_search 21 = .ok (.ifCond .eq 19, 3) := by decide +kernel
theorem dX3_search_24 : decode cX3_search 24 = .ok (.iload_n 3, 1) := by decide +kernel
theorem dX3_search_25 : decode cX3_search 25 = .ok (.i2l, 1) := by decide +kernel
theorem dX3_search_26 : decode cX3_search 26 = .ok (.aload_n 0, 1) := by decide +kernel
theorem dX3_search_27 : decode cX3_search 27 = .ok (.getfield 131, 3) := by decide +kernel
theorem dX3_search_30 : decode cX3_search 30 = .ok (.i2l, 1) := by decide +kernel
theorem dX3_search_31 : decode cX3_search 31 = .ok (.ldc2_w 84, 3) := by decide +kernel
theorem dX3_search_34 : decode cX3_search 34 = .ok (.invokestatic 54, 3) := by decide +kernel
theorem dX3_search_37 : decode cX3_search 37 = .ok (.ifCond .ne 6, 3) := by decide +kernel
theorem dX3_search_40 : decode cX3_search 40 = .ok (.bipush (-102), 2) := by decide +kernel
theorem dX3_search_42 : decode cX3_search 42 = .ok (.ireturn, 1) := by decide +kernel
theorem dX3_search_43 : decode cX3_search 43 = .ok (.aload 4, 2) := by decide +kernel
theorem dX3_search_45 : decode cX3_search 45 = .ok (.getfield 120, 3) := by decide +kernel
theorem dX3_search_48 : decode cX3_search 48 = .ok (.ifCond .ne 11, 3) := by decide +kernel
theorem dX3_search_51 : decode cX3_search 51 = .ok (.aload 4, 2) := by decide +kernel
theorem dX3_search_53 : decode cX3_search 53 = .ok (.getfield 134, 3) := by decide +kernel
theorem dX3_search_56 : decode cX3_search 56 = .ok (.ifCond .eq 6, 3) := by decide +kernel
theorem dX3_search_59 : decode cX3_search 59 = .ok (.bipush (-103), 2) := by decide +kernel
theorem dX3_search_61 : decode cX3_search 61 = .ok (.ireturn, 1) := by decide +kernel
theorem dX3_search_62 : decode cX3_search 62 = .ok (.aload_n 0, 1) := by decide +kernel
theorem dX3_search_63 : decode cX3_search 63 = .ok (.getfield 137, 3) := by decide +kernel
theorem dX3_search_66 : decode cX3_search 66 = .ok (.bipush 100, 2) := by decide +kernel
theorem dX3_search_68 : decode cX3_search 68 = .ok (.if_icmp .lt 6, 3) := by decide +kernel
theorem dX3_search_71 : decode cX3_search 71 = .ok (.bipush (-104), 2) := by decide +kernel
theorem dX3_search_73 : decode cX3_search 73 = .ok (.ireturn, 1) := by decide +kernel
theorem dX3_search_74 : decode cX3_search 74 = .ok (.aload_n 0, 1) := by decide +kernel
theorem dX3_search_75 : decode cX3_search 75 = .ok (.getfield 23, 3) := by decide +kernel
theorem dX3_search_78 : decode cX3_search 78 = .ok (.aload_n 0, 1) := by decide +kernel
theorem dX3_search_79 : decode cX3_search 79 = .ok (.getfield 137, 3) := by decide +kernel
theorem dX3_search_82 : decode cX3_search 82 = .ok (.new 21, 3) := by decide +kernel
theorem dX3_search_85 : decode cX3_search 85 = .ok (.dup, 1) := by decide +kernel
theorem dX3_search_86 : decode cX3_search 86 = .ok (.aload 4, 2) := by decide +kernel
theorem dX3_search_88 : decode cX3_search 88 = .ok (.iload_n 3, 1) := by decide +kernel
theorem dX3_search_89 : decode cX3_search 89 = .ok (.invokespecial 140, 3) := by decide +kernel
theorem dX3_search_92 : decode cX3_search 92 = .ok (.aastore, 1) := by decide +kernel
theorem dX3_search_93 : decode cX3_search 93 = .ok (.aload_n 0, 1) := by decide +kernel
theorem dX3_search_94 : decode cX3_search 94 = .ok (.dup, 1) := by decide +kernel
theorem dX3_search_95 : decode cX3_search 95 = .ok (.getfield 137, 3) := by decide +kernel
theorem dX3_search_98 : decode cX3_search 98 = .ok (.iconst 1, 1) := by decide +kernel
theorem dX3_search_99 : decode cX3_search 99 = .ok (.iadd, 1) := by decide +kernel
theorem dX3_search_100 : decode cX3_search 100 = .ok (.putfield 137, 3) := by decide +kernel
theorem dX3_search_103 : decode cX3_search 103 = .ok (.aload 4, 2) := by decide +kernel
theorem dX3_search_105 : decode cX3_search 105 = .ok (.invokevirtual 143, 3) := by decide +kernel
theorem dX3_search_108 : decode cX3_search 108 = .ok (.aload_n 0, 1) := by decide +kernel
theorem dX3_search_109 : decode cX3_search 109 = .ok (.getfield 137, 3) := by decide +kernel
theorem dX3_search_112 : decode cX3_search 112 = .ok (.ireturn, 1) := by decide +kernel
theorem dX2_init_0 : decode cX2_init 0 = .ok (.aload_n 0, 1) := by decide +kernel
theorem dX2_init_1 : decode cX2_init 1 = .ok (.invokespecial 1, 3) := by decide +kernel
theorem dX2_init_4 : decode cX2_init 4 = .ok (.aload_n 0, 1) := by decide +kernel
theorem dX2_init_5 : decode cX2_init 5 = .ok (.iconst 1, 1) := by decide +kernel
theorem dX2_init_6 : decode cX2_init 6 = .ok (.putfield 7, 3) := by decide +kernel
theorem dX2_init_9 : decode cX2_init 9 = .ok (.aload_n 0, 1) := by decide +kernel
theorem dX2_init_10 : decode cX2_init 10 = .ok (.aload_n 1, 1) := by decide +kernel
theorem dX2_init_11 : decode cX2_init 11 = .ok (.putfield 13, 3) := by decide +kernel
theorem dX2_init_14 : decode cX2_init 14 = .ok (.aload_n 0, 1) := by decide +kernel
theorem dX2_init_15 : decode cX2_init 15 = .ok (.iload_n 2, 1) := by decide +kernel
theorem dX2_init_16 : decode cX2_init 16 = .ok (.putfield 17, 3) := by decide +kernel
theorem dX2_init_19 : decode cX2_init 19 = .ok (.return_, 1) := by decide +kernel
theorem dX0_addSearch_0 : decode cX0_addSearch 0 = .ok (.aload_n 0, 1) := by decide +kernel
theorem dX0_addSearch_1 : decode cX0_addSearch 1 = .ok (.dup, 1) := by decide +kernel
theorem dX0_addSearch_2 : decode cX0_addSearch 2 = .ok (.getfield 42, 3) := by decide +kernel
theorem dX0_addSearch_5 : decode cX0_addSearch 5 = .ok (.iconst 1, 1) := by decide +kernel
theorem dX0_addSearch_6 : decode cX0_addSearch 6 = .ok (.iadd, 1) := by decide +kernel
theorem dX0_addSearch_7 : decode cX0_addSearch 7 = .ok (.putfield 42, 3) := by decide +kernel
theorem dX0_addSearch_10 : decode cX0_addSearch 10 = .ok (.aload_n 0, 1) := by decide +kernel
theorem dX0_addSearch_11 : decode cX0_addSearch 11 = .ok (.dup, 1) := by decide +kernel
theorem dX0_addSearch_12 : decode cX0_addSearch 12 = .ok (.getfield 45, 3) := by decide +kernel
theorem dX0_addSearch_15 : decode cX0_addSearch 15 = .ok (.iconst 1, 1) := by decide +kernel
theorem dX0_addSearch_16 : decode cX0_addSearch 16 = .ok (.iadd, 1) := by decide +kernel
theorem dX0_addSearch_17 : decode cX0_addSearch 17 = .ok (.putfield 45, 3) := by decide +kernel
theorem dX0_addSearch_20 : decode cX0_addSearch 20 = .ok (.return_, 1) := by decide +kernel
theorem dX3_answer_0 : decode cX3_answer 0 = .ok (.aload_n 0, 1) := by decide +kernel
theorem dX3_answer_1 : decode cX3_answer 1 = .ok (.iload_n 1, 1) := by decide +kernel
theorem dX3_answer_2 : decode cX3_answer 2 = .ok (.invokevirtual 146, 3) := by decide +kernel
theorem dX3_answer_5 : decode cX3_answer 5 = .ok (.astore_n 3, 1) := by decide +kernel
theorem dX3_answer_6 : decode cX3_answer 6 = .ok (.aload_n 3, 1) := by decide +kernel
theorem dX3_answer_7 : decode cX3_answer 7 = .ok (.ifnonnull 6, 3) := by decide +kernel
theorem dX3_answer_10 : decode cX3_answer 10 = .ok (.bipush (-101), 2) := by decide +kernel
theorem dX3_answer_12 : decode cX3_answer 12 = .ok (.ireturn, 1) := by decide +kernel
theorem dX3_answer_13 : decode cX3_answer 13 = .ok (.aload_n 3, 1) := by decide +kernel
theorem dX3_answer_14 : decode cX3_answer 14 = .ok (.getfield 150, 3) := by decide +kernel
theorem dX3_answer_17 : decode cX3_answer 17 = .ok (.ifCond .ne 6, 3) := by decide +kernel
theorem dX3_answer_20 : decode cX3_answer 20 = .ok (.bipush (-103), 2) := by decide +kernel
theorem dX3_answer_22 : decode cX3_answer 22 = .ok (.ireturn, 1) := by decide +kernel
theorem dX3_answer_23 : decode cX3_answer 23 = .ok (.aload_n 3, 1) := by decide +kernel
theorem dX3_answer_24 : decode cX3_answer 24 = .ok (.iload_n 2, 1) := by decide +kernel
theorem dX3_answer_25 : decode cX3_answer 25 = .ok (.invokevirtual 154, 3) := by decide +kernel
theorem dX3_answer_28 : decode cX3_answer 28 = .ok (.iconst 1, 1) := by decide +kernel
theorem dX3_answer_29 : decode cX3_answer 29 = .ok (.ireturn, 1) := by decide +kernel
theorem dX3_searchNumbered_0 : decode cX3_searchNumbered 0 = .ok (.iload_n 1, 1) := by decide +kernel
theorem dX3_searchNumbered_1 : decode cX3_searchNumbered 1 = .ok (.i2l, 1) := by decide +kernel
theorem dX3_searchNumbered_2 : decode cX3_searchNumbered 2 = .ok (.lconst 1, 1) := by decide +kernel
theorem dX3_searchNumbered_3 : decode cX3_searchNumbered 3 = .ok (.aload_n 0, 1) := by decide +kernel
theorem dX3_searchNumbered_4 : decode cX3_searchNumbered 4 = .ok (.getfield 137, 3) := by decide +kernel
theorem dX3_searchNumbered_7 : decode cX3_searchNumbered 7 = .ok (.i2l, 1) := by decide +kernel
theorem dX3_searchNumbered_8 : decode cX3_searchNumbered 8 = .ok (.invokestatic 54, 3) := by decide +kernel
theorem dX3_searchNumbered_11 : decode cX3_searchNumbered 11 = .ok (.ifCond .eq 14, 3) := by decide +kernel
theorem dX3_searchNumbered_14 : decode cX3_searchNumbered 14 = .ok (.aload_n 0, 1) := by decide +kernel
theorem dX3_searchNumbered_15 : decode cX3_searchNumbered 15 = .ok (.getfield 23, 3) := by decide +kernel
theorem dX3_searchNumbered_18 : decode cX3_searchNumbered 18 = .ok (.iload_n 1, 1) := by decide +kernel
theorem dX3_searchNumbered_19 : decode cX3_searchNumbered 19 = .ok (.iconst 1, 1) := by decide +kernel
theorem dX3_searchNumbered_20 : decode cX3_searchNumbered 20 = .ok (.isub, 1) := by decide +kernel
theorem dX3_searchNumbered_21 : decode cX3_searchNumbered 21 = .ok (.aaload, 1) := by decide +kernel
theorem dX3_searchNumbered_22 : decode cX3_searchNumbered 22 = .ok (.goto 4, 3) := by decide +kernel
theorem dX3_searchNumbered_25 : decode cX3_searchNumbered 25 = .ok (.aconst_null, 1) := by decide +kernel
theorem dX3_searchNumbered_26 : decode cX3_searchNumbered 26 = .ok (.areturn, 1) := by decide +kernel
theorem dX2_close_0 : decode cX2_close 0 = .ok (.aload_n 0, 1) := by decide +kernel
theorem dX2_close_1 : decode cX2_close 1 = .ok (.iconst 0, 1) := by decide +kernel
theorem dX2_close_2 : decode cX2_close 2 = .ok (.putfield 7, 3) := by decide +kernel
theorem dX2_close_5 : decode cX2_close 5 = .ok (.aload_n 0, 1) := by decide +kernel
theorem dX2_close_6 : decode cX2_close 6 = .ok (.getfield 13, 3) := by decide +kernel
theorem dX2_close_9 : decode cX2_close 9 = .ok (.iload_n 1, 1) := by decide +kernel
theorem dX2_close_10 : decode cX2_close 10 = .ok (.invokevirtual 21, 3) := by decide +kernel
theorem dX2_close_13 : decode cX2_close 13 = .ok (.return_, 1) := by decide +kernel
theorem dX0_endSearch_0 : decode cX0_endSearch 0 = .ok (.aload_n 0, 1) := by decide +kernel
theorem dX0_endSearch_1 : decode cX0_endSearch 1 = .ok (.dup, 1) := by decide +kernel
theorem dX0_endSearch_2 : decode cX0_endSearch 2 = .ok (.getfield 45, 3) := by decide +kernel
theorem dX0_endSearch_5 : decode cX0_endSearch 5 = .ok (.iconst 1, 1) := by decide +kernel
theorem dX0_endSearch_6 : decode cX0_endSearch 6 = .ok (.isub, 1) := by decide +kernel
theorem dX0_endSearch_7 : decode cX0_endSearch 7 = .ok (.putfield 45, 3) := by decide +kernel
theorem dX0_endSearch_10 : decode cX0_endSearch 10 = .ok (.iload_n 1, 1) := by decide +kernel
theorem dX0_endSearch_11 : decode cX0_endSearch 11 = .ok (.ifCond .eq 8, 3) := by decide +kernel
theorem dX0_endSearch_14 : decode cX0_endSearch 14 = .ok (.aload_n 0, 1) := by decide +kernel
theorem dX0_endSearch_15 : decode cX0_endSearch 15 = .ok (.iconst 1, 1) := by decide +kernel
theorem dX0_endSearch_16 : decode cX0_endSearch 16 = .ok (.putfield 48, 3) := by decide +kernel
theorem dX0_endSearch_19 : decode cX0_endSearch 19 = .ok (.return_, 1) := by decide +kernel
theorem dX3_tick_0 : decode cX3_tick 0 = .ok (.iload_n 1, 1) := by decide +kernel
theorem dX3_tick_1 : decode cX3_tick 1 = .ok (.i2l, 1) := by decide +kernel
theorem dX3_tick_2 : decode cX3_tick 2 = .ok (.aload_n 0, 1) := by decide +kernel
theorem dX3_tick_3 : decode cX3_tick 3 = .ok (.getfield 131, 3) := by decide +kernel
theorem dX3_tick_6 : decode cX3_tick 6 = .ok (.i2l, 1) := by decide +kernel
theorem dX3_tick_7 : decode cX3_tick 7 = .ok (.ldc2_w 84, 3) := by decide +kernel
theorem dX3_tick_10 : decode cX3_tick 10 = .ok (.invokestatic 54, 3) := by decide +kernel
theorem dX3_tick_13 : decode cX3_tick 13 = .ok (.ifCond .ne 6, 3) := by decide +kernel
theorem dX3_tick_16 : decode cX3_tick 16 = .ok (.bipush (-102), 2) := by decide +kernel
theorem dX3_tick_18 : decode cX3_tick 18 = .ok (.ireturn, 1) := by decide +kernel
theorem dX3_tick_19 : decode cX3_tick 19 = .ok (.aload_n 0, 1) := by decide +kernel
theorem dX3_tick_20 : decode cX3_tick 20 = .ok (.iload_n 1, 1) := by decide +kernel
theorem dX3_tick_21 : decode cX3_tick 21 = .ok (.putfield 131, 3) := by decide +kernel
theorem dX3_tick_24 : decode cX3_tick 24 = .ok (.iconst 0, 1) := by decide +kernel
theorem dX3_tick_25 : decode cX3_tick 25 = .ok (.istore_n 2, 1) := by decide +kernel
theorem dX3_tick_26 : decode cX3_tick 26 = .ok (.iconst 1, 1) := by decide +kernel
theorem dX3_tick_27 : decode cX3_tick 27 = .ok (.istore_n 3, 1) := by decide +kernel
theorem dX3_tick_28 : decode cX3_tick 28 = .ok (.iload_n 3, 1) := by decide +kernel
theorem dX3_tick_29 : decode cX3_tick 29 = .ok (.aload_n 0, 1) := by decide +kernel
theorem dX3_tick_30 : decode cX3_tick 30 = .ok (.getfield 137, 3) := by decide +kernel
theorem dX3_tick_33 : decode cX3_tick 33 = .ok (.if_icmp .gt 47, 3) := by decide +kernel
theorem dX3_tick_36 : decode cX3_tick 36 = .ok (.aload_n 0, 1) := by decide +kernel
theorem dX3_tick_37 : decode cX3_tick 37 = .ok (.iload_n 3, 1) := by decide +kernel
theorem dX3_tick_38 : decode cX3_tick 38 = .ok (.invokevirtual 146, 3) := by decide +kernel
theorem dX3_tick_41 : decode cX3_tick 41 = .ok (.astore 4, 2) := by decide +kernel
theorem dX3_tick_43 : decode cX3_tick 43 = .ok (.aload 4, 2) := by decide +kernel
theorem dX3_tick_45 : decode cX3_tick 45 = .ok (.ifnull 29, 3) := by decide +kernel
theorem dX3_tick_48 : decode cX3_tick 48 = .ok (.aload 4, 2) := by decide +kernel
theorem dX3_tick_50 : decode cX3_tick 50 = .ok (.getfield 150, 3) := by decide +kernel
theorem dX3_tick_53 : decode cX3_tick 53 = .ok (.ifCond .eq 21, 3) := by decide +kernel
theorem dX3_tick_56 : decode cX3_tick 56 = .ok (.aload 4, 2) := by decide +kernel
theorem dX3_tick_58 : decode cX3_tick 58 = .ok (.getfield 158, 3) := by decide +kernel
theorem dX3_tick_61 : decode cX3_tick 61 = .ok (.iload_n 1, 1) := by decide +kernel
theorem dX3_tick_62 : decode cX3_tick 62 = .ok (.if_icmp .ge 12, 3) := by decide +kernel
theorem dX3_tick_65 : decode cX3_tick 65 = .ok (.aload 4, 2) := by decide +kernel
theorem dX3_tick_67 : decode cX3_tick 67 = .ok (.iconst 0, 1) := by decide +kernel
theorem dX3_tick_68 : decode cX3_tick 68 = .ok (.invokevirtual 154, 3) := by decide +kernel
theorem dX3_tick_71 : decode cX3_tick 71 = .ok (.iinc 2 1, 3) := by decide +kernel
theorem dX3_tick_74 : decode cX3_tick 74 = .ok (.iinc 3 1, 3) := by decide +kernel
theorem dX3_tick_77 : decode cX3_tick 77 = .ok (.goto (-49), 3) := by decide +kernel
theorem dX3_tick_80 : decode cX3_tick 80 = .ok (.iload_n 2, 1) := by decide +kernel
theorem dX3_tick_81 : decode cX3_tick 81 = .ok (.ireturn, 1) := by decide +kernel
theorem dX3_sum_0 : decode cX3_sum 0 = .ok (.aload_n 0, 1) := by decide +kernel
theorem dX3_sum_1 : decode cX3_sum 1 = .ok (.iload_n 1, 1) := by decide +kernel
theorem dX3_sum_2 : decode cX3_sum 2 = .ok (.invokevirtual 116, 3) := by decide +kernel
theorem dX3_sum_5 : decode cX3_sum 5 = .ok (.astore_n 2, 1) := by decide +kernel
theorem dX3_sum_6 : decode cX3_sum 6 = .ok (.aload_n 2, 1) := by decide +kernel
theorem dX3_sum_7 : decode cX3_sum 7 = .ok (.ifnonnull 7, 3) := by decide +kernel
theorem dX3_sum_10 : decode cX3_sum 10 = .ok (.ldc2_w 161, 3) := by decide +kernel
theorem dX3_sum_13 : decode cX3_sum 13 = .ok (.lreturn, 1) := by decide +kernel
theorem dX3_sum_14 : decode cX3_sum 14 = .ok (.aload_n 2, 1) := by decide +kernel
theorem dX3_sum_15 : decode cX3_sum 15 = .ok (.getfield 120, 3) := by decide +kernel
theorem dX3_sum_18 : decode cX3_sum 18 = .ok (.iconst 1, 1) := by decide +kernel
theorem dX3_sum_19 : decode cX3_sum 19 = .ok (.if_icmp .ne 10, 3) := by decide +kernel
theorem dX3_sum_22 : decode cX3_sum 22 = .ok (.aload_n 2, 1) := by decide +kernel
theorem dX3_sum_23 : decode cX3_sum 23 = .ok (.getfield 163, 3) := by decide +kernel
theorem dX3_sum_26 : decode cX3_sum 26 = .ok (.goto 8, 3) := by decide +kernel
theorem dX3_sum_29 : decode cX3_sum 29 = .ok (.aload_n 0, 1) := by decide +kernel
theorem dX3_sum_30 : decode cX3_sum 30 = .ok (.aload_n 2, 1) := by decide +kernel
theorem dX3_sum_31 : decode cX3_sum 31 = .ok (.invokevirtual 167, 3) := by decide +kernel
theorem dX3_sum_34 : decode cX3_sum 34 = .ok (.lreturn, 1) := by decide +kernel
theorem dX3_sumByTable_0 : decode cX3_sumByTable 0 = .ok (.aload_n 1, 1) := by decide +kernel
theorem dX3_sumByTable_1 : decode cX3_sumByTable 1 = .ok (.getfield 188, 3) := by decide +kernel
theorem dX3_sumByTable_4 : decode cX3_sumByTable 4 = .ok (.astore_n 2, 1) := by decide +kernel
theorem dX3_sumByTable_5 : decode cX3_sumByTable 5 = .ok (.aload_n 2, 1) := by decide +kernel
theorem dX3_sumByTable_6 : decode cX3_sumByTable 6 = .ok (.getfield 238, 3) := by decide +kernel
theorem dX3_sumByTable_9 : decode cX3_sumByTable 9 = .ok (.lconst 0, 1) := by decide +kernel
theorem dX3_sumByTable_10 : decode cX3_sumByTable 10 = .ok (.lcmp, 1) := by decide +kernel
theorem dX3_sumByTable_11 : decode cX3_sumByTable 11 = .ok (.ifCond .le 10, 3) := by decide +kernel
theorem dX3_sumByTable_14 : decode cX3_sumByTable 14 = .ok (.aload_n 2, 1) := by decide +kernel
theorem dX3_sumByTable_15 : decode cX3_sumByTable 15 = .ok (.getfield 238, 3) := by decide +kernel
theorem dX3_sumByTable_18 : decode cX3_sumByTable 18 = .ok (.goto 19, 3) := by decide +kernel
theorem dX3_sumByTable_21 : decode cX3_sumByTable 21 = .ok (.aload_n 0, 1) := by decide +kernel
theorem dX3_sumByTable_22 : decode cX3_sumByTable 22 = .ok (.getfield 27, 3) := by decide +kernel
theorem dX3_sumByTable_25 : decode cX3_sumByTable 25 = .ok (.aload_n 2, 1) := by decide +kernel
theorem dX3_sumByTable_26 : decode cX3_sumByTable 26 = .ok (.getfield 92, 3) := by decide +kernel
theorem dX3_sumByTable_29 : decode cX3_sumByTable 29 = .ok (.aload_n 1, 1) := by decide +kernel
theorem dX3_sumByTable_30 : decode cX3_sumByTable 30 = .ok (.getfield 134, 3) := by decide +kernel
theorem dX3_sumByTable_33 : decode cX3_sumByTable 33 = .ok (.invokestatic 78, 3) := by decide +kernel
theorem dX3_sumByTable_36 : decode cX3_sumByTable 36 = .ok (.laload, 1) := by decide +kernel
theorem dX3_sumByTable_37 : decode cX3_sumByTable 37 = .ok (.lstore_n 3, 1) := by decide +kernel
theorem dX3_sumByTable_38 : decode cX3_sumByTable 38 = .ok (.aload_n 2, 1) := by decide +kernel
theorem dX3_sumByTable_39 : decode cX3_sumByTable 39 = .ok (.getfield 241, 3) := by decide +kernel
theorem dX3_sumByTable_42 : decode cX3_sumByTable 42 = .ok (.lload_n 3, 1) := by decide +kernel
theorem dX3_sumByTable_43 : decode cX3_sumByTable 43 = .ok (.invokestatic 244, 3) := by decide +kernel
theorem dX3_sumByTable_46 : decode cX3_sumByTable 46 = .ok (.lstore 5, 2) := by decide +kernel
theorem dX3_sumByTable_48 : decode cX3_sumByTable 48 = .ok (.aload_n 1, 1) := by decide +kernel
theorem dX3_sumByTable_49 : decode cX3_sumByTable 49 = .ok (.getfield 134, 3) := by decide +kernel
theorem dX3_sumByTable_52 : decode cX3_sumByTable 52 = .ok (.lookupswitch 42 #[(1, 28), (2, 35)], 28) := by decide +kernel
end
section
theorem dX3_sumByTable_80 : decode cX3_sumByTable 80 = .ok (.lload 5, 2) := by decide +kernel
theorem dX3_sumByTable_82 : decode cX3_sumByTable 82 = .ok (.ldc2_w 247, 3) := by decide +kernel
theorem dX3_sumByTable_85 : decode cX3_sumByTable 85 = .ok (.ldiv, 1) := by decide +kernel
theorem dX3_sumByTable_86 : decode cX3_sumByTable 86 = .ok (.lreturn, 1) := by decide +kernel
theorem dX3_sumByTable_87 : decode cX3_sumByTable 87 = .ok (.lload 5, 2) := by decide +kernel
theorem dX3_sumByTable_89 : decode cX3_sumByTable 89 = .ok (.ldc2_w 82, 3) := by decide +kernel
theorem dX3_sumByTable_92 : decode cX3_sumByTable 92 = .ok (.ldiv, 1) := by decide +kernel
theorem dX3_sumByTable_93 : decode cX3_sumByTable 93 = .ok (.lreturn, 1) := by decide +kernel
theorem dX3_sumByTable_94 : decode cX3_sumByTable 94 = .ok (.lload 5, 2) := by decide +kernel
theorem dX3_sumByTable_96 : decode cX3_sumByTable 96 = .ok (.lreturn, 1) := by decide +kernel
theorem dX3_limit_0 : decode cX3_limit 0 = .ok (.iload_n 1, 1) := by decide +kernel
theorem dX3_limit_1 : decode cX3_limit 1 = .ok (.bipush 10, 2) := by decide +kernel
theorem dX3_limit_3 : decode cX3_limit 3 = .ok (.invokestatic 44, 3) := by decide +kernel
theorem dX3_limit_6 : decode cX3_limit 6 = .ok (.ifCond .eq 10, 3) := by decide +kernel
theorem dX3_limit_9 : decode cX3_limit 9 = .ok (.lload_n 2, 1) := by decide +kernel
theorem dX3_limit_10 : decode cX3_limit 10 = .ok (.invokestatic 48, 3) := by decide +kernel
theorem dX3_limit_13 : decode cX3_limit 13 = .ok (.ifCond .ne 6, 3) := by decide +kernel
theorem dX3_limit_16 : decode cX3_limit 16 = .ok (.bipush (-102), 2) := by decide +kernel
theorem dX3_limit_18 : decode cX3_limit 18 = .ok (.ireturn, 1) := by decide +kernel
theorem dX3_limit_19 : decode cX3_limit 19 = .ok (.aload_n 0, 1) := by decide +kernel
theorem dX3_limit_20 : decode cX3_limit 20 = .ok (.getfield 35, 3) := by decide +kernel
theorem dX3_limit_23 : decode cX3_limit 23 = .ok (.iload_n 1, 1) := by decide +kernel
theorem dX3_limit_24 : decode cX3_limit 24 = .ok (.lload_n 2, 1) := by decide +kernel
theorem dX3_limit_25 : decode cX3_limit 25 = .ok (.lastore, 1) := by decide +kernel
theorem dX3_limit_26 : decode cX3_limit 26 = .ok (.iconst 1, 1) := by decide +kernel
theorem dX3_limit_27 : decode cX3_limit 27 = .ok (.ireturn, 1) := by decide +kernel
theorem dX3_decide_0 : decode cX3_decide 0 = .ok (.aload_n 0, 1) := by decide +kernel
theorem dX3_decide_1 : decode cX3_decide 1 = .ok (.iload_n 1, 1) := by decide +kernel
theorem dX3_decide_2 : decode cX3_decide 2 = .ok (.invokevirtual 116, 3) := by decide +kernel
theorem dX3_decide_5 : decode cX3_decide 5 = .ok (.astore_n 3, 1) := by decide +kernel
theorem dX3_decide_6 : decode cX3_decide 6 = .ok (.aload_n 3, 1) := by decide +kernel
theorem dX3_decide_7 : decode cX3_decide 7 = .ok (.ifnonnull 6, 3) := by decide +kernel
theorem dX3_decide_10 : decode cX3_decide 10 = .ok (.bipush (-101), 2) := by decide +kernel
theorem dX3_decide_12 : decode cX3_decide 12 = .ok (.ireturn, 1) := by decide +kernel
theorem dX3_decide_13 : decode cX3_decide 13 = .ok (.iload_n 2, 1) := by decide +kernel
theorem dX3_decide_14 : decode cX3_decide 14 = .ok (.bipush 10, 2) := by decide +kernel
theorem dX3_decide_16 : decode cX3_decide 16 = .ok (.invokestatic 44, 3) := by decide +kernel
theorem dX3_decide_19 : decode cX3_decide 19 = .ok (.ifCond .ne 6, 3) := by decide +kernel
theorem dX3_decide_22 : decode cX3_decide 22 = .ok (.bipush (-102), 2) := by decide +kernel
theorem dX3_decide_24 : decode cX3_decide 24 = .ok (.ireturn, 1) := by decide +kernel
theorem dX3_decide_25 : decode cX3_decide 25 = .ok (.aload_n 3, 1) := by decide +kernel
theorem dX3_decide_26 : decode cX3_decide 26 = .ok (.invokevirtual 171, 3) := by decide +kernel
theorem dX3_decide_29 : decode cX3_decide 29 = .ok (.ifCond .ne 6, 3) := by decide +kernel
theorem dX3_decide_32 : decode cX3_decide 32 = .ok (.bipush (-103), 2) := by decide +kernel
theorem dX3_decide_34 : decode cX3_decide 34 = .ok (.ireturn, 1) := by decide +kernel
theorem dX3_decide_35 : decode cX3_decide 35 = .ok (.aload_n 3, 1) := by decide +kernel
theorem dX3_decide_36 : decode cX3_decide 36 = .ok (.getfield 175, 3) := by decide +kernel
theorem dX3_decide_39 : decode cX3_decide 39 = .ok (.ifCond .eq 9, 3) := by decide +kernel
theorem dX3_decide_42 : decode cX3_decide 42 = .ok (.aload_n 0, 1) := by decide +kernel
theorem dX3_decide_43 : decode cX3_decide 43 = .ok (.aload_n 3, 1) := by decide +kernel
theorem dX3_decide_44 : decode cX3_decide 44 = .ok (.invokevirtual 178, 3) := by decide +kernel
theorem dX3_decide_47 : decode cX3_decide 47 = .ok (.ireturn, 1) := by decide +kernel
theorem dX3_decide_48 : decode cX3_decide 48 = .ok (.aload_n 0, 1) := by decide +kernel
theorem dX3_decide_49 : decode cX3_decide 49 = .ok (.aload_n 3, 1) := by decide +kernel
theorem dX3_decide_50 : decode cX3_decide 50 = .ok (.invokevirtual 167, 3) := by decide +kernel
theorem dX3_decide_53 : decode cX3_decide 53 = .ok (.lstore 4, 2) := by decide +kernel
theorem dX3_decide_55 : decode cX3_decide 55 = .ok (.lload 4, 2) := by decide +kernel
theorem dX3_decide_57 : decode cX3_decide 57 = .ok (.aload_n 0, 1) := by decide +kernel
theorem dX3_decide_58 : decode cX3_decide 58 = .ok (.getfield 35, 3) := by decide +kernel
theorem dX3_decide_61 : decode cX3_decide 61 = .ok (.iload_n 2, 1) := by decide +kernel
theorem dX3_decide_62 : decode cX3_decide 62 = .ok (.laload, 1) := by decide +kernel
theorem dX3_decide_63 : decode cX3_decide 63 = .ok (.lcmp, 1) := by decide +kernel
theorem dX3_decide_64 : decode cX3_decide 64 = .ok (.ifCond .le 6, 3) := by decide +kernel
theorem dX3_decide_67 : decode cX3_decide 67 = .ok (.bipush (-107), 2) := by decide +kernel
theorem dX3_decide_69 : decode cX3_decide 69 = .ok (.ireturn, 1) := by decide +kernel
theorem dX3_decide_70 : decode cX3_decide 70 = .ok (.aload_n 0, 1) := by decide +kernel
theorem dX3_decide_71 : decode cX3_decide 71 = .ok (.aload_n 3, 1) := by decide +kernel
theorem dX3_decide_72 : decode cX3_decide 72 = .ok (.lload 4, 2) := by decide +kernel
theorem dX3_decide_74 : decode cX3_decide 74 = .ok (.invokevirtual 182, 3) := by decide +kernel
theorem dX3_decide_77 : decode cX3_decide 77 = .ok (.ireturn, 1) := by decide +kernel
theorem dX0_isReady_0 : decode cX0_isReady 0 = .ok (.aload_n 0, 1) := by decide +kernel
theorem dX0_isReady_1 : decode cX0_isReady 1 = .ok (.getfield 9, 3) := by decide +kernel
theorem dX0_isReady_4 : decode cX0_isReady 4 = .ok (.ifCond .ne 10, 3) := by decide +kernel
theorem dX0_isReady_7 : decode cX0_isReady 7 = .ok (.aload_n 0, 1) := by decide +kernel
theorem dX0_isReady_8 : decode cX0_isReady 8 = .ok (.getfield 39, 3) := by decide +kernel
theorem dX0_isReady_11 : decode cX0_isReady 11 = .ok (.ifCond .eq 5, 3) := by decide +kernel
theorem dX0_isReady_14 : decode cX0_isReady 14 = .ok (.iconst 0, 1) := by decide +kernel
theorem dX0_isReady_15 : decode cX0_isReady 15 = .ok (.ireturn, 1) := by decide +kernel
theorem dX0_isReady_16 : decode cX0_isReady 16 = .ok (.aload_n 0, 1) := by decide +kernel
theorem dX0_isReady_17 : decode cX0_isReady 17 = .ok (.getfield 25, 3) := by decide +kernel
theorem dX0_isReady_20 : decode cX0_isReady 20 = .ok (.ifCond .ne 17, 3) := by decide +kernel
theorem dX0_isReady_23 : decode cX0_isReady 23 = .ok (.aload_n 0, 1) := by decide +kernel
theorem dX0_isReady_24 : decode cX0_isReady 24 = .ok (.getfield 42, 3) := by decide +kernel
theorem dX0_isReady_27 : decode cX0_isReady 27 = .ok (.ifCond .le 14, 3) := by decide +kernel
theorem dX0_isReady_30 : decode cX0_isReady 30 = .ok (.aload_n 0, 1) := by decide +kernel
theorem dX0_isReady_31 : decode cX0_isReady 31 = .ok (.getfield 45, 3) := by decide +kernel
theorem dX0_isReady_34 : decode cX0_isReady 34 = .ok (.ifCond .ne 7, 3) := by decide +kernel
theorem dX0_isReady_37 : decode cX0_isReady 37 = .ok (.iconst 1, 1) := by decide +kernel
theorem dX0_isReady_38 : decode cX0_isReady 38 = .ok (.goto 4, 3) := by decide +kernel
theorem dX0_isReady_41 : decode cX0_isReady 41 = .ok (.iconst 0, 1) := by decide +kernel
theorem dX0_isReady_42 : decode cX0_isReady 42 = .ok (.ireturn, 1) := by decide +kernel
theorem dX3_refuse_0 : decode cX3_refuse 0 = .ok (.aload_n 1, 1) := by decide +kernel
theorem dX3_refuse_1 : decode cX3_refuse 1 = .ok (.iconst 2, 1) := by decide +kernel
theorem dX3_refuse_2 : decode cX3_refuse 2 = .ok (.putfield 120, 3) := by decide +kernel
theorem dX3_refuse_5 : decode cX3_refuse 5 = .ok (.aload_n 0, 1) := by decide +kernel
theorem dX3_refuse_6 : decode cX3_refuse 6 = .ok (.dup, 1) := by decide +kernel
theorem dX3_refuse_7 : decode cX3_refuse 7 = .ok (.getfield 233, 3) := by decide +kernel
theorem dX3_refuse_10 : decode cX3_refuse 10 = .ok (.iconst 1, 1) := by decide +kernel
theorem dX3_refuse_11 : decode cX3_refuse 11 = .ok (.iadd, 1) := by decide +kernel
theorem dX3_refuse_12 : decode cX3_refuse 12 = .ok (.putfield 233, 3) := by decide +kernel
theorem dX3_refuse_15 : decode cX3_refuse 15 = .ok (.aload_n 0, 1) := by decide +kernel
theorem dX3_refuse_16 : decode cX3_refuse 16 = .ok (.aload_n 1, 1) := by decide +kernel
theorem dX3_refuse_17 : decode cX3_refuse 17 = .ok (.getfield 199, 3) := by decide +kernel
theorem dX3_refuse_20 : decode cX3_refuse 20 = .ok (.iconst 4, 1) := by decide +kernel
theorem dX3_refuse_21 : decode cX3_refuse 21 = .ok (.invokevirtual 112, 3) := by decide +kernel
theorem dX3_refuse_24 : decode cX3_refuse 24 = .ok (.iconst 2, 1) := by decide +kernel
theorem dX3_refuse_25 : decode cX3_refuse 25 = .ok (.ireturn, 1) := by decide +kernel
theorem dX3_pay_0 : decode cX3_pay 0 = .ok (.aload_n 1, 1) := by decide +kernel
theorem dX3_pay_1 : decode cX3_pay 1 = .ok (.iconst 1, 1) := by decide +kernel
theorem dX3_pay_2 : decode cX3_pay 2 = .ok (.putfield 120, 3) := by decide +kernel
theorem dX3_pay_5 : decode cX3_pay 5 = .ok (.aload_n 1, 1) := by decide +kernel
theorem dX3_pay_6 : decode cX3_pay 6 = .ok (.lload_n 2, 1) := by decide +kernel
theorem dX3_pay_7 : decode cX3_pay 7 = .ok (.putfield 163, 3) := by decide +kernel
theorem dX3_pay_10 : decode cX3_pay 10 = .ok (.aload_n 0, 1) := by decide +kernel
theorem dX3_pay_11 : decode cX3_pay 11 = .ok (.dup, 1) := by decide +kernel
theorem dX3_pay_12 : decode cX3_pay 12 = .ok (.getfield 230, 3) := by decide +kernel
theorem dX3_pay_15 : decode cX3_pay 15 = .ok (.lload_n 2, 1) := by decide +kernel
theorem dX3_pay_16 : decode cX3_pay 16 = .ok (.ladd, 1) := by decide +kernel
theorem dX3_pay_17 : decode cX3_pay 17 = .ok (.putfield 230, 3) := by decide +kernel
theorem dX3_pay_20 : decode cX3_pay 20 = .ok (.aload_n 0, 1) := by decide +kernel
theorem dX3_pay_21 : decode cX3_pay 21 = .ok (.aload_n 1, 1) := by decide +kernel
theorem dX3_pay_22 : decode cX3_pay 22 = .ok (.getfield 199, 3) := by decide +kernel
theorem dX3_pay_25 : decode cX3_pay 25 = .ok (.iconst 3, 1) := by decide +kernel
theorem dX3_pay_26 : decode cX3_pay 26 = .ok (.invokevirtual 112, 3) := by decide +kernel
theorem dX3_pay_29 : decode cX3_pay 29 = .ok (.iconst 1, 1) := by decide +kernel
theorem dX3_pay_30 : decode cX3_pay 30 = .ok (.ireturn, 1) := by decide +kernel
theorem dX3_share_0 : decode cX3_share 0 = .ok (.aload_n 0, 1) := by decide +kernel
theorem dX3_share_1 : decode cX3_share 1 = .ok (.iload_n 1, 1) := by decide +kernel
theorem dX3_share_2 : decode cX3_share 2 = .ok (.invokevirtual 116, 3) := by decide +kernel
theorem dX3_share_5 : decode cX3_share 5 = .ok (.astore_n 3, 1) := by decide +kernel
theorem dX3_share_6 : decode cX3_share 6 = .ok (.aload_n 3, 1) := by decide +kernel
theorem dX3_share_7 : decode cX3_share 7 = .ok (.ifnonnull 7, 3) := by decide +kernel
theorem dX3_share_10 : decode cX3_share 10 = .ok (.ldc2_w 161, 3) := by decide +kernel
theorem dX3_share_13 : decode cX3_share 13 = .ok (.lreturn, 1) := by decide +kernel
theorem dX3_share_14 : decode cX3_share 14 = .ok (.iload_n 2, 1) := by decide +kernel
theorem dX3_share_15 : decode cX3_share 15 = .ok (.bipush 6, 2) := by decide +kernel
theorem dX3_share_17 : decode cX3_share 17 = .ok (.invokestatic 44, 3) := by decide +kernel
theorem dX3_share_20 : decode cX3_share 20 = .ok (.ifCond .ne 7, 3) := by decide +kernel
theorem dX3_share_23 : decode cX3_share 23 = .ok (.ldc2_w 186, 3) := by decide +kernel
theorem dX3_share_26 : decode cX3_share 26 = .ok (.lreturn, 1) := by decide +kernel
theorem dX3_share_27 : decode cX3_share 27 = .ok (.aload_n 3, 1) := by decide +kernel
theorem dX3_share_28 : decode cX3_share 28 = .ok (.getfield 120, 3) := by decide +kernel
theorem dX3_share_31 : decode cX3_share 31 = .ok (.iconst 1, 1) := by decide +kernel
theorem dX3_share_32 : decode cX3_share 32 = .ok (.if_icmp .ne 18, 3) := by decide +kernel
theorem dX3_share_35 : decode cX3_share 35 = .ok (.aload_n 3, 1) := by decide +kernel
theorem dX3_share_36 : decode cX3_share 36 = .ok (.getfield 188, 3) := by decide +kernel
theorem dX3_share_39 : decode cX3_share 39 = .ok (.aload_n 3, 1) := by decide +kernel
theorem dX3_share_40 : decode cX3_share 40 = .ok (.getfield 163, 3) := by decide +kernel
theorem dX3_share_43 : decode cX3_share 43 = .ok (.iload_n 2, 1) := by decide +kernel
theorem dX3_share_44 : decode cX3_share 44 = .ok (.invokevirtual 192, 3) := by decide +kernel
theorem dX3_share_47 : decode cX3_share 47 = .ok (.goto 4, 3) := by decide +kernel
theorem dX3_share_50 : decode cX3_share 50 = .ok (.lconst 0, 1) := by decide +kernel
theorem dX3_share_51 : decode cX3_share 51 = .ok (.lreturn, 1) := by decide +kernel
theorem dX1_partOf_0 : decode cX1_partOf 0 = .ok (.aload_n 0, 1) := by decide +kernel
theorem dX1_partOf_1 : decode cX1_partOf 1 = .ok (.getfield 32, 3) := by decide +kernel
theorem dX1_partOf_4 : decode cX1_partOf 4 = .ok (.aload_n 0, 1) := by decide +kernel
theorem dX1_partOf_5 : decode cX1_partOf 5 = .ok (.getfield 35, 3) := by decide +kernel
theorem dX1_partOf_8 : decode cX1_partOf 8 = .ok (.isub, 1) := by decide +kernel
theorem dX1_partOf_9 : decode cX1_partOf 9 = .ok (.istore 4, 2) := by decide +kernel
theorem dX1_partOf_11 : decode cX1_partOf 11 = .ok (.iload 4, 2) := by decide +kernel
theorem dX1_partOf_13 : decode cX1_partOf 13 = .ok (.ifCond .gt 5, 3) := by decide +kernel
theorem dX1_partOf_16 : decode cX1_partOf 16 = .ok (.lconst 0, 1) := by decide +kernel
theorem dX1_partOf_17 : decode cX1_partOf 17 = .ok (.lreturn, 1) := by decide +kernel
theorem dX1_partOf_18 : decode cX1_partOf 18 = .ok (.lload_n 1, 1) := by decide +kernel
theorem dX1_partOf_19 : decode cX1_partOf 19 = .ok (.iload 4, 2) := by decide +kernel
theorem dX1_partOf_21 : decode cX1_partOf 21 = .ok (.i2l, 1) := by decide +kernel
theorem dX1_partOf_22 : decode cX1_partOf 22 = .ok (.ldiv, 1) := by decide +kernel
theorem dX1_partOf_23 : decode cX1_partOf 23 = .ok (.lstore 5, 2) := by decide +kernel
theorem dX1_partOf_25 : decode cX1_partOf 25 = .ok (.lload_n 1, 1) := by decide +kernel
theorem dX1_partOf_26 : decode cX1_partOf 26 = .ok (.iload 4, 2) := by decide +kernel
theorem dX1_partOf_28 : decode cX1_partOf 28 = .ok (.i2l, 1) := by decide +kernel
theorem dX1_partOf_29 : decode cX1_partOf 29 = .ok (.lrem, 1) := by decide +kernel
theorem dX1_partOf_30 : decode cX1_partOf 30 = .ok (.lstore 7, 2) := by decide +kernel
theorem dX1_partOf_32 : decode cX1_partOf 32 = .ok (.lconst 0, 1) := by decide +kernel
theorem dX1_partOf_33 : decode cX1_partOf 33 = .ok (.lstore 9, 2) := by decide +kernel
theorem dX1_partOf_35 : decode cX1_partOf 35 = .ok (.iconst 0, 1) := by decide +kernel
theorem dX1_partOf_36 : decode cX1_partOf 36 = .ok (.istore 11, 2) := by decide +kernel
theorem dX1_partOf_38 : decode cX1_partOf 38 = .ok (.iload 11, 2) := by decide +kernel
theorem dX1_partOf_40 : decode cX1_partOf 40 = .ok (.iload 4, 2) := by decide +kernel
theorem dX1_partOf_42 : decode cX1_partOf 42 = .ok (.if_icmp .ge 48, 3) := by decide +kernel
theorem dX1_partOf_45 : decode cX1_partOf 45 = .ok (.aload_n 0, 1) := by decide +kernel
theorem dX1_partOf_46 : decode cX1_partOf 46 = .ok (.getfield 9, 3) := by decide +kernel
theorem dX1_partOf_49 : decode cX1_partOf 49 = .ok (.aload_n 0, 1) := by decide +kernel
theorem dX1_partOf_50 : decode cX1_partOf 50 = .ok (.getfield 35, 3) := by decide +kernel
theorem dX1_partOf_53 : decode cX1_partOf 53 = .ok (.iload 11, 2) := by decide +kernel
theorem dX1_partOf_55 : decode cX1_partOf 55 = .ok (.iadd, 1) := by decide +kernel
theorem dX1_partOf_56 : decode cX1_partOf 56 = .ok (.iaload, 1) := by decide +kernel
theorem dX1_partOf_57 : decode cX1_partOf 57 = .ok (.iload_n 3, 1) := by decide +kernel
theorem dX1_partOf_58 : decode cX1_partOf 58 = .ok (.if_icmp .ne 26, 3) := by decide +kernel
theorem dX1_partOf_61 : decode cX1_partOf 61 = .ok (.lload 9, 2) := by decide +kernel
theorem dX1_partOf_63 : decode cX1_partOf 63 = .ok (.iload 11, 2) := by decide +kernel
theorem dX1_partOf_65 : decode cX1_partOf 65 = .ok (.i2l, 1) := by decide +kernel
theorem dX1_partOf_66 : decode cX1_partOf 66 = .ok (.lload 7, 2) := by decide +kernel
theorem dX1_partOf_68 : decode cX1_partOf 68 = .ok (.lcmp, 1) := by decide +kernel
theorem dX1_partOf_69 : decode cX1_partOf 69 = .ok (.ifCond .ge 10, 3) := by decide +kernel
theorem dX1_partOf_72 : decode cX1_partOf 72 = .ok (.lload 5, 2) := by decide +kernel
theorem dX1_partOf_74 : decode cX1_partOf 74 = .ok (.lconst 1, 1) := by decide +kernel
theorem dX1_partOf_75 : decode cX1_partOf 75 = .ok (.ladd, 1) := by decide +kernel
theorem dX1_partOf_76 : decode cX1_partOf 76 = .ok (.goto 5, 3) := by decide +kernel
theorem dX1_partOf_79 : decode cX1_partOf 79 = .ok (.lload 5, 2) := by decide +kernel
theorem dX1_partOf_81 : decode cX1_partOf 81 = .ok (.ladd, 1) := by decide +kernel
theorem dX1_partOf_82 : decode cX1_partOf 82 = .ok (.lstore 9, 2) := by decide +kernel
theorem dX1_partOf_84 : decode cX1_partOf 84 = .ok (.iinc 11 1, 3) := by decide +kernel
theorem dX1_partOf_87 : decode cX1_partOf 87 = .ok (.goto (-49), 3) := by decide +kernel
theorem dX1_partOf_90 : decode cX1_partOf 90 = .ok (.lload 9, 2) := by decide +kernel
theorem dX1_partOf_92 : decode cX1_partOf 92 = .ok (.lreturn, 1) := by decide +kernel
theorem dX3_found_0 : decode cX3_found 0 = .ok (.aload_n 0, 1) := by decide +kernel
theorem dX3_found_1 : decode cX3_found 1 = .ok (.iload_n 1, 1) := by decide +kernel
theorem dX3_found_2 : decode cX3_found 2 = .ok (.invokevirtual 65, 3) := by decide +kernel
theorem dX3_found_5 : decode cX3_found 5 = .ok (.astore_n 2, 1) := by decide +kernel
theorem dX3_found_6 : decode cX3_found 6 = .ok (.aload_n 2, 1) := by decide +kernel
theorem dX3_found_7 : decode cX3_found 7 = .ok (.ifnonnull 6, 3) := by decide +kernel
theorem dX3_found_10 : decode cX3_found 10 = .ok (.bipush (-101), 2) := by decide +kernel
theorem dX3_found_12 : decode cX3_found 12 = .ok (.ireturn, 1) := by decide +kernel
theorem dX3_found_13 : decode cX3_found 13 = .ok (.aload_n 0, 1) := by decide +kernel
theorem dX3_found_14 : decode cX3_found 14 = .ok (.iload_n 1, 1) := by decide +kernel
theorem dX3_found_15 : decode cX3_found 15 = .ok (.iconst 0, 1) := by decide +kernel
theorem dX3_found_16 : decode cX3_found 16 = .ok (.invokevirtual 95, 3) := by decide +kernel
theorem dX3_found_19 : decode cX3_found 19 = .ok (.astore_n 3, 1) := by decide +kernel
theorem dX3_found_20 : decode cX3_found 20 = .ok (.aload_n 3, 1) := by decide +kernel
theorem dX3_found_21 : decode cX3_found 21 = .ok (.ifnull 18, 3) := by decide +kernel
theorem dX3_found_24 : decode cX3_found 24 = .ok (.aload_n 3, 1) := by decide +kernel
theorem dX3_found_25 : decode cX3_found 25 = .ok (.getfield 120, 3) := by decide +kernel
theorem dX3_found_28 : decode cX3_found 28 = .ok (.iconst 1, 1) := by decide +kernel
theorem dX3_found_29 : decode cX3_found 29 = .ok (.if_icmp .ne 10, 3) := by decide +kernel
theorem dX3_found_32 : decode cX3_found 32 = .ok (.aload_n 2, 1) := by decide +kernel
theorem dX3_found_33 : decode cX3_found 33 = .ok (.getfield 196, 3) := by decide +kernel
theorem dX3_found_36 : decode cX3_found 36 = .ok (.ifCond .eq 6, 3) := by decide +kernel
theorem dX3_found_39 : decode cX3_found 39 = .ok (.bipush (-103), 2) := by decide +kernel
theorem dX3_found_41 : decode cX3_found 41 = .ok (.ireturn, 1) := by decide +kernel
theorem dX3_found_42 : decode cX3_found 42 = .ok (.aload_n 2, 1) := by decide +kernel
theorem dX3_found_43 : decode cX3_found 43 = .ok (.iconst 1, 1) := by decide +kernel
theorem dX3_found_44 : decode cX3_found 44 = .ok (.putfield 196, 3) := by decide +kernel
theorem dX3_found_47 : decode cX3_found 47 = .ok (.aload_n 3, 1) := by decide +kernel
theorem dX3_found_48 : decode cX3_found 48 = .ok (.getfield 199, 3) := by decide +kernel
theorem dX3_found_51 : decode cX3_found 51 = .ok (.ireturn, 1) := by decide +kernel
theorem dX3_back_0 : decode cX3_back 0 = .ok (.aload_n 0, 1) := by decide +kernel
theorem dX3_back_1 : decode cX3_back 1 = .ok (.iload_n 1, 1) := by decide +kernel
theorem dX3_back_2 : decode cX3_back 2 = .ok (.invokevirtual 116, 3) := by decide +kernel
theorem dX3_back_5 : decode cX3_back 5 = .ok (.astore_n 3, 1) := by decide +kernel
theorem dX3_back_6 : decode cX3_back 6 = .ok (.aload_n 3, 1) := by decide +kernel
theorem dX3_back_7 : decode cX3_back 7 = .ok (.ifnonnull 6, 3) := by decide +kernel
theorem dX3_back_10 : decode cX3_back 10 = .ok (.bipush (-101), 2) := by decide +kernel
theorem dX3_back_12 : decode cX3_back 12 = .ok (.ireturn, 1) := by decide +kernel
theorem dX3_back_13 : decode cX3_back 13 = .ok (.aload_n 3, 1) := by decide +kernel
theorem dX3_back_14 : decode cX3_back 14 = .ok (.getfield 134, 3) := by decide +kernel
theorem dX3_back_17 : decode cX3_back 17 = .ok (.ifCond .ne 28, 3) := by decide +kernel
theorem dX3_back_20 : decode cX3_back 20 = .ok (.aload_n 3, 1) := by decide +kernel
theorem dX3_back_21 : decode cX3_back 21 = .ok (.getfield 120, 3) := by decide +kernel
theorem dX3_back_24 : decode cX3_back 24 = .ok (.iconst 1, 1) := by decide +kernel
theorem dX3_back_25 : decode cX3_back 25 = .ok (.if_icmp .ne 20, 3) := by decide +kernel
theorem dX3_back_28 : decode cX3_back 28 = .ok (.aload_n 3, 1) := by decide +kernel
theorem dX3_back_29 : decode cX3_back 29 = .ok (.getfield 188, 3) := by decide +kernel
theorem dX3_back_32 : decode cX3_back 32 = .ok (.getfield 196, 3) := by decide +kernel
theorem dX3_back_35 : decode cX3_back 35 = .ok (.ifCond .eq 10, 3) := by decide +kernel
theorem dX3_back_38 : decode cX3_back 38 = .ok (.aload_n 3, 1) := by decide +kernel
theorem dX3_back_39 : decode cX3_back 39 = .ok (.getfield 202, 3) := by decide +kernel
theorem dX3_back_42 : decode cX3_back 42 = .ok (.ifCond .eq 6, 3) := by decide +kernel
theorem dX3_back_45 : decode cX3_back 45 = .ok (.bipush (-103), 2) := by decide +kernel
theorem dX3_back_47 : decode cX3_back 47 = .ok (.ireturn, 1) := by decide +kernel
theorem dX3_back_48 : decode cX3_back 48 = .ok (.aload_n 3, 1) := by decide +kernel
theorem dX3_back_49 : decode cX3_back 49 = .ok (.iconst 1, 1) := by decide +kernel
theorem dX3_back_50 : decode cX3_back 50 = .ok (.putfield 202, 3) := by decide +kernel
theorem dX3_back_53 : decode cX3_back 53 = .ok (.iload_n 2, 1) := by decide +kernel
theorem dX3_back_54 : decode cX3_back 54 = .ok (.ifCond .eq 22, 3) := by decide +kernel
theorem dX3_back_57 : decode cX3_back 57 = .ok (.aload_n 0, 1) := by decide +kernel
theorem dX3_back_58 : decode cX3_back 58 = .ok (.dup, 1) := by decide +kernel
theorem dX3_back_59 : decode cX3_back 59 = .ok (.getfield 205, 3) := by decide +kernel
theorem dX3_back_62 : decode cX3_back 62 = .ok (.aload_n 3, 1) := by decide +kernel
theorem dX3_back_63 : decode cX3_back 63 = .ok (.getfield 163, 3) := by decide +kernel
theorem dX3_back_66 : decode cX3_back 66 = .ok (.ladd, 1) := by decide +kernel
theorem dX3_back_67 : decode cX3_back 67 = .ok (.putfield 205, 3) := by decide +kernel
theorem dX3_back_70 : decode cX3_back 70 = .ok (.aload_n 0, 1) := by decide +kernel
theorem dX3_back_71 : decode cX3_back 71 = .ok (.iload_n 1, 1) := by decide +kernel
theorem dX3_back_72 : decode cX3_back 72 = .ok (.iconst 5, 1) := by decide +kernel
theorem dX3_back_73 : decode cX3_back 73 = .ok (.invokevirtual 112, 3) := by decide +kernel
theorem dX3_back_76 : decode cX3_back 76 = .ok (.iconst 1, 1) := by decide +kernel
theorem dX3_back_77 : decode cX3_back 77 = .ok (.ireturn, 1) := by decide +kernel
theorem dX3_appeal_0 : decode cX3_appeal 0 = .ok (.aload_n 0, 1) := by decide +kernel
theorem dX3_appeal_1 : decode cX3_appeal 1 = .ok (.iload_n 1, 1) := by decide +kernel
theorem dX3_appeal_2 : decode cX3_appeal 2 = .ok (.invokevirtual 116, 3) := by decide +kernel
theorem dX3_appeal_5 : decode cX3_appeal 5 = .ok (.astore_n 2, 1) := by decide +kernel
theorem dX3_appeal_6 : decode cX3_appeal 6 = .ok (.aload_n 2, 1) := by decide +kernel
theorem dX3_appeal_7 : decode cX3_appeal 7 = .ok (.ifnonnull 6, 3) := by decide +kernel
theorem dX3_appeal_10 : decode cX3_appeal 10 = .ok (.bipush (-101), 2) := by decide +kernel
theorem dX3_appeal_12 : decode cX3_appeal 12 = .ok (.ireturn, 1) := by decide +kernel
theorem dX3_appeal_13 : decode cX3_appeal 13 = .ok (.aload_n 2, 1) := by decide +kernel
theorem dX3_appeal_14 : decode cX3_appeal 14 = .ok (.getfield 120, 3) := by decide +kernel
theorem dX3_appeal_17 : decode cX3_appeal 17 = .ok (.iconst 2, 1) := by decide +kernel
theorem dX3_appeal_18 : decode cX3_appeal 18 = .ok (.if_icmp .ne 25, 3) := by decide +kernel
theorem dX3_appeal_21 : decode cX3_appeal 21 = .ok (.aload_n 2, 1) := by decide +kernel
theorem dX3_appeal_22 : decode cX3_appeal 22 = .ok (.getfield 208, 3) := by decide +kernel
theorem dX3_appeal_25 : decode cX3_appeal 25 = .ok (.ifCond .ne 18, 3) := by decide +kernel
theorem dX3_appeal_28 : decode cX3_appeal 28 = .ok (.aload_n 0, 1) := by decide +kernel
theorem dX3_appeal_29 : decode cX3_appeal 29 = .ok (.aload_n 2, 1) := by decide +kernel
theorem dX3_appeal_30 : decode cX3_appeal 30 = .ok (.getfield 211, 3) := by decide +kernel
theorem dX3_appeal_33 : decode cX3_appeal 33 = .ok (.aload_n 2, 1) := by decide +kernel
theorem dX3_appeal_34 : decode cX3_appeal 34 = .ok (.getfield 134, 3) := by decide +kernel
theorem dX3_appeal_37 : decode cX3_appeal 37 = .ok (.invokevirtual 95, 3) := by decide +kernel
theorem dX3_appeal_40 : decode cX3_appeal 40 = .ok (.ifnull 6, 3) := by decide +kernel
theorem dX3_appeal_43 : decode cX3_appeal 43 = .ok (.bipush (-103), 2) := by decide +kernel
theorem dX3_appeal_45 : decode cX3_appeal 45 = .ok (.ireturn, 1) := by decide +kernel
theorem dX3_appeal_46 : decode cX3_appeal 46 = .ok (.aload_n 2, 1) := by decide +kernel
theorem dX3_appeal_47 : decode cX3_appeal 47 = .ok (.invokevirtual 214, 3) := by decide +kernel
theorem dX3_appeal_50 : decode cX3_appeal 50 = .ok (.aload_n 0, 1) := by decide +kernel
theorem dX3_appeal_51 : decode cX3_appeal 51 = .ok (.iload_n 1, 1) := by decide +kernel
theorem dX3_appeal_52 : decode cX3_appeal 52 = .ok (.bipush 6, 2) := by decide +kernel
theorem dX3_appeal_54 : decode cX3_appeal 54 = .ok (.invokevirtual 112, 3) := by decide +kernel
theorem dX3_appeal_57 : decode cX3_appeal 57 = .ok (.iconst 1, 1) := by decide +kernel
theorem dX3_appeal_58 : decode cX3_appeal 58 = .ok (.ireturn, 1) := by decide +kernel
theorem dX0_reopen_0 : decode cX0_reopen 0 = .ok (.aload_n 0, 1) := by decide +kernel
theorem dX0_reopen_1 : decode cX0_reopen 1 = .ok (.iconst 0, 1) := by decide +kernel
theorem dX0_reopen_2 : decode cX0_reopen 2 = .ok (.putfield 9, 3) := by decide +kernel
theorem dX0_reopen_5 : decode cX0_reopen 5 = .ok (.aload_n 0, 1) := by decide +kernel
theorem dX0_reopen_6 : decode cX0_reopen 6 = .ok (.iconst 1, 1) := by decide +kernel
theorem dX0_reopen_7 : decode cX0_reopen 7 = .ok (.putfield 52, 3) := by decide +kernel
theorem dX0_reopen_10 : decode cX0_reopen 10 = .ok (.aload_n 0, 1) := by decide +kernel
theorem dX0_reopen_11 : decode cX0_reopen 11 = .ok (.iconst 0, 1) := by decide +kernel
theorem dX0_reopen_12 : decode cX0_reopen 12 = .ok (.putfield 42, 3) := by decide +kernel
theorem dX0_reopen_15 : decode cX0_reopen 15 = .ok (.aload_n 0, 1) := by decide +kernel
theorem dX0_reopen_16 : decode cX0_reopen 16 = .ok (.iconst 0, 1) := by decide +kernel
theorem dX0_reopen_17 : decode cX0_reopen 17 = .ok (.putfield 48, 3) := by decide +kernel
theorem dX0_reopen_20 : decode cX0_reopen 20 = .ok (.return_, 1) := by decide +kernel
theorem dX3_paid_0 : decode cX3_paid 0 = .ok (.aload_n 0, 1) := by decide +kernel
theorem dX3_paid_1 : decode cX3_paid 1 = .ok (.iload_n 1, 1) := by decide +kernel
theorem dX3_paid_2 : decode cX3_paid 2 = .ok (.iload_n 2, 1) := by decide +kernel
theorem dX3_paid_3 : decode cX3_paid 3 = .ok (.invokevirtual 95, 3) := by decide +kernel
theorem dX3_paid_6 : decode cX3_paid 6 = .ok (.astore_n 3, 1) := by decide +kernel
theorem dX3_paid_7 : decode cX3_paid 7 = .ok (.aload_n 3, 1) := by decide +kernel
theorem dX3_paid_8 : decode cX3_paid 8 = .ok (.ifnull 15, 3) := by decide +kernel
theorem dX3_paid_11 : decode cX3_paid 11 = .ok (.aload_n 3, 1) := by decide +kernel
theorem dX3_paid_12 : decode cX3_paid 12 = .ok (.getfield 120, 3) := by decide +kernel
theorem dX3_paid_15 : decode cX3_paid 15 = .ok (.iconst 1, 1) := by decide +kernel
theorem dX3_paid_16 : decode cX3_paid 16 = .ok (.if_icmp .ne 7, 3) := by decide +kernel
theorem dX3_paid_19 : decode cX3_paid 19 = .ok (.iconst 1, 1) := by decide +kernel
theorem dX3_paid_20 : decode cX3_paid 20 = .ok (.goto 4, 3) := by decide +kernel
theorem dX3_paid_23 : decode cX3_paid 23 = .ok (.iconst 0, 1) := by decide +kernel
theorem dX3_paid_24 : decode cX3_paid 24 = .ok (.ireturn, 1) := by decide +kernel
theorem dX3_about_0 : decode cX3_about 0 = .ok (.aload_n 0, 1) := by decide +kernel
theorem dX3_about_1 : decode cX3_about 1 = .ok (.iload_n 1, 1) := by decide +kernel
theorem dX3_about_2 : decode cX3_about 2 = .ok (.invokevirtual 116, 3) := by decide +kernel
theorem dX3_about_5 : decode cX3_about 5 = .ok (.astore_n 3, 1) := by decide +kernel
theorem dX3_about_6 : decode cX3_about 6 = .ok (.aload_n 3, 1) := by decide +kernel
theorem dX3_about_7 : decode cX3_about 7 = .ok (.ifnonnull 6, 3) := by decide +kernel
theorem dX3_about_10 : decode cX3_about 10 = .ok (.bipush (-101), 2) := by decide +kernel
theorem dX3_about_12 : decode cX3_about 12 = .ok (.ireturn, 1) := by decide +kernel
theorem dX3_about_13 : decode cX3_about 13 = .ok (.iload_n 2, 1) := by decide +kernel
theorem dX3_about_14 : decode cX3_about 14 = .ok (.tableswitch 71 0 5 #[38, 43, 48, 53, 61, 66], 38) := by decide +kernel
theorem dX3_about_52 : decode cX3_about 52 = .ok (.aload_n 3, 1) := by decide +kernel
theorem dX3_about_53 : decode cX3_about 53 = .ok (.getfield 120, 3) := by decide +kernel
theorem dX3_about_56 : decode cX3_about 56 = .ok (.ireturn, 1) := by decide +kernel
theorem dX3_about_57 : decode cX3_about 57 = .ok (.aload_n 3, 1) := by decide +kernel
theorem dX3_about_58 : decode cX3_about 58 = .ok (.getfield 211, 3) := by decide +kernel
theorem dX3_about_61 : decode cX3_about 61 = .ok (.ireturn, 1) := by decide +kernel
theorem dX3_about_62 : decode cX3_about 62 = .ok (.aload_n 3, 1) := by decide +kernel
theorem dX3_about_63 : decode cX3_about 63 = .ok (.getfield 134, 3) := by decide +kernel
theorem dX3_about_66 : decode cX3_about 66 = .ok (.ireturn, 1) := by decide +kernel
theorem dX3_about_67 : decode cX3_about 67 = .ok (.aload_n 3, 1) := by decide +kernel
theorem dX3_about_68 : decode cX3_about 68 = .ok (.getfield 123, 3) := by decide +kernel
theorem dX3_about_71 : decode cX3_about 71 = .ok (.invokestatic 126, 3) := by decide +kernel
theorem dX3_about_74 : decode cX3_about 74 = .ok (.ireturn, 1) := by decide +kernel
theorem dX3_about_75 : decode cX3_about 75 = .ok (.aload_n 3, 1) := by decide +kernel
theorem dX3_about_76 : decode cX3_about 76 = .ok (.getfield 217, 3) := by decide +kernel
theorem dX3_about_79 : decode cX3_about 79 = .ok (.ireturn, 1) := by decide +kernel
theorem dX3_about_80 : decode cX3_about 80 = .ok (.aload_n 3, 1) := by decide +kernel
theorem dX3_about_81 : decode cX3_about 81 = .ok (.getfield 219, 3) := by decide +kernel
theorem dX3_about_84 : decode cX3_about 84 = .ok (.ireturn, 1) := by decide +kernel
theorem dX3_about_85 : decode cX3_about 85 = .ok (.bipush (-102), 2) := by decide +kernel
theorem dX3_about_87 : decode cX3_about 87 = .ok (.ireturn, 1) := by decide +kernel
theorem dX3_letter_0 : decode cX3_letter 0 = .ok (.iload_n 1, 1) := by decide +kernel
theorem dX3_letter_1 : decode cX3_letter 1 = .ok (.aload_n 0, 1) := by decide +kernel
theorem dX3_letter_2 : decode cX3_letter 2 = .ok (.getfield 222, 3) := by decide +kernel
theorem dX3_letter_5 : decode cX3_letter 5 = .ok (.sipush 200, 3) := by decide +kernel
theorem dX3_letter_8 : decode cX3_letter 8 = .ok (.invokestatic 225, 3) := by decide +kernel
theorem dX3_letter_11 : decode cX3_letter 11 = .ok (.invokestatic 44, 3) := by decide +kernel
theorem dX3_letter_14 : decode cX3_letter 14 = .ok (.ifCond .ne 5, 3) := by decide +kernel
theorem dX3_letter_17 : decode cX3_letter 17 = .ok (.iconst (-1), 1) := by decide +kernel
theorem dX3_letter_18 : decode cX3_letter 18 = .ok (.ireturn, 1) := by decide +kernel
theorem dX3_letter_19 : decode cX3_letter 19 = .ok (.iload_n 2, 1) := by decide +kernel
theorem dX3_letter_20 : decode cX3_letter 20 = .ok (.lookupswitch 42 #[(0, 28), (1, 35)], 28) := by decide +kernel
theorem dX3_letter_48 : decode cX3_letter 48 = .ok (.aload_n 0, 1) := by decide +kernel
theorem dX3_letter_49 : decode cX3_letter 49 = .ok (.getfield 38, 3) := by decide +kernel
theorem dX3_letter_52 : decode cX3_letter 52 = .ok (.iload_n 1, 1) := by decide +kernel
theorem dX3_letter_53 : decode cX3_letter 53 = .ok (.iaload, 1) := by decide +kernel
theorem dX3_letter_54 : decode cX3_letter 54 = .ok (.ireturn, 1) := by decide +kernel
theorem dX3_letter_55 : decode cX3_letter 55 = .ok (.aload_n 0, 1) := by decide +kernel
theorem dX3_letter_56 : decode cX3_letter 56 = .ok (.getfield 41, 3) := by decide +kernel
theorem dX3_letter_59 : decode cX3_letter 59 = .ok (.iload_n 1, 1) := by decide +kernel
theorem dX3_letter_60 : decode cX3_letter 60 = .ok (.iaload, 1) := by decide +kernel
theorem dX3_letter_61 : decode cX3_letter 61 = .ok (.ireturn, 1) := by decide +kernel
theorem dX3_letter_62 : decode cX3_letter 62 = .ok (.iconst (-1), 1) := by decide +kernel
theorem dX3_letter_63 : decode cX3_letter 63 = .ok (.ireturn, 1) := by decide +kernel
theorem dX3_all_0 : decode cX3_all 0 = .ok (.iload_n 1, 1) := by decide +kernel
theorem dX3_all_1 : decode cX3_all 1 = .ok (.tableswitch 53 0 3 #[31, 36, 41, 47], 31) := by decide +kernel
theorem dX3_all_32 : decode cX3_all 32 = .ok (.aload_n 0, 1) := by decide +kernel
theorem dX3_all_33 : decode cX3_all 33 = .ok (.getfield 230, 3) := by decide +kernel
theorem dX3_all_36 : decode cX3_all 36 = .ok (.lreturn, 1) := by decide +kernel
theorem dX3_all_37 : decode cX3_all 37 = .ok (.aload_n 0, 1) := by decide +kernel
theorem dX3_all_38 : decode cX3_all 38 = .ok (.getfield 205, 3) := by decide +kernel
theorem dX3_all_41 : decode cX3_all 41 = .ok (.lreturn, 1) := by decide +kernel
end
section
theorem dX3_all_42 : decode cX3_all 42 = .ok (.aload_n 0, 1) := by decide +kernel
theorem dX3_all_43 : decode cX3_all 43 = .ok (.getfield 233, 3) := by decide +kernel
theorem dX3_all_46 : decode cX3_all 46 = .ok (.i2l, 1) := by decide +kernel
theorem dX3_all_47 : decode cX3_all 47 = .ok (.lreturn, 1) := by decide +kernel
theorem dX3_all_48 : decode cX3_all 48 = .ok (.aload_n 0, 1) := by decide +kernel
theorem dX3_all_49 : decode cX3_all 49 = .ok (.getfield 222, 3) := by decide +kernel
theorem dX3_all_52 : decode cX3_all 52 = .ok (.i2l, 1) := by decide +kernel
theorem dX3_all_53 : decode cX3_all 53 = .ok (.lreturn, 1) := by decide +kernel
theorem dX3_all_54 : decode cX3_all 54 = .ok (.ldc2_w 186, 3) := by decide +kernel
theorem dX3_all_57 : decode cX3_all 57 = .ok (.lreturn, 1) := by decide +kernel
end
section
/-! The class's state: its fixed cells out of (ints, longs, int arrays, long arrays, reference arrays); its pooled objects out of columns. -/
abbrev xs_T : Type := (Nat → Int32) × (Nat → Int64) × (Nat → Nat → Int32) × (Nat → Nat → Int64) × (Nat → Nat → Option Nat)
def xs_i (σ : xs_T) (k : Nat) (v : Int32) : xs_T := (va_up σ.1 k v, σ.2)
def xs_l (σ : xs_T) (k : Nat) (v : Int64) : xs_T := (σ.1, va_up σ.2.1 k v, σ.2.2)
def xs_ai (σ : xs_T) (k : Nat) (v : Nat → Int32) : xs_T := (σ.1, σ.2.1, va_up σ.2.2.1 k v, σ.2.2.2)
def xs_al (σ : xs_T) (k : Nat) (v : Nat → Int64) : xs_T := (σ.1, σ.2.1, σ.2.2.1, va_up σ.2.2.2.1 k v, σ.2.2.2.2)
def xs_ar (σ : xs_T) (k : Nat) (v : Nat → Option Nat) : xs_T := (σ.1, σ.2.1, σ.2.2.1, σ.2.2.2.1, va_up σ.2.2.2.2 k v)
def ty_K (cA : Nat → ClassId) : List (ClassId × FieldType) := [(cA 0, .int), (cA 1, .long), (cA 2, .boolean), (cA 3, .object "ClaimRows$Item"), (cA 4, .object "ClaimRows$Claim"), (cA 5, .object "ClaimRows$Search")]
def xf_C (Q : Nat → Nat) (σ : xs_T) : List Value := [.ref (Q 1), .int (σ.1 0), .ref (Q 2), .int (σ.1 1), .ref (Q 3), .int (σ.1 2), .ref (Q 4), .ref (Q 5), .ref (Q 6), .ref (Q 7), .ref (Q 8), .int (σ.1 3), .int (σ.1 4), .long (σ.2.1 0), .long (σ.2.1 1), .int (σ.1 5)]
def xc_W (Q : Nat → Nat) (cA : Nat → ClassId) (σ : xs_T) : va_W := [(Q 0, .inr (3, xf_C Q σ)), (Q 1, .inl (cA 3, 100, .inr (.inr (.inr (.inr (σ.2.2.2.2 0)))))), (Q 2, .inl (cA 4, 60, .inr (.inr (.inr (.inr (σ.2.2.2.2 1)))))), (Q 3, .inl (cA 5, 100, .inr (.inr (.inr (.inr (σ.2.2.2.2 2)))))), (Q 4, .inl (cA 1, 16, .inr (.inl (σ.2.2.2.1 0)))), (Q 5, .inl (cA 0, 16, .inl (σ.2.2.1 0))), (Q 6, .inl (cA 1, 10, .inr (.inl (σ.2.2.2.1 1)))), (Q 7, .inl (cA 0, 200, .inl (σ.2.2.1 1))), (Q 8, .inl (cA 0, 200, .inl (σ.2.2.1 2)))]
theorem xc_W_0 {Q : Nat → Nat} {cA : Nat → ClassId} {σ : xs_T} (L : List Nat) (f : Nat → va_E) : (xc_W Q cA σ ++ va_pl L f)[0]? = some (Q 0, .inr (3, xf_C Q σ)) := rfl
theorem xc_W_1 {Q : Nat → Nat} {cA : Nat → ClassId} {σ : xs_T} (L : List Nat) (f : Nat → va_E) : (xc_W Q cA σ ++ va_pl L f)[1]? = some (Q 1, .inl (cA 3, 100, .inr (.inr (.inr (.inr (σ.2.2.2.2 0)))))) := rfl
theorem xc_W_2 {Q : Nat → Nat} {cA : Nat → ClassId} {σ : xs_T} (L : List Nat) (f : Nat → va_E) : (xc_W Q cA σ ++ va_pl L f)[2]? = some (Q 2, .inl (cA 4, 60, .inr (.inr (.inr (.inr (σ.2.2.2.2 1)))))) := rfl
theorem xc_W_3 {Q : Nat → Nat} {cA : Nat → ClassId} {σ : xs_T} (L : List Nat) (f : Nat → va_E) : (xc_W Q cA σ ++ va_pl L f)[3]? = some (Q 3, .inl (cA 5, 100, .inr (.inr (.inr (.inr (σ.2.2.2.2 2)))))) := rfl
theorem xc_W_4 {Q : Nat → Nat} {cA : Nat → ClassId} {σ : xs_T} (L : List Nat) (f : Nat → va_E) : (xc_W Q cA σ ++ va_pl L f)[4]? = some (Q 4, .inl (cA 1, 16, .inr (.inl (σ.2.2.2.1 0)))) := rfl
theorem xc_W_5 {Q : Nat → Nat} {cA : Nat → ClassId} {σ : xs_T} (L : List Nat) (f : Nat → va_E) : (xc_W Q cA σ ++ va_pl L f)[5]? = some (Q 5, .inl (cA 0, 16, .inl (σ.2.2.1 0))) := rfl
theorem xc_W_6 {Q : Nat → Nat} {cA : Nat → ClassId} {σ : xs_T} (L : List Nat) (f : Nat → va_E) : (xc_W Q cA σ ++ va_pl L f)[6]? = some (Q 6, .inl (cA 1, 10, .inr (.inl (σ.2.2.2.1 1)))) := rfl
theorem xc_W_7 {Q : Nat → Nat} {cA : Nat → ClassId} {σ : xs_T} (L : List Nat) (f : Nat → va_E) : (xc_W Q cA σ ++ va_pl L f)[7]? = some (Q 7, .inl (cA 0, 200, .inl (σ.2.2.1 1))) := rfl
theorem xc_W_8 {Q : Nat → Nat} {cA : Nat → ClassId} {σ : xs_T} (L : List Nat) (f : Nat → va_E) : (xc_W Q cA σ ++ va_pl L f)[8]? = some (Q 8, .inl (cA 0, 200, .inl (σ.2.2.1 2))) := rfl
/-- the cells of the pooled objects -/
def ce_I (g : Nat → Nat → Int32) (h : Nat → Nat → Int64) (i p : Nat) : va_E := .inr (1, [.int (g 0 i), .long (h 0 i), .long (h 1 i), .int (g 1 i), .int (g 2 i), .ref p, .int (g 3 i), .int (g 4 i), .int (g 5 i)])
def ce_C (g : Nat → Nat → Int32) (h : Nat → Nat → Int64) (j a : Nat) : va_E := .inr (0, [.int (nI (j + 1)), .int (g 6 j), .ref a, .int (g 7 j), .int (g 8 j), .int (g 9 j), .int (g 10 j), .int (g 11 j), .int (g 12 j), .int (g 13 j), .int (g 14 j), .int (g 15 j), .long (h 2 j)])
def ce_S (g : Nat → Nat → Int32) (k c : Nat) : va_E := .inr (2, [.ref c, .int (g 17 k), .int (g 18 k)])
def ce_P (cA : Nat → ClassId) (po : Nat → Nat → Int32) (i : Nat) : va_E := .inl (cA 0, 8, .inl (po i))
/-- a column's value set at a row -/
def up_2 {α : Type} (g : Nat → Nat → α) (k i : Nat) (v : α) : Nat → Nat → α := va_up g k (va_up (g k) i v)
theorem up_2s {α : Type} (g : Nat → Nat → α) (k i : Nat) (v : α) : up_2 g k i v k i = v := by simp [up_2, va_up]
theorem up_2k {α : Type} (g : Nat → Nat → α) {k k' : Nat} (i : Nat) (v : α) (j : Nat) (h : k' ≠ k) : up_2 g k i v k' j = g k' j := by simp [up_2, va_up, h]
theorem up_2i {α : Type} (g : Nat → Nat → α) (k k' : Nat) {i j : Nat} (v : α) (h : j ≠ i) : up_2 g k i v k' j = g k' j := by
  by_cases e : k' = k
  · subst e; simp [up_2, va_up, h]
  · simp [up_2, va_up, e]
/-- addresses of the pooled objects: items, their posts, claims, searches -/
abbrev ad_T : Type := (Nat → Nat) × (Nat → Nat) × (Nat → Nat) × (Nat → Nat)
/-- how many: items, claims, searches, letters -/
abbrev nn_T : Type := Nat × Nat × Nat × Nat
/-- columns -/
abbrev co_T : Type := (Nat → Nat → Nat) × (Nat → Nat → Int32) × (Nat → Nat → Int64) × (Nat → Nat → Int32)
def re_X (σ : xs_T) (n : nn_T) : Prop := σ.1 0 = nI n.1 ∧ n.1 ≤ 100 ∧ σ.1 1 = nI n.2.1 ∧ n.2.1 ≤ 60 ∧ σ.1 2 = nI n.2.2.1 ∧ n.2.2.1 ≤ 100 ∧ σ.1 3 = nI n.2.2.2
def re_I (cA : Nat → ClassId) (σ : xs_T) (L : List Nat) (f : Nat → va_E) (ad : ad_T) (co : co_T) (i : Nat) : Prop :=
  σ.2.2.2.2 0 i = some (ad.1 i) ∧ ad.1 i ∈ L ∧ f (ad.1 i) = ce_I co.2.1 co.2.2.1 i (ad.2.1 i) ∧ ad.2.1 i ∈ L ∧ f (ad.2.1 i) = ce_P cA co.2.2.2 i
def re_C (σ : xs_T) (L : List Nat) (f : Nat → va_E) (ad : ad_T) (co : co_T) (j : Nat) : Prop :=
  σ.2.2.2.2 1 j = some (ad.2.2.1 j) ∧ ad.2.2.1 j ∈ L ∧ f (ad.2.2.1 j) = ce_C co.2.1 co.2.2.1 j (ad.1 (co.1 0 j))
def re_S (σ : xs_T) (L : List Nat) (f : Nat → va_E) (ad : ad_T) (co : co_T) (k : Nat) : Prop :=
  σ.2.2.2.2 2 k = some (ad.2.2.2 k) ∧ ad.2.2.2 k ∈ L ∧ f (ad.2.2.2 k) = ce_S co.2.1 k (ad.2.2.1 (co.1 1 k))
/-- the pure side of it: what is always so of the columns -/
def re_V (n : nn_T) (co : co_T) : Prop :=
  (∀ i, i < n.1 → (∃ v : Nat, v < 4 ∧ co.2.1 0 i = nI v) ∧ (∃ v w : Nat, v ≤ 8 ∧ w ≤ v ∧ co.2.1 3 i = nI v ∧ co.2.1 4 i = nI w)) ∧
  (∀ j, j < n.2.1 → co.1 0 j < n.1 ∧ co.2.1 6 j = nI (co.1 0 j + 1) ∧ (∃ v : Nat, v < 4 ∧ co.2.1 7 j = nI v) ∧ ∃ v : Nat, v < 16 ∧ co.2.1 10 j = nI v) ∧
  (∀ k, k < n.2.2.1 → co.1 1 k < n.2.1)
def re_J (n : nn_T) (ad : ad_T) : Prop :=
  (∀ i j, i < n.1 → j < n.1 → ad.1 i = ad.1 j → i = j) ∧ (∀ i j, i < n.1 → j < n.1 → ad.2.1 i = ad.2.1 j → i = j) ∧
  (∀ i j, i < n.2.1 → j < n.2.1 → ad.2.2.1 i = ad.2.2.1 j → i = j) ∧ (∀ i j, i < n.2.2.1 → j < n.2.2.1 → ad.2.2.2 i = ad.2.2.2 j → i = j)
/-- THE CLASS'S STATE -/
def re_A (cA : Nat → ClassId) (σ : xs_T) (n : nn_T) (co : co_T) (L : List Nat) (f : Nat → va_E) (ad : ad_T) : Prop :=
  re_X σ n ∧ (∀ i, i < n.1 → re_I cA σ L f ad co i) ∧ (∀ j, j < n.2.1 → re_C σ L f ad co j) ∧ (∀ k, k < n.2.2.1 → re_S σ L f ad co k) ∧ re_V n co ∧ re_J n ad
end
section
/-! What each call of the class answers and does, in the words of its state (a line of Java is a line here). -/
abbrev as_T : Type := xs_T × co_T
def na_m (x : Int32) (c : Int32) : Option Nat := if 1 ≤ x ∧ x ≤ c then some (x - 1).toNatClampNeg else none
def se_nd (σ : xs_T) (c k : Int32) : xs_T := if σ.1 3 < 200 then xs_i (xs_ai (xs_ai σ 1 (upd (σ.2.2.1 1) (σ.1 3).toNatClampNeg c)) 2 (upd (σ.2.2.1 2) (σ.1 3).toNatClampNeg k)) 3 (σ.1 3 + 1) else xs_i σ 3 (σ.1 3 + 1)
def co_g (co : co_T) (g : Nat → Nat → Int32) : co_T := (co.1, g, co.2.2)
def ni_co (co : co_T) (i : Nat) (sv : Int32) (v w : Int64) (dy se : Int32) : co_T :=
  (co.1, up_2 (up_2 (up_2 (up_2 (up_2 (up_2 co.2.1 0 i sv) 1 i dy) 2 i se) 3 i 0) 4 i 0) 5 i 0, up_2 (up_2 co.2.2.1 0 i v) 1 i w, va_up co.2.2.2 i (fun _ => 0))
def kc_item (a : as_T) (sv : Int32) (v w : Int64) (dy se : Int32) : Int32 × as_T :=
  if 0 ≤ sv ∧ sv < 4 then if 0 ≤ v ∧ v ≤ 10000000 then if 0 ≤ w ∧ w ≤ 10000000 then
  if (0 : Int64) ≤ dy.toInt64 ∧ dy.toInt64 ≤ 100000 then if 0 ≤ se ∧ se < 20 then
  if a.1.1 0 < 100 then (a.1.1 0 + 1, (xs_i a.1 0 (a.1.1 0 + 1), ni_co a.2 (a.1.1 0).toNatClampNeg sv v w dy se)) else (-104, a)
  else (-102, a) else (-102, a) else (-102, a) else (-102, a) else (-102, a)
def ps_co (co : co_T) (i : Nat) (post : Int32) (b : Bool) : co_T :=
  (co.1, up_2 (if b then up_2 co.2.1 4 i (co.2.1 3 i) else co.2.1) 3 i (co.2.1 3 i + 1), co.2.2.1, va_up co.2.2.2 i (upd (co.2.2.2 i) (co.2.1 3 i).toNatClampNeg post))
def kc_pass (a : as_T) (x post : Int32) (b : Bool) : Int32 × as_T :=
  (na_m x (a.1.1 0)).elim (-101, a) (fun i => if 0 ≤ post ∧ post < 6 then if a.2.2.1 3 i < 8 then (a.2.2.1 3 i + 1, (a.1, ps_co a.2 i post b)) else (-104, a) else (-102, a))
def kc_table (a : as_T) (sv kd : Int32) (most : Int64) (days : Int32) : Int32 × as_T :=
  if 0 ≤ sv ∧ sv < 4 then if 0 ≤ kd ∧ kd < 4 then if 0 ≤ most ∧ most ≤ 10000000 then if (0 : Int64) ≤ days.toInt64 ∧ days.toInt64 ≤ 10000 then
    (1, (xs_ai (xs_al a.1 0 (vp_updL (a.1.2.2.2.1 0) (sv * 4 + kd).toNatClampNeg most)) 0 (upd (a.1.2.2.1 0) (sv * 4 + kd).toNatClampNeg days), a.2))
  else (-102, a) else (-102, a) else (-102, a) else (-102, a)
/-- the first claim from number j on that stands for an item and a kind: fuel n -/
def st_cl (co : co_T) (x kd : Int32) : Nat → Nat → Option Nat
  | 0, _ => none
  | n + 1, j => if co.2.1 6 j = x ∧ co.2.1 7 j = kd ∧ ¬ co.2.1 9 j = 2 then some j else st_cl co x kd n (j + 1)
/-- how many of the first n claims are of a sender's items -/
def se_cl (co : co_T) (se : Int32) : Nat → Int32
  | 0 => 0
  | n + 1 => if co.2.1 2 (co.1 0 n) = se then se_cl co se n + 1 else se_cl co se n
def ne_ed (kd : Int32) : Int32 := if kd = 0 then 1 else if kd = 1 then 3 else if kd = 2 then 5 else 13
def nc_co (co : co_T) (j i : Nat) (x kd ea : Int32) : co_T :=
  (up_2 co.1 0 j i, up_2 (up_2 (up_2 (up_2 (up_2 (up_2 (up_2 (up_2 (up_2 (up_2 co.2.1 6 j x) 7 j kd) 8 j ea) 9 j 0) 10 j (ne_ed kd)) 11 j 0) 12 j 0) 13 j 0) 14 j 0) 15 j 0, up_2 co.2.2.1 2 j 0, co.2.2.2)
def kc_claim (a : as_T) (x kd who dy : Int32) : Int32 × as_T :=
  (na_m x (a.1.1 0)).elim (-101, a) (fun i =>
    if 0 ≤ kd ∧ kd < 4 then if (0 : Int64) ≤ who.toInt64 ∧ who.toInt64 ≤ 2 then if (0 : Int64) ≤ dy.toInt64 ∧ dy.toInt64 ≤ 200000 then
    if who = 0 ∨ (who = 1 ∧ (kd = 1 ∨ kd = 2)) then
    if dy ≤ a.2.2.1 1 i + a.1.2.2.1 0 (a.2.2.1 0 i * 4 + kd).toNatClampNeg then
    (st_cl a.2 x kd (a.1.1 1).toNatClampNeg 0).elim
      (if a.1.1 1 < 60 then (a.1.1 1 + 1, (se_nd (xs_i a.1 1 (a.1.1 1 + 1)) (a.1.1 1 + 1) 1, nc_co a.2 (a.1.1 1).toNatClampNeg i x kd (se_cl a.2 (a.2.2.1 2 i) (a.1.1 1).toNatClampNeg))) else (-104, a))
      (fun _ => (-103, a))
    else (-106, a) else (-105, a) else (-102, a) else (-102, a) else (-102, a))
def bi_ct (x : Int32) : Int32 := nI ((x.toBitVec.toNat % 2) + (x.toBitVec.toNat / 2 % 2) + (x.toBitVec.toNat / 4 % 2) + (x.toBitVec.toNat / 8 % 2))
def pr_lk (co : co_T) (j : Nat) (p : Int32) : Int32 := co.2.1 10 j &&& (((1 : Int32) <<< (p &&& 31)) ^^^ (-1))
def kc_proof (a : as_T) (x p : Int32) : Int32 × as_T :=
  (na_m x (a.1.1 1)).elim (-101, a) (fun j => if 0 ≤ p ∧ p < 4 then if a.2.2.1 9 j = 0 then if a.2.2.1 10 j &&& ((1 : Int32) <<< (p &&& 31)) = 0 then (-103, a) else
    (bi_ct (pr_lk a.2 j p), (if 0 < bi_ct (pr_lk a.2 j p) then se_nd a.1 x 2 else a.1, co_g a.2 (up_2 a.2.2.1 10 j (pr_lk a.2 j p))))
    else (-103, a) else (-102, a))
def ns_co (co : co_T) (k j : Nat) (due : Int32) : co_T :=
  (up_2 co.1 1 k j, up_2 (up_2 (up_2 (up_2 co.2.1 17 k due) 18 k 1) 11 j (co.2.1 11 j + 1)) 12 j (co.2.1 12 j + 1), co.2.2)
def kc_search (a : as_T) (x pl due : Int32) : Int32 × as_T :=
  (na_m x (a.1.1 1)).elim (-101, a) (fun j => if 0 ≤ pl ∧ pl < 50 then if (a.1.1 4).toInt64 ≤ due.toInt64 ∧ due.toInt64 ≤ 200000 then
    if a.2.2.1 9 j = 0 then if a.2.2.1 7 j = 0 then if a.1.1 2 < 100 then (a.1.1 2 + 1, (xs_i a.1 2 (a.1.1 2 + 1), ns_co a.2 (a.1.1 2).toNatClampNeg j due)) else (-104, a)
    else (-103, a) else (-103, a) else (-102, a) else (-102, a))
/-- a search is closed: found whole or not -/
def cs_co (co : co_T) (k : Nat) (b : Bool) : co_T :=
  co_g co (up_2 (up_2 (up_2 co.2.1 18 k 0) 12 (co.1 1 k) (co.2.1 12 (co.1 1 k) - 1)) 13 (co.1 1 k) (if b then 1 else co.2.1 13 (co.1 1 k)))
def kc_answer (a : as_T) (x : Int32) (b : Bool) : Int32 × as_T :=
  (na_m x (a.1.1 2)).elim (-101, a) (fun k => if a.2.2.1 18 k = 0 then (-103, a) else (1, (a.1, cs_co a.2 k b)))
/-- searches from k on that are unanswered and due before a day are closed: fuel n; how many -/
def ti_co (dy : Int32) : Nat → Nat → co_T → Int32 → Int32 × co_T
  | 0, _, co, c => (c, co)
  | n + 1, k, co, c => if ¬ co.2.1 18 k = 0 ∧ co.2.1 17 k < dy then ti_co dy n (k + 1) (cs_co co k false) (c + 1) else ti_co dy n (k + 1) co c
def kc_tick (a : as_T) (dy : Int32) : Int32 × as_T :=
  if (a.1.1 4).toInt64 ≤ dy.toInt64 ∧ dy.toInt64 ≤ 200000 then
    ((ti_co dy (a.1.1 2).toNatClampNeg 0 a.2 0).1, (xs_i a.1 4 dy, (ti_co dy (a.1.1 2).toNatClampNeg 0 a.2 0).2)) else (-102, a)
def su_m (σ : xs_T) (co : co_T) (j : Nat) : Int64 :=
  let i := co.1 0 j
  let most := if 0 < co.2.2.1 1 i then co.2.2.1 1 i else σ.2.2.2.1 0 (co.2.1 0 i * 4 + co.2.1 7 j).toNatClampNeg
  let base := if most < co.2.2.1 0 i then most else co.2.2.1 0 i
  if co.2.1 7 j = 1 then base / 10 else if co.2.1 7 j = 2 then base / 2 else base
def kc_sum (a : as_T) (x : Int32) : Int64 :=
  (na_m x (a.1.1 1)).elim (-101) (fun j => if a.2.2.1 9 j = 1 then a.2.2.2.1 2 j else su_m a.1 a.2 j)
def kc_limit (a : as_T) (p : Int32) (c : Int64) : Int32 × as_T :=
  if 0 ≤ p ∧ p < 10 then if 0 ≤ c ∧ c ≤ 10000000 then (1, (xs_al a.1 1 (vp_updL (a.1.2.2.2.1 1) p.toNatClampNeg c), a.2)) else (-102, a) else (-102, a)
def rd_y (co : co_T) (j : Nat) : Prop := co.2.1 9 j = 0 ∧ co.2.1 10 j = 0 ∧ (¬ co.2.1 7 j = 0 ∨ (0 < co.2.1 11 j ∧ co.2.1 12 j = 0))
def kc_decide (a : as_T) (x p : Int32) : Int32 × as_T :=
  (na_m x (a.1.1 1)).elim (-101, a) (fun j => if 0 ≤ p ∧ p < 10 then
    if a.2.2.1 9 j = 0 ∧ a.2.2.1 10 j = 0 ∧ (¬ a.2.2.1 7 j = 0 ∨ (0 < a.2.2.1 11 j ∧ a.2.2.1 12 j = 0)) then
    if a.2.2.1 13 j = 0 then
      if a.1.2.2.2.1 1 p.toNatClampNeg < su_m a.1 a.2 j then (-107, a) else
        (1, (se_nd (xs_l a.1 0 (a.1.2.1 0 + su_m a.1 a.2 j)) (nI (j + 1)) 3, (a.2.1, up_2 a.2.2.1 9 j 1, up_2 a.2.2.2.1 2 j (su_m a.1 a.2 j), a.2.2.2.2)))
    else (2, (se_nd (xs_i a.1 5 (a.1.1 5 + 1)) (nI (j + 1)) 4, co_g a.2 (up_2 a.2.2.1 9 j 2)))
    else (-103, a) else (-102, a))
/-- what a post has of the first i sharers: 'each', or one more -/
def sh_s (po : Nat → Int32) (w : Nat) (each left : Int64) (post : Int32) : Nat → Int64
  | 0 => 0
  | i + 1 => if po (w + i) = post then (if (nI i).toInt64 < left then sh_s po w each left post i + (each + 1) else sh_s po w each left post i + each) else sh_s po w each left post i
def pa_o (co : co_T) (i : Nat) (s : Int64) (post : Int32) : Int64 :=
  if 0 < co.2.1 3 i - co.2.1 4 i then sh_s (co.2.2.2 i) (co.2.1 4 i).toNatClampNeg (s / (co.2.1 3 i - co.2.1 4 i).toInt64) (s - s / (co.2.1 3 i - co.2.1 4 i).toInt64 * (co.2.1 3 i - co.2.1 4 i).toInt64) post (co.2.1 3 i - co.2.1 4 i).toNatClampNeg else 0
def kc_share (a : as_T) (x post : Int32) : Int64 :=
  (na_m x (a.1.1 1)).elim (-101) (fun j => if 0 ≤ post ∧ post < 6 then if a.2.2.1 9 j = 1 then pa_o a.2 (a.2.1 0 j) (a.2.2.2.1 2 j) post else 0 else -102)
def kc_found (a : as_T) (x : Int32) : Int32 × as_T :=
  (na_m x (a.1.1 0)).elim (-101, a) (fun i => (st_cl a.2 x 0 (a.1.1 1).toNatClampNeg 0).elim (-103, a) (fun j => if a.2.2.1 9 j = 1 then if a.2.2.1 5 i = 0 then
    (nI (j + 1), (a.1, co_g a.2 (up_2 a.2.2.1 5 i 1))) else (-103, a) else (-103, a)))
def kc_back (a : as_T) (x : Int32) (b : Bool) : Int32 × as_T :=
  (na_m x (a.1.1 1)).elim (-101, a) (fun j => if a.2.2.1 7 j = 0 then if a.2.2.1 9 j = 1 then if a.2.2.1 5 (a.2.1 0 j) = 0 then (-103, a) else if a.2.2.1 15 j = 0 then
    (1, (if b then se_nd (xs_l a.1 1 (a.1.2.1 1 + a.2.2.2.1 2 j)) x 5 else a.1, co_g a.2 (up_2 a.2.2.1 15 j 1)))
    else (-103, a) else (-103, a) else (-103, a))
def ap_co (co : co_T) (j : Nat) : co_T := co_g co (up_2 (up_2 (up_2 (up_2 co.2.1 9 j 0) 14 j 1) 11 j 0) 13 j 0)
def kc_appeal (a : as_T) (x : Int32) : Int32 × as_T :=
  (na_m x (a.1.1 1)).elim (-101, a) (fun j => if a.2.2.1 9 j = 2 then if a.2.2.1 14 j = 0 then
    (st_cl a.2 (a.2.2.1 6 j) (a.2.2.1 7 j) (a.1.1 1).toNatClampNeg 0).elim (1, (se_nd a.1 x 6, ap_co a.2 j)) (fun _ => (-103, a)) else (-103, a) else (-103, a))
def kc_paid (a : as_T) (x kd : Int32) : Bool := (st_cl a.2 x kd (a.1.1 1).toNatClampNeg 0).elim false (fun j => decide (a.2.2.1 9 j = 1))
def kc_about (a : as_T) (x w : Int32) : Int32 :=
  (na_m x (a.1.1 1)).elim (-101) (fun j => if w = 0 then a.2.2.1 9 j else if w = 1 then a.2.2.1 6 j else if w = 2 then a.2.2.1 7 j else if w = 3 then bi_ct (a.2.2.1 10 j) else if w = 4 then a.2.2.1 12 j else if w = 5 then a.2.2.1 8 j else -102)
def kc_letter (a : as_T) (i w : Int32) : Int32 :=
  if 0 ≤ i ∧ i < (if 200 < a.1.1 3 then 200 else a.1.1 3) then if w = 0 then a.1.2.2.1 1 i.toNatClampNeg else if w = 1 then a.1.2.2.1 2 i.toNatClampNeg else -1 else -1
def kc_all (a : as_T) (w : Int32) : Int64 := if w = 0 then a.1.2.1 0 else if w = 1 then a.1.2.1 1 else if w = 2 then (a.1.1 5).toInt64 else if w = 3 then (a.1.1 3).toInt64 else -102
end
section
/-! The class's state under changes of one cell. -/
def xs_r (σ : xs_T) (ra : Nat → Nat → Option Nat) : xs_T := (σ.1, σ.2.1, σ.2.2.1, σ.2.2.2.1, ra)
theorem ce_Ie {g g' : Nat → Nat → Int32} {h h' : Nat → Nat → Int64} {i p : Nat} (hg : ∀ k, k < 6 → g' k i = g k i) (hh : ∀ k, k < 2 → h' k i = h k i) : ce_I g' h' i p = ce_I g h i p := by
  simp only [ce_I, hg 0 (by decide), hg 1 (by decide), hg 2 (by decide), hg 3 (by decide), hg 4 (by decide), hg 5 (by decide), hh 0 (by decide), hh 1 (by decide)]
theorem ce_Ce {g g' : Nat → Nat → Int32} {h h' : Nat → Nat → Int64} {j a : Nat} (hg : ∀ k, 6 ≤ k → k < 16 → g' k j = g k j) (hh : h' 2 j = h 2 j) : ce_C g' h' j a = ce_C g h j a := by
  simp only [ce_C, hg 6 (by decide) (by decide), hg 7 (by decide) (by decide), hg 8 (by decide) (by decide), hg 9 (by decide) (by decide), hg 10 (by decide) (by decide), hg 11 (by decide) (by decide), hg 12 (by decide) (by decide), hg 13 (by decide) (by decide), hg 14 (by decide) (by decide), hg 15 (by decide) (by decide), hh]
theorem ce_Se {g g' : Nat → Nat → Int32} {k c : Nat} (h1 : g' 17 k = g 17 k) (h2 : g' 18 k = g 18 k) : ce_S g' k c = ce_S g k c := by
  simp only [ce_S, h1, h2]
theorem ce_IC {g g' : Nat → Nat → Int32} {h h' : Nat → Nat → Int64} {i p j a : Nat} : ce_I g h i p ≠ ce_C g' h' j a := by simp [ce_I, ce_C]
theorem ce_IS {g g' : Nat → Nat → Int32} {h : Nat → Nat → Int64} {i p k c : Nat} : ce_I g h i p ≠ ce_S g' k c := by simp [ce_I, ce_S]
theorem ce_CS {g g' : Nat → Nat → Int32} {h : Nat → Nat → Int64} {j a k c : Nat} : ce_C g h j a ≠ ce_S g' k c := by simp [ce_C, ce_S]
theorem ce_PI {cA : Nat → ClassId} {po : Nat → Nat → Int32} {q : Nat} {g : Nat → Nat → Int32} {h : Nat → Nat → Int64} {i p : Nat} : ce_P cA po q ≠ ce_I g h i p := by simp [ce_P, ce_I]
theorem ce_PC {cA : Nat → ClassId} {po : Nat → Nat → Int32} {q : Nat} {g : Nat → Nat → Int32} {h : Nat → Nat → Int64} {j a : Nat} : ce_P cA po q ≠ ce_C g h j a := by simp [ce_P, ce_C]
theorem ce_PS {cA : Nat → ClassId} {po : Nat → Nat → Int32} {q : Nat} {g : Nat → Nat → Int32} {k c : Nat} : ce_P cA po q ≠ ce_S g k c := by simp [ce_P, ce_S]
section REP
variable {cA : Nat → ClassId} {σ σ' : xs_T} {n : nn_T} {co co' : co_T} {L : List Nat} {f : Nat → va_E} {ad : ad_T}
/-- the fixed cells change, the counts of items, claims, searches and the arrays of references don't -/
theorem re_x (hR : re_A cA σ n co L f ad) (m : Nat) (h0 : σ'.1 0 = σ.1 0) (h1 : σ'.1 1 = σ.1 1) (h2 : σ'.1 2 = σ.1 2) (h3 : σ'.1 3 = nI m) (hr : σ'.2.2.2.2 = σ.2.2.2.2) : re_A cA σ' (n.1, n.2.1, n.2.2.1, m) co L f ad := by
  obtain ⟨⟨a1, a2, a3, a4, a5, a6, -⟩, hI, hC, hS, hV, hJ⟩ := hR
  refine ⟨⟨h0.trans a1, a2, h1.trans a3, a4, h2.trans a5, a6, h3⟩, fun i hi => ?_, fun j hj => ?_, fun k hk => ?_, hV, hJ⟩
  · have := hI i hi; unfold re_I at this ⊢; rw [hr]; exact this
  · have := hC j hj; unfold re_C at this ⊢; rw [hr]; exact this
  · have := hS k hk; unfold re_S at this ⊢; rw [hr]; exact this
/-- the columns agree but for claim j's own, whose item and kind stay -/
def ag_C (co co' : co_T) (j : Nat) : Prop := co'.1 = co.1 ∧ co'.2.2.2 = co.2.2.2 ∧ (∀ k i, k < 6 ∨ 16 ≤ k ∨ i ≠ j → co'.2.1 k i = co.2.1 k i) ∧ (∀ k i, k ≠ 2 ∨ i ≠ j → co'.2.2.1 k i = co.2.2.1 k i) ∧ co'.2.1 6 j = co.2.1 6 j ∧ co'.2.1 7 j = co.2.1 7 j ∧ ∃ v : Nat, v < 16 ∧ co'.2.1 10 j = nI v
theorem re_setC (hR : re_A cA σ n co L f ad) {j : Nat} (hj : j < n.2.1) (hc : ag_C co co' j) {e : va_E} (he : e = ce_C co'.2.1 co'.2.2.1 j (ad.1 (co.1 0 j))) : re_A cA σ n co' L (va_up f (ad.2.2.1 j) e) ad := by
  obtain ⟨hX, hI, hC, hS, ⟨v1, v2, v3⟩, hJ⟩ := hR
  obtain ⟨c1, c2, c3, c4, c5, c6, c7⟩ := hc
  have hj' := hC j hj
  refine ⟨hX, fun i hi => ?_, fun i hi => ?_, fun k hk => ?_, ⟨fun i hi => ?_, fun i hi => ?_, fun k hk => ?_⟩, hJ⟩
  · obtain ⟨b1, b2, b3, b4, b5⟩ := hI i hi
    refine ⟨b1, b2, ?_, b4, ?_⟩
    · rw [va_up_ne _ _ (ct_ne b3 hj'.2.2 ce_IC), b3]
      exact (ce_Ie (fun k h => c3 k i (Or.inl h)) (fun k h => c4 k i (Or.inl (by omega)))).symm
    · rw [va_up_ne _ _ (ct_ne b5 hj'.2.2 ce_PC), b5, ce_P, ce_P, c2]
  · obtain ⟨b1, b2, b3⟩ := hC i hi
    refine ⟨b1, b2, ?_⟩
    rw [c1]
    by_cases q : i = j
    · subst q; rw [va_up_self, he]
    · rw [va_up_ne _ _ (fun z => q (hJ.2.2.1 i j hi hj z)), b3]
      exact (ce_Ce (fun k h1 h2 => c3 k i (Or.inr (Or.inr q))) (c4 2 i (Or.inr q))).symm
  · obtain ⟨b1, b2, b3⟩ := hS k hk
    refine ⟨b1, b2, ?_⟩
    rw [c1, va_up_ne _ _ (ct_ne b3 hj'.2.2 (fun z => ce_CS z.symm)), b3]
    exact (ce_Se (c3 17 k (Or.inr (Or.inl (by decide)))) (c3 18 k (Or.inr (Or.inl (by decide))))).symm
  · rw [c3 0 i (Or.inl (by decide)), c3 3 i (Or.inl (by decide)), c3 4 i (Or.inl (by decide))]; exact v1 i hi
  · rw [c1]
    by_cases q : i = j
    · subst q; rw [c5, c6]; exact ⟨(v2 i hi).1, (v2 i hi).2.1, (v2 i hi).2.2.1, c7⟩
    · rw [c3 6 i (Or.inr (Or.inr q)), c3 7 i (Or.inr (Or.inr q)), c3 10 i (Or.inr (Or.inr q))]; exact v2 i hi
  · rw [c1]; exact v3 k hk
/-- the columns agree but for item i's own, whose service stays -/
def ag_I (co co' : co_T) (i : Nat) : Prop := co'.1 = co.1 ∧ (∀ j, j ≠ i → co'.2.2.2 j = co.2.2.2 j) ∧ (∀ k j, 6 ≤ k ∨ j ≠ i → co'.2.1 k j = co.2.1 k j) ∧ (∀ k j, co'.2.2.1 k j = co.2.2.1 k j) ∧ co'.2.1 0 i = co.2.1 0 i ∧ ∃ v w : Nat, v ≤ 8 ∧ w ≤ v ∧ co'.2.1 3 i = nI v ∧ co'.2.1 4 i = nI w
theorem re_setI (hR : re_A cA σ n co L f ad) {i : Nat} (hi : i < n.1) (hc : ag_I co co' i) {f' : Nat → va_E} (h1 : f' (ad.1 i) = ce_I co'.2.1 co'.2.2.1 i (ad.2.1 i)) (h2 : f' (ad.2.1 i) = ce_P cA co'.2.2.2 i) (h3 : ∀ a, a ≠ ad.1 i → a ≠ ad.2.1 i → f' a = f a) : re_A cA σ n co' L f' ad := by
  obtain ⟨hX, hI, hC, hS, ⟨v1, v2, v3⟩, hJ⟩ := hR
  obtain ⟨c1, c2, c3, c4, c5, c6⟩ := hc
  have hi' := hI i hi
  refine ⟨hX, fun j hj => ?_, fun j hj => ?_, fun k hk => ?_, ⟨fun j hj => ?_, fun j hj => ?_, fun k hk => ?_⟩, hJ⟩
  · obtain ⟨b1, b2, b3, b4, b5⟩ := hI j hj
    by_cases q : j = i
    · subst q; exact ⟨b1, b2, h1, b4, h2⟩
    · refine ⟨b1, b2, ?_, b4, ?_⟩
      · rw [h3 _ (fun z => q (hJ.1 j i hj hi z)) (ct_ne b3 hi'.2.2.2.2 (fun z => ce_PI z.symm)), b3]
        exact (ce_Ie (fun k _ => c3 k j (Or.inr q)) (fun k _ => c4 k j)).symm
      · rw [h3 _ (ct_ne b5 hi'.2.2.1 ce_PI) (fun z => q (hJ.2.1 j i hj hi z)), b5, ce_P, ce_P, c2 j q]
  · obtain ⟨b1, b2, b3⟩ := hC j hj
    refine ⟨b1, b2, ?_⟩
    rw [c1, h3 _ (ct_ne b3 hi'.2.2.1 (fun z => ce_IC z.symm)) (ct_ne b3 hi'.2.2.2.2 (fun z => ce_PC z.symm)), b3]
    exact (ce_Ce (fun k h _ => c3 k j (Or.inl h)) (c4 2 j)).symm
  · obtain ⟨b1, b2, b3⟩ := hS k hk
    refine ⟨b1, b2, ?_⟩
    rw [c1, h3 _ (ct_ne b3 hi'.2.2.1 (fun z => ce_IS z.symm)) (ct_ne b3 hi'.2.2.2.2 (fun z => ce_PS z.symm)), b3]
    exact (ce_Se (c3 17 k (Or.inl (by decide))) (c3 18 k (Or.inl (by decide)))).symm
  · by_cases q : j = i
    · subst q; rw [c5]; exact ⟨(v1 j hj).1, c6⟩
    · rw [c3 0 j (Or.inr q), c3 3 j (Or.inr q), c3 4 j (Or.inr q)]; exact v1 j hj
  · rw [c1, c3 6 j (Or.inl (by decide)), c3 7 j (Or.inl (by decide)), c3 10 j (Or.inl (by decide))]; exact v2 j hj
  · rw [c1]; exact v3 k hk
/-- a search's cell -/
theorem re_setS (hR : re_A cA σ n co L f ad) {k : Nat} (hk : k < n.2.2.1) {x : Int32} {e : va_E} (he : e = ce_S (up_2 co.2.1 18 k x) k (ad.2.2.1 (co.1 1 k))) : re_A cA σ n (co_g co (up_2 co.2.1 18 k x)) L (va_up f (ad.2.2.2 k) e) ad := by
  obtain ⟨hX, hI, hC, hS, ⟨v1, v2, v3⟩, hJ⟩ := hR
  have hk' := hS k hk
  have g : ∀ c i, c ≠ 18 → up_2 co.2.1 18 k x c i = co.2.1 c i := fun c i h => up_2k _ _ _ _ h
  refine ⟨hX, fun i hi => ?_, fun j hj => ?_, fun i hi => ?_, ⟨fun i hi => ?_, fun i hi => ?_, fun k hk => v3 k hk⟩, hJ⟩
  · obtain ⟨b1, b2, b3, b4, b5⟩ := hI i hi
    refine ⟨b1, b2, ?_, b4, ?_⟩
    · rw [va_up_ne _ _ (ct_ne b3 hk'.2.2 ce_IS), b3]
      exact (ce_Ie (fun c h => g c i (by omega)) (fun c h => rfl)).symm
    · rw [va_up_ne _ _ (ct_ne b5 hk'.2.2 ce_PS), b5]; rfl
  · obtain ⟨b1, b2, b3⟩ := hC j hj
    refine ⟨b1, b2, ?_⟩
    rw [va_up_ne _ _ (ct_ne b3 hk'.2.2 ce_CS), b3]
    exact (ce_Ce (fun c h1 h2 => g c j (by omega)) rfl).symm
  · obtain ⟨b1, b2, b3⟩ := hS i hi
    refine ⟨b1, b2, ?_⟩
    by_cases q : i = k
    · subst q; rw [va_up_self, he]; rfl
    · rw [va_up_ne _ _ (fun z => q (hJ.2.2.2 i k hi hk z)), b3]
      exact (ce_Se (g 17 i (by decide)) (up_2i _ _ _ _ q)).symm
  · show (∃ v : Nat, v < 4 ∧ up_2 co.2.1 18 k x 0 i = nI v) ∧ (∃ v w : Nat, v ≤ 8 ∧ w ≤ v ∧ up_2 co.2.1 18 k x 3 i = nI v ∧ up_2 co.2.1 18 k x 4 i = nI w)
    rw [g 0 i (by decide), g 3 i (by decide), g 4 i (by decide)]; exact v1 i hi
  · show co.1 0 i < n.1 ∧ up_2 co.2.1 18 k x 6 i = nI (co.1 0 i + 1) ∧ (∃ v : Nat, v < 4 ∧ up_2 co.2.1 18 k x 7 i = nI v) ∧ ∃ v : Nat, v < 16 ∧ up_2 co.2.1 18 k x 10 i = nI v
    rw [g 6 i (by decide), g 7 i (by decide), g 10 i (by decide)]; exact v2 i hi
/-- a new item -/
theorem re_newI (hR : re_A cA σ n co L f ad) {q r : Nat} (hq : q ∉ L) (hr : r ∉ L) {L' : List Nat} (hL : ∀ a, a ∈ L → a ∈ L') (hqL : q ∈ L') (hrL : r ∈ L') {f' : Nat → va_E} (hf : ∀ a, a ∈ L → f' a = f a) {sv dy se : Int32} {v w : Int64} (hsv : ∃ x : Nat, x < 4 ∧ sv = nI x)
    (h1 : f' q = ce_I (ni_co co n.1 sv v w dy se).2.1 (ni_co co n.1 sv v w dy se).2.2.1 n.1 r) (h2 : f' r = ce_P cA (ni_co co n.1 sv v w dy se).2.2.2 n.1) (hn : n.1 < 100) (s0 : σ'.1 0 = nI (n.1 + 1)) (s1 : σ'.1 1 = σ.1 1) (s2 : σ'.1 2 = σ.1 2) (s3 : σ'.1 3 = σ.1 3)
    (r0 : σ'.2.2.2.2 0 = va_up (σ.2.2.2.2 0) n.1 (some q)) (r1 : σ'.2.2.2.2 1 = σ.2.2.2.2 1) (r2 : σ'.2.2.2.2 2 = σ.2.2.2.2 2) :
    re_A cA σ' (n.1 + 1, n.2) (ni_co co n.1 sv v w dy se) L' f' (va_up ad.1 n.1 q, va_up ad.2.1 n.1 r, ad.2.2) := by
  obtain ⟨⟨a1, a2, a3, a4, a5, a6, a7⟩, hI, hC, hS, ⟨v1, v2, v3⟩, hJ⟩ := hR
  have g6 : ∀ k i, 6 ≤ k ∨ i ≠ n.1 → (ni_co co n.1 sv v w dy se).2.1 k i = co.2.1 k i := by
    intro k i h
    show up_2 (up_2 (up_2 (up_2 (up_2 (up_2 co.2.1 0 n.1 sv) 1 n.1 dy) 2 n.1 se) 3 n.1 0) 4 n.1 0) 5 n.1 0 k i = _
    rcases h with h | h
    · rw [up_2k _ _ _ _ (by omega), up_2k _ _ _ _ (by omega), up_2k _ _ _ _ (by omega), up_2k _ _ _ _ (by omega), up_2k _ _ _ _ (by omega), up_2k _ _ _ _ (by omega)]
    · rw [up_2i _ _ _ _ h, up_2i _ _ _ _ h, up_2i _ _ _ _ h, up_2i _ _ _ _ h, up_2i _ _ _ _ h, up_2i _ _ _ _ h]
  have h6 : ∀ k i, 2 ≤ k ∨ i ≠ n.1 → (ni_co co n.1 sv v w dy se).2.2.1 k i = co.2.2.1 k i := by
    intro k i h
    show up_2 (up_2 co.2.2.1 0 n.1 v) 1 n.1 w k i = _
    rcases h with h | h
    · rw [up_2k _ _ _ _ (by omega), up_2k _ _ _ _ (by omega)]
    · rw [up_2i _ _ _ _ h, up_2i _ _ _ _ h]
  refine ⟨⟨s0, by show n.1 + 1 ≤ 100; omega, s1.trans a3, a4, s2.trans a5, a6, s3.trans a7⟩, fun i hi => ?_, fun j hj => ?_, fun k hk => ?_, ⟨fun i hi => ?_, fun j hj => ?_, fun k hk => v3 k hk⟩, ⟨fun i j hi hj e => ?_, fun i j hi hj e => ?_, hJ.2.2.1, hJ.2.2.2⟩⟩
  · have hi : i < n.1 + 1 := hi
    show σ'.2.2.2.2 0 i = some (va_up ad.1 n.1 q i) ∧ va_up ad.1 n.1 q i ∈ L' ∧ f' (va_up ad.1 n.1 q i) = ce_I _ _ i (va_up ad.2.1 n.1 r i) ∧ va_up ad.2.1 n.1 r i ∈ L' ∧ f' (va_up ad.2.1 n.1 r i) = _
    rw [r0]
    by_cases z : i = n.1
    · subst z; rw [va_up_self, va_up_self, va_up_self]; exact ⟨rfl, hqL, h1, hrL, h2⟩
    · obtain ⟨b1, b2, b3, b4, b5⟩ := hI i (by omega)
      rw [va_up_ne _ _ z, va_up_ne _ _ z, va_up_ne _ _ z]
      refine ⟨b1, hL _ b2, ?_, hL _ b4, ?_⟩
      · rw [hf _ b2, b3]; exact (ce_Ie (fun k _ => g6 k i (Or.inr z)) (fun k _ => h6 k i (Or.inr z))).symm
      · rw [hf _ b4, b5]; show ce_P cA co.2.2.2 i = ce_P cA (va_up co.2.2.2 n.1 (fun _ => 0)) i; rw [ce_P, ce_P, va_up_ne _ _ z]
  · obtain ⟨b1, b2, b3⟩ := hC j hj
    have hlt := (v2 j hj).1
    show σ'.2.2.2.2 1 j = some (ad.2.2.1 j) ∧ ad.2.2.1 j ∈ L' ∧ f' (ad.2.2.1 j) = ce_C _ _ j (va_up ad.1 n.1 q (co.1 0 j))
    rw [r1, va_up_ne _ _ (Nat.ne_of_lt hlt)]
    refine ⟨b1, hL _ b2, ?_⟩
    rw [hf _ b2, b3]; exact (ce_Ce (fun k h _ => g6 k j (Or.inl h)) (h6 2 j (Or.inl (by decide)))).symm
  · obtain ⟨b1, b2, b3⟩ := hS k hk
    show σ'.2.2.2.2 2 k = some (ad.2.2.2 k) ∧ ad.2.2.2 k ∈ L' ∧ f' (ad.2.2.2 k) = ce_S _ k (ad.2.2.1 (co.1 1 k))
    rw [r2]
    refine ⟨b1, hL _ b2, ?_⟩
    rw [hf _ b2, b3]; exact (ce_Se (g6 17 k (Or.inl (by decide))) (g6 18 k (Or.inl (by decide)))).symm
  · have hi : i < n.1 + 1 := hi
    by_cases z : i = n.1
    · subst z
      show (∃ v : Nat, v < 4 ∧ up_2 (up_2 (up_2 (up_2 (up_2 (up_2 co.2.1 0 n.1 sv) 1 n.1 dy) 2 n.1 se) 3 n.1 0) 4 n.1 0) 5 n.1 0 0 n.1 = nI v) ∧ (∃ v w : Nat, v ≤ 8 ∧ w ≤ v ∧ up_2 (up_2 (up_2 (up_2 (up_2 (up_2 co.2.1 0 n.1 sv) 1 n.1 dy) 2 n.1 se) 3 n.1 0) 4 n.1 0) 5 n.1 0 3 n.1 = nI v ∧ up_2 (up_2 (up_2 (up_2 (up_2 (up_2 co.2.1 0 n.1 sv) 1 n.1 dy) 2 n.1 se) 3 n.1 0) 4 n.1 0) 5 n.1 0 4 n.1 = nI w)
      refine ⟨?_, 0, 0, by decide, by decide, ?_, ?_⟩
      · rw [up_2k _ _ _ _ (by decide), up_2k _ _ _ _ (by decide), up_2k _ _ _ _ (by decide), up_2k _ _ _ _ (by decide), up_2k _ _ _ _ (by decide), up_2s]; exact hsv
      · rw [up_2k _ _ _ _ (by decide), up_2k _ _ _ _ (by decide), up_2s]; rfl
      · rw [up_2k _ _ _ _ (by decide), up_2s]; rfl
    · rw [g6 0 i (Or.inr z), g6 3 i (Or.inr z), g6 4 i (Or.inr z)]; exact v1 i (by omega)
  · rw [g6 6 j (Or.inl (by decide)), g6 7 j (Or.inl (by decide)), g6 10 j (Or.inl (by decide))]
    exact ⟨Nat.lt_succ_of_lt (v2 j hj).1, (v2 j hj).2⟩
  · have hi : i < n.1 + 1 := hi
    have hj : j < n.1 + 1 := hj
    have e : va_up ad.1 n.1 q i = va_up ad.1 n.1 q j := e
    by_cases z : i = n.1 <;> by_cases y : j = n.1
    · omega
    · rw [z, va_up_self, va_up_ne _ _ y] at e; exact absurd (e ▸ (hI j (by omega)).2.1) hq
    · rw [y, va_up_self, va_up_ne _ _ z] at e; exact absurd (e ▸ (hI i (by omega)).2.1) hq
    · rw [va_up_ne _ _ z, va_up_ne _ _ y] at e; exact hJ.1 i j (by omega) (by omega) e
  · have hi : i < n.1 + 1 := hi
    have hj : j < n.1 + 1 := hj
    have e : va_up ad.2.1 n.1 r i = va_up ad.2.1 n.1 r j := e
    by_cases z : i = n.1 <;> by_cases y : j = n.1
    · omega
    · rw [z, va_up_self, va_up_ne _ _ y] at e; exact absurd (e ▸ (hI j (by omega)).2.2.2.1) hr
    · rw [y, va_up_self, va_up_ne _ _ z] at e; exact absurd (e ▸ (hI i (by omega)).2.2.2.1) hr
    · rw [va_up_ne _ _ z, va_up_ne _ _ y] at e; exact hJ.2.1 i j (by omega) (by omega) e
/-- a new claim -/
theorem re_newC (hR : re_A cA σ n co L f ad) {q : Nat} (hq : q ∉ L) {L' : List Nat} (hL : ∀ a, a ∈ L → a ∈ L') (hqL : q ∈ L') {f' : Nat → va_E} (hf : ∀ a, a ∈ L → f' a = f a) {i : Nat} (hi : i < n.1) {kd ea : Int32} (hkd : ∃ x : Nat, x < 4 ∧ kd = nI x)
    (h1 : f' q = ce_C (nc_co co n.2.1 i (nI (i + 1)) kd ea).2.1 (nc_co co n.2.1 i (nI (i + 1)) kd ea).2.2.1 n.2.1 (ad.1 i)) (hn : n.2.1 < 60) (s0 : σ'.1 0 = σ.1 0) (s1 : σ'.1 1 = nI (n.2.1 + 1)) (s2 : σ'.1 2 = σ.1 2) (s3 : σ'.1 3 = σ.1 3)
    (r0 : σ'.2.2.2.2 0 = σ.2.2.2.2 0) (r1 : σ'.2.2.2.2 1 = va_up (σ.2.2.2.2 1) n.2.1 (some q)) (r2 : σ'.2.2.2.2 2 = σ.2.2.2.2 2) :
    re_A cA σ' (n.1, n.2.1 + 1, n.2.2) (nc_co co n.2.1 i (nI (i + 1)) kd ea) L' f' (ad.1, ad.2.1, va_up ad.2.2.1 n.2.1 q, ad.2.2.2) := by
  obtain ⟨⟨a1, a2, a3, a4, a5, a6, a7⟩, hI, hC, hS, ⟨v1, v2, v3⟩, hJ⟩ := hR
  have g6 : ∀ k j, k < 6 ∨ 16 ≤ k ∨ j ≠ n.2.1 → (nc_co co n.2.1 i (nI (i + 1)) kd ea).2.1 k j = co.2.1 k j := by
    intro k j h
    show up_2 (up_2 (up_2 (up_2 (up_2 (up_2 (up_2 (up_2 (up_2 (up_2 co.2.1 6 n.2.1 (nI (i + 1))) 7 n.2.1 kd) 8 n.2.1 ea) 9 n.2.1 0) 10 n.2.1 (ne_ed kd)) 11 n.2.1 0) 12 n.2.1 0) 13 n.2.1 0) 14 n.2.1 0) 15 n.2.1 0 k j = _
    by_cases z : j = n.2.1
    · rw [up_2k _ _ _ _ (by omega), up_2k _ _ _ _ (by omega), up_2k _ _ _ _ (by omega), up_2k _ _ _ _ (by omega), up_2k _ _ _ _ (by omega), up_2k _ _ _ _ (by omega), up_2k _ _ _ _ (by omega), up_2k _ _ _ _ (by omega), up_2k _ _ _ _ (by omega), up_2k _ _ _ _ (by omega)]
    · rw [up_2i _ _ _ _ z, up_2i _ _ _ _ z, up_2i _ _ _ _ z, up_2i _ _ _ _ z, up_2i _ _ _ _ z, up_2i _ _ _ _ z, up_2i _ _ _ _ z, up_2i _ _ _ _ z, up_2i _ _ _ _ z, up_2i _ _ _ _ z]
  have h6 : ∀ k j, k ≠ 2 ∨ j ≠ n.2.1 → (nc_co co n.2.1 i (nI (i + 1)) kd ea).2.2.1 k j = co.2.2.1 k j := by
    intro k j h
    show up_2 co.2.2.1 2 n.2.1 0 k j = _
    rcases h with h | h
    · rw [up_2k _ _ _ _ h]
    · rw [up_2i _ _ _ _ h]
  have x0 : ∀ j, j ≠ n.2.1 → (nc_co co n.2.1 i (nI (i + 1)) kd ea).1 0 j = co.1 0 j := fun j h => up_2i co.1 0 0 (i := n.2.1) i h
  have x0s : (nc_co co n.2.1 i (nI (i + 1)) kd ea).1 0 n.2.1 = i := up_2s co.1 0 n.2.1 i
  have x1 : ∀ j, (nc_co co n.2.1 i (nI (i + 1)) kd ea).1 1 j = co.1 1 j := fun j => up_2k co.1 (k := 0) (k' := 1) n.2.1 i j (by decide)
  refine ⟨⟨s0.trans a1, a2, s1, by show n.2.1 + 1 ≤ 60; omega, s2.trans a5, a6, s3.trans a7⟩, fun j hj => ?_, fun j hj => ?_, fun k hk => ?_, ⟨fun j hj => ?_, fun j hj => ?_, fun k hk => ?_⟩, ⟨hJ.1, hJ.2.1, fun j k hj hk e => ?_, hJ.2.2.2⟩⟩
  · obtain ⟨b1, b2, b3, b4, b5⟩ := hI j hj
    show σ'.2.2.2.2 0 j = _ ∧ _ ∧ f' (ad.1 j) = ce_I _ _ j (ad.2.1 j) ∧ _ ∧ f' (ad.2.1 j) = _
    rw [r0]
    refine ⟨b1, hL _ b2, ?_, hL _ b4, ?_⟩
    · rw [hf _ b2, b3]; exact (ce_Ie (fun k h => g6 k j (Or.inl h)) (fun k h => h6 k j (Or.inl (by omega)))).symm
    · rw [hf _ b4, b5]; rfl
  · have hj : j < n.2.1 + 1 := hj
    show σ'.2.2.2.2 1 j = some (va_up ad.2.2.1 n.2.1 q j) ∧ va_up ad.2.2.1 n.2.1 q j ∈ L' ∧ f' (va_up ad.2.2.1 n.2.1 q j) = ce_C _ _ j (ad.1 ((nc_co co n.2.1 i (nI (i + 1)) kd ea).1 0 j))
    rw [r1]
    by_cases z : j = n.2.1
    · subst z; rw [va_up_self, va_up_self, x0s]; exact ⟨rfl, hqL, h1⟩
    · obtain ⟨b1, b2, b3⟩ := hC j (by omega)
      rw [va_up_ne _ _ z, va_up_ne _ _ z, x0 j z]
      refine ⟨b1, hL _ b2, ?_⟩
      rw [hf _ b2, b3]; exact (ce_Ce (fun k _ _ => g6 k j (Or.inr (Or.inr z))) (h6 2 j (Or.inr z))).symm
  · obtain ⟨b1, b2, b3⟩ := hS k hk
    have hlt := v3 k hk
    show σ'.2.2.2.2 2 k = some (ad.2.2.2 k) ∧ ad.2.2.2 k ∈ L' ∧ f' (ad.2.2.2 k) = ce_S _ k (va_up ad.2.2.1 n.2.1 q ((nc_co co n.2.1 i (nI (i + 1)) kd ea).1 1 k))
    rw [r2, x1, va_up_ne _ _ (Nat.ne_of_lt hlt)]
    refine ⟨b1, hL _ b2, ?_⟩
    rw [hf _ b2, b3]; exact (ce_Se (g6 17 k (Or.inr (Or.inl (by decide)))) (g6 18 k (Or.inr (Or.inl (by decide))))).symm
  · rw [g6 0 j (Or.inl (by decide)), g6 3 j (Or.inl (by decide)), g6 4 j (Or.inl (by decide))]; exact v1 j hj
  · have hj : j < n.2.1 + 1 := hj
    by_cases z : j = n.2.1
    · subst z
      rw [x0s]
      refine ⟨hi, ?_, ?_, ?_⟩
      · show up_2 (up_2 (up_2 (up_2 (up_2 (up_2 (up_2 (up_2 (up_2 (up_2 co.2.1 6 n.2.1 (nI (i + 1))) 7 n.2.1 kd) 8 n.2.1 ea) 9 n.2.1 0) 10 n.2.1 (ne_ed kd)) 11 n.2.1 0) 12 n.2.1 0) 13 n.2.1 0) 14 n.2.1 0) 15 n.2.1 0 6 n.2.1 = _
        rw [up_2k _ _ _ _ (by decide), up_2k _ _ _ _ (by decide), up_2k _ _ _ _ (by decide), up_2k _ _ _ _ (by decide), up_2k _ _ _ _ (by decide), up_2k _ _ _ _ (by decide), up_2k _ _ _ _ (by decide), up_2k _ _ _ _ (by decide), up_2k _ _ _ _ (by decide), up_2s]
      · show ∃ v : Nat, v < 4 ∧ up_2 (up_2 (up_2 (up_2 (up_2 (up_2 (up_2 (up_2 (up_2 (up_2 co.2.1 6 n.2.1 (nI (i + 1))) 7 n.2.1 kd) 8 n.2.1 ea) 9 n.2.1 0) 10 n.2.1 (ne_ed kd)) 11 n.2.1 0) 12 n.2.1 0) 13 n.2.1 0) 14 n.2.1 0) 15 n.2.1 0 7 n.2.1 = nI v
        rw [up_2k _ _ _ _ (by decide), up_2k _ _ _ _ (by decide), up_2k _ _ _ _ (by decide), up_2k _ _ _ _ (by decide), up_2k _ _ _ _ (by decide), up_2k _ _ _ _ (by decide), up_2k _ _ _ _ (by decide), up_2k _ _ _ _ (by decide), up_2s]; exact hkd
      · show ∃ v : Nat, v < 16 ∧ up_2 (up_2 (up_2 (up_2 (up_2 (up_2 (up_2 (up_2 (up_2 (up_2 co.2.1 6 n.2.1 (nI (i + 1))) 7 n.2.1 kd) 8 n.2.1 ea) 9 n.2.1 0) 10 n.2.1 (ne_ed kd)) 11 n.2.1 0) 12 n.2.1 0) 13 n.2.1 0) 14 n.2.1 0) 15 n.2.1 0 10 n.2.1 = nI v
        rw [up_2k _ _ _ _ (by decide), up_2k _ _ _ _ (by decide), up_2k _ _ _ _ (by decide), up_2k _ _ _ _ (by decide), up_2k _ _ _ _ (by decide), up_2s]
        unfold ne_ed
        split
        · exact ⟨1, by decide, rfl⟩
        · split
          · exact ⟨3, by decide, rfl⟩
          · split
            · exact ⟨5, by decide, rfl⟩
            · exact ⟨13, by decide, rfl⟩
    · rw [x0 j z, g6 6 j (Or.inr (Or.inr z)), g6 7 j (Or.inr (Or.inr z)), g6 10 j (Or.inr (Or.inr z))]; exact v2 j (by omega)
  · rw [x1]; exact Nat.lt_succ_of_lt (v3 k hk)
  · have hj : j < n.2.1 + 1 := hj
    have hk : k < n.2.1 + 1 := hk
    have e : va_up ad.2.2.1 n.2.1 q j = va_up ad.2.2.1 n.2.1 q k := e
    by_cases z : j = n.2.1 <;> by_cases y : k = n.2.1
    · omega
    · rw [z, va_up_self, va_up_ne _ _ y] at e; exact absurd (e ▸ (hC k (by omega)).2.1) hq
    · rw [y, va_up_self, va_up_ne _ _ z] at e; exact absurd (e ▸ (hC j (by omega)).2.1) hq
    · rw [va_up_ne _ _ z, va_up_ne _ _ y] at e; exact hJ.2.2.1 j k (by omega) (by omega) e
/-- a new search (its claim's own columns are set apart) -/
theorem re_newS (hR : re_A cA σ n co L f ad) {q : Nat} (hq : q ∉ L) {L' : List Nat} (hL : ∀ a, a ∈ L → a ∈ L') (hqL : q ∈ L') {f' : Nat → va_E} (hf : ∀ a, a ∈ L → f' a = f a) {j : Nat} (hj : j < n.2.1) {due : Int32}
    (h1 : f' q = ce_S (up_2 (up_2 co.2.1 17 n.2.2.1 due) 18 n.2.2.1 1) n.2.2.1 (ad.2.2.1 j)) (hn : n.2.2.1 < 100) (s0 : σ'.1 0 = σ.1 0) (s1 : σ'.1 1 = σ.1 1) (s2 : σ'.1 2 = nI (n.2.2.1 + 1)) (s3 : σ'.1 3 = σ.1 3)
    (r0 : σ'.2.2.2.2 0 = σ.2.2.2.2 0) (r1 : σ'.2.2.2.2 1 = σ.2.2.2.2 1) (r2 : σ'.2.2.2.2 2 = va_up (σ.2.2.2.2 2) n.2.2.1 (some q)) :
    re_A cA σ' (n.1, n.2.1, n.2.2.1 + 1, n.2.2.2) (up_2 co.1 1 n.2.2.1 j, up_2 (up_2 co.2.1 17 n.2.2.1 due) 18 n.2.2.1 1, co.2.2) L' f' (ad.1, ad.2.1, ad.2.2.1, va_up ad.2.2.2 n.2.2.1 q) := by
  obtain ⟨⟨a1, a2, a3, a4, a5, a6, a7⟩, hI, hC, hS, ⟨v1, v2, v3⟩, hJ⟩ := hR
  have g6 : ∀ k i, k < 17 ∨ i ≠ n.2.2.1 → up_2 (up_2 co.2.1 17 n.2.2.1 due) 18 n.2.2.1 1 k i = co.2.1 k i := by
    intro k i h
    rcases h with h | h
    · rw [up_2k _ _ _ _ (by omega), up_2k _ _ _ _ (by omega)]
    · rw [up_2i _ _ _ _ h, up_2i _ _ _ _ h]
  have x0 : ∀ i, up_2 co.1 1 n.2.2.1 j 0 i = co.1 0 i := fun i => up_2k _ _ _ _ (by decide)
  refine ⟨⟨s0.trans a1, a2, s1.trans a3, a4, s2, by show n.2.2.1 + 1 ≤ 100; omega, s3.trans a7⟩, fun i hi => ?_, fun i hi => ?_, fun k hk => ?_, ⟨fun i hi => ?_, fun i hi => ?_, fun k hk => ?_⟩, ⟨hJ.1, hJ.2.1, hJ.2.2.1, fun i k hi hk e => ?_⟩⟩
  · obtain ⟨b1, b2, b3, b4, b5⟩ := hI i hi
    show σ'.2.2.2.2 0 i = _ ∧ _ ∧ f' (ad.1 i) = ce_I _ _ i (ad.2.1 i) ∧ _ ∧ f' (ad.2.1 i) = _
    rw [r0]
    refine ⟨b1, hL _ b2, ?_, hL _ b4, ?_⟩
    · rw [hf _ b2, b3]; exact (ce_Ie (fun k h => g6 k i (Or.inl (by omega))) (fun k h => rfl)).symm
    · rw [hf _ b4, b5]
  · obtain ⟨b1, b2, b3⟩ := hC i hi
    show σ'.2.2.2.2 1 i = _ ∧ _ ∧ f' (ad.2.2.1 i) = ce_C _ _ i (ad.1 (up_2 co.1 1 n.2.2.1 j 0 i))
    rw [r1, x0]
    refine ⟨b1, hL _ b2, ?_⟩
    rw [hf _ b2, b3]; exact (ce_Ce (fun k _ h => g6 k i (Or.inl (by omega))) rfl).symm
  · have hk : k < n.2.2.1 + 1 := hk
    show σ'.2.2.2.2 2 k = some (va_up ad.2.2.2 n.2.2.1 q k) ∧ va_up ad.2.2.2 n.2.2.1 q k ∈ L' ∧ f' (va_up ad.2.2.2 n.2.2.1 q k) = ce_S _ k (ad.2.2.1 (up_2 co.1 1 n.2.2.1 j 1 k))
    rw [r2]
    by_cases z : k = n.2.2.1
    · subst z; rw [va_up_self, va_up_self, up_2s]; exact ⟨rfl, hqL, h1⟩
    · obtain ⟨b1, b2, b3⟩ := hS k (by omega)
      rw [va_up_ne _ _ z, va_up_ne _ _ z, up_2i _ _ _ _ z]
      refine ⟨b1, hL _ b2, ?_⟩
      rw [hf _ b2, b3]; exact (ce_Se (g6 17 k (Or.inr z)) (g6 18 k (Or.inr z))).symm
  · show (∃ v : Nat, v < 4 ∧ up_2 (up_2 co.2.1 17 n.2.2.1 due) 18 n.2.2.1 1 0 i = nI v) ∧ (∃ v w : Nat, v ≤ 8 ∧ w ≤ v ∧ up_2 (up_2 co.2.1 17 n.2.2.1 due) 18 n.2.2.1 1 3 i = nI v ∧ up_2 (up_2 co.2.1 17 n.2.2.1 due) 18 n.2.2.1 1 4 i = nI w)
    rw [g6 0 i (Or.inl (by decide)), g6 3 i (Or.inl (by decide)), g6 4 i (Or.inl (by decide))]; exact v1 i hi
  · show up_2 co.1 1 n.2.2.1 j 0 i < n.1 ∧ up_2 (up_2 co.2.1 17 n.2.2.1 due) 18 n.2.2.1 1 6 i = nI (up_2 co.1 1 n.2.2.1 j 0 i + 1) ∧ (∃ v : Nat, v < 4 ∧ up_2 (up_2 co.2.1 17 n.2.2.1 due) 18 n.2.2.1 1 7 i = nI v) ∧ ∃ v : Nat, v < 16 ∧ up_2 (up_2 co.2.1 17 n.2.2.1 due) 18 n.2.2.1 1 10 i = nI v
    rw [x0, g6 6 i (Or.inl (by decide)), g6 7 i (Or.inl (by decide)), g6 10 i (Or.inl (by decide))]; exact v2 i hi
  · have hk : k < n.2.2.1 + 1 := hk
    show up_2 co.1 1 n.2.2.1 j 1 k < n.2.1
    by_cases z : k = n.2.2.1
    · subst z; rw [up_2s]; exact hj
    · rw [up_2i _ _ _ _ z]; exact v3 k (by omega)
  · have hi : i < n.2.2.1 + 1 := hi
    have hk : k < n.2.2.1 + 1 := hk
    have e : va_up ad.2.2.2 n.2.2.1 q i = va_up ad.2.2.2 n.2.2.1 q k := e
    by_cases z : i = n.2.2.1 <;> by_cases y : k = n.2.2.1
    · omega
    · rw [z, va_up_self, va_up_ne _ _ y] at e; exact absurd (e ▸ (hS k (by omega)).2.1) hq
    · rw [y, va_up_self, va_up_ne _ _ z] at e; exact absurd (e ▸ (hS i (by omega)).2.1) hq
    · rw [va_up_ne _ _ z, va_up_ne _ _ y] at e; exact hJ.2.2.2 i k (by omega) (by omega) e
end REP
/-! A number that names a row. -/
theorem nu_64 {x y : Int32} : x.toInt64 ≤ y.toInt64 ↔ x ≤ y := by
  rw [Int64.le_iff_toInt_le, Int32.le_iff_toInt_le, Int32.toInt_toInt64, Int32.toInt_toInt64]
theorem nu_1 {x c : Int32} : ((1 : Int64) ≤ x.toInt64 ∧ x.toInt64 ≤ c.toInt64) ↔ (1 ≤ x ∧ x ≤ c) := by
  rw [nu_64, show (1 : Int64) = (1 : Int32).toInt64 from by decide, nu_64]
theorem nu_f {x c : Int32} (h : ¬ ((1 : Int64) ≤ x.toInt64 ∧ x.toInt64 ≤ c.toInt64)) : na_m x c = none := by
  rw [nu_1] at h; exact if_neg h
theorem nu_j {x c : Int32} {m : Nat} (hc : c = nI m) (hm : m ≤ 100) (h : 1 ≤ x ∧ x ≤ c) : ∃ j : Nat, j < m ∧ x = nI (j + 1) ∧ (x - 1).toNatClampNeg = j := by
  obtain ⟨h1, h2⟩ := h
  rw [hc, Int32.le_iff_toInt_le, nI_toInt (by omega)] at h2
  rw [Int32.le_iff_toInt_le, show (1 : Int32).toInt = 1 from rfl] at h1
  have e : x = nI (x.toInt.toNat - 1 + 1) := Int32.toInt_inj.mp (by rw [nI_toInt (by omega)]; omega)
  obtain ⟨j, hj, hm2⟩ : ∃ j : Nat, x = nI (j + 1) ∧ j < m := ⟨_, e, by omega⟩
  subst hj
  exact ⟨j, hm2, rfl, by rw [nI_pred]; exact nI_clamp (by omega)⟩
theorem nu_t {x c : Int32} {m : Nat} (hc : c = nI m) (hm : m ≤ 100) (h : (1 : Int64) ≤ x.toInt64 ∧ x.toInt64 ≤ c.toInt64) : ∃ j : Nat, j < m ∧ na_m x c = some j ∧ x = nI (j + 1) ∧ (x - 1).toNatClampNeg = j := by
  rw [nu_1] at h
  obtain ⟨j, h1, h2, h3⟩ := nu_j hc hm h
  exact ⟨j, h1, by rw [na_m, if_pos h, h3], h2, h3⟩
theorem nu_in {x c : Int32} {m N : Nat} (hc : c = nI m) (hm : m ≤ N) (hN : N ≤ 100) (h : (1 : Int64) ≤ x.toInt64 ∧ x.toInt64 ≤ c.toInt64) : vp_in (x - 1) N := by
  obtain ⟨j, h1, -, h3, -⟩ := nu_t hc (by omega) h
  rw [h3, nI_pred]
  exact vp_in_nI (by omega) (by omega)
theorem nu_s {m j : Nat} (hj : j < m) (hm : m ≤ 100) : na_m (nI (j + 1)) (nI m) = some j := by
  have h : 1 ≤ nI (j + 1) ∧ nI (j + 1) ≤ nI m := ⟨nI_le (a := 1) (by omega) (by omega), nI_le (by omega) (by omega)⟩
  rw [na_m, if_pos h, nI_pred, nI_clamp (by omega)]
theorem rw_in {x y : Int32} (hx : ∃ v : Nat, v < 4 ∧ x = nI v) (hy : ∃ v : Nat, v < 4 ∧ y = nI v) : vp_in (x * 4 + y) 16 := by
  obtain ⟨v, h1, rfl⟩ := hx
  obtain ⟨w, h2, rfl⟩ := hy
  rw [show (4 : Int32) = nI 4 from rfl, pk_mul, nI_add]
  exact vp_in_nI (by omega) (by decide)
theorem sd_in {x : Int32} {m : Nat} (hm : x = nI m) (hb : m < 1000000) (h : ¬ (200 : Int32) ≤ x) : vp_in x 200 := by
  subst hm
  refine vp_in_nI ?_ (by decide)
  rcases Nat.lt_or_ge m 200 with q | q
  · exact q
  · exact absurd (nI_le (a := 200) q (by omega)) h
/-! Rows that the public calls' ends stand on. -/
theorem nu_4 {x : Int32} (h : 0 ≤ x ∧ x < 4) : ∃ v : Nat, v < 4 ∧ x = nI v := by
  obtain ⟨h1, h2⟩ := h
  obtain ⟨j, hj, rfl⟩ := nI_of (Int32.not_lt.mpr h1)
  refine ⟨j, ?_, rfl⟩
  rw [Int32.lt_iff_toInt_lt, nI_toInt hj, show (4 : Int32).toInt = 4 from rfl] at h2
  omega
theorem nu_ix {x : Int32} {m N : Nat} (hx : x = nI m) (h : m < N) (hN : N < 2 ^ 31) : vp_in x N := by rw [hx]; exact vp_in_nI h hN
theorem nu_lt {x y : Int32} {m N : Nat} (hx : x = nI m) (hm : m ≤ N) (c : x < y) (hy : y = nI N := by rfl) (hN : N < 2 ^ 31 := by decide) : m < N := by
  rw [hx, hy, Int32.lt_iff_toInt_lt, nI_toInt (by omega), nI_toInt hN] at c
  omega
theorem nu_l8 {x : Int32} {k : Nat} (hx : x = nI k) (hm : k ≤ 8) (c : x < 8) : k < 8 := nu_lt hx hm c
theorem nu_b {x : Int32} {b : Nat} (h : 0 ≤ x ∧ x < nI b) (hb : b < 2 ^ 31 := by decide) : vp_in x b := by
  obtain ⟨h1, h2⟩ := h
  obtain ⟨j, hj, rfl⟩ := nI_of (Int32.not_lt.mpr h1)
  refine vp_in_nI ?_ hb
  rw [Int32.lt_iff_toInt_lt, nI_toInt hj, nI_toInt hb] at h2
  omega
theorem ni_ce (co : co_T) (i : Nat) (sv : Int32) (v w : Int64) (dy se : Int32) (p : Nat) : ce_I (ni_co co i sv v w dy se).2.1 (ni_co co i sv v w dy se).2.2.1 i p = .inr (1, [.int sv, .long v, .long w, .int dy, .int se, .ref p, .int 0, .int 0, .int 0]) := by
  simp [ce_I, ni_co, up_2, va_up]
theorem ni_cp (cA : Nat → ClassId) (co : co_T) (i : Nat) (sv : Int32) (v w : Int64) (dy se : Int32) : ce_P cA (ni_co co i sv v w dy se).2.2.2 i = .inl (cA 0, 8, .inl (fun _ => 0)) := by
  simp [ce_P, ni_co, va_up]
theorem ps_ce (co : co_T) (i : Nat) (post : Int32) (b : Bool) (p : Nat) : ce_I (ps_co co i post b).2.1 (ps_co co i post b).2.2.1 i p = .inr (1, [.int (co.2.1 0 i), .long (co.2.2.1 0 i), .long (co.2.2.1 1 i), .int (co.2.1 1 i), .int (co.2.1 2 i), .ref p, .int (co.2.1 3 i + 1), .int (if b then co.2.1 3 i else co.2.1 4 i), .int (co.2.1 5 i)]) := by
  cases b <;> simp [ce_I, ps_co, up_2, va_up]
theorem ps_cp (cA : Nat → ClassId) (co : co_T) (i : Nat) (post : Int32) (b : Bool) : ce_P cA (ps_co co i post b).2.2.2 i = .inl (cA 0, 8, .inl (upd (co.2.2.2 i) (co.2.1 3 i).toNatClampNeg post)) := by
  simp [ce_P, ps_co, va_up]
theorem ps_ag {co : co_T} {i : Nat} {post : Int32} {b : Bool} {k w : Nat} (hk : k ≤ 8) (hw : w ≤ k) (h8 : k < 8) (e3 : co.2.1 3 i = nI k) (e4 : co.2.1 4 i = nI w) : ag_I co (ps_co co i post b) i := by
  refine ⟨rfl, fun j hj => va_up_ne _ _ hj, fun c j h => ?_, fun _ _ => rfl, ?_, ?_⟩
  · show up_2 (if b then up_2 co.2.1 4 i (co.2.1 3 i) else co.2.1) 3 i (co.2.1 3 i + 1) c j = co.2.1 c j
    rcases h with h | h
    · rw [up_2k _ _ _ _ (by omega)]
      split
      · rw [up_2k _ _ _ _ (by omega)]
      · rfl
    · rw [up_2i _ _ _ _ h]
      split
      · rw [up_2i _ _ _ _ h]
      · rfl
  · show up_2 (if b then up_2 co.2.1 4 i (co.2.1 3 i) else co.2.1) 3 i (co.2.1 3 i + 1) 0 i = co.2.1 0 i
    rw [up_2k _ _ _ _ (by decide)]
    split
    · rw [up_2k _ _ _ _ (by decide)]
    · rfl
  · show ∃ v w : Nat, v ≤ 8 ∧ w ≤ v ∧ up_2 (if b then up_2 co.2.1 4 i (co.2.1 3 i) else co.2.1) 3 i (co.2.1 3 i + 1) 3 i = nI v ∧ up_2 (if b then up_2 co.2.1 4 i (co.2.1 3 i) else co.2.1) 3 i (co.2.1 3 i + 1) 4 i = nI w
    rw [up_2s, up_2k _ _ _ _ (by decide), e3, nI_1]
    cases b
    · exact ⟨k + 1, w, by omega, by omega, rfl, e4⟩
    · exact ⟨k + 1, k, by omega, by omega, rfl, by simp [up_2, va_up]⟩
theorem ns_ce (co : co_T) (k : Nat) (due : Int32) (c : Nat) : ce_S (up_2 (up_2 co.2.1 17 k due) 18 k 1) k c = .inr (2, [.ref c, .int due, .int 1]) := by
  simp [ce_S, up_2, va_up]
/-- one column of a claim -/
theorem cg_ag {co : co_T} {j k : Nat} (h1 : 8 ≤ k) (h2 : k < 16) (h3 : k ≠ 10) (h : ∃ v : Nat, v < 16 ∧ co.2.1 10 j = nI v) (x : Int32) : ag_C co (co_g co (up_2 co.2.1 k j x)) j := by
  refine ⟨rfl, rfl, fun c i h => ?_, fun _ _ _ => rfl, up_2k _ _ _ _ (by omega), up_2k _ _ _ _ (by omega), ?_⟩
  · show up_2 co.2.1 k j x c i = _
    rcases h with h | h | h
    · exact up_2k _ _ _ _ (by omega)
    · exact up_2k _ _ _ _ (by omega)
    · exact up_2i _ _ _ _ h
  · show ∃ v : Nat, v < 16 ∧ up_2 co.2.1 k j x 10 j = nI v
    rw [up_2k _ _ _ _ (fun q => h3 q.symm)]; exact h
theorem ag_tr {co co1 co2 : co_T} {j : Nat} (h1 : ag_C co co1 j) (h2 : ag_C co1 co2 j) : ag_C co co2 j := by
  obtain ⟨a1, a2, a3, a4, a5, a6, -⟩ := h1
  obtain ⟨b1, b2, b3, b4, b5, b6, b7⟩ := h2
  exact ⟨b1.trans a1, b2.trans a2, fun k i h => (b3 k i h).trans (a3 k i h), fun k i h => (b4 k i h).trans (a4 k i h), b5.trans a5, b6.trans a6, b7⟩
theorem st_ag {co : co_T} {j : Nat} (h : ∃ v : Nat, v < 16 ∧ co.2.1 10 j = nI v) (x : Int32) : ag_C co (co_g co (up_2 co.2.1 9 j x)) j := cg_ag (by decide) (by decide) (by decide) h x
theorem bk_ag {co : co_T} {j : Nat} (h : ∃ v : Nat, v < 16 ∧ co.2.1 10 j = nI v) (x : Int32) : ag_C co (co_g co (up_2 co.2.1 15 j x)) j := cg_ag (by decide) (by decide) (by decide) h x
theorem py_ag {co : co_T} {j : Nat} (h : ∃ v : Nat, v < 16 ∧ co.2.1 10 j = nI v) (z : Int64) : ag_C co (co.1, up_2 co.2.1 9 j 1, up_2 co.2.2.1 2 j z, co.2.2.2) j := by
  obtain ⟨a1, a2, a3, a4, a5, a6, a7⟩ := st_ag h 1
  refine ⟨a1, a2, a3, fun k i h => ?_, a5, a6, a7⟩
  show up_2 co.2.2.1 2 j z k i = _
  rcases h with h | h
  · exact up_2k _ _ _ _ h
  · exact up_2i _ _ _ _ h
theorem ap_ag {co : co_T} {j : Nat} (h : ∃ v : Nat, v < 16 ∧ co.2.1 10 j = nI v) : ag_C co (ap_co co j) j := by
  have h1 := cg_ag (k := 9) (by decide) (by decide) (by decide) h 0
  have h2 := cg_ag (k := 14) (by decide) (by decide) (by decide) h1.2.2.2.2.2.2 1
  have h3 := cg_ag (k := 11) (by decide) (by decide) (by decide) h2.2.2.2.2.2.2 0
  have h4 := cg_ag (k := 13) (by decide) (by decide) (by decide) h3.2.2.2.2.2.2 0
  exact ag_tr (ag_tr (ag_tr h1 h2) h3) h4
theorem an_16 {u : Nat} (hu : u < 16) (y : Int32) : ∃ w : Nat, w < 16 ∧ nI u &&& y = nI w := by
  have e : nI u &&& y = (nI u &&& y) &&& 15 := by
    have h15 : nI u &&& 15 = nI u := by
      have := pk_andN (n := u) (by omega) (m := 15) 4 (by decide)
      rw [this, Nat.mod_eq_of_lt (by omega)]
    rw [Int32.and_assoc, Int32.and_comm y 15, ← Int32.and_assoc, h15]
  obtain ⟨j, h1, h2⟩ := pk_andE (nI u &&& y) (m := 15) 4 (by decide)
  exact ⟨j, h1, e.trans h2⟩
theorem an_17 {x : Int32} (h : ∃ u : Nat, u < 16 ∧ x = nI u) (y : Int32) : ∃ w : Nat, w < 16 ∧ x &&& y = nI w := by
  obtain ⟨u, hu, rfl⟩ := h
  exact an_16 hu y
theorem pf_ag {co : co_T} {j : Nat} (h : ∃ v : Nat, v < 16 ∧ co.2.1 10 j = nI v) (p : Int32) : ag_C co (co_g co (up_2 co.2.1 10 j (pr_lk co j p))) j := by
  refine ⟨rfl, rfl, fun c i h => ?_, fun _ _ _ => rfl, up_2k co.2.1 (k := 10) (k' := 6) j (pr_lk co j p) j (by decide), up_2k co.2.1 (k := 10) (k' := 7) j (pr_lk co j p) j (by decide), ?_⟩
  · show up_2 co.2.1 10 j _ c i = _
    rcases h with h | h | h
    · exact up_2k _ _ _ _ (by omega)
    · exact up_2k _ _ _ _ (by omega)
    · exact up_2i _ _ _ _ h
  · obtain ⟨u, h1, h2⟩ := h
    show ∃ v : Nat, v < 16 ∧ up_2 co.2.1 10 j (pr_lk co j p) 10 j = nI v
    rw [up_2s, pr_lk, h2]; exact an_16 h1 _
theorem fo_ag {co : co_T} {i : Nat} (h : ∃ v w : Nat, v ≤ 8 ∧ w ≤ v ∧ co.2.1 3 i = nI v ∧ co.2.1 4 i = nI w) : ag_I co (co_g co (up_2 co.2.1 5 i 1)) i := by
  refine ⟨rfl, fun _ _ => rfl, fun c j h => ?_, fun _ _ => rfl, up_2k co.2.1 (k := 5) (k' := 0) i 1 i (by decide), ?_⟩
  · show up_2 co.2.1 5 i 1 c j = _
    rcases h with h | h
    · exact up_2k _ _ _ _ (by omega)
    · exact up_2i _ _ _ _ h
  · show ∃ v w : Nat, v ≤ 8 ∧ w ≤ v ∧ up_2 co.2.1 5 i 1 3 i = nI v ∧ up_2 co.2.1 5 i 1 4 i = nI w
    rw [up_2k _ _ _ _ (by decide), up_2k _ _ _ _ (by decide)]; exact h
theorem fo_ce (co : co_T) (i p : Nat) : ce_I (co_g co (up_2 co.2.1 5 i 1)).2.1 (co_g co (up_2 co.2.1 5 i 1)).2.2.1 i p = .inr (1, [.int (co.2.1 0 i), .long (co.2.2.1 0 i), .long (co.2.2.1 1 i), .int (co.2.1 1 i), .int (co.2.1 2 i), .ref p, .int (co.2.1 3 i), .int (co.2.1 4 i), .int 1]) := by
  simp [ce_I, co_g, up_2, va_up]
theorem pf_ce (co : co_T) (j : Nat) (p : Int32) (a : Nat) : (Sum.inr (0, [.int (nI (j + 1)), .int (co.2.1 6 j), .ref a, .int (co.2.1 7 j), .int (co.2.1 8 j), .int (co.2.1 9 j), .int (co.2.1 10 j &&& (((1 : Int32) <<< (p &&& 31)) ^^^ (-1))), .int (co.2.1 11 j), .int (co.2.1 12 j), .int (co.2.1 13 j), .int (co.2.1 14 j), .int (co.2.1 15 j), .long (co.2.2.1 2 j)]) : va_E) = ce_C (co_g co (up_2 co.2.1 10 j (pr_lk co j p))).2.1 (co_g co (up_2 co.2.1 10 j (pr_lk co j p))).2.2.1 j a := by
  simp [ce_C, co_g, ap_co, pr_lk, up_2, va_up]
theorem st_ce (co : co_T) (j : Nat) (x : Int32) (a : Nat) : (Sum.inr (0, [.int (nI (j + 1)), .int (co.2.1 6 j), .ref a, .int (co.2.1 7 j), .int (co.2.1 8 j), .int x, .int (co.2.1 10 j), .int (co.2.1 11 j), .int (co.2.1 12 j), .int (co.2.1 13 j), .int (co.2.1 14 j), .int (co.2.1 15 j), .long (co.2.2.1 2 j)]) : va_E) = ce_C (co_g co (up_2 co.2.1 9 j x)).2.1 (co_g co (up_2 co.2.1 9 j x)).2.2.1 j a := by
  simp [ce_C, co_g, ap_co, pr_lk, up_2, va_up]
theorem bk_ce (co : co_T) (j : Nat) (x : Int32) (a : Nat) : (Sum.inr (0, [.int (nI (j + 1)), .int (co.2.1 6 j), .ref a, .int (co.2.1 7 j), .int (co.2.1 8 j), .int (co.2.1 9 j), .int (co.2.1 10 j), .int (co.2.1 11 j), .int (co.2.1 12 j), .int (co.2.1 13 j), .int (co.2.1 14 j), .int x, .long (co.2.2.1 2 j)]) : va_E) = ce_C (co_g co (up_2 co.2.1 15 j x)).2.1 (co_g co (up_2 co.2.1 15 j x)).2.2.1 j a := by
  simp [ce_C, co_g, ap_co, pr_lk, up_2, va_up]
theorem py_ce (co : co_T) (j : Nat) (z : Int64) (a : Nat) : (Sum.inr (0, [.int (nI (j + 1)), .int (co.2.1 6 j), .ref a, .int (co.2.1 7 j), .int (co.2.1 8 j), .int 1, .int (co.2.1 10 j), .int (co.2.1 11 j), .int (co.2.1 12 j), .int (co.2.1 13 j), .int (co.2.1 14 j), .int (co.2.1 15 j), .long z]) : va_E) = ce_C ((co.1, up_2 co.2.1 9 j 1, up_2 co.2.2.1 2 j z, co.2.2.2)).2.1 ((co.1, up_2 co.2.1 9 j 1, up_2 co.2.2.1 2 j z, co.2.2.2)).2.2.1 j a := by
  simp [ce_C, co_g, ap_co, pr_lk, up_2, va_up]
theorem ap_ce (co : co_T) (j : Nat) (a : Nat) : (Sum.inr (0, [.int (nI (j + 1)), .int (co.2.1 6 j), .ref a, .int (co.2.1 7 j), .int (co.2.1 8 j), .int 0, .int (co.2.1 10 j), .int 0, .int (co.2.1 12 j), .int 0, .int 1, .int (co.2.1 15 j), .long (co.2.2.1 2 j)]) : va_E) = ce_C (ap_co co j).2.1 (ap_co co j).2.2.1 j a := by
  simp [ce_C, co_g, ap_co, pr_lk, up_2, va_up]
theorem ns_cc (d1 : Nat → Nat) (co : co_T) (k j : Nat) (due : Int32) : (Sum.inr (0, [.int (nI (j + 1)), .int (co.2.1 6 j), .ref (d1 (co.1 0 j)), .int (co.2.1 7 j), .int (co.2.1 8 j), .int (co.2.1 9 j), .int (co.2.1 10 j), .int (co.2.1 11 j + 1), .int (co.2.1 12 j + 1), .int (co.2.1 13 j), .int (co.2.1 14 j), .int (co.2.1 15 j), .long (co.2.2.1 2 j)]) : va_E) = ce_C (ns_co co k j due).2.1 (ns_co co k j due).2.2.1 j (d1 (up_2 co.1 1 k j 0 j)) := by
  simp [ce_C, ns_co, up_2, va_up]
theorem ns_ag {co : co_T} {k j : Nat} {due : Int32} (h : ∃ v : Nat, v < 16 ∧ co.2.1 10 j = nI v) : ag_C (up_2 co.1 1 k j, up_2 (up_2 co.2.1 17 k due) 18 k 1, co.2.2) (ns_co co k j due) j := by
  have h0 : ∃ v : Nat, v < 16 ∧ ((up_2 co.1 1 k j, up_2 (up_2 co.2.1 17 k due) 18 k 1, co.2.2) : co_T).2.1 10 j = nI v := by
    show ∃ v : Nat, v < 16 ∧ up_2 (up_2 co.2.1 17 k due) 18 k 1 10 j = nI v
    rw [up_2k _ _ _ _ (by decide), up_2k _ _ _ _ (by decide)]; exact h
  have h1 := cg_ag (k := 11) (by decide) (by decide) (by decide) h0 (co.2.1 11 j + 1)
  exact ag_tr h1 (cg_ag (k := 12) (by decide) (by decide) (by decide) h1.2.2.2.2.2.2 (co.2.1 12 j + 1))
theorem cs_ag {co : co_T} {k : Nat} {b : Bool} (h : ∃ v : Nat, v < 16 ∧ co.2.1 10 (co.1 1 k) = nI v) : ag_C (co_g co (up_2 co.2.1 18 k 0)) (cs_co co k b) (co.1 1 k) := by
  have h0 : ∃ v : Nat, v < 16 ∧ (co_g co (up_2 co.2.1 18 k 0)).2.1 10 (co.1 1 k) = nI v := by
    show ∃ v : Nat, v < 16 ∧ up_2 co.2.1 18 k 0 10 (co.1 1 k) = nI v
    rw [up_2k _ _ _ _ (by decide)]; exact h
  have h1 := cg_ag (k := 12) (by decide) (by decide) (by decide) h0 (co.2.1 12 (co.1 1 k) - 1)
  exact ag_tr h1 (cg_ag (k := 13) (by decide) (by decide) (by decide) h1.2.2.2.2.2.2 (if b then 1 else co.2.1 13 (co.1 1 k)))
theorem re_close {cA : Nat → ClassId} {σ : xs_T} {n : nn_T} {co : co_T} {L : List Nat} {f : Nat → va_E} {ad : ad_T} (hR : re_A cA σ n co L f ad) {k : Nat} (hk : k < n.2.2.1) {b : Bool} {e1 e2 : va_E}
    (h1 : e1 = .inr (2, [.ref (ad.2.2.1 (co.1 1 k)), .int (co.2.1 17 k), .int 0])) (h2 : e2 = .inr (0, [.int (nI ((co.1 1 k) + 1)), .int (co.2.1 6 (co.1 1 k)), .ref (ad.1 (co.1 0 (co.1 1 k))), .int (co.2.1 7 (co.1 1 k)), .int (co.2.1 8 (co.1 1 k)), .int (co.2.1 9 (co.1 1 k)), .int (co.2.1 10 (co.1 1 k)), .int (co.2.1 11 (co.1 1 k)), .int (co.2.1 12 (co.1 1 k) - 1), .int (if b then 1 else co.2.1 13 (co.1 1 k)), .int (co.2.1 14 (co.1 1 k)), .int (co.2.1 15 (co.1 1 k)), .long (co.2.2.1 2 (co.1 1 k))])) :
    re_A cA σ n (cs_co co k b) L (va_up (va_up f (ad.2.2.2 k) e1) (ad.2.2.1 (co.1 1 k)) e2) ad := by
  have hj := hR.2.2.2.2.1.2.2 k hk
  have hv := (hR.2.2.2.2.1.2.1 _ hj).2.2.2
  refine re_setC (re_setS hR hk (x := 0) (by rw [h1]; simp [ce_S, up_2, va_up])) hj (cs_ag hv) ?_
  rw [h2]
  simp [ce_C, cs_co, co_g, up_2, va_up]
theorem sn_0 (σ : xs_T) (x k : Int32) (i : Nat) (h : i ≠ 3) : (se_nd σ x k).1 i = σ.1 i := by
  unfold se_nd
  split
  · simp [xs_i, xs_ai, va_up, h]
  · simp [xs_i, va_up, h]
theorem sn_3 {σ : xs_T} {m : Nat} (h : σ.1 3 = nI m) (x k : Int32) : (se_nd σ x k).1 3 = nI (m + 1) := by
  unfold se_nd
  split
  · simp [xs_i, xs_ai, va_up, h, nI_1]
  · simp [xs_i, va_up, h, nI_1]
theorem sn_r (σ : xs_T) (x k : Int32) : (se_nd σ x k).2.2.2.2 = σ.2.2.2.2 := by
  unfold se_nd
  split <;> rfl
theorem po_nz {x : Int32} {d : Nat} (hs : x = nI d) (hd : d < 2 ^ 31) (c : 0 < x) : ¬ x.toInt64 = 0 := by
  intro h
  have h2 := congrArg Int64.toInt h
  rw [Int32.toInt_toInt64, Int64.toInt_zero] at h2
  rw [Int32.lt_iff_toInt_lt, Int32.toInt_zero] at c
  omega
theorem le_in {x y : Int32} {m : Nat} (hm : y = nI m) (hb : m < 2 ^ 31) (h : 0 ≤ x ∧ x < (if 200 < y then 200 else y)) : vp_in x 200 := by
  obtain ⟨h1, h2⟩ := h
  obtain ⟨j, hj, rfl⟩ := nI_of (Int32.not_lt.mpr h1)
  refine vp_in_nI ?_ (by decide)
  split at h2
  · rw [Int32.lt_iff_toInt_lt, nI_toInt hj, show (200 : Int32).toInt = 200 from rfl] at h2
    omega
  · rename_i h3
    rw [Int32.lt_iff_toInt_lt] at h2 h3
    rw [nI_toInt hj] at h2
    rw [show (200 : Int32).toInt = 200 from rfl] at h3
    omega
end
section
set_option maxHeartbeats 4000000 in
set_option maxRecDepth 100000 in
/-- mt_isWithin -/
theorem mt_isWithin (l : Launch) (x0 x1 x2 : Int64) : Met l yX3_isWithin wsX3_isWithin ({ frames := 0, cells := 0, slots := 0, locals := 0 }) (va_Pc [.long x0, .long x1, .long x2] (fun _ => True)) (vp_Si (fun r => r = bb_v (decide (x1 ≤ x0 ∧ x0 ≤ x2)))) 0 0 (fun _ => False) := by
  refine Met.ofW (cc := cX3_isWithin) (maxL := 6) (ret := (some .boolean)) (by decide) rfl ?_
  intro p e s m args below meth c s₁ B hml hv
  obtain ⟨rfl, -⟩ := hv
  have hx := B.exec
  have hb := B.bytes
  have hr := B.returns
  have hts := atoms_spec (ws := wsX3_isWithin) B.pre
  have hown : s.vm.findClass RX3 = some m.cls := findClass_of_methodNamed B.named
  have hlocks := B.notSynchronized
  have hl := lv_entry ([.long x0, .long x1, .long x2]) (n := 6) (Nat.le_of_ble_eq_true rfl)
  rw [lg_entry_eq]
  generalize (lg_sl ([.long x0, .long x1, .long x2]) ++ List.replicate (6 - (lg_sl ([.long x0, .long x1, .long x2])).length) Slot.unset).toArray = ls at hl ⊢
  have hl : lv_has ls 6 [(0, .long x0), (2, .long x1), (4, .long x2)] := hl
  refine lv_lload_n hx hb dX3_isWithin_0 rfl (lv_at hl 0 rfl) ?_
  refine lv_lload_n hx hb dX3_isWithin_1 rfl (lv_at hl 1 rfl) ?_
  refine W.lcmp hx hb dX3_isWithin_2 ?_
  refine lv_if_lt (tgt := 17) hx hb dX3_isWithin_3 (by decide) (fun c3 => ?_) (fun c3 => ?_)
  · refine lv_iconst (v := 0) hx hb dX3_isWithin_17 (by decide) ?_
    exact W.zret (v := 0) hx hb hr (by decide) (fun t ht hW => ⟨0, rfl, ((bb_f (fun q => absurd q.1 (Int64.not_le.mpr (lc_lt.mp c3)))).symm), ht⟩) (fun q h => by cases h) dX3_isWithin_18
  · refine lv_lload_n hx hb dX3_isWithin_6 rfl (lv_at hl 0 rfl) ?_
    refine lv_lload hx hb dX3_isWithin_7 (lv_at hl 2 rfl) ?_
    refine W.lcmp hx hb dX3_isWithin_9 ?_
    refine lv_if_gt (tgt := 17) hx hb dX3_isWithin_10 (by decide) (fun c10 => ?_) (fun c10 => ?_)
    · refine lv_iconst (v := 0) hx hb dX3_isWithin_17 (by decide) ?_
      exact W.zret (v := 0) hx hb hr (by decide) (fun t ht hW => ⟨0, rfl, ((bb_f (fun q => absurd q.2 (Int64.not_le.mpr (lc_gt.mp c10)))).symm), ht⟩) (fun q h => by cases h) dX3_isWithin_18
    · refine lv_iconst (v := 1) hx hb dX3_isWithin_13 (by decide) ?_
      refine lv_goto (tgt := 18) hx hb dX3_isWithin_14 (by decide) ?_
      exact W.zret (v := 1) hx hb hr (by decide) (fun t ht hW => ⟨1, rfl, ((bb_t ⟨Int64.not_lt.mp (fun q => c3 (lc_lt.mpr q)), Int64.not_lt.mp (fun q => c10 (lc_gt.mpr q))⟩).symm), ht⟩) (fun q h => by cases h) dX3_isWithin_18
set_option maxHeartbeats 4000000 in
set_option maxRecDepth 100000 in
/-- mt_isBelow -/
theorem mt_isBelow (l : Launch) (x0 x1 : Int32) : Met l yX3_isBelow wsX3_isBelow ({ frames := 0, cells := 0, slots := 0, locals := 0 }) (va_Pc [.int x0, .int x1] (fun _ => True)) (vp_Si (fun r => r = bb_v (decide (0 ≤ x0 ∧ x0 < x1)))) 0 0 (fun _ => False) := by
  refine Met.ofW (cc := cX3_isBelow) (maxL := 2) (ret := (some .boolean)) (by decide) rfl ?_
  intro p e s m args below meth c s₁ B hml hv
  obtain ⟨rfl, -⟩ := hv
  have hx := B.exec
  have hb := B.bytes
  have hr := B.returns
  have hts := atoms_spec (ws := wsX3_isBelow) B.pre
  have hown : s.vm.findClass RX3 = some m.cls := findClass_of_methodNamed B.named
  have hlocks := B.notSynchronized
  have hl := lv_entry ([.int x0, .int x1]) (n := 2) (Nat.le_of_ble_eq_true rfl)
  rw [lg_entry_eq]
  generalize (lg_sl ([.int x0, .int x1]) ++ List.replicate (2 - (lg_sl ([.int x0, .int x1])).length) Slot.unset).toArray = ls at hl ⊢
  have hl : lv_has ls 2 [(0, .int x0), (1, .int x1)] := hl
  refine lv_iload_n hx hb dX3_isBelow_0 rfl (lv_at hl 0 rfl) ?_
  refine lv_if_lt (tgt := 13) hx hb dX3_isBelow_1 (by decide) (fun c1 => ?_) (fun c1 => ?_)
  · refine lv_iconst (v := 0) hx hb dX3_isBelow_13 (by decide) ?_
    exact W.zret (v := 0) hx hb hr (by decide) (fun t ht hW => ⟨0, rfl, ((bb_f (fun q => absurd q.1 (Int32.not_le.mpr c1))).symm), ht⟩) (fun q h => by cases h) dX3_isBelow_14
  · refine lv_iload_n hx hb dX3_isBelow_4 rfl (lv_at hl 0 rfl) ?_
    refine lv_iload_n hx hb dX3_isBelow_5 rfl (lv_at hl 1 rfl) ?_
    refine lv_icmp_ge (tgt := 13) hx hb dX3_isBelow_6 (by decide) (fun c6 => ?_) (fun c6 => ?_)
    · refine lv_iconst (v := 0) hx hb dX3_isBelow_13 (by decide) ?_
      exact W.zret (v := 0) hx hb hr (by decide) (fun t ht hW => ⟨0, rfl, ((bb_f (fun q => absurd q.2 (Int32.not_lt.mpr c6))).symm), ht⟩) (fun q h => by cases h) dX3_isBelow_14
    · refine lv_iconst (v := 1) hx hb dX3_isBelow_9 (by decide) ?_
      refine lv_goto (tgt := 14) hx hb dX3_isBelow_10 (by decide) ?_
      exact W.zret (v := 1) hx hb hr (by decide) (fun t ht hW => ⟨1, rfl, ((bb_t ⟨Int32.not_lt.mp c1, Int32.not_le.mp c6⟩).symm), ht⟩) (fun q h => by cases h) dX3_isBelow_14
set_option maxHeartbeats 4000000 in
set_option maxRecDepth 100000 in
/-- mt_areCents -/
theorem mt_areCents (l : Launch) (x0 : Int64) : Met l yX3_areCents wsX3_areCents ({ frames := 1, cells := 0, slots := 0, locals := 25 }) (va_Pc [.long x0] (fun _ => True)) (vp_Si (fun r => r = bb_v (decide (0 ≤ x0 ∧ x0 ≤ 10000000)))) 0 0 (fun _ => False) := by
  refine Met.ofW (cc := cX3_areCents) (maxL := 2) (ret := (some .boolean)) (by decide) rfl ?_
  intro p e s m args below meth c s₁ B hml hv
  obtain ⟨rfl, -⟩ := hv
  have hx := B.exec
  have hb := B.bytes
  have hr := B.returns
  have hts := atoms_spec (ws := wsX3_areCents) B.pre
  have hown : s.vm.findClass RX3 = some m.cls := findClass_of_methodNamed B.named
  have hlocks := B.notSynchronized
  have hl := lv_entry ([.long x0]) (n := 2) (Nat.le_of_ble_eq_true rfl)
  rw [lg_entry_eq]
  generalize (lg_sl ([.long x0]) ++ List.replicate (2 - (lg_sl ([.long x0])).length) Slot.unset).toArray = ls at hl ⊢
  have hl : lv_has ls 2 [(0, .long x0)] := hl
  have lk0 := hts (.constantLong RX3 236 10000000) (List.mem_cons_of_mem _ wd_47)
  refine lv_lload_n hx hb dX3_areCents_0 rfl (lv_at hl 0 rfl) ?_
  refine lv_lconst (v := 0) hx hb dX3_areCents_1 (by decide) ?_
  refine lv_ldc2 hx hb hown lk0 dX3_areCents_2 ?_
  refine vp_callSi (va_Run.run (va_runS (As := [.long x0, .long 0, .long 10000000]) (rest := []) ⟨hx, hb, hml, hown, hts⟩ (mt_isWithin l x0 0 10000000) (va_cwS 3 hts (al_gS wd_48 wd_49 wd_1 wd_50) rfl rfl rfl (by decide +kernel) ⟨Nat.le_of_ble_eq_true rfl, Nat.le_of_ble_eq_true rfl⟩) ⟨ct_bl0, ct_at0⟩ rfl rfl hl.1 rfl (lv_room (Nat.le_of_ble_eq_true rfl)) dX3_areCents_5 ⟨Nat.le_of_ble_eq_true rfl, Nat.le_of_ble_eq_true rfl⟩)) (fun r5 hr5 => ?_)
  subst hr5
  exact W.zret (v := (bb_v (decide (0 ≤ x0 ∧ x0 ≤ 10000000)))) hx hb hr bb_nar (fun t ht hW => ⟨(bb_v (decide (0 ≤ x0 ∧ x0 ≤ 10000000))), rfl, rfl, ht⟩) (fun q h => by cases h) dX3_areCents_8
set_option maxHeartbeats 4000000 in
set_option maxRecDepth 100000 in
/-- mt_rowOf -/
theorem mt_rowOf (l : Launch) (x0 x1 : Int32) : Met l yX3_rowOf wsX3_rowOf ({ frames := 0, cells := 0, slots := 0, locals := 0 }) (va_Pc [.int x0, .int x1] (fun _ => True)) (vp_Si (fun r => r = x0 * 4 + x1)) 0 0 (fun _ => False) := by
  refine Met.ofW (cc := cX3_rowOf) (maxL := 2) (ret := (some .int)) (by decide) rfl ?_
  intro p e s m args below meth c s₁ B hml hv
  obtain ⟨rfl, -⟩ := hv
  have hx := B.exec
  have hb := B.bytes
  have hr := B.returns
  have hts := atoms_spec (ws := wsX3_rowOf) B.pre
  have hown : s.vm.findClass RX3 = some m.cls := findClass_of_methodNamed B.named
  have hlocks := B.notSynchronized
  have hl := lv_entry ([.int x0, .int x1]) (n := 2) (Nat.le_of_ble_eq_true rfl)
  rw [lg_entry_eq]
  generalize (lg_sl ([.int x0, .int x1]) ++ List.replicate (2 - (lg_sl ([.int x0, .int x1])).length) Slot.unset).toArray = ls at hl ⊢
  have hl : lv_has ls 2 [(0, .int x0), (1, .int x1)] := hl
  refine lv_iload_n hx hb dX3_rowOf_0 rfl (lv_at hl 0 rfl) ?_
  refine lv_iconst (v := 4) hx hb dX3_rowOf_1 (by decide) ?_
  refine lv_imul hx hb dX3_rowOf_2 ?_
  refine lv_iload_n hx hb dX3_rowOf_3 rfl (lv_at hl 1 rfl) ?_
  refine lv_iadd hx hb dX3_rowOf_4 ?_
  exact W.iret (v := ((x0 * 4) + x1)) hx hb hr (fun t ht hW => ⟨((x0 * 4) + x1), rfl, rfl, ht⟩) (fun q h => by cases h) dX3_rowOf_5
set_option maxHeartbeats 4000000 in
set_option maxRecDepth 100000 in
/-- mt_mayClaim -/
theorem mt_mayClaim (l : Launch) (x0 x1 : Int32) : Met l yX3_mayClaim wsX3_mayClaim ({ frames := 0, cells := 0, slots := 0, locals := 0 }) (va_Pc [.int x0, .int x1] (fun _ => True)) (vp_Si (fun r => r = bb_v (decide (x1 = 0 ∨ (x1 = 1 ∧ (x0 = 1 ∨ x0 = 2)))))) 0 0 (fun _ => False) := by
  refine Met.ofW (cc := cX3_mayClaim) (maxL := 2) (ret := (some .boolean)) (by decide) rfl ?_
  intro p e s m args below meth c s₁ B hml hv
  obtain ⟨rfl, -⟩ := hv
  have hx := B.exec
  have hb := B.bytes
  have hr := B.returns
  have hts := atoms_spec (ws := wsX3_mayClaim) B.pre
  have hown : s.vm.findClass RX3 = some m.cls := findClass_of_methodNamed B.named
  have hlocks := B.notSynchronized
  have hl := lv_entry ([.int x0, .int x1]) (n := 2) (Nat.le_of_ble_eq_true rfl)
  rw [lg_entry_eq]
  generalize (lg_sl ([.int x0, .int x1]) ++ List.replicate (2 - (lg_sl ([.int x0, .int x1])).length) Slot.unset).toArray = ls at hl ⊢
  have hl : lv_has ls 2 [(0, .int x0), (1, .int x1)] := hl
  refine lv_iload_n hx hb dX3_mayClaim_0 rfl (lv_at hl 1 rfl) ?_
  refine lv_if_ne (tgt := 6) hx hb dX3_mayClaim_1 (by decide) (fun c1 => ?_) (fun c1 => ?_)
  · refine lv_iload_n hx hb dX3_mayClaim_6 rfl (lv_at hl 1 rfl) ?_
    refine lv_iconst (v := 1) hx hb dX3_mayClaim_7 (by decide) ?_
    refine lv_icmp_ne (tgt := 25) hx hb dX3_mayClaim_8 (by decide) (fun c8 => ?_) (fun c8 => ?_)
    · refine lv_iconst (v := 0) hx hb dX3_mayClaim_25 (by decide) ?_
      exact W.zret (v := 0) hx hb hr (by decide) (fun t ht hW => ⟨0, rfl, (by simp_all [bb_v]), ht⟩) (fun q h => by cases h) dX3_mayClaim_26
    · refine lv_iload_n hx hb dX3_mayClaim_11 rfl (lv_at hl 0 rfl) ?_
      refine lv_iconst (v := 1) hx hb dX3_mayClaim_12 (by decide) ?_
      refine lv_icmp_eq (tgt := 21) hx hb dX3_mayClaim_13 (by decide) (fun c13 => ?_) (fun c13 => ?_)
      · refine lv_iconst (v := 1) hx hb dX3_mayClaim_21 (by decide) ?_
        refine lv_goto (tgt := 26) hx hb dX3_mayClaim_22 (by decide) ?_
        exact W.zret (v := 1) hx hb hr (by decide) (fun t ht hW => ⟨1, rfl, (by simp_all [bb_v]), ht⟩) (fun q h => by cases h) dX3_mayClaim_26
      · refine lv_iload_n hx hb dX3_mayClaim_16 rfl (lv_at hl 0 rfl) ?_
        refine lv_iconst (v := 2) hx hb dX3_mayClaim_17 (by decide) ?_
        refine lv_icmp_ne (tgt := 25) hx hb dX3_mayClaim_18 (by decide) (fun c18 => ?_) (fun c18 => ?_)
        · refine lv_iconst (v := 0) hx hb dX3_mayClaim_25 (by decide) ?_
          exact W.zret (v := 0) hx hb hr (by decide) (fun t ht hW => ⟨0, rfl, (by simp_all [bb_v]), ht⟩) (fun q h => by cases h) dX3_mayClaim_26
        · refine lv_iconst (v := 1) hx hb dX3_mayClaim_21 (by decide) ?_
          refine lv_goto (tgt := 26) hx hb dX3_mayClaim_22 (by decide) ?_
          exact W.zret (v := 1) hx hb hr (by decide) (fun t ht hW => ⟨1, rfl, (by simp_all [bb_v]), ht⟩) (fun q h => by cases h) dX3_mayClaim_26
  · refine lv_iconst (v := 1) hx hb dX3_mayClaim_4 (by decide) ?_
    exact W.zret (v := 1) hx hb hr (by decide) (fun t ht hW => ⟨1, rfl, (by simp_all [bb_v]), ht⟩) (fun q h => by cases h) dX3_mayClaim_5
set_option maxHeartbeats 4000000 in
set_option maxRecDepth 100000 in
/-- mt_bitCount -/
theorem mt_bitCount (l : Launch) (x : Int32) (hu0 : ∃ u : Nat, u < 16 ∧ x = nI u) : Met l yJ6_bitCount wsJ6_bitCount ({ frames := 0, cells := 0, slots := 0, locals := 0 }) (va_Pc [.int x] (fun _ => True)) (vp_Si (fun r => r = bi_ct x)) 0 0 (fun _ => False) := by
  refine Met.ofW (cc := cJ6_bitCount) (maxL := 1) (ret := (some .int)) (by decide) rfl ?_
  intro p e s m args below meth c s₁ B hml hv
  obtain ⟨rfl, -⟩ := hv
  have hx := B.exec
  have hb := B.bytes
  have hr := B.returns
  have hts := atoms_spec (ws := wsJ6_bitCount) B.pre
  have hown : s.vm.findClass RJ6 = some m.cls := findClass_of_methodNamed B.named
  have hlocks := B.notSynchronized
  have hl := lv_entry ([.int x]) (n := 1) (Nat.le_of_ble_eq_true rfl)
  rw [lg_entry_eq]
  generalize (lg_sl ([.int x]) ++ List.replicate (1 - (lg_sl ([.int x])).length) Slot.unset).toArray = ls at hl ⊢
  have hl : lv_has ls 1 [(0, .int x)] := hl
  have lk0 := hts (.constant RJ6 265 1431655765) (List.mem_cons_of_mem _ wd_152)
  have lk1 := hts (.constant RJ6 266 858993459) (List.mem_cons_of_mem _ wd_153)
  have lk2 := hts (.constant RJ6 267 252645135) (List.mem_cons_of_mem _ wd_154)
  refine lv_iload_n hx hb dJ6_bitCount_0 rfl (lv_at hl 0 rfl) ?_
  refine lv_iload_n hx hb dJ6_bitCount_1 rfl (lv_at hl 0 rfl) ?_
  refine lv_iconst (v := 1) hx hb dJ6_bitCount_2 (by decide) ?_
  refine lv_iushr (v := ((x).toUInt32 >>> ((1 : Int32).toUInt32 &&& Int32.toUInt32 31)).toInt32) hx hb dJ6_bitCount_3 rfl ?_
  refine lv_ldcw hx hb hown lk0 dJ6_bitCount_4 ?_
  refine lv_iand hx hb dJ6_bitCount_7 ?_
  refine lv_isub hx hb dJ6_bitCount_8 ?_
  refine lv_istore_n (lv' := [(0, .int (x - ((((x).toUInt32 >>> ((1 : Int32).toUInt32 &&& Int32.toUInt32 31)).toInt32) &&& 1431655765)))]) hx hb dJ6_bitCount_9 rfl hl (by decide) rfl (fun ls hl => ?_)
  refine lv_iload_n hx hb dJ6_bitCount_10 rfl (lv_at hl 0 rfl) ?_
  refine lv_ldcw hx hb hown lk1 dJ6_bitCount_11 ?_
  refine lv_iand hx hb dJ6_bitCount_14 ?_
  refine lv_iload_n hx hb dJ6_bitCount_15 rfl (lv_at hl 0 rfl) ?_
  refine lv_iconst (v := 2) hx hb dJ6_bitCount_16 (by decide) ?_
  refine lv_iushr (v := (((x - ((((x).toUInt32 >>> ((1 : Int32).toUInt32 &&& Int32.toUInt32 31)).toInt32) &&& 1431655765))).toUInt32 >>> ((2 : Int32).toUInt32 &&& Int32.toUInt32 31)).toInt32) hx hb dJ6_bitCount_17 rfl ?_
  refine lv_ldcw hx hb hown lk1 dJ6_bitCount_18 ?_
  refine lv_iand hx hb dJ6_bitCount_21 ?_
  refine lv_iadd hx hb dJ6_bitCount_22 ?_
  refine lv_istore_n (lv' := [(0, .int (((x - ((((x).toUInt32 >>> ((1 : Int32).toUInt32 &&& Int32.toUInt32 31)).toInt32) &&& 1431655765)) &&& 858993459) + (((((x - ((((x).toUInt32 >>> ((1 : Int32).toUInt32 &&& Int32.toUInt32 31)).toInt32) &&& 1431655765))).toUInt32 >>> ((2 : Int32).toUInt32 &&& Int32.toUInt32 31)).toInt32) &&& 858993459)))]) hx hb dJ6_bitCount_23 rfl hl (by decide) rfl (fun ls hl => ?_)
  refine lv_iload_n hx hb dJ6_bitCount_24 rfl (lv_at hl 0 rfl) ?_
  refine lv_iload_n hx hb dJ6_bitCount_25 rfl (lv_at hl 0 rfl) ?_
  refine lv_iconst (v := 4) hx hb dJ6_bitCount_26 (by decide) ?_
  refine lv_iushr (v := (((((x - ((((x).toUInt32 >>> ((1 : Int32).toUInt32 &&& Int32.toUInt32 31)).toInt32) &&& 1431655765)) &&& 858993459) + (((((x - ((((x).toUInt32 >>> ((1 : Int32).toUInt32 &&& Int32.toUInt32 31)).toInt32) &&& 1431655765))).toUInt32 >>> ((2 : Int32).toUInt32 &&& Int32.toUInt32 31)).toInt32) &&& 858993459))).toUInt32 >>> ((4 : Int32).toUInt32 &&& Int32.toUInt32 31)).toInt32) hx hb dJ6_bitCount_27 rfl ?_
  refine lv_iadd hx hb dJ6_bitCount_28 ?_
  refine lv_ldcw hx hb hown lk2 dJ6_bitCount_29 ?_
  refine lv_iand hx hb dJ6_bitCount_32 ?_
  refine lv_istore_n (lv' := [(0, .int (((((x - ((((x).toUInt32 >>> ((1 : Int32).toUInt32 &&& Int32.toUInt32 31)).toInt32) &&& 1431655765)) &&& 858993459) + (((((x - ((((x).toUInt32 >>> ((1 : Int32).toUInt32 &&& Int32.toUInt32 31)).toInt32) &&& 1431655765))).toUInt32 >>> ((2 : Int32).toUInt32 &&& Int32.toUInt32 31)).toInt32) &&& 858993459)) + ((((((x - ((((x).toUInt32 >>> ((1 : Int32).toUInt32 &&& Int32.toUInt32 31)).toInt32) &&& 1431655765)) &&& 858993459) + (((((x - ((((x).toUInt32 >>> ((1 : Int32).toUInt32 &&& Int32.toUInt32 31)).toInt32) &&& 1431655765))).toUInt32 >>> ((2 : Int32).toUInt32 &&& Int32.toUInt32 31)).toInt32) &&& 858993459))).toUInt32 >>> ((4 : Int32).toUInt32 &&& Int32.toUInt32 31)).toInt32)) &&& 252645135))]) hx hb dJ6_bitCount_33 rfl hl (by decide) rfl (fun ls hl => ?_)
  refine lv_iload_n hx hb dJ6_bitCount_34 rfl (lv_at hl 0 rfl) ?_
  refine lv_iload_n hx hb dJ6_bitCount_35 rfl (lv_at hl 0 rfl) ?_
  refine lv_bipush (v := 8) hx hb dJ6_bitCount_36 (by decide) ?_
  refine lv_iushr (v := (((((((x - ((((x).toUInt32 >>> ((1 : Int32).toUInt32 &&& Int32.toUInt32 31)).toInt32) &&& 1431655765)) &&& 858993459) + (((((x - ((((x).toUInt32 >>> ((1 : Int32).toUInt32 &&& Int32.toUInt32 31)).toInt32) &&& 1431655765))).toUInt32 >>> ((2 : Int32).toUInt32 &&& Int32.toUInt32 31)).toInt32) &&& 858993459)) + ((((((x - ((((x).toUInt32 >>> ((1 : Int32).toUInt32 &&& Int32.toUInt32 31)).toInt32) &&& 1431655765)) &&& 858993459) + (((((x - ((((x).toUInt32 >>> ((1 : Int32).toUInt32 &&& Int32.toUInt32 31)).toInt32) &&& 1431655765))).toUInt32 >>> ((2 : Int32).toUInt32 &&& Int32.toUInt32 31)).toInt32) &&& 858993459))).toUInt32 >>> ((4 : Int32).toUInt32 &&& Int32.toUInt32 31)).toInt32)) &&& 252645135)).toUInt32 >>> ((8 : Int32).toUInt32 &&& Int32.toUInt32 31)).toInt32) hx hb dJ6_bitCount_38 rfl ?_
  refine lv_iadd hx hb dJ6_bitCount_39 ?_
  refine lv_istore_n (lv' := [(0, .int ((((((x - ((((x).toUInt32 >>> ((1 : Int32).toUInt32 &&& Int32.toUInt32 31)).toInt32) &&& 1431655765)) &&& 858993459) + (((((x - ((((x).toUInt32 >>> ((1 : Int32).toUInt32 &&& Int32.toUInt32 31)).toInt32) &&& 1431655765))).toUInt32 >>> ((2 : Int32).toUInt32 &&& Int32.toUInt32 31)).toInt32) &&& 858993459)) + ((((((x - ((((x).toUInt32 >>> ((1 : Int32).toUInt32 &&& Int32.toUInt32 31)).toInt32) &&& 1431655765)) &&& 858993459) + (((((x - ((((x).toUInt32 >>> ((1 : Int32).toUInt32 &&& Int32.toUInt32 31)).toInt32) &&& 1431655765))).toUInt32 >>> ((2 : Int32).toUInt32 &&& Int32.toUInt32 31)).toInt32) &&& 858993459))).toUInt32 >>> ((4 : Int32).toUInt32 &&& Int32.toUInt32 31)).toInt32)) &&& 252645135) + ((((((((x - ((((x).toUInt32 >>> ((1 : Int32).toUInt32 &&& Int32.toUInt32 31)).toInt32) &&& 1431655765)) &&& 858993459) + (((((x - ((((x).toUInt32 >>> ((1 : Int32).toUInt32 &&& Int32.toUInt32 31)).toInt32) &&& 1431655765))).toUInt32 >>> ((2 : Int32).toUInt32 &&& Int32.toUInt32 31)).toInt32) &&& 858993459)) + ((((((x - ((((x).toUInt32 >>> ((1 : Int32).toUInt32 &&& Int32.toUInt32 31)).toInt32) &&& 1431655765)) &&& 858993459) + (((((x - ((((x).toUInt32 >>> ((1 : Int32).toUInt32 &&& Int32.toUInt32 31)).toInt32) &&& 1431655765))).toUInt32 >>> ((2 : Int32).toUInt32 &&& Int32.toUInt32 31)).toInt32) &&& 858993459))).toUInt32 >>> ((4 : Int32).toUInt32 &&& Int32.toUInt32 31)).toInt32)) &&& 252645135)).toUInt32 >>> ((8 : Int32).toUInt32 &&& Int32.toUInt32 31)).toInt32)))]) hx hb dJ6_bitCount_40 rfl hl (by decide) rfl (fun ls hl => ?_)
  refine lv_iload_n hx hb dJ6_bitCount_41 rfl (lv_at hl 0 rfl) ?_
  refine lv_iload_n hx hb dJ6_bitCount_42 rfl (lv_at hl 0 rfl) ?_
  refine lv_bipush (v := 16) hx hb dJ6_bitCount_43 (by decide) ?_
  refine lv_iushr (v := ((((((((x - ((((x).toUInt32 >>> ((1 : Int32).toUInt32 &&& Int32.toUInt32 31)).toInt32) &&& 1431655765)) &&& 858993459) + (((((x - ((((x).toUInt32 >>> ((1 : Int32).toUInt32 &&& Int32.toUInt32 31)).toInt32) &&& 1431655765))).toUInt32 >>> ((2 : Int32).toUInt32 &&& Int32.toUInt32 31)).toInt32) &&& 858993459)) + ((((((x - ((((x).toUInt32 >>> ((1 : Int32).toUInt32 &&& Int32.toUInt32 31)).toInt32) &&& 1431655765)) &&& 858993459) + (((((x - ((((x).toUInt32 >>> ((1 : Int32).toUInt32 &&& Int32.toUInt32 31)).toInt32) &&& 1431655765))).toUInt32 >>> ((2 : Int32).toUInt32 &&& Int32.toUInt32 31)).toInt32) &&& 858993459))).toUInt32 >>> ((4 : Int32).toUInt32 &&& Int32.toUInt32 31)).toInt32)) &&& 252645135) + ((((((((x - ((((x).toUInt32 >>> ((1 : Int32).toUInt32 &&& Int32.toUInt32 31)).toInt32) &&& 1431655765)) &&& 858993459) + (((((x - ((((x).toUInt32 >>> ((1 : Int32).toUInt32 &&& Int32.toUInt32 31)).toInt32) &&& 1431655765))).toUInt32 >>> ((2 : Int32).toUInt32 &&& Int32.toUInt32 31)).toInt32) &&& 858993459)) + ((((((x - ((((x).toUInt32 >>> ((1 : Int32).toUInt32 &&& Int32.toUInt32 31)).toInt32) &&& 1431655765)) &&& 858993459) + (((((x - ((((x).toUInt32 >>> ((1 : Int32).toUInt32 &&& Int32.toUInt32 31)).toInt32) &&& 1431655765))).toUInt32 >>> ((2 : Int32).toUInt32 &&& Int32.toUInt32 31)).toInt32) &&& 858993459))).toUInt32 >>> ((4 : Int32).toUInt32 &&& Int32.toUInt32 31)).toInt32)) &&& 252645135)).toUInt32 >>> ((8 : Int32).toUInt32 &&& Int32.toUInt32 31)).toInt32))).toUInt32 >>> ((16 : Int32).toUInt32 &&& Int32.toUInt32 31)).toInt32) hx hb dJ6_bitCount_45 rfl ?_
  refine lv_iadd hx hb dJ6_bitCount_46 ?_
  refine lv_istore_n (lv' := [(0, .int (((((((x - ((((x).toUInt32 >>> ((1 : Int32).toUInt32 &&& Int32.toUInt32 31)).toInt32) &&& 1431655765)) &&& 858993459) + (((((x - ((((x).toUInt32 >>> ((1 : Int32).toUInt32 &&& Int32.toUInt32 31)).toInt32) &&& 1431655765))).toUInt32 >>> ((2 : Int32).toUInt32 &&& Int32.toUInt32 31)).toInt32) &&& 858993459)) + ((((((x - ((((x).toUInt32 >>> ((1 : Int32).toUInt32 &&& Int32.toUInt32 31)).toInt32) &&& 1431655765)) &&& 858993459) + (((((x - ((((x).toUInt32 >>> ((1 : Int32).toUInt32 &&& Int32.toUInt32 31)).toInt32) &&& 1431655765))).toUInt32 >>> ((2 : Int32).toUInt32 &&& Int32.toUInt32 31)).toInt32) &&& 858993459))).toUInt32 >>> ((4 : Int32).toUInt32 &&& Int32.toUInt32 31)).toInt32)) &&& 252645135) + ((((((((x - ((((x).toUInt32 >>> ((1 : Int32).toUInt32 &&& Int32.toUInt32 31)).toInt32) &&& 1431655765)) &&& 858993459) + (((((x - ((((x).toUInt32 >>> ((1 : Int32).toUInt32 &&& Int32.toUInt32 31)).toInt32) &&& 1431655765))).toUInt32 >>> ((2 : Int32).toUInt32 &&& Int32.toUInt32 31)).toInt32) &&& 858993459)) + ((((((x - ((((x).toUInt32 >>> ((1 : Int32).toUInt32 &&& Int32.toUInt32 31)).toInt32) &&& 1431655765)) &&& 858993459) + (((((x - ((((x).toUInt32 >>> ((1 : Int32).toUInt32 &&& Int32.toUInt32 31)).toInt32) &&& 1431655765))).toUInt32 >>> ((2 : Int32).toUInt32 &&& Int32.toUInt32 31)).toInt32) &&& 858993459))).toUInt32 >>> ((4 : Int32).toUInt32 &&& Int32.toUInt32 31)).toInt32)) &&& 252645135)).toUInt32 >>> ((8 : Int32).toUInt32 &&& Int32.toUInt32 31)).toInt32)) + (((((((((x - ((((x).toUInt32 >>> ((1 : Int32).toUInt32 &&& Int32.toUInt32 31)).toInt32) &&& 1431655765)) &&& 858993459) + (((((x - ((((x).toUInt32 >>> ((1 : Int32).toUInt32 &&& Int32.toUInt32 31)).toInt32) &&& 1431655765))).toUInt32 >>> ((2 : Int32).toUInt32 &&& Int32.toUInt32 31)).toInt32) &&& 858993459)) + ((((((x - ((((x).toUInt32 >>> ((1 : Int32).toUInt32 &&& Int32.toUInt32 31)).toInt32) &&& 1431655765)) &&& 858993459) + (((((x - ((((x).toUInt32 >>> ((1 : Int32).toUInt32 &&& Int32.toUInt32 31)).toInt32) &&& 1431655765))).toUInt32 >>> ((2 : Int32).toUInt32 &&& Int32.toUInt32 31)).toInt32) &&& 858993459))).toUInt32 >>> ((4 : Int32).toUInt32 &&& Int32.toUInt32 31)).toInt32)) &&& 252645135) + ((((((((x - ((((x).toUInt32 >>> ((1 : Int32).toUInt32 &&& Int32.toUInt32 31)).toInt32) &&& 1431655765)) &&& 858993459) + (((((x - ((((x).toUInt32 >>> ((1 : Int32).toUInt32 &&& Int32.toUInt32 31)).toInt32) &&& 1431655765))).toUInt32 >>> ((2 : Int32).toUInt32 &&& Int32.toUInt32 31)).toInt32) &&& 858993459)) + ((((((x - ((((x).toUInt32 >>> ((1 : Int32).toUInt32 &&& Int32.toUInt32 31)).toInt32) &&& 1431655765)) &&& 858993459) + (((((x - ((((x).toUInt32 >>> ((1 : Int32).toUInt32 &&& Int32.toUInt32 31)).toInt32) &&& 1431655765))).toUInt32 >>> ((2 : Int32).toUInt32 &&& Int32.toUInt32 31)).toInt32) &&& 858993459))).toUInt32 >>> ((4 : Int32).toUInt32 &&& Int32.toUInt32 31)).toInt32)) &&& 252645135)).toUInt32 >>> ((8 : Int32).toUInt32 &&& Int32.toUInt32 31)).toInt32))).toUInt32 >>> ((16 : Int32).toUInt32 &&& Int32.toUInt32 31)).toInt32)))]) hx hb dJ6_bitCount_47 rfl hl (by decide) rfl (fun ls hl => ?_)
  refine lv_iload_n hx hb dJ6_bitCount_48 rfl (lv_at hl 0 rfl) ?_
  refine lv_bipush (v := 63) hx hb dJ6_bitCount_49 (by decide) ?_
  refine lv_iand hx hb dJ6_bitCount_51 ?_
  exact W.iret (v := ((((((((x - ((((x).toUInt32 >>> ((1 : Int32).toUInt32 &&& Int32.toUInt32 31)).toInt32) &&& 1431655765)) &&& 858993459) + (((((x - ((((x).toUInt32 >>> ((1 : Int32).toUInt32 &&& Int32.toUInt32 31)).toInt32) &&& 1431655765))).toUInt32 >>> ((2 : Int32).toUInt32 &&& Int32.toUInt32 31)).toInt32) &&& 858993459)) + ((((((x - ((((x).toUInt32 >>> ((1 : Int32).toUInt32 &&& Int32.toUInt32 31)).toInt32) &&& 1431655765)) &&& 858993459) + (((((x - ((((x).toUInt32 >>> ((1 : Int32).toUInt32 &&& Int32.toUInt32 31)).toInt32) &&& 1431655765))).toUInt32 >>> ((2 : Int32).toUInt32 &&& Int32.toUInt32 31)).toInt32) &&& 858993459))).toUInt32 >>> ((4 : Int32).toUInt32 &&& Int32.toUInt32 31)).toInt32)) &&& 252645135) + ((((((((x - ((((x).toUInt32 >>> ((1 : Int32).toUInt32 &&& Int32.toUInt32 31)).toInt32) &&& 1431655765)) &&& 858993459) + (((((x - ((((x).toUInt32 >>> ((1 : Int32).toUInt32 &&& Int32.toUInt32 31)).toInt32) &&& 1431655765))).toUInt32 >>> ((2 : Int32).toUInt32 &&& Int32.toUInt32 31)).toInt32) &&& 858993459)) + ((((((x - ((((x).toUInt32 >>> ((1 : Int32).toUInt32 &&& Int32.toUInt32 31)).toInt32) &&& 1431655765)) &&& 858993459) + (((((x - ((((x).toUInt32 >>> ((1 : Int32).toUInt32 &&& Int32.toUInt32 31)).toInt32) &&& 1431655765))).toUInt32 >>> ((2 : Int32).toUInt32 &&& Int32.toUInt32 31)).toInt32) &&& 858993459))).toUInt32 >>> ((4 : Int32).toUInt32 &&& Int32.toUInt32 31)).toInt32)) &&& 252645135)).toUInt32 >>> ((8 : Int32).toUInt32 &&& Int32.toUInt32 31)).toInt32)) + (((((((((x - ((((x).toUInt32 >>> ((1 : Int32).toUInt32 &&& Int32.toUInt32 31)).toInt32) &&& 1431655765)) &&& 858993459) + (((((x - ((((x).toUInt32 >>> ((1 : Int32).toUInt32 &&& Int32.toUInt32 31)).toInt32) &&& 1431655765))).toUInt32 >>> ((2 : Int32).toUInt32 &&& Int32.toUInt32 31)).toInt32) &&& 858993459)) + ((((((x - ((((x).toUInt32 >>> ((1 : Int32).toUInt32 &&& Int32.toUInt32 31)).toInt32) &&& 1431655765)) &&& 858993459) + (((((x - ((((x).toUInt32 >>> ((1 : Int32).toUInt32 &&& Int32.toUInt32 31)).toInt32) &&& 1431655765))).toUInt32 >>> ((2 : Int32).toUInt32 &&& Int32.toUInt32 31)).toInt32) &&& 858993459))).toUInt32 >>> ((4 : Int32).toUInt32 &&& Int32.toUInt32 31)).toInt32)) &&& 252645135) + ((((((((x - ((((x).toUInt32 >>> ((1 : Int32).toUInt32 &&& Int32.toUInt32 31)).toInt32) &&& 1431655765)) &&& 858993459) + (((((x - ((((x).toUInt32 >>> ((1 : Int32).toUInt32 &&& Int32.toUInt32 31)).toInt32) &&& 1431655765))).toUInt32 >>> ((2 : Int32).toUInt32 &&& Int32.toUInt32 31)).toInt32) &&& 858993459)) + ((((((x - ((((x).toUInt32 >>> ((1 : Int32).toUInt32 &&& Int32.toUInt32 31)).toInt32) &&& 1431655765)) &&& 858993459) + (((((x - ((((x).toUInt32 >>> ((1 : Int32).toUInt32 &&& Int32.toUInt32 31)).toInt32) &&& 1431655765))).toUInt32 >>> ((2 : Int32).toUInt32 &&& Int32.toUInt32 31)).toInt32) &&& 858993459))).toUInt32 >>> ((4 : Int32).toUInt32 &&& Int32.toUInt32 31)).toInt32)) &&& 252645135)).toUInt32 >>> ((8 : Int32).toUInt32 &&& Int32.toUInt32 31)).toInt32))).toUInt32 >>> ((16 : Int32).toUInt32 &&& Int32.toUInt32 31)).toInt32)) &&& 63)) hx hb hr (fun t ht hW => ⟨((((((((x - ((((x).toUInt32 >>> ((1 : Int32).toUInt32 &&& Int32.toUInt32 31)).toInt32) &&& 1431655765)) &&& 858993459) + (((((x - ((((x).toUInt32 >>> ((1 : Int32).toUInt32 &&& Int32.toUInt32 31)).toInt32) &&& 1431655765))).toUInt32 >>> ((2 : Int32).toUInt32 &&& Int32.toUInt32 31)).toInt32) &&& 858993459)) + ((((((x - ((((x).toUInt32 >>> ((1 : Int32).toUInt32 &&& Int32.toUInt32 31)).toInt32) &&& 1431655765)) &&& 858993459) + (((((x - ((((x).toUInt32 >>> ((1 : Int32).toUInt32 &&& Int32.toUInt32 31)).toInt32) &&& 1431655765))).toUInt32 >>> ((2 : Int32).toUInt32 &&& Int32.toUInt32 31)).toInt32) &&& 858993459))).toUInt32 >>> ((4 : Int32).toUInt32 &&& Int32.toUInt32 31)).toInt32)) &&& 252645135) + ((((((((x - ((((x).toUInt32 >>> ((1 : Int32).toUInt32 &&& Int32.toUInt32 31)).toInt32) &&& 1431655765)) &&& 858993459) + (((((x - ((((x).toUInt32 >>> ((1 : Int32).toUInt32 &&& Int32.toUInt32 31)).toInt32) &&& 1431655765))).toUInt32 >>> ((2 : Int32).toUInt32 &&& Int32.toUInt32 31)).toInt32) &&& 858993459)) + ((((((x - ((((x).toUInt32 >>> ((1 : Int32).toUInt32 &&& Int32.toUInt32 31)).toInt32) &&& 1431655765)) &&& 858993459) + (((((x - ((((x).toUInt32 >>> ((1 : Int32).toUInt32 &&& Int32.toUInt32 31)).toInt32) &&& 1431655765))).toUInt32 >>> ((2 : Int32).toUInt32 &&& Int32.toUInt32 31)).toInt32) &&& 858993459))).toUInt32 >>> ((4 : Int32).toUInt32 &&& Int32.toUInt32 31)).toInt32)) &&& 252645135)).toUInt32 >>> ((8 : Int32).toUInt32 &&& Int32.toUInt32 31)).toInt32)) + (((((((((x - ((((x).toUInt32 >>> ((1 : Int32).toUInt32 &&& Int32.toUInt32 31)).toInt32) &&& 1431655765)) &&& 858993459) + (((((x - ((((x).toUInt32 >>> ((1 : Int32).toUInt32 &&& Int32.toUInt32 31)).toInt32) &&& 1431655765))).toUInt32 >>> ((2 : Int32).toUInt32 &&& Int32.toUInt32 31)).toInt32) &&& 858993459)) + ((((((x - ((((x).toUInt32 >>> ((1 : Int32).toUInt32 &&& Int32.toUInt32 31)).toInt32) &&& 1431655765)) &&& 858993459) + (((((x - ((((x).toUInt32 >>> ((1 : Int32).toUInt32 &&& Int32.toUInt32 31)).toInt32) &&& 1431655765))).toUInt32 >>> ((2 : Int32).toUInt32 &&& Int32.toUInt32 31)).toInt32) &&& 858993459))).toUInt32 >>> ((4 : Int32).toUInt32 &&& Int32.toUInt32 31)).toInt32)) &&& 252645135) + ((((((((x - ((((x).toUInt32 >>> ((1 : Int32).toUInt32 &&& Int32.toUInt32 31)).toInt32) &&& 1431655765)) &&& 858993459) + (((((x - ((((x).toUInt32 >>> ((1 : Int32).toUInt32 &&& Int32.toUInt32 31)).toInt32) &&& 1431655765))).toUInt32 >>> ((2 : Int32).toUInt32 &&& Int32.toUInt32 31)).toInt32) &&& 858993459)) + ((((((x - ((((x).toUInt32 >>> ((1 : Int32).toUInt32 &&& Int32.toUInt32 31)).toInt32) &&& 1431655765)) &&& 858993459) + (((((x - ((((x).toUInt32 >>> ((1 : Int32).toUInt32 &&& Int32.toUInt32 31)).toInt32) &&& 1431655765))).toUInt32 >>> ((2 : Int32).toUInt32 &&& Int32.toUInt32 31)).toInt32) &&& 858993459))).toUInt32 >>> ((4 : Int32).toUInt32 &&& Int32.toUInt32 31)).toInt32)) &&& 252645135)).toUInt32 >>> ((8 : Int32).toUInt32 &&& Int32.toUInt32 31)).toInt32))).toUInt32 >>> ((16 : Int32).toUInt32 &&& Int32.toUInt32 31)).toInt32)) &&& 63), rfl, (by obtain ⟨u, hu, rfl⟩ := hu0; exact (show ∀ u, u < 16 → (((((((((nI u) - (((((nI u)).toUInt32 >>> ((1 : Int32).toUInt32 &&& Int32.toUInt32 31)).toInt32) &&& 1431655765)) &&& 858993459) + ((((((nI u) - (((((nI u)).toUInt32 >>> ((1 : Int32).toUInt32 &&& Int32.toUInt32 31)).toInt32) &&& 1431655765))).toUInt32 >>> ((2 : Int32).toUInt32 &&& Int32.toUInt32 31)).toInt32) &&& 858993459)) + (((((((nI u) - (((((nI u)).toUInt32 >>> ((1 : Int32).toUInt32 &&& Int32.toUInt32 31)).toInt32) &&& 1431655765)) &&& 858993459) + ((((((nI u) - (((((nI u)).toUInt32 >>> ((1 : Int32).toUInt32 &&& Int32.toUInt32 31)).toInt32) &&& 1431655765))).toUInt32 >>> ((2 : Int32).toUInt32 &&& Int32.toUInt32 31)).toInt32) &&& 858993459))).toUInt32 >>> ((4 : Int32).toUInt32 &&& Int32.toUInt32 31)).toInt32)) &&& 252645135) + (((((((((nI u) - (((((nI u)).toUInt32 >>> ((1 : Int32).toUInt32 &&& Int32.toUInt32 31)).toInt32) &&& 1431655765)) &&& 858993459) + ((((((nI u) - (((((nI u)).toUInt32 >>> ((1 : Int32).toUInt32 &&& Int32.toUInt32 31)).toInt32) &&& 1431655765))).toUInt32 >>> ((2 : Int32).toUInt32 &&& Int32.toUInt32 31)).toInt32) &&& 858993459)) + (((((((nI u) - (((((nI u)).toUInt32 >>> ((1 : Int32).toUInt32 &&& Int32.toUInt32 31)).toInt32) &&& 1431655765)) &&& 858993459) + ((((((nI u) - (((((nI u)).toUInt32 >>> ((1 : Int32).toUInt32 &&& Int32.toUInt32 31)).toInt32) &&& 1431655765))).toUInt32 >>> ((2 : Int32).toUInt32 &&& Int32.toUInt32 31)).toInt32) &&& 858993459))).toUInt32 >>> ((4 : Int32).toUInt32 &&& Int32.toUInt32 31)).toInt32)) &&& 252645135)).toUInt32 >>> ((8 : Int32).toUInt32 &&& Int32.toUInt32 31)).toInt32)) + ((((((((((nI u) - (((((nI u)).toUInt32 >>> ((1 : Int32).toUInt32 &&& Int32.toUInt32 31)).toInt32) &&& 1431655765)) &&& 858993459) + ((((((nI u) - (((((nI u)).toUInt32 >>> ((1 : Int32).toUInt32 &&& Int32.toUInt32 31)).toInt32) &&& 1431655765))).toUInt32 >>> ((2 : Int32).toUInt32 &&& Int32.toUInt32 31)).toInt32) &&& 858993459)) + (((((((nI u) - (((((nI u)).toUInt32 >>> ((1 : Int32).toUInt32 &&& Int32.toUInt32 31)).toInt32) &&& 1431655765)) &&& 858993459) + ((((((nI u) - (((((nI u)).toUInt32 >>> ((1 : Int32).toUInt32 &&& Int32.toUInt32 31)).toInt32) &&& 1431655765))).toUInt32 >>> ((2 : Int32).toUInt32 &&& Int32.toUInt32 31)).toInt32) &&& 858993459))).toUInt32 >>> ((4 : Int32).toUInt32 &&& Int32.toUInt32 31)).toInt32)) &&& 252645135) + (((((((((nI u) - (((((nI u)).toUInt32 >>> ((1 : Int32).toUInt32 &&& Int32.toUInt32 31)).toInt32) &&& 1431655765)) &&& 858993459) + ((((((nI u) - (((((nI u)).toUInt32 >>> ((1 : Int32).toUInt32 &&& Int32.toUInt32 31)).toInt32) &&& 1431655765))).toUInt32 >>> ((2 : Int32).toUInt32 &&& Int32.toUInt32 31)).toInt32) &&& 858993459)) + (((((((nI u) - (((((nI u)).toUInt32 >>> ((1 : Int32).toUInt32 &&& Int32.toUInt32 31)).toInt32) &&& 1431655765)) &&& 858993459) + ((((((nI u) - (((((nI u)).toUInt32 >>> ((1 : Int32).toUInt32 &&& Int32.toUInt32 31)).toInt32) &&& 1431655765))).toUInt32 >>> ((2 : Int32).toUInt32 &&& Int32.toUInt32 31)).toInt32) &&& 858993459))).toUInt32 >>> ((4 : Int32).toUInt32 &&& Int32.toUInt32 31)).toInt32)) &&& 252645135)).toUInt32 >>> ((8 : Int32).toUInt32 &&& Int32.toUInt32 31)).toInt32))).toUInt32 >>> ((16 : Int32).toUInt32 &&& Int32.toUInt32 31)).toInt32)) &&& 63) = bi_ct (nI u) by decide +kernel) u hu), ht⟩) (fun q h => by cases h) dJ6_bitCount_52
end
section
set_option maxHeartbeats 4000000 in
set_option maxRecDepth 100000 in
/-- mt_addSearch -/
theorem mt_addSearch (l : Launch) (dC : Nat → ClassId) (dI : Nat → Nat → Nat) (cA : Nat → ClassId) (sz : Nat) (X : va_W) (L : List Nat) (f : Nat → va_E) (a : Nat) (ha : a ∈ L) (v0 : Int32) (v1 : Int32) (v2 : Nat) (v3 : Int32) (v4 : Int32) (v5 : Int32) (v6 : Int32) (v7 : Int32) (v8 : Int32) (v9 : Int32) (v10 : Int32) (v11 : Int32) (v12 : Int64) (hf : f a = .inr (0, [.int v0, .int v1, .ref v2, .int v3, .int v4, .int v5, .int v6, .int v7, .int v8, .int v9, .int v10, .int v11, .long v12]))  : Met l yX0_addSearch wsX0_addSearch ({ frames := 0, cells := 0, slots := 0, locals := 0 }) (va_Pc [.ref a] (ct_M (dC, dI) vwCl (ty_K cA) (X ++ va_pl L f) sz)) (va_Qv (fun u => u = (L, va_up f a (.inr (0, [.int v0, .int v1, .ref v2, .int v3, .int v4, .int v5, .int v6, .int (v7 + 1), .int (v8 + 1), .int v9, .int v10, .int v11, .long v12])))) (fun u t => ct_B (dC, dI) vwCl (ty_K cA) (va_A (X ++ va_pl L f) sz) (X ++ va_pl u.1 u.2) t) (va_A (X ++ va_pl L f) sz)) 0 0 (va_A (X ++ va_pl L f) sz) := by
  refine Met.ofW (cc := cX0_addSearch) (maxL := 1) (ret := none) (by decide) rfl ?_
  intro p e s m args below meth c s₁ B hml hv
  obtain ⟨rfl, hsz, hP, hK, hD0⟩ := hv
  have hx := B.exec
  have hb := B.bytes
  have hr := B.returns
  have hts := atoms_spec (ws := wsX0_addSearch) B.pre
  have hown : s.vm.findClass RX0 = some m.cls := findClass_of_methodNamed B.named
  have hlocks := B.notSynchronized
  subst hsz
  have hD := hD0.self (sz := s.heap.size)
  generalize hAe : va_A (X ++ va_pl L f) s.heap.size = A at hD ⊢
  have hA : ∀ q : Nat, s.heap.size ≤ q → A q := fun q h => by rw [← hAe]; exact Or.inr h
  clear hAe hD0
  have hS : va_S A s.heap s.heap [] := va_S.rf
  have hl := lv_entry ([.ref a]) (n := 1) (Nat.le_of_ble_eq_true rfl)
  rw [lg_entry_eq]
  generalize (lg_sl ([.ref a]) ++ List.replicate (1 - (lg_sl ([.ref a])).length) Slot.unset).toArray = ls at hl ⊢
  have hl : lv_has ls 1 [(0, .ref a)] := hl
  have lk0 := hts (.fieldLink RX0 42 "ClaimRows$Claim" "searched" "I") (List.mem_cons_of_mem _ wd_132)
  have lk1 := hts (.fieldLink RX0 45 "ClaimRows$Claim" "unanswered" "I") (List.mem_cons_of_mem _ wd_133)
  have in0 : ∀ w ∈ u_ws RX0 TX0 13, w ∈ wsX0_addSearch := fun w h => List.mem_cons_of_mem _ (wu_X0 w h)
  refine lv_aload_n hx hb dX0_addSearch_0 rfl (lv_at hl 0 rfl) ?_
  refine lv_dup hx hb dX0_addSearch_1 rfl ?_
  refine hp_get (D := (dC, dI)) (ci := 0) (v := .int v7) (C := RX0) (T := TX0) (N := 13) hx hb hts in0 hown hK hP ha hf rfl 7 (by decide) lk0 (fun _ h9 => h9) rfl dX0_addSearch_2 ?_
  refine lv_iconst (v := 1) hx hb dX0_addSearch_5 (by decide) ?_
  refine lv_iadd hx hb dX0_addSearch_6 ?_
  refine hp_put (D := (dC, dI)) (ci := 0) (v := .int (v7 + 1)) (ty := .int) (C := RX0) (T := TX0) (N := 13) hx hb hts in0 tyX0 tyX0_ok nmX0 hown hK hP hD hS ha hf rfl 7 (by decide) lk0 (fun _ h9 => h9) rfl (by decide +kernel) rfl rfl (Nat.le_of_ble_eq_true rfl) dX0_addSearch_7 (fs' := [.int v0, .int v1, .ref v2, .int v3, .int v4, .int v5, .int v6, .int (v7 + 1), .int v8, .int v9, .int v10, .int v11, .long v12]) rfl (fun H locs hP hD hS => ?_)
  obtain ⟨f_1, ef_1⟩ : ∃ y9, y9 = va_up f a (.inr (0, [.int v0, .int v1, .ref v2, .int v3, .int v4, .int v5, .int v6, .int (v7 + 1), .int v8, .int v9, .int v10, .int v11, .long v12])) := ⟨_, rfl⟩
  rw [← ef_1] at hP hD
  have hf_1_a : f_1 a = .inr (0, [.int v0, .int v1, .ref v2, .int v3, .int v4, .int v5, .int v6, .int (v7 + 1), .int v8, .int v9, .int v10, .int v11, .long v12]) := by rw [ef_1]; exact va_up_self _ _ _
  refine lv_aload_n hx hb dX0_addSearch_10 rfl (lv_at hl 0 rfl) ?_
  refine lv_dup hx hb dX0_addSearch_11 rfl ?_
  refine hp_get (D := (dC, dI)) (ci := 0) (v := .int v8) (C := RX0) (T := TX0) (N := 13) hx hb hts in0 hown hK hP ha hf_1_a rfl 8 (by decide) lk1 (fun _ h9 => h9) rfl dX0_addSearch_12 ?_
  refine lv_iconst (v := 1) hx hb dX0_addSearch_15 (by decide) ?_
  refine lv_iadd hx hb dX0_addSearch_16 ?_
  refine hp_put (D := (dC, dI)) (ci := 0) (v := .int (v8 + 1)) (ty := .int) (C := RX0) (T := TX0) (N := 13) hx hb hts in0 tyX0 tyX0_ok nmX0 hown hK hP hD hS ha hf_1_a rfl 8 (by decide) lk1 (fun _ h9 => h9) rfl (by decide +kernel) rfl rfl (Nat.le_of_ble_eq_true rfl) dX0_addSearch_17 (fs' := [.int v0, .int v1, .ref v2, .int v3, .int v4, .int v5, .int v6, .int (v7 + 1), .int (v8 + 1), .int v9, .int v10, .int v11, .long v12]) rfl (fun H locs hP hD hS => ?_)
  obtain ⟨f_2, ef_2⟩ : ∃ y9, y9 = va_up f_1 a (.inr (0, [.int v0, .int v1, .ref v2, .int v3, .int v4, .int v5, .int v6, .int (v7 + 1), .int (v8 + 1), .int v9, .int v10, .int v11, .long v12])) := ⟨_, rfl⟩
  rw [← ef_2] at hP hD
  have hf_2_a : f_2 a = .inr (0, [.int v0, .int v1, .ref v2, .int v3, .int v4, .int v5, .int v6, .int (v7 + 1), .int (v8 + 1), .int v9, .int v10, .int v11, .long v12]) := by rw [ef_2]; exact va_up_self _ _ _
  exact W.vret hx hb hr (fun t ht hW => ⟨⟨(L, f_2), rfl, (by rw [ef_2, ef_1]; rw [bx_uu]), by rw [ht]; exact hP, va_K.moved hW.alike hK, hD⟩, hS.F ht⟩) hS.2.2 dX0_addSearch_20
set_option maxHeartbeats 4000000 in
set_option maxRecDepth 100000 in
/-- mt_endSearch -/
theorem mt_endSearch (l : Launch) (dC : Nat → ClassId) (dI : Nat → Nat → Nat) (cA : Nat → ClassId) (sz : Nat) (X : va_W) (L : List Nat) (f : Nat → va_E) (a : Nat) (ha : a ∈ L) (v0 : Int32) (v1 : Int32) (v2 : Nat) (v3 : Int32) (v4 : Int32) (v5 : Int32) (v6 : Int32) (v7 : Int32) (v8 : Int32) (v9 : Int32) (v10 : Int32) (v11 : Int32) (v12 : Int64) (hf : f a = .inr (0, [.int v0, .int v1, .ref v2, .int v3, .int v4, .int v5, .int v6, .int v7, .int v8, .int v9, .int v10, .int v11, .long v12])) (b : Bool) : Met l yX0_endSearch wsX0_endSearch ({ frames := 0, cells := 0, slots := 0, locals := 0 }) (va_Pc [.ref a, .int (bb_v b)] (ct_M (dC, dI) vwCl (ty_K cA) (X ++ va_pl L f) sz)) (va_Qv (fun u => u = (L, va_up f a (.inr (0, [.int v0, .int v1, .ref v2, .int v3, .int v4, .int v5, .int v6, .int v7, .int (v8 - 1), .int (if b then 1 else v9), .int v10, .int v11, .long v12])))) (fun u t => ct_B (dC, dI) vwCl (ty_K cA) (va_A (X ++ va_pl L f) sz) (X ++ va_pl u.1 u.2) t) (va_A (X ++ va_pl L f) sz)) 0 0 (va_A (X ++ va_pl L f) sz) := by
  refine Met.ofW (cc := cX0_endSearch) (maxL := 2) (ret := none) (by decide) rfl ?_
  intro p e s m args below meth c s₁ B hml hv
  obtain ⟨rfl, hsz, hP, hK, hD0⟩ := hv
  have hx := B.exec
  have hb := B.bytes
  have hr := B.returns
  have hts := atoms_spec (ws := wsX0_endSearch) B.pre
  have hown : s.vm.findClass RX0 = some m.cls := findClass_of_methodNamed B.named
  have hlocks := B.notSynchronized
  subst hsz
  have hD := hD0.self (sz := s.heap.size)
  generalize hAe : va_A (X ++ va_pl L f) s.heap.size = A at hD ⊢
  have hA : ∀ q : Nat, s.heap.size ≤ q → A q := fun q h => by rw [← hAe]; exact Or.inr h
  clear hAe hD0
  have hS : va_S A s.heap s.heap [] := va_S.rf
  have hl := lv_entry ([.ref a, .int (bb_v b)]) (n := 2) (Nat.le_of_ble_eq_true rfl)
  rw [lg_entry_eq]
  generalize (lg_sl ([.ref a, .int (bb_v b)]) ++ List.replicate (2 - (lg_sl ([.ref a, .int (bb_v b)])).length) Slot.unset).toArray = ls at hl ⊢
  have hl : lv_has ls 2 [(0, .ref a), (1, .int (bb_v b))] := hl
  have lk0 := hts (.fieldLink RX0 45 "ClaimRows$Claim" "unanswered" "I") (List.mem_cons_of_mem _ wd_133)
  have lk1 := hts (.fieldLink RX0 48 "ClaimRows$Claim" "seenWhole" "Z") (List.mem_cons_of_mem _ wd_135)
  have in0 : ∀ w ∈ u_ws RX0 TX0 13, w ∈ wsX0_endSearch := fun w h => List.mem_cons_of_mem _ (wu_X0 w h)
  refine lv_aload_n hx hb dX0_endSearch_0 rfl (lv_at hl 0 rfl) ?_
  refine lv_dup hx hb dX0_endSearch_1 rfl ?_
  refine hp_get (D := (dC, dI)) (ci := 0) (v := .int v8) (C := RX0) (T := TX0) (N := 13) hx hb hts in0 hown hK hP ha hf rfl 8 (by decide) lk0 (fun _ h9 => h9) rfl dX0_endSearch_2 ?_
  refine lv_iconst (v := 1) hx hb dX0_endSearch_5 (by decide) ?_
  refine lv_isub hx hb dX0_endSearch_6 ?_
  refine hp_put (D := (dC, dI)) (ci := 0) (v := .int (v8 - 1)) (ty := .int) (C := RX0) (T := TX0) (N := 13) hx hb hts in0 tyX0 tyX0_ok nmX0 hown hK hP hD hS ha hf rfl 8 (by decide) lk0 (fun _ h9 => h9) rfl (by decide +kernel) rfl rfl (Nat.le_of_ble_eq_true rfl) dX0_endSearch_7 (fs' := [.int v0, .int v1, .ref v2, .int v3, .int v4, .int v5, .int v6, .int v7, .int (v8 - 1), .int v9, .int v10, .int v11, .long v12]) rfl (fun H locs hP hD hS => ?_)
  obtain ⟨f_1, ef_1⟩ : ∃ y9, y9 = va_up f a (.inr (0, [.int v0, .int v1, .ref v2, .int v3, .int v4, .int v5, .int v6, .int v7, .int (v8 - 1), .int v9, .int v10, .int v11, .long v12])) := ⟨_, rfl⟩
  rw [← ef_1] at hP hD
  have hf_1_a : f_1 a = .inr (0, [.int v0, .int v1, .ref v2, .int v3, .int v4, .int v5, .int v6, .int v7, .int (v8 - 1), .int v9, .int v10, .int v11, .long v12]) := by rw [ef_1]; exact va_up_self _ _ _
  refine lv_iload_n hx hb dX0_endSearch_10 rfl (lv_at hl 1 rfl) ?_
  refine lv_if_eq (tgt := 19) hx hb dX0_endSearch_11 (by decide) (fun c11 => ?_) (fun c11 => ?_)
  · have c11 := bb_0.mp c11
    exact W.vret hx hb hr (fun t ht hW => ⟨⟨(L, f_1), rfl, (by subst c11; rw [ef_1]; (try simp only [bx_uu]); all_goals rfl), by rw [ht]; exact hP, va_K.moved hW.alike hK, hD⟩, hS.F ht⟩) hS.2.2 dX0_endSearch_19
  · have c11 := bb_n.mp c11
    refine lv_aload_n hx hb dX0_endSearch_14 rfl (lv_at hl 0 rfl) ?_
    refine lv_iconst (v := 1) hx hb dX0_endSearch_15 (by decide) ?_
    refine hp_put (D := (dC, dI)) (ci := 0) (v := .int 1) (ty := .boolean) (C := RX0) (T := TX0) (N := 13) hx hb hts in0 tyX0 tyX0_ok nmX0 hown hK hP hD hS ha hf_1_a rfl 9 (by decide) lk1 (fun _ h9 => h9) rfl (by decide +kernel) (by decide) rfl (Nat.le_of_ble_eq_true rfl) dX0_endSearch_16 (fs' := [.int v0, .int v1, .ref v2, .int v3, .int v4, .int v5, .int v6, .int v7, .int (v8 - 1), .int 1, .int v10, .int v11, .long v12]) rfl (fun H locs hP hD hS => ?_)
    obtain ⟨f_2, ef_2⟩ : ∃ y9, y9 = va_up f_1 a (.inr (0, [.int v0, .int v1, .ref v2, .int v3, .int v4, .int v5, .int v6, .int v7, .int (v8 - 1), .int 1, .int v10, .int v11, .long v12])) := ⟨_, rfl⟩
    rw [← ef_2] at hP hD
    have hf_2_a : f_2 a = .inr (0, [.int v0, .int v1, .ref v2, .int v3, .int v4, .int v5, .int v6, .int v7, .int (v8 - 1), .int 1, .int v10, .int v11, .long v12]) := by rw [ef_2]; exact va_up_self _ _ _
    exact W.vret hx hb hr (fun t ht hW => ⟨⟨(L, f_2), rfl, (by subst c11; rw [ef_2, ef_1]; (try simp only [bx_uu]); all_goals rfl), by rw [ht]; exact hP, va_K.moved hW.alike hK, hD⟩, hS.F ht⟩) hS.2.2 dX0_endSearch_19
set_option maxHeartbeats 4000000 in
set_option maxRecDepth 100000 in
/-- mt_reopen -/
theorem mt_reopen (l : Launch) (dC : Nat → ClassId) (dI : Nat → Nat → Nat) (cA : Nat → ClassId) (sz : Nat) (X : va_W) (L : List Nat) (f : Nat → va_E) (a : Nat) (ha : a ∈ L) (v0 : Int32) (v1 : Int32) (v2 : Nat) (v3 : Int32) (v4 : Int32) (v5 : Int32) (v6 : Int32) (v7 : Int32) (v8 : Int32) (v9 : Int32) (v10 : Int32) (v11 : Int32) (v12 : Int64) (hf : f a = .inr (0, [.int v0, .int v1, .ref v2, .int v3, .int v4, .int v5, .int v6, .int v7, .int v8, .int v9, .int v10, .int v11, .long v12]))  : Met l yX0_reopen wsX0_reopen ({ frames := 0, cells := 0, slots := 0, locals := 0 }) (va_Pc [.ref a] (ct_M (dC, dI) vwCl (ty_K cA) (X ++ va_pl L f) sz)) (va_Qv (fun u => u = (L, va_up f a (.inr (0, [.int v0, .int v1, .ref v2, .int v3, .int v4, .int 0, .int v6, .int 0, .int v8, .int 0, .int 1, .int v11, .long v12])))) (fun u t => ct_B (dC, dI) vwCl (ty_K cA) (va_A (X ++ va_pl L f) sz) (X ++ va_pl u.1 u.2) t) (va_A (X ++ va_pl L f) sz)) 0 0 (va_A (X ++ va_pl L f) sz) := by
  refine Met.ofW (cc := cX0_reopen) (maxL := 1) (ret := none) (by decide) rfl ?_
  intro p e s m args below meth c s₁ B hml hv
  obtain ⟨rfl, hsz, hP, hK, hD0⟩ := hv
  have hx := B.exec
  have hb := B.bytes
  have hr := B.returns
  have hts := atoms_spec (ws := wsX0_reopen) B.pre
  have hown : s.vm.findClass RX0 = some m.cls := findClass_of_methodNamed B.named
  have hlocks := B.notSynchronized
  subst hsz
  have hD := hD0.self (sz := s.heap.size)
  generalize hAe : va_A (X ++ va_pl L f) s.heap.size = A at hD ⊢
  have hA : ∀ q : Nat, s.heap.size ≤ q → A q := fun q h => by rw [← hAe]; exact Or.inr h
  clear hAe hD0
  have hS : va_S A s.heap s.heap [] := va_S.rf
  have hl := lv_entry ([.ref a]) (n := 1) (Nat.le_of_ble_eq_true rfl)
  rw [lg_entry_eq]
  generalize (lg_sl ([.ref a]) ++ List.replicate (1 - (lg_sl ([.ref a])).length) Slot.unset).toArray = ls at hl ⊢
  have hl : lv_has ls 1 [(0, .ref a)] := hl
  have lk0 := hts (.fieldLink RX0 9 "ClaimRows$Claim" "state" "I") (List.mem_cons_of_mem _ wd_128)
  have lk1 := hts (.fieldLink RX0 52 "ClaimRows$Claim" "appealed" "Z") (List.mem_cons_of_mem _ wd_137)
  have lk2 := hts (.fieldLink RX0 42 "ClaimRows$Claim" "searched" "I") (List.mem_cons_of_mem _ wd_132)
  have lk3 := hts (.fieldLink RX0 48 "ClaimRows$Claim" "seenWhole" "Z") (List.mem_cons_of_mem _ wd_135)
  have in0 : ∀ w ∈ u_ws RX0 TX0 13, w ∈ wsX0_reopen := fun w h => List.mem_cons_of_mem _ (wu_X0 w h)
  refine lv_aload_n hx hb dX0_reopen_0 rfl (lv_at hl 0 rfl) ?_
  refine lv_iconst (v := 0) hx hb dX0_reopen_1 (by decide) ?_
  refine hp_put (D := (dC, dI)) (ci := 0) (v := .int 0) (ty := .int) (C := RX0) (T := TX0) (N := 13) hx hb hts in0 tyX0 tyX0_ok nmX0 hown hK hP hD hS ha hf rfl 5 (by decide) lk0 (fun _ h9 => h9) rfl (by decide +kernel) rfl rfl (Nat.le_of_ble_eq_true rfl) dX0_reopen_2 (fs' := [.int v0, .int v1, .ref v2, .int v3, .int v4, .int 0, .int v6, .int v7, .int v8, .int v9, .int v10, .int v11, .long v12]) rfl (fun H locs hP hD hS => ?_)
  obtain ⟨f_1, ef_1⟩ : ∃ y9, y9 = va_up f a (.inr (0, [.int v0, .int v1, .ref v2, .int v3, .int v4, .int 0, .int v6, .int v7, .int v8, .int v9, .int v10, .int v11, .long v12])) := ⟨_, rfl⟩
  rw [← ef_1] at hP hD
  have hf_1_a : f_1 a = .inr (0, [.int v0, .int v1, .ref v2, .int v3, .int v4, .int 0, .int v6, .int v7, .int v8, .int v9, .int v10, .int v11, .long v12]) := by rw [ef_1]; exact va_up_self _ _ _
  refine lv_aload_n hx hb dX0_reopen_5 rfl (lv_at hl 0 rfl) ?_
  refine lv_iconst (v := 1) hx hb dX0_reopen_6 (by decide) ?_
  refine hp_put (D := (dC, dI)) (ci := 0) (v := .int 1) (ty := .boolean) (C := RX0) (T := TX0) (N := 13) hx hb hts in0 tyX0 tyX0_ok nmX0 hown hK hP hD hS ha hf_1_a rfl 10 (by decide) lk1 (fun _ h9 => h9) rfl (by decide +kernel) (by decide) rfl (Nat.le_of_ble_eq_true rfl) dX0_reopen_7 (fs' := [.int v0, .int v1, .ref v2, .int v3, .int v4, .int 0, .int v6, .int v7, .int v8, .int v9, .int 1, .int v11, .long v12]) rfl (fun H locs hP hD hS => ?_)
  obtain ⟨f_2, ef_2⟩ : ∃ y9, y9 = va_up f_1 a (.inr (0, [.int v0, .int v1, .ref v2, .int v3, .int v4, .int 0, .int v6, .int v7, .int v8, .int v9, .int 1, .int v11, .long v12])) := ⟨_, rfl⟩
  rw [← ef_2] at hP hD
  have hf_2_a : f_2 a = .inr (0, [.int v0, .int v1, .ref v2, .int v3, .int v4, .int 0, .int v6, .int v7, .int v8, .int v9, .int 1, .int v11, .long v12]) := by rw [ef_2]; exact va_up_self _ _ _
  refine lv_aload_n hx hb dX0_reopen_10 rfl (lv_at hl 0 rfl) ?_
  refine lv_iconst (v := 0) hx hb dX0_reopen_11 (by decide) ?_
  refine hp_put (D := (dC, dI)) (ci := 0) (v := .int 0) (ty := .int) (C := RX0) (T := TX0) (N := 13) hx hb hts in0 tyX0 tyX0_ok nmX0 hown hK hP hD hS ha hf_2_a rfl 7 (by decide) lk2 (fun _ h9 => h9) rfl (by decide +kernel) rfl rfl (Nat.le_of_ble_eq_true rfl) dX0_reopen_12 (fs' := [.int v0, .int v1, .ref v2, .int v3, .int v4, .int 0, .int v6, .int 0, .int v8, .int v9, .int 1, .int v11, .long v12]) rfl (fun H locs hP hD hS => ?_)
  obtain ⟨f_3, ef_3⟩ : ∃ y9, y9 = va_up f_2 a (.inr (0, [.int v0, .int v1, .ref v2, .int v3, .int v4, .int 0, .int v6, .int 0, .int v8, .int v9, .int 1, .int v11, .long v12])) := ⟨_, rfl⟩
  rw [← ef_3] at hP hD
  have hf_3_a : f_3 a = .inr (0, [.int v0, .int v1, .ref v2, .int v3, .int v4, .int 0, .int v6, .int 0, .int v8, .int v9, .int 1, .int v11, .long v12]) := by rw [ef_3]; exact va_up_self _ _ _
  refine lv_aload_n hx hb dX0_reopen_15 rfl (lv_at hl 0 rfl) ?_
  refine lv_iconst (v := 0) hx hb dX0_reopen_16 (by decide) ?_
  refine hp_put (D := (dC, dI)) (ci := 0) (v := .int 0) (ty := .boolean) (C := RX0) (T := TX0) (N := 13) hx hb hts in0 tyX0 tyX0_ok nmX0 hown hK hP hD hS ha hf_3_a rfl 9 (by decide) lk3 (fun _ h9 => h9) rfl (by decide +kernel) (by decide) rfl (Nat.le_of_ble_eq_true rfl) dX0_reopen_17 (fs' := [.int v0, .int v1, .ref v2, .int v3, .int v4, .int 0, .int v6, .int 0, .int v8, .int 0, .int 1, .int v11, .long v12]) rfl (fun H locs hP hD hS => ?_)
  obtain ⟨f_4, ef_4⟩ : ∃ y9, y9 = va_up f_3 a (.inr (0, [.int v0, .int v1, .ref v2, .int v3, .int v4, .int 0, .int v6, .int 0, .int v8, .int 0, .int 1, .int v11, .long v12])) := ⟨_, rfl⟩
  rw [← ef_4] at hP hD
  have hf_4_a : f_4 a = .inr (0, [.int v0, .int v1, .ref v2, .int v3, .int v4, .int 0, .int v6, .int 0, .int v8, .int 0, .int 1, .int v11, .long v12]) := by rw [ef_4]; exact va_up_self _ _ _
  exact W.vret hx hb hr (fun t ht hW => ⟨⟨(L, f_4), rfl, (by rw [ef_4, ef_3, ef_2, ef_1]; rw [bx_uu]; rw [bx_uu]; rw [bx_uu]), by rw [ht]; exact hP, va_K.moved hW.alike hK, hD⟩, hS.F ht⟩) hS.2.2 dX0_reopen_20
set_option maxHeartbeats 4000000 in
set_option maxRecDepth 100000 in
/-- mt_isReady -/
theorem mt_isReady (l : Launch) (dC : Nat → ClassId) (dI : Nat → Nat → Nat) (cA : Nat → ClassId) (X : va_W) (L : List Nat) (f : Nat → va_E) (a : Nat) (ha : a ∈ L) (v0 : Int32) (v1 : Int32) (v2 : Nat) (v3 : Int32) (v4 : Int32) (v5 : Int32) (v6 : Int32) (v7 : Int32) (v8 : Int32) (v9 : Int32) (v10 : Int32) (v11 : Int32) (v12 : Int64) (hf : f a = .inr (0, [.int v0, .int v1, .ref v2, .int v3, .int v4, .int v5, .int v6, .int v7, .int v8, .int v9, .int v10, .int v11, .long v12]))  : Met l yX0_isReady wsX0_isReady ({ frames := 0, cells := 0, slots := 0, locals := 0 }) (va_Pc [.ref a] (ct_R (dC, dI) vwCl (ty_K cA) (X ++ va_pl L f))) (vp_Si (fun r => r = bb_v (decide (v5 = 0 ∧ v6 = 0 ∧ (¬ v3 = 0 ∨ (0 < v7 ∧ v8 = 0)))))) 0 0 (fun _ => False) := by
  refine Met.ofW (cc := cX0_isReady) (maxL := 1) (ret := (some .boolean)) (by decide) rfl ?_
  intro p e s m args below meth c s₁ B hml hv
  obtain ⟨rfl, hP, hK⟩ := hv
  have hx := B.exec
  have hb := B.bytes
  have hr := B.returns
  have hts := atoms_spec (ws := wsX0_isReady) B.pre
  have hown : s.vm.findClass RX0 = some m.cls := findClass_of_methodNamed B.named
  have hlocks := B.notSynchronized
  have hl := lv_entry ([.ref a]) (n := 1) (Nat.le_of_ble_eq_true rfl)
  rw [lg_entry_eq]
  generalize (lg_sl ([.ref a]) ++ List.replicate (1 - (lg_sl ([.ref a])).length) Slot.unset).toArray = ls at hl ⊢
  have hl : lv_has ls 1 [(0, .ref a)] := hl
  have lk0 := hts (.fieldLink RX0 9 "ClaimRows$Claim" "state" "I") (List.mem_cons_of_mem _ wd_128)
  have lk1 := hts (.fieldLink RX0 39 "ClaimRows$Claim" "lacking" "I") (List.mem_cons_of_mem _ wd_130)
  have lk2 := hts (.fieldLink RX0 25 "ClaimRows$Claim" "kind" "I") (List.mem_cons_of_mem _ wd_124)
  have lk3 := hts (.fieldLink RX0 42 "ClaimRows$Claim" "searched" "I") (List.mem_cons_of_mem _ wd_132)
  have lk4 := hts (.fieldLink RX0 45 "ClaimRows$Claim" "unanswered" "I") (List.mem_cons_of_mem _ wd_133)
  have in0 : ∀ w ∈ u_ws RX0 TX0 13, w ∈ wsX0_isReady := fun w h => List.mem_cons_of_mem _ (wu_X0 w h)
  refine lv_aload_n hx hb dX0_isReady_0 rfl (lv_at hl 0 rfl) ?_
  refine hp_get (D := (dC, dI)) (ci := 0) (v := .int v5) (C := RX0) (T := TX0) (N := 13) hx hb hts in0 hown hK hP ha hf rfl 5 (by decide) lk0 (fun _ h9 => h9) rfl dX0_isReady_1 ?_
  refine lv_if_ne (tgt := 14) hx hb dX0_isReady_4 (by decide) (fun c4 => ?_) (fun c4 => ?_)
  · refine lv_iconst (v := 0) hx hb dX0_isReady_14 (by decide) ?_
    exact W.zret (v := 0) hx hb hr (by decide) (fun t ht hW => ⟨0, rfl, ((bb_f (fun q => c4 q.1)).symm), ht⟩) (fun q h => by cases h) dX0_isReady_15
  · refine lv_aload_n hx hb dX0_isReady_7 rfl (lv_at hl 0 rfl) ?_
    refine hp_get (D := (dC, dI)) (ci := 0) (v := .int v6) (C := RX0) (T := TX0) (N := 13) hx hb hts in0 hown hK hP ha hf rfl 6 (by decide) lk1 (fun _ h9 => h9) rfl dX0_isReady_8 ?_
    refine lv_if_eq (tgt := 16) hx hb dX0_isReady_11 (by decide) (fun c11 => ?_) (fun c11 => ?_)
    · refine lv_aload_n hx hb dX0_isReady_16 rfl (lv_at hl 0 rfl) ?_
      refine hp_get (D := (dC, dI)) (ci := 0) (v := .int v3) (C := RX0) (T := TX0) (N := 13) hx hb hts in0 hown hK hP ha hf rfl 3 (by decide) lk2 (fun _ h9 => h9) rfl dX0_isReady_17 ?_
      refine lv_if_ne (tgt := 37) hx hb dX0_isReady_20 (by decide) (fun c20 => ?_) (fun c20 => ?_)
      · refine lv_iconst (v := 1) hx hb dX0_isReady_37 (by decide) ?_
        refine lv_goto (tgt := 42) hx hb dX0_isReady_38 (by decide) ?_
        exact W.zret (v := 1) hx hb hr (by decide) (fun t ht hW => ⟨1, rfl, ((bb_t ⟨c4, c11, Or.inl c20⟩).symm), ht⟩) (fun q h => by cases h) dX0_isReady_42
      · refine lv_aload_n hx hb dX0_isReady_23 rfl (lv_at hl 0 rfl) ?_
        refine hp_get (D := (dC, dI)) (ci := 0) (v := .int v7) (C := RX0) (T := TX0) (N := 13) hx hb hts in0 hown hK hP ha hf rfl 7 (by decide) lk3 (fun _ h9 => h9) rfl dX0_isReady_24 ?_
        refine lv_if_le (tgt := 41) hx hb dX0_isReady_27 (by decide) (fun c27 => ?_) (fun c27 => ?_)
        · refine lv_iconst (v := 0) hx hb dX0_isReady_41 (by decide) ?_
          exact W.zret (v := 0) hx hb hr (by decide) (fun t ht hW => ⟨0, rfl, ((bb_f (fun q => q.2.2.elim (fun z => z c20) (fun z => absurd z.1 (Int32.not_lt.mpr c27)))).symm), ht⟩) (fun q h => by cases h) dX0_isReady_42
        · refine lv_aload_n hx hb dX0_isReady_30 rfl (lv_at hl 0 rfl) ?_
          refine hp_get (D := (dC, dI)) (ci := 0) (v := .int v8) (C := RX0) (T := TX0) (N := 13) hx hb hts in0 hown hK hP ha hf rfl 8 (by decide) lk4 (fun _ h9 => h9) rfl dX0_isReady_31 ?_
          refine lv_if_ne (tgt := 41) hx hb dX0_isReady_34 (by decide) (fun c34 => ?_) (fun c34 => ?_)
          · refine lv_iconst (v := 0) hx hb dX0_isReady_41 (by decide) ?_
            exact W.zret (v := 0) hx hb hr (by decide) (fun t ht hW => ⟨0, rfl, ((bb_f (fun q => q.2.2.elim (fun z => z c20) (fun z => c34 z.2))).symm), ht⟩) (fun q h => by cases h) dX0_isReady_42
          · refine lv_iconst (v := 1) hx hb dX0_isReady_37 (by decide) ?_
            refine lv_goto (tgt := 42) hx hb dX0_isReady_38 (by decide) ?_
            exact W.zret (v := 1) hx hb hr (by decide) (fun t ht hW => ⟨1, rfl, ((bb_t ⟨c4, c11, Or.inr ⟨Int32.not_le.mp c27, c34⟩⟩).symm), ht⟩) (fun q h => by cases h) dX0_isReady_42
    · refine lv_iconst (v := 0) hx hb dX0_isReady_14 (by decide) ?_
      exact W.zret (v := 0) hx hb hr (by decide) (fun t ht hW => ⟨0, rfl, ((bb_f (fun q => c11 q.2.1)).symm), ht⟩) (fun q h => by cases h) dX0_isReady_15
set_option maxHeartbeats 4000000 in
set_option maxRecDepth 100000 in
/-- mt_close -/
theorem mt_close (l : Launch) (dC : Nat → ClassId) (dI : Nat → Nat → Nat) (cA : Nat → ClassId) (sz : Nat) (X : va_W) (L : List Nat) (f : Nat → va_E) (a : Nat) (ha : a ∈ L) (cq : Nat) (hc : cq ∈ L) (s1 s2 : Int32) (hf : f a = .inr (2, [.ref cq, .int s1, .int s2])) (v0 : Int32) (v1 : Int32) (v2 : Nat) (v3 : Int32) (v4 : Int32) (v5 : Int32) (v6 : Int32) (v7 : Int32) (v8 : Int32) (v9 : Int32) (v10 : Int32) (v11 : Int32) (v12 : Int64) (hg : f cq = .inr (0, [.int v0, .int v1, .ref v2, .int v3, .int v4, .int v5, .int v6, .int v7, .int v8, .int v9, .int v10, .int v11, .long v12])) (b : Bool) : Met l yX2_close wsX2_close ({ frames := 1, cells := 0, slots := 0, locals := 21 }) (va_Pc [.ref a, .int (bb_v b)] (ct_M (dC, dI) vwCl (ty_K cA) (X ++ va_pl L f) sz)) (va_Qv (fun u => u = (L, va_up (va_up f a (.inr (2, [.ref cq, .int s1, .int 0]))) cq (.inr (0, [.int v0, .int v1, .ref v2, .int v3, .int v4, .int v5, .int v6, .int v7, .int (v8 - 1), .int (if b then 1 else v9), .int v10, .int v11, .long v12])))) (fun u t => ct_B (dC, dI) vwCl (ty_K cA) (va_A (X ++ va_pl L f) sz) (X ++ va_pl u.1 u.2) t) (va_A (X ++ va_pl L f) sz)) 0 0 (va_A (X ++ va_pl L f) sz) := by
  refine Met.ofW (cc := cX2_close) (maxL := 2) (ret := none) (by decide) rfl ?_
  intro p e s m args below meth c s₁ B hml hv
  obtain ⟨rfl, hsz, hP, hK, hD0⟩ := hv
  have hx := B.exec
  have hb := B.bytes
  have hr := B.returns
  have hts := atoms_spec (ws := wsX2_close) B.pre
  have hown : s.vm.findClass RX2 = some m.cls := findClass_of_methodNamed B.named
  have hlocks := B.notSynchronized
  subst hsz
  have hD := hD0.self (sz := s.heap.size)
  generalize hAe : va_A (X ++ va_pl L f) s.heap.size = A at hD ⊢
  have hA : ∀ q : Nat, s.heap.size ≤ q → A q := fun q h => by rw [← hAe]; exact Or.inr h
  clear hAe hD0
  have hS : va_S A s.heap s.heap [] := va_S.rf
  have hl := lv_entry ([.ref a, .int (bb_v b)]) (n := 2) (Nat.le_of_ble_eq_true rfl)
  rw [lg_entry_eq]
  generalize (lg_sl ([.ref a, .int (bb_v b)]) ++ List.replicate (2 - (lg_sl ([.ref a, .int (bb_v b)])).length) Slot.unset).toArray = ls at hl ⊢
  have hl : lv_has ls 2 [(0, .ref a), (1, .int (bb_v b))] := hl
  have lk0 := hts (.fieldLink RX2 7 "ClaimRows$Search" "unanswered" "Z") (List.mem_cons_of_mem _ wd_167)
  have lk1 := hts (.fieldLink RX2 13 "ClaimRows$Search" "claim" "LClaimRows$Claim;") (List.mem_cons_of_mem _ wd_164)
  have in0 : ∀ w ∈ u_ws RX2 TX2 3, w ∈ wsX2_close := fun w h => List.mem_cons_of_mem _ (wu_X2 w h)
  refine lv_aload_n hx hb dX2_close_0 rfl (lv_at hl 0 rfl) ?_
  refine lv_iconst (v := 0) hx hb dX2_close_1 (by decide) ?_
  refine hp_put (D := (dC, dI)) (ci := 2) (v := .int 0) (ty := .boolean) (C := RX2) (T := TX2) (N := 3) hx hb hts in0 tyX2 tyX2_ok nmX2 hown hK hP hD hS ha hf rfl 2 (by decide) lk0 (fun _ h9 => h9) rfl (by decide +kernel) (by decide) rfl (Nat.le_of_ble_eq_true rfl) dX2_close_2 (fs' := [.ref cq, .int s1, .int 0]) rfl (fun H locs hP hD hS => ?_)
  obtain ⟨f_1, ef_1⟩ : ∃ y9, y9 = va_up f a (.inr (2, [.ref cq, .int s1, .int 0])) := ⟨_, rfl⟩
  rw [← ef_1] at hP hD
  have hf_1_cq : f_1 cq = .inr (0, [.int v0, .int v1, .ref v2, .int v3, .int v4, .int v5, .int v6, .int v7, .int v8, .int v9, .int v10, .int v11, .long v12]) := by rw [ef_1, va_up_ne _ _ (ct_ne hg hf (by simp))]; exact hg
  have hf_1_a : f_1 a = .inr (2, [.ref cq, .int s1, .int 0]) := by rw [ef_1]; exact va_up_self _ _ _
  refine lv_aload_n hx hb dX2_close_5 rfl (lv_at hl 0 rfl) ?_
  refine hp_get (D := (dC, dI)) (ci := 2) (v := .ref cq) (C := RX2) (T := TX2) (N := 3) hx hb hts in0 hown hK hP ha hf_1_a rfl 0 (by decide) lk1 (fun _ h9 => h9) rfl dX2_close_6 ?_
  refine lv_iload_n hx hb dX2_close_9 rfl (lv_at hl 1 rfl) ?_
  have hFc := ct_free hD hS hA
  refine va_callv (va_runV (As := [.int (bb_v b)]) (rest := []) ⟨hx, hb, hml, hown, hts⟩ (mt_endSearch l dC dI cA H.size X L f_1 cq hc v0 v1 v2 v3 v4 v5 v6 v7 v8 v9 v10 v11 v12 hf_1_cq b) (cwV 1 hts (al_gV wd_185 wd_186 wd_187 wd_4 wd_188) rfl rfl rfl (by decide +kernel) ⟨Nat.le_of_ble_eq_true rfl, Nat.le_of_ble_eq_true rfl⟩) ⟨ct_blM, hp_recv hK hP (ci := 0) rfl hc hf_1_cq, ct_atM hP hK hD⟩ rfl rfl hl.1 rfl (lv_room (Nat.le_of_ble_eq_true rfl)) dX2_close_10 ⟨Nat.le_of_ble_eq_true rfl, Nat.le_of_ble_eq_true rfl⟩) hS (fun q _ h => hFc q h) hFc (fun u10 t H1 locs ht hvm hr10 hB hz1 hk1 hS => ?_)
  obtain ⟨hP, -, hD1⟩ := hB
  rw [ht] at hP
  have hD := hD1.weaken (fun _ _ _ h => hFc _ h)
  clear hD1 hk1 hz1 hFc hvm
  generalize H1 = H at hP hS ht ⊢
  clear ht
  refine W.widen (k := 0) (n := 0) (by decide) (by decide) ?_
  subst hr10
  have hP : va_P (dC, dI) vwCl (X ++ va_pl L (va_up f_1 cq (.inr (0, [.int v0, .int v1, .ref v2, .int v3, .int v4, .int v5, .int v6, .int v7, .int (v8 - 1), .int (if b then 1 else v9), .int v10, .int v11, .long v12])))) H := hP
  have hD : va_D A (X ++ va_pl L (va_up f_1 cq (.inr (0, [.int v0, .int v1, .ref v2, .int v3, .int v4, .int v5, .int v6, .int v7, .int (v8 - 1), .int (if b then 1 else v9), .int v10, .int v11, .long v12])))) := hD
  obtain ⟨f_2, ef_2⟩ : ∃ y9, y9 = va_up f_1 cq (.inr (0, [.int v0, .int v1, .ref v2, .int v3, .int v4, .int v5, .int v6, .int v7, .int (v8 - 1), .int (if b then 1 else v9), .int v10, .int v11, .long v12])) := ⟨_, rfl⟩
  rw [← ef_2] at hP hD
  have hf_2_a : f_2 a = .inr (2, [.ref cq, .int s1, .int 0]) := by rw [ef_2, va_up_ne _ _ (ct_ne hf_1_a hf_1_cq (by simp))]; exact hf_1_a
  have hf_2_cq : f_2 cq = .inr (0, [.int v0, .int v1, .ref v2, .int v3, .int v4, .int v5, .int v6, .int v7, .int (v8 - 1), .int (if b then 1 else v9), .int v10, .int v11, .long v12]) := by rw [ef_2]; exact va_up_self _ _ _
  exact W.vret hx hb hr (fun t ht hW => ⟨⟨(L, f_2), rfl, (by rw [ef_2, ef_1]), by rw [ht]; exact hP, va_K.moved hW.alike hK, hD⟩, hS.F ht⟩) hS.2.2 dX2_close_13
set_option maxHeartbeats 4000000 in
set_option maxRecDepth 100000 in
/-- mt_Item_init -/
theorem mt_Item_init (l : Launch) (dC : Nat → ClassId) (dI : Nat → Nat → Nat) (cA : Nat → ClassId) (sz : Nat) (X : va_W) (L : List Nat) (f : Nat → va_E) (a : Nat) (ha : a ∈ L) (hf : f a = .inr (1, [.int 0, .long 0, .long 0, .int 0, .int 0, .null, .int 0, .int 0, .int 0])) (x1 : Int32) (x2 x3 : Int64) (x4 x5 : Int32) : Met l yX1_init wsX1_init ({ frames := 1, cells := 1, slots := 8, locals := 12 }) (va_Pc [.ref a, .int x1, .long x2, .long x3, .int x4, .int x5] (ct_M (dC, dI) vwCl (ty_K cA) (X ++ va_pl L f) sz)) (va_Qv (fun u => ∃ p : Nat, p ∉ L ∧ u = (L ++ [p], va_up (va_up f p (.inl (cA 0, 8, .inl (fun _ => 0)))) a (.inr (1, [.int x1, .long x2, .long x3, .int x4, .int x5, .ref p, .int 0, .int 0, .int 0])))) (fun u t => ct_B (dC, dI) vwCl (ty_K cA) (va_A (X ++ va_pl L f) sz) (X ++ va_pl u.1 u.2) t) (va_A (X ++ va_pl L f) sz)) 1 8 (va_A (X ++ va_pl L f) sz) := by
  refine Met.ofW (cc := cX1_init) (maxL := 8) (ret := none) (by decide) rfl ?_
  intro p e s m args below meth c s₁ B hml hv
  obtain ⟨rfl, hsz, hP, hK, hD0⟩ := hv
  have hx := B.exec
  have hb := B.bytes
  have hr := B.returns
  have hts := atoms_spec (ws := wsX1_init) B.pre
  have hown : s.vm.findClass RX1 = some m.cls := findClass_of_methodNamed B.named
  have hlocks := B.notSynchronized
  have hin : meth.name = "<init>" := (name_of_methodNamed B.named B.method).1
  subst hsz
  have hD := hD0.self (sz := s.heap.size)
  generalize hAe : va_A (X ++ va_pl L f) s.heap.size = A at hD ⊢
  have hA : ∀ q : Nat, s.heap.size ≤ q → A q := fun q h => by rw [← hAe]; exact Or.inr h
  clear hAe hD0
  have hS : va_S A s.heap s.heap [] := va_S.rf
  have hl := lv_entry ([.ref a, .int x1, .long x2, .long x3, .int x4, .int x5]) (n := 8) (Nat.le_of_ble_eq_true rfl)
  rw [lg_entry_eq]
  generalize (lg_sl ([.ref a, .int x1, .long x2, .long x3, .int x4, .int x5]) ++ List.replicate (8 - (lg_sl ([.ref a, .int x1, .long x2, .long x3, .int x4, .int x5])).length) Slot.unset).toArray = ls at hl ⊢
  have hl : lv_has ls 8 [(0, .ref a), (1, .int x1), (2, .long x2), (4, .long x3), (6, .int x4), (7, .int x5)] := hl
  have lk0 := hts (.methodLink RX1 3 objectInit) (List.mem_cons_of_mem _ wd_56)
  have lk1 := hts (.instanceMethod objectInit) (List.mem_cons_of_mem _ wd_14)
  have lk2 := hts (.code objectInit ⟨#[0xb1]⟩ 1 none) (List.mem_cons_of_mem _ wd_15)
  have lk3 := hts (.arrayClass .int) (List.mem_cons_of_mem _ wd_36)
  have lk4 := hts (.fieldLink RX1 9 "ClaimRows$Item" "posts" "[I") (List.mem_cons_of_mem _ wd_67)
  have lk5 := hts (.fieldLink RX1 15 "ClaimRows$Item" "service" "I") (List.mem_cons_of_mem _ wd_57)
  have lk6 := hts (.fieldLink RX1 19 "ClaimRows$Item" "value" "J") (List.mem_cons_of_mem _ wd_59)
  have lk7 := hts (.fieldLink RX1 23 "ClaimRows$Item" "insured" "J") (List.mem_cons_of_mem _ wd_61)
  have lk8 := hts (.fieldLink RX1 26 "ClaimRows$Item" "day" "I") (List.mem_cons_of_mem _ wd_63)
  have lk9 := hts (.fieldLink RX1 29 "ClaimRows$Item" "sender" "I") (List.mem_cons_of_mem _ wd_65)
  have in0 : ∀ w ∈ u_ws RX1 TX1 9, w ∈ wsX1_init := fun w h => List.mem_cons_of_mem _ (wu_X1 w h)
  refine lv_aload_n hx hb dX1_init_0 rfl (lv_at hl 0 rfl) ?_
  refine W.objInit hx hb hown lk0 lk1 lk2 rfl (by rw [hml]; exact hl.1) rfl dX1_init_1 (Nat.le_of_ble_eq_true rfl) (Nat.le_of_ble_eq_true rfl) ?_
  refine W.eq (g2 := F0 m 4 ls []) rfl ?_
  refine lv_aload_n hx hb dX1_init_4 rfl (lv_at hl 0 rfl) ?_
  refine lv_bipush (v := 8) hx hb dX1_init_5 (by decide) ?_
  refine hp_newi hx hb lk3 hK 0 rfl hP hD hS hA (N' := 8) (by decide) rfl (by decide) (Nat.le_of_ble_eq_true rfl) (Nat.le_of_ble_eq_true rfl) dX1_init_7 (fun q7 H hq7 hP hD hS => ?_)
  obtain ⟨f_1, ef_1⟩ : ∃ y9, y9 = va_up f q7 (.inl ((cA 0), 8, .inl (fun _ => 0))) := ⟨_, rfl⟩
  rw [← ef_1] at hP hD
  have hf_1_a : f_1 a = .inr (1, [.int 0, .long 0, .long 0, .int 0, .int 0, .null, .int 0, .int 0, .int 0]) := by rw [ef_1, va_up_ne _ _ (ct_nq ha hq7)]; exact hf
  have hf_1_q7 : f_1 q7 = .inl ((cA 0), 8, .inl (fun _ => 0)) := by rw [ef_1]; exact va_up_self _ _ _
  refine W.widen (k := 1) (n := 8) (by decide) (by decide) ?_
  refine hp_putF (D := (dC, dI)) (ci := 1) (v := .ref q7) (ty := .array .int) (C := RX1) (T := TX1) (N := 9) hx hb hts in0 tyX1 tyX1_ok nmX1 hown hK hP hD hS (List.mem_append_left _ ha) hf_1_a rfl 5 (by decide) lk4 (fun _ h9 => h9) rfl hin rfl (by decide +kernel) rfl rfl (Nat.le_of_ble_eq_true rfl) dX1_init_9 (fs' := [.int 0, .long 0, .long 0, .int 0, .int 0, .ref q7, .int 0, .int 0, .int 0]) rfl (fun H locs hP hD hS => ?_)
  obtain ⟨f_2, ef_2⟩ : ∃ y9, y9 = va_up f_1 a (.inr (1, [.int 0, .long 0, .long 0, .int 0, .int 0, .ref q7, .int 0, .int 0, .int 0])) := ⟨_, rfl⟩
  rw [← ef_2] at hP hD
  have hf_2_q7 : f_2 q7 = .inl ((cA 0), 8, .inl (fun _ => 0)) := by rw [ef_2, va_up_ne _ _ (Ne.symm (ct_nq ha hq7))]; exact hf_1_q7
  have hf_2_a : f_2 a = .inr (1, [.int 0, .long 0, .long 0, .int 0, .int 0, .ref q7, .int 0, .int 0, .int 0]) := by rw [ef_2]; exact va_up_self _ _ _
  refine lv_aload_n hx hb dX1_init_12 rfl (lv_at hl 0 rfl) ?_
  refine lv_iload_n hx hb dX1_init_13 rfl (lv_at hl 1 rfl) ?_
  refine hp_putF (D := (dC, dI)) (ci := 1) (v := .int x1) (ty := .int) (C := RX1) (T := TX1) (N := 9) hx hb hts in0 tyX1 tyX1_ok nmX1 hown hK hP hD hS (List.mem_append_left _ ha) hf_2_a rfl 0 (by decide) lk5 (fun _ h9 => h9) rfl hin rfl (by decide +kernel) rfl rfl (Nat.le_of_ble_eq_true rfl) dX1_init_14 (fs' := [.int x1, .long 0, .long 0, .int 0, .int 0, .ref q7, .int 0, .int 0, .int 0]) rfl (fun H locs hP hD hS => ?_)
  obtain ⟨f_3, ef_3⟩ : ∃ y9, y9 = va_up f_2 a (.inr (1, [.int x1, .long 0, .long 0, .int 0, .int 0, .ref q7, .int 0, .int 0, .int 0])) := ⟨_, rfl⟩
  rw [← ef_3] at hP hD
  have hf_3_q7 : f_3 q7 = .inl ((cA 0), 8, .inl (fun _ => 0)) := by rw [ef_3, va_up_ne _ _ (Ne.symm (ct_nq ha hq7))]; exact hf_2_q7
  have hf_3_a : f_3 a = .inr (1, [.int x1, .long 0, .long 0, .int 0, .int 0, .ref q7, .int 0, .int 0, .int 0]) := by rw [ef_3]; exact va_up_self _ _ _
  refine lv_aload_n hx hb dX1_init_17 rfl (lv_at hl 0 rfl) ?_
  refine lv_lload_n hx hb dX1_init_18 rfl (lv_at hl 2 rfl) ?_
  refine hp_putF (D := (dC, dI)) (ci := 1) (v := .long x2) (ty := .long) (C := RX1) (T := TX1) (N := 9) hx hb hts in0 tyX1 tyX1_ok nmX1 hown hK hP hD hS (List.mem_append_left _ ha) hf_3_a rfl 1 (by decide) lk6 (fun _ h9 => h9) rfl hin rfl (by decide +kernel) rfl rfl (Nat.le_of_ble_eq_true rfl) dX1_init_19 (fs' := [.int x1, .long x2, .long 0, .int 0, .int 0, .ref q7, .int 0, .int 0, .int 0]) rfl (fun H locs hP hD hS => ?_)
  obtain ⟨f_4, ef_4⟩ : ∃ y9, y9 = va_up f_3 a (.inr (1, [.int x1, .long x2, .long 0, .int 0, .int 0, .ref q7, .int 0, .int 0, .int 0])) := ⟨_, rfl⟩
  rw [← ef_4] at hP hD
  have hf_4_q7 : f_4 q7 = .inl ((cA 0), 8, .inl (fun _ => 0)) := by rw [ef_4, va_up_ne _ _ (Ne.symm (ct_nq ha hq7))]; exact hf_3_q7
  have hf_4_a : f_4 a = .inr (1, [.int x1, .long x2, .long 0, .int 0, .int 0, .ref q7, .int 0, .int 0, .int 0]) := by rw [ef_4]; exact va_up_self _ _ _
  refine lv_aload_n hx hb dX1_init_22 rfl (lv_at hl 0 rfl) ?_
  refine lv_lload hx hb dX1_init_23 (lv_at hl 3 rfl) ?_
  refine hp_putF (D := (dC, dI)) (ci := 1) (v := .long x3) (ty := .long) (C := RX1) (T := TX1) (N := 9) hx hb hts in0 tyX1 tyX1_ok nmX1 hown hK hP hD hS (List.mem_append_left _ ha) hf_4_a rfl 2 (by decide) lk7 (fun _ h9 => h9) rfl hin rfl (by decide +kernel) rfl rfl (Nat.le_of_ble_eq_true rfl) dX1_init_25 (fs' := [.int x1, .long x2, .long x3, .int 0, .int 0, .ref q7, .int 0, .int 0, .int 0]) rfl (fun H locs hP hD hS => ?_)
  obtain ⟨f_5, ef_5⟩ : ∃ y9, y9 = va_up f_4 a (.inr (1, [.int x1, .long x2, .long x3, .int 0, .int 0, .ref q7, .int 0, .int 0, .int 0])) := ⟨_, rfl⟩
  rw [← ef_5] at hP hD
  have hf_5_q7 : f_5 q7 = .inl ((cA 0), 8, .inl (fun _ => 0)) := by rw [ef_5, va_up_ne _ _ (Ne.symm (ct_nq ha hq7))]; exact hf_4_q7
  have hf_5_a : f_5 a = .inr (1, [.int x1, .long x2, .long x3, .int 0, .int 0, .ref q7, .int 0, .int 0, .int 0]) := by rw [ef_5]; exact va_up_self _ _ _
  refine lv_aload_n hx hb dX1_init_28 rfl (lv_at hl 0 rfl) ?_
  refine lv_iload hx hb dX1_init_29 (lv_at hl 4 rfl) ?_
  refine hp_putF (D := (dC, dI)) (ci := 1) (v := .int x4) (ty := .int) (C := RX1) (T := TX1) (N := 9) hx hb hts in0 tyX1 tyX1_ok nmX1 hown hK hP hD hS (List.mem_append_left _ ha) hf_5_a rfl 3 (by decide) lk8 (fun _ h9 => h9) rfl hin rfl (by decide +kernel) rfl rfl (Nat.le_of_ble_eq_true rfl) dX1_init_31 (fs' := [.int x1, .long x2, .long x3, .int x4, .int 0, .ref q7, .int 0, .int 0, .int 0]) rfl (fun H locs hP hD hS => ?_)
  obtain ⟨f_6, ef_6⟩ : ∃ y9, y9 = va_up f_5 a (.inr (1, [.int x1, .long x2, .long x3, .int x4, .int 0, .ref q7, .int 0, .int 0, .int 0])) := ⟨_, rfl⟩
  rw [← ef_6] at hP hD
  have hf_6_q7 : f_6 q7 = .inl ((cA 0), 8, .inl (fun _ => 0)) := by rw [ef_6, va_up_ne _ _ (Ne.symm (ct_nq ha hq7))]; exact hf_5_q7
  have hf_6_a : f_6 a = .inr (1, [.int x1, .long x2, .long x3, .int x4, .int 0, .ref q7, .int 0, .int 0, .int 0]) := by rw [ef_6]; exact va_up_self _ _ _
  refine lv_aload_n hx hb dX1_init_34 rfl (lv_at hl 0 rfl) ?_
  refine lv_iload hx hb dX1_init_35 (lv_at hl 5 rfl) ?_
  refine hp_putF (D := (dC, dI)) (ci := 1) (v := .int x5) (ty := .int) (C := RX1) (T := TX1) (N := 9) hx hb hts in0 tyX1 tyX1_ok nmX1 hown hK hP hD hS (List.mem_append_left _ ha) hf_6_a rfl 4 (by decide) lk9 (fun _ h9 => h9) rfl hin rfl (by decide +kernel) rfl rfl (Nat.le_of_ble_eq_true rfl) dX1_init_37 (fs' := [.int x1, .long x2, .long x3, .int x4, .int x5, .ref q7, .int 0, .int 0, .int 0]) rfl (fun H locs hP hD hS => ?_)
  obtain ⟨f_7, ef_7⟩ : ∃ y9, y9 = va_up f_6 a (.inr (1, [.int x1, .long x2, .long x3, .int x4, .int x5, .ref q7, .int 0, .int 0, .int 0])) := ⟨_, rfl⟩
  rw [← ef_7] at hP hD
  have hf_7_q7 : f_7 q7 = .inl ((cA 0), 8, .inl (fun _ => 0)) := by rw [ef_7, va_up_ne _ _ (Ne.symm (ct_nq ha hq7))]; exact hf_6_q7
  have hf_7_a : f_7 a = .inr (1, [.int x1, .long x2, .long x3, .int x4, .int x5, .ref q7, .int 0, .int 0, .int 0]) := by rw [ef_7]; exact va_up_self _ _ _
  exact W.vret hx hb hr (fun t ht hW => ⟨⟨((L ++ [q7]), f_7), rfl, ⟨q7, hq7, by rw [ef_7, ef_6, ef_5, ef_4, ef_3, ef_2, ef_1]; simp only [bx_uu]⟩, by rw [ht]; exact hP, va_K.moved hW.alike hK, hD⟩, hS.F ht⟩) hS.2.2 dX1_init_40
set_option maxHeartbeats 4000000 in
set_option maxRecDepth 100000 in
/-- mt_addPost -/
theorem mt_addPost (l : Launch) (dC : Nat → ClassId) (dI : Nat → Nat → Nat) (cA : Nat → ClassId) (sz : Nat) (X : va_W) (L : List Nat) (f : Nat → va_E) (a pq : Nat) (ha : a ∈ L) (hp : pq ∈ L) (v0 : Int32) (v1 v2 : Int64) (v3 v4 v6 v7 v8 : Int32) (hf : f a = .inr (1, [.int v0, .long v1, .long v2, .int v3, .int v4, .ref pq, .int v6, .int v7, .int v8])) (g : Nat → Int32) (hg : f pq = .inl (cA 0, 8, .inl g)) (k : Nat) (hk : v6 = nI k) (hk8 : k < 8) (x : Int32) (b : Bool) : Met l yX1_addPost wsX1_addPost ({ frames := 0, cells := 0, slots := 0, locals := 0 }) (va_Pc [.ref a, .int x, .int (bb_v b)] (ct_M (dC, dI) vwCl (ty_K cA) (X ++ va_pl L f) sz)) (va_Qv (fun u => u = (L, va_up (va_up f pq (.inl (cA 0, 8, .inl (upd g v6.toNatClampNeg x)))) a (.inr (1, [.int v0, .long v1, .long v2, .int v3, .int v4, .ref pq, .int (v6 + 1), .int (if b then v6 else v7), .int v8])))) (fun u t => ct_B (dC, dI) vwCl (ty_K cA) (va_A (X ++ va_pl L f) sz) (X ++ va_pl u.1 u.2) t) (va_A (X ++ va_pl L f) sz)) 0 0 (va_A (X ++ va_pl L f) sz) := by
  refine Met.ofW (cc := cX1_addPost) (maxL := 3) (ret := none) (by decide) rfl ?_
  intro p e s m args below meth c s₁ B hml hv
  obtain ⟨rfl, hsz, hP, hK, hD0⟩ := hv
  have hx := B.exec
  have hb := B.bytes
  have hr := B.returns
  have hts := atoms_spec (ws := wsX1_addPost) B.pre
  have hown : s.vm.findClass RX1 = some m.cls := findClass_of_methodNamed B.named
  have hlocks := B.notSynchronized
  subst hsz
  have hD := hD0.self (sz := s.heap.size)
  generalize hAe : va_A (X ++ va_pl L f) s.heap.size = A at hD ⊢
  have hA : ∀ q : Nat, s.heap.size ≤ q → A q := fun q h => by rw [← hAe]; exact Or.inr h
  clear hAe hD0
  have hS : va_S A s.heap s.heap [] := va_S.rf
  have hl := lv_entry ([.ref a, .int x, .int (bb_v b)]) (n := 3) (Nat.le_of_ble_eq_true rfl)
  rw [lg_entry_eq]
  generalize (lg_sl ([.ref a, .int x, .int (bb_v b)]) ++ List.replicate (3 - (lg_sl ([.ref a, .int x, .int (bb_v b)])).length) Slot.unset).toArray = ls at hl ⊢
  have hl : lv_has ls 3 [(0, .ref a), (1, .int x), (2, .int (bb_v b))] := hl
  have lk0 := hts (.fieldLink RX1 32 "ClaimRows$Item" "passed" "I") (List.mem_cons_of_mem _ wd_68)
  have lk1 := hts (.fieldLink RX1 9 "ClaimRows$Item" "posts" "[I") (List.mem_cons_of_mem _ wd_67)
  have lk2 := hts (.fieldLink RX1 35 "ClaimRows$Item" "sharesFrom" "I") (List.mem_cons_of_mem _ wd_70)
  have in0 : ∀ w ∈ u_ws RX1 TX1 9, w ∈ wsX1_addPost := fun w h => List.mem_cons_of_mem _ (wu_X1 w h)
  refine lv_aload_n hx hb dX1_addPost_0 rfl (lv_at hl 0 rfl) ?_
  refine hp_get (D := (dC, dI)) (ci := 1) (v := .int v6) (C := RX1) (T := TX1) (N := 9) hx hb hts in0 hown hK hP ha hf rfl 6 (by decide) lk0 (fun _ h9 => h9) rfl dX1_addPost_1 ?_
  refine lv_bipush (v := 8) hx hb dX1_addPost_4 (by decide) ?_
  refine lv_icmp_lt (tgt := 10) hx hb dX1_addPost_6 (by decide) (fun c6 => ?_) (fun c6 => ?_)
  · refine lv_aload_n hx hb dX1_addPost_10 rfl (lv_at hl 0 rfl) ?_
    refine hp_get (D := (dC, dI)) (ci := 1) (v := .ref pq) (C := RX1) (T := TX1) (N := 9) hx hb hts in0 hown hK hP ha hf rfl 5 (by decide) lk1 (fun _ h9 => h9) rfl dX1_addPost_11 ?_
    refine lv_aload_n hx hb dX1_addPost_14 rfl (lv_at hl 0 rfl) ?_
    refine hp_get (D := (dC, dI)) (ci := 1) (v := .int v6) (C := RX1) (T := TX1) (N := 9) hx hb hts in0 hown hK hP ha hf rfl 6 (by decide) lk0 (fun _ h9 => h9) rfl dX1_addPost_15 ?_
    refine lv_iload_n hx hb dX1_addPost_18 rfl (lv_at hl 1 rfl) ?_
    refine hp_iast hx hb hK hP hD hS hp 0 hg rfl (by rw [hk]; exact vp_in_nI hk8 (by decide)) dX1_addPost_19 (fun H locs hP hD hS => ?_)
    obtain ⟨f_1, ef_1⟩ : ∃ y9, y9 = va_up f pq (.inl ((cA 0), 8, .inl (upd g (v6).toNatClampNeg x))) := ⟨_, rfl⟩
    rw [← ef_1] at hP hD
    have hf_1_a : f_1 a = .inr (1, [.int v0, .long v1, .long v2, .int v3, .int v4, .ref pq, .int v6, .int v7, .int v8]) := by rw [ef_1, va_up_ne _ _ (ct_ne hf hg (by simp))]; exact hf
    have hf_1_pq : f_1 pq = .inl ((cA 0), 8, .inl (upd g (v6).toNatClampNeg x)) := by rw [ef_1]; exact va_up_self _ _ _
    refine lv_iload_n hx hb dX1_addPost_20 rfl (lv_at hl 2 rfl) ?_
    refine lv_if_eq (tgt := 32) hx hb dX1_addPost_21 (by decide) (fun c21 => ?_) (fun c21 => ?_)
    · have c21 := bb_0.mp c21
      refine lv_aload_n hx hb dX1_addPost_32 rfl (lv_at hl 0 rfl) ?_
      refine lv_dup hx hb dX1_addPost_33 rfl ?_
      refine hp_get (D := (dC, dI)) (ci := 1) (v := .int v6) (C := RX1) (T := TX1) (N := 9) hx hb hts in0 hown hK hP ha hf_1_a rfl 6 (by decide) lk0 (fun _ h9 => h9) rfl dX1_addPost_34 ?_
      refine lv_iconst (v := 1) hx hb dX1_addPost_37 (by decide) ?_
      refine lv_iadd hx hb dX1_addPost_38 ?_
      refine hp_put (D := (dC, dI)) (ci := 1) (v := .int (v6 + 1)) (ty := .int) (C := RX1) (T := TX1) (N := 9) hx hb hts in0 tyX1 tyX1_ok nmX1 hown hK hP hD hS ha hf_1_a rfl 6 (by decide) lk0 (fun _ h9 => h9) rfl (by decide +kernel) rfl rfl (Nat.le_of_ble_eq_true rfl) dX1_addPost_39 (fs' := [.int v0, .long v1, .long v2, .int v3, .int v4, .ref pq, .int (v6 + 1), .int v7, .int v8]) rfl (fun H locs hP hD hS => ?_)
      obtain ⟨f_2, ef_2⟩ : ∃ y9, y9 = va_up f_1 a (.inr (1, [.int v0, .long v1, .long v2, .int v3, .int v4, .ref pq, .int (v6 + 1), .int v7, .int v8])) := ⟨_, rfl⟩
      rw [← ef_2] at hP hD
      have hf_2_pq : f_2 pq = .inl ((cA 0), 8, .inl (upd g (v6).toNatClampNeg x)) := by rw [ef_2, va_up_ne _ _ (ct_ne hf_1_pq hf_1_a (by simp))]; exact hf_1_pq
      have hf_2_a : f_2 a = .inr (1, [.int v0, .long v1, .long v2, .int v3, .int v4, .ref pq, .int (v6 + 1), .int v7, .int v8]) := by rw [ef_2]; exact va_up_self _ _ _
      exact W.vret hx hb hr (fun t ht hW => ⟨⟨(L, f_2), rfl, (by subst c21; rw [ef_2, ef_1]; (try simp only [bx_uu]); all_goals rfl), by rw [ht]; exact hP, va_K.moved hW.alike hK, hD⟩, hS.F ht⟩) hS.2.2 dX1_addPost_42
    · have c21 := bb_n.mp c21
      refine lv_aload_n hx hb dX1_addPost_24 rfl (lv_at hl 0 rfl) ?_
      refine lv_aload_n hx hb dX1_addPost_25 rfl (lv_at hl 0 rfl) ?_
      refine hp_get (D := (dC, dI)) (ci := 1) (v := .int v6) (C := RX1) (T := TX1) (N := 9) hx hb hts in0 hown hK hP ha hf_1_a rfl 6 (by decide) lk0 (fun _ h9 => h9) rfl dX1_addPost_26 ?_
      refine hp_put (D := (dC, dI)) (ci := 1) (v := .int v6) (ty := .int) (C := RX1) (T := TX1) (N := 9) hx hb hts in0 tyX1 tyX1_ok nmX1 hown hK hP hD hS ha hf_1_a rfl 7 (by decide) lk2 (fun _ h9 => h9) rfl (by decide +kernel) rfl rfl (Nat.le_of_ble_eq_true rfl) dX1_addPost_29 (fs' := [.int v0, .long v1, .long v2, .int v3, .int v4, .ref pq, .int v6, .int v6, .int v8]) rfl (fun H locs hP hD hS => ?_)
      obtain ⟨f_3, ef_3⟩ : ∃ y9, y9 = va_up f_1 a (.inr (1, [.int v0, .long v1, .long v2, .int v3, .int v4, .ref pq, .int v6, .int v6, .int v8])) := ⟨_, rfl⟩
      rw [← ef_3] at hP hD
      have hf_3_pq : f_3 pq = .inl ((cA 0), 8, .inl (upd g (v6).toNatClampNeg x)) := by rw [ef_3, va_up_ne _ _ (ct_ne hf_1_pq hf_1_a (by simp))]; exact hf_1_pq
      have hf_3_a : f_3 a = .inr (1, [.int v0, .long v1, .long v2, .int v3, .int v4, .ref pq, .int v6, .int v6, .int v8]) := by rw [ef_3]; exact va_up_self _ _ _
      refine lv_aload_n hx hb dX1_addPost_32 rfl (lv_at hl 0 rfl) ?_
      refine lv_dup hx hb dX1_addPost_33 rfl ?_
      refine hp_get (D := (dC, dI)) (ci := 1) (v := .int v6) (C := RX1) (T := TX1) (N := 9) hx hb hts in0 hown hK hP ha hf_3_a rfl 6 (by decide) lk0 (fun _ h9 => h9) rfl dX1_addPost_34 ?_
      refine lv_iconst (v := 1) hx hb dX1_addPost_37 (by decide) ?_
      refine lv_iadd hx hb dX1_addPost_38 ?_
      refine hp_put (D := (dC, dI)) (ci := 1) (v := .int (v6 + 1)) (ty := .int) (C := RX1) (T := TX1) (N := 9) hx hb hts in0 tyX1 tyX1_ok nmX1 hown hK hP hD hS ha hf_3_a rfl 6 (by decide) lk0 (fun _ h9 => h9) rfl (by decide +kernel) rfl rfl (Nat.le_of_ble_eq_true rfl) dX1_addPost_39 (fs' := [.int v0, .long v1, .long v2, .int v3, .int v4, .ref pq, .int (v6 + 1), .int v6, .int v8]) rfl (fun H locs hP hD hS => ?_)
      obtain ⟨f_4, ef_4⟩ : ∃ y9, y9 = va_up f_3 a (.inr (1, [.int v0, .long v1, .long v2, .int v3, .int v4, .ref pq, .int (v6 + 1), .int v6, .int v8])) := ⟨_, rfl⟩
      rw [← ef_4] at hP hD
      have hf_4_pq : f_4 pq = .inl ((cA 0), 8, .inl (upd g (v6).toNatClampNeg x)) := by rw [ef_4, va_up_ne _ _ (ct_ne hf_3_pq hf_3_a (by simp))]; exact hf_3_pq
      have hf_4_a : f_4 a = .inr (1, [.int v0, .long v1, .long v2, .int v3, .int v4, .ref pq, .int (v6 + 1), .int v6, .int v8]) := by rw [ef_4]; exact va_up_self _ _ _
      exact W.vret hx hb hr (fun t ht hW => ⟨⟨(L, f_4), rfl, (by subst c21; rw [ef_4, ef_3, ef_1]; (try simp only [bx_uu]); all_goals rfl), by rw [ht]; exact hP, va_K.moved hW.alike hK, hD⟩, hS.F ht⟩) hS.2.2 dX1_addPost_42
  · exact absurd (by rw [hk]; exact nI_lt (b := 8) hk8 (by decide)) c6
set_option maxHeartbeats 4000000 in
set_option maxRecDepth 100000 in
/-- mt_Search_init -/
theorem mt_Search_init (l : Launch) (dC : Nat → ClassId) (dI : Nat → Nat → Nat) (cA : Nat → ClassId) (sz : Nat) (X : va_W) (L : List Nat) (f : Nat → va_E) (a : Nat) (ha : a ∈ L) (hf : f a = .inr (2, [.null, .int 0, .int 0])) (cq : Nat) (x : Int32) : Met l yX2_init wsX2_init ({ frames := 1, cells := 0, slots := 0, locals := 12 }) (va_Pc [.ref a, .ref cq, .int x] (ct_M (dC, dI) vwCl (ty_K cA) (X ++ va_pl L f) sz)) (va_Qv (fun u => u = (L, va_up f a (.inr (2, [.ref cq, .int x, .int 1])))) (fun u t => ct_B (dC, dI) vwCl (ty_K cA) (va_A (X ++ va_pl L f) sz) (X ++ va_pl u.1 u.2) t) (va_A (X ++ va_pl L f) sz)) 0 0 (va_A (X ++ va_pl L f) sz) := by
  refine Met.ofW (cc := cX2_init) (maxL := 3) (ret := none) (by decide) rfl ?_
  intro p e s m args below meth c s₁ B hml hv
  obtain ⟨rfl, hsz, hP, hK, hD0⟩ := hv
  have hx := B.exec
  have hb := B.bytes
  have hr := B.returns
  have hts := atoms_spec (ws := wsX2_init) B.pre
  have hown : s.vm.findClass RX2 = some m.cls := findClass_of_methodNamed B.named
  have hlocks := B.notSynchronized
  have hin : meth.name = "<init>" := (name_of_methodNamed B.named B.method).1
  subst hsz
  have hD := hD0.self (sz := s.heap.size)
  generalize hAe : va_A (X ++ va_pl L f) s.heap.size = A at hD ⊢
  have hA : ∀ q : Nat, s.heap.size ≤ q → A q := fun q h => by rw [← hAe]; exact Or.inr h
  clear hAe hD0
  have hS : va_S A s.heap s.heap [] := va_S.rf
  have hl := lv_entry ([.ref a, .ref cq, .int x]) (n := 3) (Nat.le_of_ble_eq_true rfl)
  rw [lg_entry_eq]
  generalize (lg_sl ([.ref a, .ref cq, .int x]) ++ List.replicate (3 - (lg_sl ([.ref a, .ref cq, .int x])).length) Slot.unset).toArray = ls at hl ⊢
  have hl : lv_has ls 3 [(0, .ref a), (1, .ref cq), (2, .int x)] := hl
  have lk0 := hts (.methodLink RX2 1 objectInit) (List.mem_cons_of_mem _ wd_163)
  have lk1 := hts (.instanceMethod objectInit) (List.mem_cons_of_mem _ wd_14)
  have lk2 := hts (.code objectInit ⟨#[0xb1]⟩ 1 none) (List.mem_cons_of_mem _ wd_15)
  have lk3 := hts (.fieldLink RX2 7 "ClaimRows$Search" "unanswered" "Z") (List.mem_cons_of_mem _ wd_167)
  have lk4 := hts (.fieldLink RX2 13 "ClaimRows$Search" "claim" "LClaimRows$Claim;") (List.mem_cons_of_mem _ wd_164)
  have lk5 := hts (.fieldLink RX2 17 "ClaimRows$Search" "due" "I") (List.mem_cons_of_mem _ wd_165)
  have in0 : ∀ w ∈ u_ws RX2 TX2 3, w ∈ wsX2_init := fun w h => List.mem_cons_of_mem _ (wu_X2 w h)
  refine lv_aload_n hx hb dX2_init_0 rfl (lv_at hl 0 rfl) ?_
  refine W.objInit hx hb hown lk0 lk1 lk2 rfl (by rw [hml]; exact hl.1) rfl dX2_init_1 (Nat.le_of_ble_eq_true rfl) (Nat.le_of_ble_eq_true rfl) ?_
  refine W.eq (g2 := F0 m 4 ls []) rfl ?_
  refine lv_aload_n hx hb dX2_init_4 rfl (lv_at hl 0 rfl) ?_
  refine lv_iconst (v := 1) hx hb dX2_init_5 (by decide) ?_
  refine hp_put (D := (dC, dI)) (ci := 2) (v := .int 1) (ty := .boolean) (C := RX2) (T := TX2) (N := 3) hx hb hts in0 tyX2 tyX2_ok nmX2 hown hK hP hD hS ha hf rfl 2 (by decide) lk3 (fun _ h9 => h9) rfl (by decide +kernel) (by decide) rfl (Nat.le_of_ble_eq_true rfl) dX2_init_6 (fs' := [.null, .int 0, .int 1]) rfl (fun H locs hP hD hS => ?_)
  obtain ⟨f_1, ef_1⟩ : ∃ y9, y9 = va_up f a (.inr (2, [.null, .int 0, .int 1])) := ⟨_, rfl⟩
  rw [← ef_1] at hP hD
  have hf_1_a : f_1 a = .inr (2, [.null, .int 0, .int 1]) := by rw [ef_1]; exact va_up_self _ _ _
  refine lv_aload_n hx hb dX2_init_9 rfl (lv_at hl 0 rfl) ?_
  refine lv_aload_n hx hb dX2_init_10 rfl (lv_at hl 1 rfl) ?_
  refine hp_putF (D := (dC, dI)) (ci := 2) (v := .ref cq) (ty := .object "ClaimRows$Claim") (C := RX2) (T := TX2) (N := 3) hx hb hts in0 tyX2 tyX2_ok nmX2 hown hK hP hD hS ha hf_1_a rfl 0 (by decide) lk4 (fun _ h9 => h9) rfl hin rfl (by decide +kernel) rfl rfl (Nat.le_of_ble_eq_true rfl) dX2_init_11 (fs' := [.ref cq, .int 0, .int 1]) rfl (fun H locs hP hD hS => ?_)
  obtain ⟨f_2, ef_2⟩ : ∃ y9, y9 = va_up f_1 a (.inr (2, [.ref cq, .int 0, .int 1])) := ⟨_, rfl⟩
  rw [← ef_2] at hP hD
  have hf_2_a : f_2 a = .inr (2, [.ref cq, .int 0, .int 1]) := by rw [ef_2]; exact va_up_self _ _ _
  refine lv_aload_n hx hb dX2_init_14 rfl (lv_at hl 0 rfl) ?_
  refine lv_iload_n hx hb dX2_init_15 rfl (lv_at hl 2 rfl) ?_
  refine hp_putF (D := (dC, dI)) (ci := 2) (v := .int x) (ty := .int) (C := RX2) (T := TX2) (N := 3) hx hb hts in0 tyX2 tyX2_ok nmX2 hown hK hP hD hS ha hf_2_a rfl 1 (by decide) lk5 (fun _ h9 => h9) rfl hin rfl (by decide +kernel) rfl rfl (Nat.le_of_ble_eq_true rfl) dX2_init_16 (fs' := [.ref cq, .int x, .int 1]) rfl (fun H locs hP hD hS => ?_)
  obtain ⟨f_3, ef_3⟩ : ∃ y9, y9 = va_up f_2 a (.inr (2, [.ref cq, .int x, .int 1])) := ⟨_, rfl⟩
  rw [← ef_3] at hP hD
  have hf_3_a : f_3 a = .inr (2, [.ref cq, .int x, .int 1]) := by rw [ef_3]; exact va_up_self _ _ _
  exact W.vret hx hb hr (fun t ht hW => ⟨⟨(L, f_3), rfl, (by rw [ef_3, ef_2, ef_1]; simp only [bx_uu]), by rw [ht]; exact hP, va_K.moved hW.alike hK, hD⟩, hS.F ht⟩) hS.2.2 dX2_init_19
set_option maxHeartbeats 4000000 in
set_option maxRecDepth 100000 in
/-- mt_partOf -/
theorem mt_partOf (l : Launch) (dC : Nat → ClassId) (dI : Nat → Nat → Nat) (cA : Nat → ClassId) (X : va_W) (L : List Nat) (f : Nat → va_E) (a pq : Nat) (ha : a ∈ L) (hp : pq ∈ L) (v0 : Int32) (v1 v2 : Int64) (v3 v4 v6 v7 v8 : Int32) (hf : f a = .inr (1, [.int v0, .long v1, .long v2, .int v3, .int v4, .ref pq, .int v6, .int v7, .int v8])) (g : Nat → Int32) (hg : f pq = .inl (cA 0, 8, .inl g)) (k w : Nat) (hk : v6 = nI k) (hw : v7 = nI w) (hk8 : k ≤ 8) (hwk : w ≤ k) (z : Int64) (x : Int32) : Met l yX1_partOf wsX1_partOf ({ frames := 0, cells := 0, slots := 0, locals := 0 }) (va_Pc [.ref a, .long z, .int x] (ct_R (dC, dI) vwCl (ty_K cA) (X ++ va_pl L f))) (vp_Sl (fun r => r = (if 0 < v6 - v7 then sh_s g v7.toNatClampNeg (z / (v6 - v7).toInt64) (z - z / (v6 - v7).toInt64 * (v6 - v7).toInt64) x (v6 - v7).toNatClampNeg else 0))) 0 0 (fun _ => False) := by
  refine Met.ofW (cc := cX1_partOf) (maxL := 12) (ret := (some .long)) (by decide) rfl ?_
  intro p e s m args below meth c s₁ B hml hv
  obtain ⟨rfl, hP, hK⟩ := hv
  have hx := B.exec
  have hb := B.bytes
  have hr := B.returns
  have hts := atoms_spec (ws := wsX1_partOf) B.pre
  have hown : s.vm.findClass RX1 = some m.cls := findClass_of_methodNamed B.named
  have hlocks := B.notSynchronized
  have hl := lv_entry ([.ref a, .long z, .int x]) (n := 12) (Nat.le_of_ble_eq_true rfl)
  rw [lg_entry_eq]
  generalize (lg_sl ([.ref a, .long z, .int x]) ++ List.replicate (12 - (lg_sl ([.ref a, .long z, .int x])).length) Slot.unset).toArray = ls at hl ⊢
  have hl : lv_has ls 12 [(0, .ref a), (1, .long z), (3, .int x)] := hl
  have lk0 := hts (.fieldLink RX1 32 "ClaimRows$Item" "passed" "I") (List.mem_cons_of_mem _ wd_68)
  have lk1 := hts (.fieldLink RX1 35 "ClaimRows$Item" "sharesFrom" "I") (List.mem_cons_of_mem _ wd_70)
  have lk2 := hts (.fieldLink RX1 9 "ClaimRows$Item" "posts" "[I") (List.mem_cons_of_mem _ wd_67)
  have in0 : ∀ w ∈ u_ws RX1 TX1 9, w ∈ wsX1_partOf := fun w h => List.mem_cons_of_mem _ (wu_X1 w h)
  have hs : v6 - v7 = nI (k - w) := by rw [hk, hw]; exact pk_sub hwk
  have hsc : (v6 - v7).toNatClampNeg = k - w := by rw [hs]; exact nI_clamp (by omega)
  have hwc : v7.toNatClampNeg = w := by rw [hw]; exact nI_clamp (by omega)
  refine lv_aload_n hx hb dX1_partOf_0 rfl (lv_at hl 0 rfl) ?_
  refine hp_get (D := (dC, dI)) (ci := 1) (v := .int v6) (C := RX1) (T := TX1) (N := 9) hx hb hts in0 hown hK hP ha hf rfl 6 (by decide) lk0 (fun _ h9 => h9) rfl dX1_partOf_1 ?_
  refine lv_aload_n hx hb dX1_partOf_4 rfl (lv_at hl 0 rfl) ?_
  refine hp_get (D := (dC, dI)) (ci := 1) (v := .int v7) (C := RX1) (T := TX1) (N := 9) hx hb hts in0 hown hK hP ha hf rfl 7 (by decide) lk1 (fun _ h9 => h9) rfl dX1_partOf_5 ?_
  refine lv_isub hx hb dX1_partOf_8 ?_
  refine lv_istore (lv' := [(4, .int (v6 - v7)), (0, .ref a), (1, .long z), (3, .int x)]) hx hb dX1_partOf_9 hl (by decide) rfl (fun ls hl => ?_)
  refine lv_iload hx hb dX1_partOf_11 (lv_at hl 0 rfl) ?_
  refine lv_if_gt (tgt := 18) hx hb dX1_partOf_13 (by decide) (fun c13 => ?_) (fun c13 => ?_)
  · refine lv_lload_n hx hb dX1_partOf_18 rfl (lv_at hl 2 rfl) ?_
    refine lv_iload hx hb dX1_partOf_19 (lv_at hl 0 rfl) ?_
    refine lv_i2l (v := ((v6 - v7) : Int32).toInt64) hx hb dX1_partOf_21 rfl ?_
    refine lv_ldiv hx hb dX1_partOf_22 (po_nz hs (by omega) c13) ?_
    refine lv_lstore (lv' := [(5, .long (z / (((v6 - v7) : Int32).toInt64))), (4, .int (v6 - v7)), (0, .ref a), (1, .long z), (3, .int x)]) hx hb dX1_partOf_23 hl (by decide) rfl (fun ls hl => ?_)
    refine lv_lload_n hx hb dX1_partOf_25 rfl (lv_at hl 3 rfl) ?_
    refine lv_iload hx hb dX1_partOf_26 (lv_at hl 1 rfl) ?_
    refine lv_i2l (v := ((v6 - v7) : Int32).toInt64) hx hb dX1_partOf_28 rfl ?_
    refine lv_lrem hx hb dX1_partOf_29 (po_nz hs (by omega) c13) ?_
    refine lv_lstore (lv' := [(7, .long (z - (z / (((v6 - v7) : Int32).toInt64)) * (((v6 - v7) : Int32).toInt64))), (5, .long (z / (((v6 - v7) : Int32).toInt64))), (4, .int (v6 - v7)), (0, .ref a), (1, .long z), (3, .int x)]) hx hb dX1_partOf_30 hl (by decide) rfl (fun ls hl => ?_)
    refine lv_lconst (v := 0) hx hb dX1_partOf_32 (by decide) ?_
    refine lv_lstore (lv' := [(9, .long 0), (7, .long (z - (z / (((v6 - v7) : Int32).toInt64)) * (((v6 - v7) : Int32).toInt64))), (5, .long (z / (((v6 - v7) : Int32).toInt64))), (4, .int (v6 - v7)), (0, .ref a), (1, .long z), (3, .int x)]) hx hb dX1_partOf_33 hl (by decide) rfl (fun ls hl => ?_)
    refine lv_iconst (v := 0) hx hb dX1_partOf_35 (by decide) ?_
    refine lv_istore (lv' := [(11, .int 0), (9, .long 0), (7, .long (z - (z / (((v6 - v7) : Int32).toInt64)) * (((v6 - v7) : Int32).toInt64))), (5, .long (z / (((v6 - v7) : Int32).toInt64))), (4, .int (v6 - v7)), (0, .ref a), (1, .long z), (3, .int x)]) hx hb dX1_partOf_36 hl (by decide) rfl (fun ls hl => ?_)
    refine wl_R (Inv := fun j ls => lv_has ls 12 [(0, .ref a), (1, .long z), (3, .int x), (4, .int (v6 - v7)), (5, .long (z / (v6 - v7).toInt64)), (7, .long (z - z / (v6 - v7).toInt64 * (v6 - v7).toInt64)), (9, .long (sh_s g w (z / (v6 - v7).toInt64) (z - z / (v6 - v7).toInt64 * (v6 - v7).toInt64) x j)), (11, .int (nI j))] ∧ True) (N := (k - w)) (fun j ls hj hin ih => ?_) (fun ls hin => ?_) 0 ls (Nat.zero_le _) ⟨lv_sub hl [5, 6, 7, 4, 3, 2, 1, 0] rfl, trivial⟩
    · obtain ⟨hl, hin⟩ := hin
      refine lv_iload hx hb dX1_partOf_38 (lv_at hl 7 rfl) ?_
      refine lv_iload hx hb dX1_partOf_40 (lv_at hl 3 rfl) ?_
      refine lv_icmp_ge (tgt := 90) hx hb dX1_partOf_42 (by decide) (fun c42 => ?_) (fun c42 => ?_)
      · exact absurd c42 (by rw [hs]; exact nI_ge hj (by omega))
      · refine lv_aload_n hx hb dX1_partOf_45 rfl (lv_at hl 0 rfl) ?_
        refine hp_get (D := (dC, dI)) (ci := 1) (v := .ref pq) (C := RX1) (T := TX1) (N := 9) hx hb hts in0 hown hK hP ha hf rfl 5 (by decide) lk2 (fun _ h9 => h9) rfl dX1_partOf_46 ?_
        refine lv_aload_n hx hb dX1_partOf_49 rfl (lv_at hl 0 rfl) ?_
        refine hp_get (D := (dC, dI)) (ci := 1) (v := .int v7) (C := RX1) (T := TX1) (N := 9) hx hb hts in0 hown hK hP ha hf rfl 7 (by decide) lk1 (fun _ h9 => h9) rfl dX1_partOf_50 ?_
        refine lv_iload hx hb dX1_partOf_53 (lv_at hl 7 rfl) ?_
        refine lv_iadd hx hb dX1_partOf_55 ?_
        refine hp_iald hx hb hK hP hp 0 hg rfl (by rw [hw, nI_add]; exact vp_in_nI (by omega) (by decide)) dX1_partOf_56 ?_
        refine lv_iload_n hx hb dX1_partOf_57 rfl (lv_at hl 2 rfl) ?_
        refine lv_icmp_ne (tgt := 84) hx hb dX1_partOf_58 (by decide) (fun c58 => ?_) (fun c58 => ?_)
        · have hgx : (v7 + nI j).toNatClampNeg = w + j := by rw [hw, nI_add]; exact nI_clamp (by omega)
          rw [hgx] at c58
          have E9 : (if g (w + j) = x then (if (nI j).toInt64 < (z - z / (v6 - v7).toInt64 * (v6 - v7).toInt64) then sh_s g w (z / (v6 - v7).toInt64) (z - z / (v6 - v7).toInt64 * (v6 - v7).toInt64) x j + ((z / (v6 - v7).toInt64) + 1) else sh_s g w (z / (v6 - v7).toInt64) (z - z / (v6 - v7).toInt64 * (v6 - v7).toInt64) x j + (z / (v6 - v7).toInt64)) else sh_s g w (z / (v6 - v7).toInt64) (z - z / (v6 - v7).toInt64 * (v6 - v7).toInt64) x j) = sh_s g w (z / (v6 - v7).toInt64) (z - z / (v6 - v7).toInt64 * (v6 - v7).toInt64) x j := if_neg c58
          refine lv_iinc (v := ((nI j) + 1)) (lv' := [(11, .int ((nI j) + 1)), (0, .ref a), (1, .long z), (3, .int x), (4, .int (v6 - v7)), (5, .long (z / (v6 - v7).toInt64)), (7, .long (z - z / (v6 - v7).toInt64 * (v6 - v7).toInt64)), (9, .long (sh_s g w (z / (v6 - v7).toInt64) (z - z / (v6 - v7).toInt64 * (v6 - v7).toInt64) x j))]) hx hb dX1_partOf_84 hl (k := 7) rfl rfl (by decide) rfl (fun ls hl => ?_)
          refine lv_goto (tgt := 38) hx hb dX1_partOf_87 (by decide) ?_
          exact ih _ ⟨lv_sub hl [1, 2, 3, 4, 5, 6, 7, 0] (by rw [nI_succ j, sh_s, E9]; rfl), trivial⟩
        · have hgx : (v7 + nI j).toNatClampNeg = w + j := by rw [hw, nI_add]; exact nI_clamp (by omega)
          rw [hgx] at c58
          refine lv_lload hx hb dX1_partOf_61 (lv_at hl 6 rfl) ?_
          refine lv_iload hx hb dX1_partOf_63 (lv_at hl 7 rfl) ?_
          refine lv_i2l (v := ((nI j) : Int32).toInt64) hx hb dX1_partOf_65 rfl ?_
          refine lv_lload hx hb dX1_partOf_66 (lv_at hl 5 rfl) ?_
          refine W.lcmp hx hb dX1_partOf_68 ?_
          refine lv_if_ge (tgt := 79) hx hb dX1_partOf_69 (by decide) (fun c69 => ?_) (fun c69 => ?_)
          · have E9 : (if g (w + j) = x then (if (nI j).toInt64 < (z - z / (v6 - v7).toInt64 * (v6 - v7).toInt64) then sh_s g w (z / (v6 - v7).toInt64) (z - z / (v6 - v7).toInt64 * (v6 - v7).toInt64) x j + ((z / (v6 - v7).toInt64) + 1) else sh_s g w (z / (v6 - v7).toInt64) (z - z / (v6 - v7).toInt64 * (v6 - v7).toInt64) x j + (z / (v6 - v7).toInt64)) else sh_s g w (z / (v6 - v7).toInt64) (z - z / (v6 - v7).toInt64 * (v6 - v7).toInt64) x j) = sh_s g w (z / (v6 - v7).toInt64) (z - z / (v6 - v7).toInt64 * (v6 - v7).toInt64) x j + (z / (v6 - v7).toInt64) := by rw [if_pos c58, if_neg (Int64.not_lt.mpr (lc_ge.mp c69))]
            refine lv_lload hx hb dX1_partOf_79 (lv_at hl 4 rfl) ?_
            refine lv_ladd hx hb dX1_partOf_81 ?_
            refine lv_lstore (lv' := [(9, .long ((sh_s g w (z / (v6 - v7).toInt64) (z - z / (v6 - v7).toInt64 * (v6 - v7).toInt64) x j) + (z / (v6 - v7).toInt64))), (0, .ref a), (1, .long z), (3, .int x), (4, .int (v6 - v7)), (5, .long (z / (v6 - v7).toInt64)), (7, .long (z - z / (v6 - v7).toInt64 * (v6 - v7).toInt64)), (11, .int (nI j))]) hx hb dX1_partOf_82 hl (by decide) rfl (fun ls hl => ?_)
            refine lv_iinc (v := ((nI j) + 1)) (lv' := [(11, .int ((nI j) + 1)), (9, .long ((sh_s g w (z / (v6 - v7).toInt64) (z - z / (v6 - v7).toInt64 * (v6 - v7).toInt64) x j) + (z / (v6 - v7).toInt64))), (0, .ref a), (1, .long z), (3, .int x), (4, .int (v6 - v7)), (5, .long (z / (v6 - v7).toInt64)), (7, .long (z - z / (v6 - v7).toInt64 * (v6 - v7).toInt64))]) hx hb dX1_partOf_84 hl (k := 7) rfl rfl (by decide) rfl (fun ls hl => ?_)
            refine lv_goto (tgt := 38) hx hb dX1_partOf_87 (by decide) ?_
            exact ih _ ⟨lv_sub hl [2, 3, 4, 5, 6, 7, 1, 0] (by rw [nI_succ j, sh_s, E9]; rfl), trivial⟩
          · have E9 : (if g (w + j) = x then (if (nI j).toInt64 < (z - z / (v6 - v7).toInt64 * (v6 - v7).toInt64) then sh_s g w (z / (v6 - v7).toInt64) (z - z / (v6 - v7).toInt64 * (v6 - v7).toInt64) x j + ((z / (v6 - v7).toInt64) + 1) else sh_s g w (z / (v6 - v7).toInt64) (z - z / (v6 - v7).toInt64 * (v6 - v7).toInt64) x j + (z / (v6 - v7).toInt64)) else sh_s g w (z / (v6 - v7).toInt64) (z - z / (v6 - v7).toInt64 * (v6 - v7).toInt64) x j) = sh_s g w (z / (v6 - v7).toInt64) (z - z / (v6 - v7).toInt64 * (v6 - v7).toInt64) x j + ((z / (v6 - v7).toInt64) + 1) := by rw [if_pos c58, if_pos (Int64.not_le.mp (fun q => c69 (lc_ge.mpr q)))]
            refine lv_lload hx hb dX1_partOf_72 (lv_at hl 4 rfl) ?_
            refine lv_lconst (v := 1) hx hb dX1_partOf_74 (by decide) ?_
            refine lv_ladd hx hb dX1_partOf_75 ?_
            refine lv_goto (tgt := 81) hx hb dX1_partOf_76 (by decide) ?_
            refine lv_ladd hx hb dX1_partOf_81 ?_
            refine lv_lstore (lv' := [(9, .long ((sh_s g w (z / (v6 - v7).toInt64) (z - z / (v6 - v7).toInt64 * (v6 - v7).toInt64) x j) + ((z / (v6 - v7).toInt64) + 1))), (0, .ref a), (1, .long z), (3, .int x), (4, .int (v6 - v7)), (5, .long (z / (v6 - v7).toInt64)), (7, .long (z - z / (v6 - v7).toInt64 * (v6 - v7).toInt64)), (11, .int (nI j))]) hx hb dX1_partOf_82 hl (by decide) rfl (fun ls hl => ?_)
            refine lv_iinc (v := ((nI j) + 1)) (lv' := [(11, .int ((nI j) + 1)), (9, .long ((sh_s g w (z / (v6 - v7).toInt64) (z - z / (v6 - v7).toInt64 * (v6 - v7).toInt64) x j) + ((z / (v6 - v7).toInt64) + 1))), (0, .ref a), (1, .long z), (3, .int x), (4, .int (v6 - v7)), (5, .long (z / (v6 - v7).toInt64)), (7, .long (z - z / (v6 - v7).toInt64 * (v6 - v7).toInt64))]) hx hb dX1_partOf_84 hl (k := 7) rfl rfl (by decide) rfl (fun ls hl => ?_)
            refine lv_goto (tgt := 38) hx hb dX1_partOf_87 (by decide) ?_
            exact ih _ ⟨lv_sub hl [2, 3, 4, 5, 6, 7, 1, 0] (by rw [nI_succ j, sh_s, E9]; rfl), trivial⟩
    · obtain ⟨hl, hin⟩ := hin
      refine lv_iload hx hb dX1_partOf_38 (lv_at hl 7 rfl) ?_
      refine lv_iload hx hb dX1_partOf_40 (lv_at hl 3 rfl) ?_
      refine lv_icmp_ge (tgt := 90) hx hb dX1_partOf_42 (by decide) (fun c42 => ?_) (fun c42 => ?_)
      · refine lv_lload hx hb dX1_partOf_90 (lv_at hl 6 rfl) ?_
        exact W.lret (v := (sh_s g w (z / (v6 - v7).toInt64) (z - z / (v6 - v7).toInt64 * (v6 - v7).toInt64) x (k - w))) hx hb hr (fun t ht hW => ⟨(sh_s g w (z / (v6 - v7).toInt64) (z - z / (v6 - v7).toInt64 * (v6 - v7).toInt64) x (k - w)), rfl, (by rw [if_pos c13, hsc, hwc]), ht⟩) (fun q h => by cases h) dX1_partOf_92
      · exact absurd (by rw [hs]; exact nI_le (Nat.le_refl _) (by omega)) c42
  · refine lv_lconst (v := 0) hx hb dX1_partOf_16 (by decide) ?_
    exact W.lret (v := 0) hx hb hr (fun t ht hW => ⟨0, rfl, (by rw [if_neg (fun q => c13 q)]), ht⟩) (fun q h => by cases h) dX1_partOf_17
end
section
set_option maxHeartbeats 4000000 in
set_option maxRecDepth 100000 in
/-- mt_itemNumbered -/
theorem mt_itemNumbered (l : Launch) (dC : Nat → ClassId) (dI : Nat → Nat → Nat) (cA : Nat → ClassId) (Q : Nat → Nat) (σ : xs_T) (n : nn_T) (co : co_T) (L : List Nat) (f : Nat → va_E) (ad : ad_T) (hR : re_A cA σ n co L f ad) (x : Int32) : Met l yX3_itemNumbered wsX3_itemNumbered ({ frames := 1, cells := 0, slots := 0, locals := 25 }) (va_Pc [.ref (Q 0), .int x] (ct_R (dC, dI) vwCl (ty_K cA) (xc_W Q cA σ ++ va_pl L f))) (va_Sq (fun r => (∃ j : Nat, j < n.1 ∧ na_m x (σ.1 0) = some j ∧ x = nI (j + 1) ∧ r = some (ad.1 j)) ∨ (na_m x (σ.1 0) = none ∧ r = none))) 0 0 (fun _ => False) := by
  refine Met.ofW (cc := cX3_itemNumbered) (maxL := 2) (ret := (some (.object "ClaimRows$Item"))) (by decide) rfl ?_
  intro p e s m args below meth c s₁ B hml hv
  obtain ⟨rfl, hP, hK⟩ := hv
  have hx := B.exec
  have hb := B.bytes
  have hr := B.returns
  have hts := atoms_spec (ws := wsX3_itemNumbered) B.pre
  have hown : s.vm.findClass RX3 = some m.cls := findClass_of_methodNamed B.named
  have hlocks := B.notSynchronized
  have hl := lv_entry ([.ref (Q 0), .int x]) (n := 2) (Nat.le_of_ble_eq_true rfl)
  rw [lg_entry_eq]
  generalize (lg_sl ([.ref (Q 0), .int x]) ++ List.replicate (2 - (lg_sl ([.ref (Q 0), .int x])).length) Slot.unset).toArray = ls at hl ⊢
  have hl : lv_has ls 2 [(0, .ref (Q 0)), (1, .int x)] := hl
  have lk0 := hts (.fieldLink RX3 58 "ClaimRows" "itemCount" "I") (List.mem_cons_of_mem _ wd_20)
  have lk1 := hts (.fieldLink RX3 11 "ClaimRows" "items" "[LClaimRows$Item;") (List.mem_cons_of_mem _ wd_19)
  have in0 : ∀ w ∈ u_ws RX3 TX3 16, w ∈ wsX3_itemNumbered := fun w h => List.mem_cons_of_mem _ (wu_X3 w h)
  refine lv_iload_n hx hb dX3_itemNumbered_0 rfl (lv_at hl 1 rfl) ?_
  refine lv_i2l (v := (x : Int32).toInt64) hx hb dX3_itemNumbered_1 rfl ?_
  refine lv_lconst (v := 1) hx hb dX3_itemNumbered_2 (by decide) ?_
  refine lv_aload_n hx hb dX3_itemNumbered_3 rfl (lv_at hl 0 rfl) ?_
  refine va_get (D := (dC, dI)) (ci := 3) (v := .int (σ.1 0)) (C := RX3) (T := TX3) (N := 16) hx hb hts in0 hown hK hP 0 (xc_W_0 _ _) rfl 1 (by decide) lk0 (fun _ h9 => h9) rfl dX3_itemNumbered_4 ?_
  refine lv_i2l (v := ((σ.1 0) : Int32).toInt64) hx hb dX3_itemNumbered_7 rfl ?_
  refine vp_callSi (va_Run.run (va_runS (As := [.long ((x : Int32).toInt64), .long 1, .long (((σ.1 0) : Int32).toInt64)]) (rest := []) ⟨hx, hb, hml, hown, hts⟩ (mt_isWithin l ((x : Int32).toInt64) 1 (((σ.1 0) : Int32).toInt64)) (va_cwS 3 hts (al_gS wd_48 wd_49 wd_1 wd_50) rfl rfl rfl (by decide +kernel) ⟨Nat.le_of_ble_eq_true rfl, Nat.le_of_ble_eq_true rfl⟩) ⟨ct_bl0, ct_at0⟩ rfl rfl hl.1 rfl (lv_room (Nat.le_of_ble_eq_true rfl)) dX3_itemNumbered_8 ⟨Nat.le_of_ble_eq_true rfl, Nat.le_of_ble_eq_true rfl⟩)) (fun r8 hr8 => ?_)
  subst hr8
  refine lv_if_eq (tgt := 25) hx hb dX3_itemNumbered_11 (by decide) (fun c11 => ?_) (fun c11 => ?_)
  · have c11 := of_decide_eq_false (bb_0.mp c11)
    refine lv_null hx hb dX3_itemNumbered_25 ?_
    exact W.aret (v := .null) hx hb hr (Or.inl ⟨_, rfl⟩) (Or.inl rfl) (fun t ht hW => ⟨none, rfl, (Or.inr ⟨nu_f c11, rfl⟩), ht⟩) (fun q h => by cases h) dX3_itemNumbered_26
  · have c11 := of_decide_eq_true (bb_n.mp c11)
    refine lv_aload_n hx hb dX3_itemNumbered_14 rfl (lv_at hl 0 rfl) ?_
    refine va_get (D := (dC, dI)) (ci := 3) (v := .ref (Q 1)) (C := RX3) (T := TX3) (N := 16) hx hb hts in0 hown hK hP 0 (xc_W_0 _ _) rfl 0 (by decide) lk1 (fun _ h9 => h9) rfl dX3_itemNumbered_15 ?_
    refine lv_iload_n hx hb dX3_itemNumbered_18 rfl (lv_at hl 1 rfl) ?_
    refine lv_iconst (v := 1) hx hb dX3_itemNumbered_19 (by decide) ?_
    refine lv_isub hx hb dX3_itemNumbered_20 ?_
    refine va_aldq hx hb hK hP 1 3 (xc_W_1 _ _) rfl (nu_in hR.1.1 (by have := hR.1.2.1; omega) (by decide) c11) dX3_itemNumbered_21 ?_
    refine lv_goto (tgt := 26) hx hb dX3_itemNumbered_22 (by decide) ?_
    exact W.aret (v := va_rf ((σ.2.2.2.2 0) ((x - 1)).toNatClampNeg)) hx hb hr (Or.inl ⟨_, rfl⟩) (va_rf_or _) (fun t ht hW => ⟨((σ.2.2.2.2 0) ((x - 1)).toNatClampNeg), rfl, (by obtain ⟨j, h1, h2, h3, h4⟩ := nu_t hR.1.1 (by have := hR.1.2.1; omega) c11; exact Or.inl ⟨j, h1, h2, h3, by rw [h4]; exact (hR.2.1 j h1).1⟩), ht⟩) (fun q h => by cases h) dX3_itemNumbered_26
set_option maxHeartbeats 4000000 in
set_option maxRecDepth 100000 in
/-- mt_claimNumbered -/
theorem mt_claimNumbered (l : Launch) (dC : Nat → ClassId) (dI : Nat → Nat → Nat) (cA : Nat → ClassId) (Q : Nat → Nat) (σ : xs_T) (n : nn_T) (co : co_T) (L : List Nat) (f : Nat → va_E) (ad : ad_T) (hR : re_A cA σ n co L f ad) (x : Int32) : Met l yX3_claimNumbered wsX3_claimNumbered ({ frames := 1, cells := 0, slots := 0, locals := 25 }) (va_Pc [.ref (Q 0), .int x] (ct_R (dC, dI) vwCl (ty_K cA) (xc_W Q cA σ ++ va_pl L f))) (va_Sq (fun r => (∃ j : Nat, j < n.2.1 ∧ na_m x (σ.1 1) = some j ∧ x = nI (j + 1) ∧ r = some (ad.2.2.1 j)) ∨ (na_m x (σ.1 1) = none ∧ r = none))) 0 0 (fun _ => False) := by
  refine Met.ofW (cc := cX3_claimNumbered) (maxL := 2) (ret := (some (.object "ClaimRows$Claim"))) (by decide) rfl ?_
  intro p e s m args below meth c s₁ B hml hv
  obtain ⟨rfl, hP, hK⟩ := hv
  have hx := B.exec
  have hb := B.bytes
  have hr := B.returns
  have hts := atoms_spec (ws := wsX3_claimNumbered) B.pre
  have hown : s.vm.findClass RX3 = some m.cls := findClass_of_methodNamed B.named
  have hlocks := B.notSynchronized
  have hl := lv_entry ([.ref (Q 0), .int x]) (n := 2) (Nat.le_of_ble_eq_true rfl)
  rw [lg_entry_eq]
  generalize (lg_sl ([.ref (Q 0), .int x]) ++ List.replicate (2 - (lg_sl ([.ref (Q 0), .int x])).length) Slot.unset).toArray = ls at hl ⊢
  have hl : lv_has ls 2 [(0, .ref (Q 0)), (1, .int x)] := hl
  have lk0 := hts (.fieldLink RX3 99 "ClaimRows" "claimCount" "I") (List.mem_cons_of_mem _ wd_22)
  have lk1 := hts (.fieldLink RX3 17 "ClaimRows" "claims" "[LClaimRows$Claim;") (List.mem_cons_of_mem _ wd_21)
  have in0 : ∀ w ∈ u_ws RX3 TX3 16, w ∈ wsX3_claimNumbered := fun w h => List.mem_cons_of_mem _ (wu_X3 w h)
  refine lv_iload_n hx hb dX3_claimNumbered_0 rfl (lv_at hl 1 rfl) ?_
  refine lv_i2l (v := (x : Int32).toInt64) hx hb dX3_claimNumbered_1 rfl ?_
  refine lv_lconst (v := 1) hx hb dX3_claimNumbered_2 (by decide) ?_
  refine lv_aload_n hx hb dX3_claimNumbered_3 rfl (lv_at hl 0 rfl) ?_
  refine va_get (D := (dC, dI)) (ci := 3) (v := .int (σ.1 1)) (C := RX3) (T := TX3) (N := 16) hx hb hts in0 hown hK hP 0 (xc_W_0 _ _) rfl 3 (by decide) lk0 (fun _ h9 => h9) rfl dX3_claimNumbered_4 ?_
  refine lv_i2l (v := ((σ.1 1) : Int32).toInt64) hx hb dX3_claimNumbered_7 rfl ?_
  refine vp_callSi (va_Run.run (va_runS (As := [.long ((x : Int32).toInt64), .long 1, .long (((σ.1 1) : Int32).toInt64)]) (rest := []) ⟨hx, hb, hml, hown, hts⟩ (mt_isWithin l ((x : Int32).toInt64) 1 (((σ.1 1) : Int32).toInt64)) (va_cwS 3 hts (al_gS wd_48 wd_49 wd_1 wd_50) rfl rfl rfl (by decide +kernel) ⟨Nat.le_of_ble_eq_true rfl, Nat.le_of_ble_eq_true rfl⟩) ⟨ct_bl0, ct_at0⟩ rfl rfl hl.1 rfl (lv_room (Nat.le_of_ble_eq_true rfl)) dX3_claimNumbered_8 ⟨Nat.le_of_ble_eq_true rfl, Nat.le_of_ble_eq_true rfl⟩)) (fun r8 hr8 => ?_)
  subst hr8
  refine lv_if_eq (tgt := 25) hx hb dX3_claimNumbered_11 (by decide) (fun c11 => ?_) (fun c11 => ?_)
  · have c11 := of_decide_eq_false (bb_0.mp c11)
    refine lv_null hx hb dX3_claimNumbered_25 ?_
    exact W.aret (v := .null) hx hb hr (Or.inl ⟨_, rfl⟩) (Or.inl rfl) (fun t ht hW => ⟨none, rfl, (Or.inr ⟨nu_f c11, rfl⟩), ht⟩) (fun q h => by cases h) dX3_claimNumbered_26
  · have c11 := of_decide_eq_true (bb_n.mp c11)
    refine lv_aload_n hx hb dX3_claimNumbered_14 rfl (lv_at hl 0 rfl) ?_
    refine va_get (D := (dC, dI)) (ci := 3) (v := .ref (Q 2)) (C := RX3) (T := TX3) (N := 16) hx hb hts in0 hown hK hP 0 (xc_W_0 _ _) rfl 2 (by decide) lk1 (fun _ h9 => h9) rfl dX3_claimNumbered_15 ?_
    refine lv_iload_n hx hb dX3_claimNumbered_18 rfl (lv_at hl 1 rfl) ?_
    refine lv_iconst (v := 1) hx hb dX3_claimNumbered_19 (by decide) ?_
    refine lv_isub hx hb dX3_claimNumbered_20 ?_
    refine va_aldq hx hb hK hP 2 4 (xc_W_2 _ _) rfl (nu_in hR.1.2.2.1 (by have := hR.1.2.2.2.1; omega) (by decide) c11) dX3_claimNumbered_21 ?_
    refine lv_goto (tgt := 26) hx hb dX3_claimNumbered_22 (by decide) ?_
    exact W.aret (v := va_rf ((σ.2.2.2.2 1) ((x - 1)).toNatClampNeg)) hx hb hr (Or.inl ⟨_, rfl⟩) (va_rf_or _) (fun t ht hW => ⟨((σ.2.2.2.2 1) ((x - 1)).toNatClampNeg), rfl, (by obtain ⟨j, h1, h2, h3, h4⟩ := nu_t hR.1.2.2.1 (by have := hR.1.2.2.2.1; omega) c11; exact Or.inl ⟨j, h1, h2, h3, by rw [h4]; exact (hR.2.2.1 j h1).1⟩), ht⟩) (fun q h => by cases h) dX3_claimNumbered_26
set_option maxHeartbeats 4000000 in
set_option maxRecDepth 100000 in
/-- mt_searchNumbered -/
theorem mt_searchNumbered (l : Launch) (dC : Nat → ClassId) (dI : Nat → Nat → Nat) (cA : Nat → ClassId) (Q : Nat → Nat) (σ : xs_T) (n : nn_T) (co : co_T) (L : List Nat) (f : Nat → va_E) (ad : ad_T) (hR : re_A cA σ n co L f ad) (x : Int32) : Met l yX3_searchNumbered wsX3_searchNumbered ({ frames := 1, cells := 0, slots := 0, locals := 25 }) (va_Pc [.ref (Q 0), .int x] (ct_R (dC, dI) vwCl (ty_K cA) (xc_W Q cA σ ++ va_pl L f))) (va_Sq (fun r => (∃ j : Nat, j < n.2.2.1 ∧ na_m x (σ.1 2) = some j ∧ x = nI (j + 1) ∧ r = some (ad.2.2.2 j)) ∨ (na_m x (σ.1 2) = none ∧ r = none))) 0 0 (fun _ => False) := by
  refine Met.ofW (cc := cX3_searchNumbered) (maxL := 2) (ret := (some (.object "ClaimRows$Search"))) (by decide) rfl ?_
  intro p e s m args below meth c s₁ B hml hv
  obtain ⟨rfl, hP, hK⟩ := hv
  have hx := B.exec
  have hb := B.bytes
  have hr := B.returns
  have hts := atoms_spec (ws := wsX3_searchNumbered) B.pre
  have hown : s.vm.findClass RX3 = some m.cls := findClass_of_methodNamed B.named
  have hlocks := B.notSynchronized
  have hl := lv_entry ([.ref (Q 0), .int x]) (n := 2) (Nat.le_of_ble_eq_true rfl)
  rw [lg_entry_eq]
  generalize (lg_sl ([.ref (Q 0), .int x]) ++ List.replicate (2 - (lg_sl ([.ref (Q 0), .int x])).length) Slot.unset).toArray = ls at hl ⊢
  have hl : lv_has ls 2 [(0, .ref (Q 0)), (1, .int x)] := hl
  have lk0 := hts (.fieldLink RX3 137 "ClaimRows" "searchCount" "I") (List.mem_cons_of_mem _ wd_24)
  have lk1 := hts (.fieldLink RX3 23 "ClaimRows" "searches" "[LClaimRows$Search;") (List.mem_cons_of_mem _ wd_23)
  have in0 : ∀ w ∈ u_ws RX3 TX3 16, w ∈ wsX3_searchNumbered := fun w h => List.mem_cons_of_mem _ (wu_X3 w h)
  refine lv_iload_n hx hb dX3_searchNumbered_0 rfl (lv_at hl 1 rfl) ?_
  refine lv_i2l (v := (x : Int32).toInt64) hx hb dX3_searchNumbered_1 rfl ?_
  refine lv_lconst (v := 1) hx hb dX3_searchNumbered_2 (by decide) ?_
  refine lv_aload_n hx hb dX3_searchNumbered_3 rfl (lv_at hl 0 rfl) ?_
  refine va_get (D := (dC, dI)) (ci := 3) (v := .int (σ.1 2)) (C := RX3) (T := TX3) (N := 16) hx hb hts in0 hown hK hP 0 (xc_W_0 _ _) rfl 5 (by decide) lk0 (fun _ h9 => h9) rfl dX3_searchNumbered_4 ?_
  refine lv_i2l (v := ((σ.1 2) : Int32).toInt64) hx hb dX3_searchNumbered_7 rfl ?_
  refine vp_callSi (va_Run.run (va_runS (As := [.long ((x : Int32).toInt64), .long 1, .long (((σ.1 2) : Int32).toInt64)]) (rest := []) ⟨hx, hb, hml, hown, hts⟩ (mt_isWithin l ((x : Int32).toInt64) 1 (((σ.1 2) : Int32).toInt64)) (va_cwS 3 hts (al_gS wd_48 wd_49 wd_1 wd_50) rfl rfl rfl (by decide +kernel) ⟨Nat.le_of_ble_eq_true rfl, Nat.le_of_ble_eq_true rfl⟩) ⟨ct_bl0, ct_at0⟩ rfl rfl hl.1 rfl (lv_room (Nat.le_of_ble_eq_true rfl)) dX3_searchNumbered_8 ⟨Nat.le_of_ble_eq_true rfl, Nat.le_of_ble_eq_true rfl⟩)) (fun r8 hr8 => ?_)
  subst hr8
  refine lv_if_eq (tgt := 25) hx hb dX3_searchNumbered_11 (by decide) (fun c11 => ?_) (fun c11 => ?_)
  · have c11 := of_decide_eq_false (bb_0.mp c11)
    refine lv_null hx hb dX3_searchNumbered_25 ?_
    exact W.aret (v := .null) hx hb hr (Or.inl ⟨_, rfl⟩) (Or.inl rfl) (fun t ht hW => ⟨none, rfl, (Or.inr ⟨nu_f c11, rfl⟩), ht⟩) (fun q h => by cases h) dX3_searchNumbered_26
  · have c11 := of_decide_eq_true (bb_n.mp c11)
    refine lv_aload_n hx hb dX3_searchNumbered_14 rfl (lv_at hl 0 rfl) ?_
    refine va_get (D := (dC, dI)) (ci := 3) (v := .ref (Q 3)) (C := RX3) (T := TX3) (N := 16) hx hb hts in0 hown hK hP 0 (xc_W_0 _ _) rfl 4 (by decide) lk1 (fun _ h9 => h9) rfl dX3_searchNumbered_15 ?_
    refine lv_iload_n hx hb dX3_searchNumbered_18 rfl (lv_at hl 1 rfl) ?_
    refine lv_iconst (v := 1) hx hb dX3_searchNumbered_19 (by decide) ?_
    refine lv_isub hx hb dX3_searchNumbered_20 ?_
    refine va_aldq hx hb hK hP 3 5 (xc_W_3 _ _) rfl (nu_in hR.1.2.2.2.2.1 (by have := hR.1.2.2.2.2.2.1; omega) (by decide) c11) dX3_searchNumbered_21 ?_
    refine lv_goto (tgt := 26) hx hb dX3_searchNumbered_22 (by decide) ?_
    exact W.aret (v := va_rf ((σ.2.2.2.2 2) ((x - 1)).toNatClampNeg)) hx hb hr (Or.inl ⟨_, rfl⟩) (va_rf_or _) (fun t ht hW => ⟨((σ.2.2.2.2 2) ((x - 1)).toNatClampNeg), rfl, (by obtain ⟨j, h1, h2, h3, h4⟩ := nu_t hR.1.2.2.2.2.1 (by have := hR.1.2.2.2.2.2.1; omega) c11; exact Or.inl ⟨j, h1, h2, h3, by rw [h4]; exact (hR.2.2.2.1 j h1).1⟩), ht⟩) (fun q h => by cases h) dX3_searchNumbered_26
set_option maxHeartbeats 4000000 in
set_option maxRecDepth 100000 in
/-- mt_send -/
theorem mt_send (l : Launch) (dC : Nat → ClassId) (dI : Nat → Nat → Nat) (cA : Nat → ClassId) (sz : Nat) (Q : Nat → Nat) (σ : xs_T) (L : List Nat) (f : Nat → va_E) (mq : Nat) (hm : σ.1 3 = nI mq) (hb9 : mq < 1000000) (x k : Int32) : Met l yX3_send wsX3_send ({ frames := 0, cells := 0, slots := 0, locals := 0 }) (va_Pc [.ref (Q 0), .int x, .int k] (ct_M (dC, dI) vwCl (ty_K cA) (xc_W Q cA σ ++ va_pl L f) sz)) (va_Qv (fun u => u = (se_nd σ x k, L, f)) (fun u t => ct_B (dC, dI) vwCl (ty_K cA) (va_A (xc_W Q cA σ ++ va_pl L f) sz) (xc_W Q cA u.1 ++ va_pl u.2.1 u.2.2) t) (va_A (xc_W Q cA σ ++ va_pl L f) sz)) 0 0 (va_A (xc_W Q cA σ ++ va_pl L f) sz) := by
  refine Met.ofW (cc := cX3_send) (maxL := 3) (ret := none) (by decide) rfl ?_
  intro p e s m args below meth c s₁ B hml hv
  obtain ⟨rfl, hsz, hP, hK, hD0⟩ := hv
  have hx := B.exec
  have hb := B.bytes
  have hr := B.returns
  have hts := atoms_spec (ws := wsX3_send) B.pre
  have hown : s.vm.findClass RX3 = some m.cls := findClass_of_methodNamed B.named
  have hlocks := B.notSynchronized
  subst hsz
  have hD := hD0.self (sz := s.heap.size)
  generalize hAe : va_A (xc_W Q cA σ ++ va_pl L f) s.heap.size = A at hD ⊢
  have hA : ∀ q : Nat, s.heap.size ≤ q → A q := fun q h => by rw [← hAe]; exact Or.inr h
  clear hAe hD0
  have hS : va_S A s.heap s.heap [] := va_S.rf
  have hl := lv_entry ([.ref (Q 0), .int x, .int k]) (n := 3) (Nat.le_of_ble_eq_true rfl)
  rw [lg_entry_eq]
  generalize (lg_sl ([.ref (Q 0), .int x, .int k]) ++ List.replicate (3 - (lg_sl ([.ref (Q 0), .int x, .int k])).length) Slot.unset).toArray = ls at hl ⊢
  have hl : lv_has ls 3 [(0, .ref (Q 0)), (1, .int x), (2, .int k)] := hl
  have lk0 := hts (.fieldLink RX3 222 "ClaimRows" "letterCount" "I") (List.mem_cons_of_mem _ wd_30)
  have lk1 := hts (.fieldLink RX3 38 "ClaimRows" "letterClaims" "[I") (List.mem_cons_of_mem _ wd_28)
  have lk2 := hts (.fieldLink RX3 41 "ClaimRows" "letterKinds" "[I") (List.mem_cons_of_mem _ wd_29)
  have in0 : ∀ w ∈ u_ws RX3 TX3 16, w ∈ wsX3_send := fun w h => List.mem_cons_of_mem _ (wu_X3 w h)
  refine lv_aload_n hx hb dX3_send_0 rfl (lv_at hl 0 rfl) ?_
  refine va_get (D := (dC, dI)) (ci := 3) (v := .int (σ.1 3)) (C := RX3) (T := TX3) (N := 16) hx hb hts in0 hown hK hP 0 (xc_W_0 _ _) rfl 11 (by decide) lk0 (fun _ h9 => h9) rfl dX3_send_1 ?_
  refine lv_sipush (v := 200) hx hb dX3_send_4 (by decide) ?_
  refine lv_icmp_ge (tgt := 30) hx hb dX3_send_7 (by decide) (fun c7 => ?_) (fun c7 => ?_)
  · refine lv_aload_n hx hb dX3_send_30 rfl (lv_at hl 0 rfl) ?_
    refine lv_dup hx hb dX3_send_31 rfl ?_
    refine va_get (D := (dC, dI)) (ci := 3) (v := .int (σ.1 3)) (C := RX3) (T := TX3) (N := 16) hx hb hts in0 hown hK hP 0 (xc_W_0 _ _) rfl 11 (by decide) lk0 (fun _ h9 => h9) rfl dX3_send_32 ?_
    refine lv_iconst (v := 1) hx hb dX3_send_35 (by decide) ?_
    refine lv_iadd hx hb dX3_send_36 ?_
    refine va_put (D := (dC, dI)) (ci := 3) (v := .int ((σ.1 3) + 1)) (ty := .int) (C := RX3) (T := TX3) (N := 16) hx hb hts in0 tyX3 tyX3_ok nmX3 hown hK hP hD hS 0 (xc_W_0 _ _) rfl 11 (by decide) lk0 (fun _ h9 => h9) rfl (by decide +kernel) rfl rfl (Nat.le_of_ble_eq_true rfl) dX3_send_37 (fun H locs hP hD hS => ?_)
    have hP : va_P (dC, dI) vwCl (xc_W Q cA (xs_i σ 3 ((σ.1 3) + 1)) ++ va_pl L f) H := hP
    have hD : va_D A (xc_W Q cA (xs_i σ 3 ((σ.1 3) + 1)) ++ va_pl L f) := hD
    exact W.vret hx hb hr (fun t ht hW => ⟨⟨(xs_i σ 3 ((σ.1 3) + 1), L, f), rfl, (by rw [se_nd, if_neg (Int32.not_lt.mpr c7)]), by rw [ht]; exact hP, va_K.moved hW.alike hK, hD⟩, hS.F ht⟩) hS.2.2 dX3_send_40
  · refine lv_aload_n hx hb dX3_send_10 rfl (lv_at hl 0 rfl) ?_
    refine va_get (D := (dC, dI)) (ci := 3) (v := .ref (Q 7)) (C := RX3) (T := TX3) (N := 16) hx hb hts in0 hown hK hP 0 (xc_W_0 _ _) rfl 9 (by decide) lk1 (fun _ h9 => h9) rfl dX3_send_11 ?_
    refine lv_aload_n hx hb dX3_send_14 rfl (lv_at hl 0 rfl) ?_
    refine va_get (D := (dC, dI)) (ci := 3) (v := .int (σ.1 3)) (C := RX3) (T := TX3) (N := 16) hx hb hts in0 hown hK hP 0 (xc_W_0 _ _) rfl 11 (by decide) lk0 (fun _ h9 => h9) rfl dX3_send_15 ?_
    refine lv_iload_n hx hb dX3_send_18 rfl (lv_at hl 1 rfl) ?_
    refine va_iast hx hb hK hP hD hS 7 0 (xc_W_7 _ _) rfl (sd_in hm hb9 c7) dX3_send_19 (fun H locs hP hD hS => ?_)
    have hP : va_P (dC, dI) vwCl (xc_W Q cA (xs_ai σ 1 (upd (σ.2.2.1 1) ((σ.1 3)).toNatClampNeg x)) ++ va_pl L f) H := hP
    have hD : va_D A (xc_W Q cA (xs_ai σ 1 (upd (σ.2.2.1 1) ((σ.1 3)).toNatClampNeg x)) ++ va_pl L f) := hD
    refine lv_aload_n hx hb dX3_send_20 rfl (lv_at hl 0 rfl) ?_
    refine va_get (D := (dC, dI)) (ci := 3) (v := .ref (Q 8)) (C := RX3) (T := TX3) (N := 16) hx hb hts in0 hown hK hP 0 (xc_W_0 _ _) rfl 10 (by decide) lk2 (fun _ h9 => h9) rfl dX3_send_21 ?_
    refine lv_aload_n hx hb dX3_send_24 rfl (lv_at hl 0 rfl) ?_
    refine va_get (D := (dC, dI)) (ci := 3) (v := .int (σ.1 3)) (C := RX3) (T := TX3) (N := 16) hx hb hts in0 hown hK hP 0 (xc_W_0 _ _) rfl 11 (by decide) lk0 (fun _ h9 => h9) rfl dX3_send_25 ?_
    refine lv_iload_n hx hb dX3_send_28 rfl (lv_at hl 2 rfl) ?_
    refine va_iast hx hb hK hP hD hS 8 0 (xc_W_8 _ _) rfl (sd_in hm hb9 c7) dX3_send_29 (fun H locs hP hD hS => ?_)
    have hP : va_P (dC, dI) vwCl (xc_W Q cA (xs_ai (xs_ai σ 1 (upd (σ.2.2.1 1) ((σ.1 3)).toNatClampNeg x)) 2 (upd (σ.2.2.1 2) ((σ.1 3)).toNatClampNeg k)) ++ va_pl L f) H := hP
    have hD : va_D A (xc_W Q cA (xs_ai (xs_ai σ 1 (upd (σ.2.2.1 1) ((σ.1 3)).toNatClampNeg x)) 2 (upd (σ.2.2.1 2) ((σ.1 3)).toNatClampNeg k)) ++ va_pl L f) := hD
    refine lv_aload_n hx hb dX3_send_30 rfl (lv_at hl 0 rfl) ?_
    refine lv_dup hx hb dX3_send_31 rfl ?_
    refine va_get (D := (dC, dI)) (ci := 3) (v := .int (σ.1 3)) (C := RX3) (T := TX3) (N := 16) hx hb hts in0 hown hK hP 0 (xc_W_0 _ _) rfl 11 (by decide) lk0 (fun _ h9 => h9) rfl dX3_send_32 ?_
    refine lv_iconst (v := 1) hx hb dX3_send_35 (by decide) ?_
    refine lv_iadd hx hb dX3_send_36 ?_
    refine va_put (D := (dC, dI)) (ci := 3) (v := .int ((σ.1 3) + 1)) (ty := .int) (C := RX3) (T := TX3) (N := 16) hx hb hts in0 tyX3 tyX3_ok nmX3 hown hK hP hD hS 0 (xc_W_0 _ _) rfl 11 (by decide) lk0 (fun _ h9 => h9) rfl (by decide +kernel) rfl rfl (Nat.le_of_ble_eq_true rfl) dX3_send_37 (fun H locs hP hD hS => ?_)
    have hP : va_P (dC, dI) vwCl (xc_W Q cA (xs_i (xs_ai (xs_ai σ 1 (upd (σ.2.2.1 1) ((σ.1 3)).toNatClampNeg x)) 2 (upd (σ.2.2.1 2) ((σ.1 3)).toNatClampNeg k)) 3 ((σ.1 3) + 1)) ++ va_pl L f) H := hP
    have hD : va_D A (xc_W Q cA (xs_i (xs_ai (xs_ai σ 1 (upd (σ.2.2.1 1) ((σ.1 3)).toNatClampNeg x)) 2 (upd (σ.2.2.1 2) ((σ.1 3)).toNatClampNeg k)) 3 ((σ.1 3) + 1)) ++ va_pl L f) := hD
    exact W.vret hx hb hr (fun t ht hW => ⟨⟨(xs_i (xs_ai (xs_ai σ 1 (upd (σ.2.2.1 1) ((σ.1 3)).toNatClampNeg x)) 2 (upd (σ.2.2.1 2) ((σ.1 3)).toNatClampNeg k)) 3 ((σ.1 3) + 1), L, f), rfl, (by rw [se_nd, if_pos (Int32.not_le.mp c7)]), by rw [ht]; exact hP, va_K.moved hW.alike hK, hD⟩, hS.F ht⟩) hS.2.2 dX3_send_40
end
section
set_option maxHeartbeats 4000000 in
set_option maxRecDepth 100000 in
/-- mt_standingClaim -/
theorem mt_standingClaim (l : Launch) (dC : Nat → ClassId) (dI : Nat → Nat → Nat) (cA : Nat → ClassId) (Q : Nat → Nat) (σ : xs_T) (n : nn_T) (co : co_T) (L : List Nat) (f : Nat → va_E) (ad : ad_T) (hR : re_A cA σ n co L f ad) (x kd : Int32) : Met l yX3_standingClaim wsX3_standingClaim ({ frames := 2, cells := 0, slots := 0, locals := 46 }) (va_Pc [.ref (Q 0), .int x, .int kd] (ct_R (dC, dI) vwCl (ty_K cA) (xc_W Q cA σ ++ va_pl L f))) (va_Sq (fun r => (∃ j : Nat, j < n.2.1 ∧ st_cl co x kd n.2.1 0 = some j ∧ r = some (ad.2.2.1 j)) ∨ (st_cl co x kd n.2.1 0 = none ∧ r = none))) 0 0 (fun _ => False) := by
  refine Met.ofW (cc := cX3_standingClaim) (maxL := 5) (ret := (some (.object "ClaimRows$Claim"))) (by decide) rfl ?_
  intro p e s m args below meth c s₁ B hml hv
  obtain ⟨rfl, hP, hK⟩ := hv
  have hx := B.exec
  have hb := B.bytes
  have hr := B.returns
  have hts := atoms_spec (ws := wsX3_standingClaim) B.pre
  have hown : s.vm.findClass RX3 = some m.cls := findClass_of_methodNamed B.named
  have hlocks := B.notSynchronized
  have hl := lv_entry ([.ref (Q 0), .int x, .int kd]) (n := 5) (Nat.le_of_ble_eq_true rfl)
  rw [lg_entry_eq]
  generalize (lg_sl ([.ref (Q 0), .int x, .int kd]) ++ List.replicate (5 - (lg_sl ([.ref (Q 0), .int x, .int kd])).length) Slot.unset).toArray = ls at hl ⊢
  have hl : lv_has ls 5 [(0, .ref (Q 0)), (1, .int x), (2, .int kd)] := hl
  have lk0 := hts (.fieldLink RX3 99 "ClaimRows" "claimCount" "I") (List.mem_cons_of_mem _ wd_22)
  have lk1 := hts (.fieldLink RX3 211 "ClaimRows$Claim" "itemNumber" "I") (List.mem_cons_of_mem _ wd_121)
  have lk2 := hts (.fieldLink RX3 134 "ClaimRows$Claim" "kind" "I") (List.mem_cons_of_mem _ wd_125)
  have lk3 := hts (.fieldLink RX3 120 "ClaimRows$Claim" "state" "I") (List.mem_cons_of_mem _ wd_129)
  have in0 : ∀ w ∈ u_ws RX3 TX3 16, w ∈ wsX3_standingClaim := fun w h => List.mem_cons_of_mem _ (wu_X3 w h)
  have in1 : ∀ w ∈ u_ws RX0 TX0 13, w ∈ wsX3_standingClaim := fun w h => List.mem_cons_of_mem _ (wu_X0 w h)
  refine lv_iconst (v := 1) hx hb dX3_standingClaim_0 (by decide) ?_
  refine lv_istore_n (lv' := [(3, .int 1), (0, .ref (Q 0)), (1, .int x), (2, .int kd)]) hx hb dX3_standingClaim_1 rfl hl (by decide) rfl (fun ls hl => ?_)
  refine wl_R (Inv := fun j ls => lv_has ls 5 [(0, .ref (Q 0)), (1, .int x), (2, .int kd), (3, .int (nI (j + 1)))] ∧ st_cl co x kd n.2.1 0 = st_cl co x kd (n.2.1 - j) j) (N := n.2.1) (fun j ls hj hin ih => ?_) (fun ls hin => ?_) 0 ls (Nat.zero_le _) ⟨lv_sub hl [1, 2, 3, 0] rfl, rfl⟩
  · obtain ⟨hl, hin⟩ := hin
    refine lv_iload_n hx hb dX3_standingClaim_2 rfl (lv_at hl 3 rfl) ?_
    refine lv_aload_n hx hb dX3_standingClaim_3 rfl (lv_at hl 0 rfl) ?_
    refine va_get (D := (dC, dI)) (ci := 3) (v := .int (σ.1 1)) (C := RX3) (T := TX3) (N := 16) hx hb hts in0 hown hK hP 0 (xc_W_0 _ _) rfl 3 (by decide) lk0 (fun _ h9 => h9) rfl dX3_standingClaim_4 ?_
    refine lv_icmp_gt (tgt := 58) hx hb dX3_standingClaim_7 (by decide) (fun c7 => ?_) (fun c7 => ?_)
    · exact absurd c7 (by rw [hR.1.2.2.1]; exact nI_nlt (by omega) (by have := hR.1.2.2.2.1; omega))
    · refine lv_aload_n hx hb dX3_standingClaim_10 rfl (lv_at hl 0 rfl) ?_
      refine lv_iload_n hx hb dX3_standingClaim_11 rfl (lv_at hl 3 rfl) ?_
      refine va_csq (va_Run.run (va_runV (As := [.int (nI (j + 1))]) (rest := []) ⟨hx, hb, hml, hown, hts⟩ (mt_claimNumbered l dC dI cA Q σ n co L f ad hR (nI (j + 1))) (cwV 1 hts (al_gV wd_105 wd_107 wd_106 wd_1 wd_108) rfl rfl rfl (by decide +kernel) ⟨Nat.le_of_ble_eq_true rfl, Nat.le_of_ble_eq_true rfl⟩) ⟨ct_blR, va_recv hK hP (ci := 3) (q0 := 0) rfl (xc_W_0 _ _), ct_atR hP hK⟩ rfl rfl hl.1 rfl (lv_room (Nat.le_of_ble_eq_true rfl)) dX3_standingClaim_12 ⟨Nat.le_of_ble_eq_true rfl, Nat.le_of_ble_eq_true rfl⟩)) (fun r12 hr12 => ?_)
      rcases hr12 with ⟨j12, hj12, hm12, ex12, rfl⟩ | ⟨hm12, rfl⟩
      · have ej12 : j = j12 := by rw [hR.1.2.2.1, nu_s hj (by have := hR.1.2.2.2.1; omega)] at hm12; exact Option.some.inj hm12
        subst ej12
        have hC1 := hR.2.2.1 j hj12
        have hC1v := hR.2.2.2.2.1.2.1 j hj12
        have hC1a : f (ad.2.2.1 j) = .inr (0, [.int (nI (j + 1)), .int (co.2.1 6 j), .ref (ad.1 (co.1 0 j)), .int (co.2.1 7 j), .int (co.2.1 8 j), .int (co.2.1 9 j), .int (co.2.1 10 j), .int (co.2.1 11 j), .int (co.2.1 12 j), .int (co.2.1 13 j), .int (co.2.1 14 j), .int (co.2.1 15 j), .long (co.2.2.1 2 j)]) := hC1.2.2
        have hI2 := hR.2.1 (co.1 0 j) hC1v.1
        have hI2a : f (ad.1 (co.1 0 j)) = .inr (1, [.int (co.2.1 0 (co.1 0 j)), .long (co.2.2.1 0 (co.1 0 j)), .long (co.2.2.1 1 (co.1 0 j)), .int (co.2.1 1 (co.1 0 j)), .int (co.2.1 2 (co.1 0 j)), .ref (ad.2.1 (co.1 0 j)), .int (co.2.1 3 (co.1 0 j)), .int (co.2.1 4 (co.1 0 j)), .int (co.2.1 5 (co.1 0 j))]) := hI2.2.2.1
        have hI2p : f (ad.2.1 (co.1 0 j)) = .inl ((cA 0), 8, .inl (co.2.2.2 (co.1 0 j))) := hI2.2.2.2.2
        refine lv_astore (lv' := [(4, .ref (ad.2.2.1 j)), (0, .ref (Q 0)), (1, .int x), (2, .int kd), (3, .int (nI (j + 1)))]) hx hb dX3_standingClaim_15 hl (by decide) rfl (fun ls hl => ?_)
        refine lv_aload hx hb dX3_standingClaim_17 (lv_at hl 0 rfl) ?_
        refine lv_ifnull hx hb dX3_standingClaim_19 ?_
        refine lv_aload hx hb dX3_standingClaim_22 (lv_at hl 0 rfl) ?_
        refine hp_get (D := (dC, dI)) (ci := 0) (v := .int (co.2.1 6 j)) (C := RX0) (T := TX0) (N := 13) hx hb hts in1 hown hK hP hC1.2.1 hC1a rfl 1 (by decide) lk1 (fun _ h9 => h9) rfl dX3_standingClaim_24 ?_
        refine lv_iload_n hx hb dX3_standingClaim_27 rfl (lv_at hl 2 rfl) ?_
        refine lv_icmp_ne (tgt := 52) hx hb dX3_standingClaim_28 (by decide) (fun c28 => ?_) (fun c28 => ?_)
        · refine lv_iinc (v := ((nI (j + 1)) + 1)) (lv' := [(3, .int ((nI (j + 1)) + 1)), (4, .ref (ad.2.2.1 j)), (0, .ref (Q 0)), (1, .int x), (2, .int kd)]) hx hb dX3_standingClaim_52 hl (k := 4) rfl rfl (by decide) rfl (fun ls hl => ?_)
          refine lv_goto (tgt := 2) hx hb dX3_standingClaim_55 (by decide) ?_
          exact ih _ ⟨lv_sub hl [2, 3, 4, 0] (by rw [nI_succ (j + 1)]; rfl), (by rw [hin, show n.2.1 - j = (n.2.1 - (j + 1)) + 1 by omega, st_cl, if_neg (fun q => c28 q.1)])⟩
        · refine lv_aload hx hb dX3_standingClaim_31 (lv_at hl 0 rfl) ?_
          refine hp_get (D := (dC, dI)) (ci := 0) (v := .int (co.2.1 7 j)) (C := RX0) (T := TX0) (N := 13) hx hb hts in1 hown hK hP hC1.2.1 hC1a rfl 3 (by decide) lk2 (fun _ h9 => h9) rfl dX3_standingClaim_33 ?_
          refine lv_iload_n hx hb dX3_standingClaim_36 rfl (lv_at hl 3 rfl) ?_
          refine lv_icmp_ne (tgt := 52) hx hb dX3_standingClaim_37 (by decide) (fun c37 => ?_) (fun c37 => ?_)
          · refine lv_iinc (v := ((nI (j + 1)) + 1)) (lv' := [(3, .int ((nI (j + 1)) + 1)), (4, .ref (ad.2.2.1 j)), (0, .ref (Q 0)), (1, .int x), (2, .int kd)]) hx hb dX3_standingClaim_52 hl (k := 4) rfl rfl (by decide) rfl (fun ls hl => ?_)
            refine lv_goto (tgt := 2) hx hb dX3_standingClaim_55 (by decide) ?_
            exact ih _ ⟨lv_sub hl [2, 3, 4, 0] (by rw [nI_succ (j + 1)]; rfl), (by rw [hin, show n.2.1 - j = (n.2.1 - (j + 1)) + 1 by omega, st_cl, if_neg (fun q => c37 q.2.1)])⟩
          · refine lv_aload hx hb dX3_standingClaim_40 (lv_at hl 0 rfl) ?_
            refine hp_get (D := (dC, dI)) (ci := 0) (v := .int (co.2.1 9 j)) (C := RX0) (T := TX0) (N := 13) hx hb hts in1 hown hK hP hC1.2.1 hC1a rfl 5 (by decide) lk3 (fun _ h9 => h9) rfl dX3_standingClaim_42 ?_
            refine lv_iconst (v := 2) hx hb dX3_standingClaim_45 (by decide) ?_
            refine lv_icmp_eq (tgt := 52) hx hb dX3_standingClaim_46 (by decide) (fun c46 => ?_) (fun c46 => ?_)
            · refine lv_iinc (v := ((nI (j + 1)) + 1)) (lv' := [(3, .int ((nI (j + 1)) + 1)), (4, .ref (ad.2.2.1 j)), (0, .ref (Q 0)), (1, .int x), (2, .int kd)]) hx hb dX3_standingClaim_52 hl (k := 4) rfl rfl (by decide) rfl (fun ls hl => ?_)
              refine lv_goto (tgt := 2) hx hb dX3_standingClaim_55 (by decide) ?_
              exact ih _ ⟨lv_sub hl [2, 3, 4, 0] (by rw [nI_succ (j + 1)]; rfl), (by rw [hin, show n.2.1 - j = (n.2.1 - (j + 1)) + 1 by omega, st_cl, if_neg (fun q => q.2.2 c46)])⟩
            · refine lv_aload hx hb dX3_standingClaim_49 (lv_at hl 0 rfl) ?_
              exact W.aret (v := .ref (ad.2.2.1 j)) hx hb hr (Or.inl ⟨_, rfl⟩) (Or.inr ⟨_, rfl⟩) (fun t ht hW => ⟨(some (ad.2.2.1 j)), rfl, (Or.inl ⟨j, hj, by rw [hin, show n.2.1 - j = (n.2.1 - (j + 1)) + 1 by omega, st_cl, if_pos ⟨c28, c37, c46⟩], rfl⟩), ht⟩) (fun q h => by cases h) dX3_standingClaim_51
      · rw [hR.1.2.2.1, nu_s hj (by have := hR.1.2.2.2.1; omega)] at hm12; cases hm12
  · obtain ⟨hl, hin⟩ := hin
    refine lv_iload_n hx hb dX3_standingClaim_2 rfl (lv_at hl 3 rfl) ?_
    refine lv_aload_n hx hb dX3_standingClaim_3 rfl (lv_at hl 0 rfl) ?_
    refine va_get (D := (dC, dI)) (ci := 3) (v := .int (σ.1 1)) (C := RX3) (T := TX3) (N := 16) hx hb hts in0 hown hK hP 0 (xc_W_0 _ _) rfl 3 (by decide) lk0 (fun _ h9 => h9) rfl dX3_standingClaim_4 ?_
    refine lv_icmp_gt (tgt := 58) hx hb dX3_standingClaim_7 (by decide) (fun c7 => ?_) (fun c7 => ?_)
    · refine lv_null hx hb dX3_standingClaim_58 ?_
      exact W.aret (v := .null) hx hb hr (Or.inl ⟨_, rfl⟩) (Or.inl rfl) (fun t ht hW => ⟨none, rfl, (Or.inr ⟨by rw [hin, Nat.sub_self]; rfl, rfl⟩), ht⟩) (fun q h => by cases h) dX3_standingClaim_59
    · exact absurd (by rw [hR.1.2.2.1]; exact nI_lt (by omega) (by have := hR.1.2.2.2.1; omega)) c7
set_option maxHeartbeats 4000000 in
set_option maxRecDepth 100000 in
/-- mt_claimsOfSender -/
theorem mt_claimsOfSender (l : Launch) (dC : Nat → ClassId) (dI : Nat → Nat → Nat) (cA : Nat → ClassId) (Q : Nat → Nat) (σ : xs_T) (n : nn_T) (co : co_T) (L : List Nat) (f : Nat → va_E) (ad : ad_T) (hR : re_A cA σ n co L f ad) (x : Int32) : Met l yX3_claimsOfSender wsX3_claimsOfSender ({ frames := 2, cells := 0, slots := 0, locals := 46 }) (va_Pc [.ref (Q 0), .int x] (ct_R (dC, dI) vwCl (ty_K cA) (xc_W Q cA σ ++ va_pl L f))) (vp_Si (fun r => r = se_cl co x n.2.1)) 0 0 (fun _ => False) := by
  refine Met.ofW (cc := cX3_claimsOfSender) (maxL := 5) (ret := (some .int)) (by decide) rfl ?_
  intro p e s m args below meth c s₁ B hml hv
  obtain ⟨rfl, hP, hK⟩ := hv
  have hx := B.exec
  have hb := B.bytes
  have hr := B.returns
  have hts := atoms_spec (ws := wsX3_claimsOfSender) B.pre
  have hown : s.vm.findClass RX3 = some m.cls := findClass_of_methodNamed B.named
  have hlocks := B.notSynchronized
  have hl := lv_entry ([.ref (Q 0), .int x]) (n := 5) (Nat.le_of_ble_eq_true rfl)
  rw [lg_entry_eq]
  generalize (lg_sl ([.ref (Q 0), .int x]) ++ List.replicate (5 - (lg_sl ([.ref (Q 0), .int x])).length) Slot.unset).toArray = ls at hl ⊢
  have hl : lv_has ls 5 [(0, .ref (Q 0)), (1, .int x)] := hl
  have lk0 := hts (.fieldLink RX3 99 "ClaimRows" "claimCount" "I") (List.mem_cons_of_mem _ wd_22)
  have lk1 := hts (.fieldLink RX3 188 "ClaimRows$Claim" "item" "LClaimRows$Item;") (List.mem_cons_of_mem _ wd_123)
  have lk2 := hts (.fieldLink RX3 102 "ClaimRows$Item" "sender" "I") (List.mem_cons_of_mem _ wd_66)
  have in0 : ∀ w ∈ u_ws RX3 TX3 16, w ∈ wsX3_claimsOfSender := fun w h => List.mem_cons_of_mem _ (wu_X3 w h)
  have in1 : ∀ w ∈ u_ws RX0 TX0 13, w ∈ wsX3_claimsOfSender := fun w h => List.mem_cons_of_mem _ (wu_X0 w h)
  have in2 : ∀ w ∈ u_ws RX1 TX1 9, w ∈ wsX3_claimsOfSender := fun w h => List.mem_cons_of_mem _ (wu_X1 w h)
  refine lv_iconst (v := 0) hx hb dX3_claimsOfSender_0 (by decide) ?_
  refine lv_istore_n (lv' := [(2, .int 0), (0, .ref (Q 0)), (1, .int x)]) hx hb dX3_claimsOfSender_1 rfl hl (by decide) rfl (fun ls hl => ?_)
  refine lv_iconst (v := 1) hx hb dX3_claimsOfSender_2 (by decide) ?_
  refine lv_istore_n (lv' := [(3, .int 1), (2, .int 0), (0, .ref (Q 0)), (1, .int x)]) hx hb dX3_claimsOfSender_3 rfl hl (by decide) rfl (fun ls hl => ?_)
  refine wl_R (Inv := fun j ls => lv_has ls 5 [(0, .ref (Q 0)), (1, .int x), (2, .int (se_cl co x j)), (3, .int (nI (j + 1)))] ∧ True) (N := n.2.1) (fun j ls hj hin ih => ?_) (fun ls hin => ?_) 0 ls (Nat.zero_le _) ⟨lv_sub hl [2, 3, 1, 0] rfl, trivial⟩
  · obtain ⟨hl, hin⟩ := hin
    refine lv_iload_n hx hb dX3_claimsOfSender_4 rfl (lv_at hl 3 rfl) ?_
    refine lv_aload_n hx hb dX3_claimsOfSender_5 rfl (lv_at hl 0 rfl) ?_
    refine va_get (D := (dC, dI)) (ci := 3) (v := .int (σ.1 1)) (C := RX3) (T := TX3) (N := 16) hx hb hts in0 hown hK hP 0 (xc_W_0 _ _) rfl 3 (by decide) lk0 (fun _ h9 => h9) rfl dX3_claimsOfSender_6 ?_
    refine lv_icmp_gt (tgt := 45) hx hb dX3_claimsOfSender_9 (by decide) (fun c9 => ?_) (fun c9 => ?_)
    · exact absurd c9 (by rw [hR.1.2.2.1]; exact nI_nlt (by omega) (by have := hR.1.2.2.2.1; omega))
    · refine lv_aload_n hx hb dX3_claimsOfSender_12 rfl (lv_at hl 0 rfl) ?_
      refine lv_iload_n hx hb dX3_claimsOfSender_13 rfl (lv_at hl 3 rfl) ?_
      refine va_csq (va_Run.run (va_runV (As := [.int (nI (j + 1))]) (rest := []) ⟨hx, hb, hml, hown, hts⟩ (mt_claimNumbered l dC dI cA Q σ n co L f ad hR (nI (j + 1))) (cwV 1 hts (al_gV wd_105 wd_107 wd_106 wd_1 wd_108) rfl rfl rfl (by decide +kernel) ⟨Nat.le_of_ble_eq_true rfl, Nat.le_of_ble_eq_true rfl⟩) ⟨ct_blR, va_recv hK hP (ci := 3) (q0 := 0) rfl (xc_W_0 _ _), ct_atR hP hK⟩ rfl rfl hl.1 rfl (lv_room (Nat.le_of_ble_eq_true rfl)) dX3_claimsOfSender_14 ⟨Nat.le_of_ble_eq_true rfl, Nat.le_of_ble_eq_true rfl⟩)) (fun r14 hr14 => ?_)
      rcases hr14 with ⟨j14, hj14, hm14, ex14, rfl⟩ | ⟨hm14, rfl⟩
      · have ej14 : j = j14 := by rw [hR.1.2.2.1, nu_s hj (by have := hR.1.2.2.2.1; omega)] at hm14; exact Option.some.inj hm14
        subst ej14
        have hC1 := hR.2.2.1 j hj14
        have hC1v := hR.2.2.2.2.1.2.1 j hj14
        have hC1a : f (ad.2.2.1 j) = .inr (0, [.int (nI (j + 1)), .int (co.2.1 6 j), .ref (ad.1 (co.1 0 j)), .int (co.2.1 7 j), .int (co.2.1 8 j), .int (co.2.1 9 j), .int (co.2.1 10 j), .int (co.2.1 11 j), .int (co.2.1 12 j), .int (co.2.1 13 j), .int (co.2.1 14 j), .int (co.2.1 15 j), .long (co.2.2.1 2 j)]) := hC1.2.2
        have hI2 := hR.2.1 (co.1 0 j) hC1v.1
        have hI2a : f (ad.1 (co.1 0 j)) = .inr (1, [.int (co.2.1 0 (co.1 0 j)), .long (co.2.2.1 0 (co.1 0 j)), .long (co.2.2.1 1 (co.1 0 j)), .int (co.2.1 1 (co.1 0 j)), .int (co.2.1 2 (co.1 0 j)), .ref (ad.2.1 (co.1 0 j)), .int (co.2.1 3 (co.1 0 j)), .int (co.2.1 4 (co.1 0 j)), .int (co.2.1 5 (co.1 0 j))]) := hI2.2.2.1
        have hI2p : f (ad.2.1 (co.1 0 j)) = .inl ((cA 0), 8, .inl (co.2.2.2 (co.1 0 j))) := hI2.2.2.2.2
        refine lv_astore (lv' := [(4, .ref (ad.2.2.1 j)), (0, .ref (Q 0)), (1, .int x), (2, .int (se_cl co x j)), (3, .int (nI (j + 1)))]) hx hb dX3_claimsOfSender_17 hl (by decide) rfl (fun ls hl => ?_)
        refine lv_aload hx hb dX3_claimsOfSender_19 (lv_at hl 0 rfl) ?_
        refine lv_ifnull hx hb dX3_claimsOfSender_21 ?_
        refine lv_aload hx hb dX3_claimsOfSender_24 (lv_at hl 0 rfl) ?_
        refine hp_get (D := (dC, dI)) (ci := 0) (v := .ref (ad.1 (co.1 0 j))) (C := RX0) (T := TX0) (N := 13) hx hb hts in1 hown hK hP hC1.2.1 hC1a rfl 2 (by decide) lk1 (fun _ h9 => h9) rfl dX3_claimsOfSender_26 ?_
        refine hp_get (D := (dC, dI)) (ci := 1) (v := .int (co.2.1 2 (co.1 0 j))) (C := RX1) (T := TX1) (N := 9) hx hb hts in2 hown hK hP hI2.2.1 hI2a rfl 4 (by decide) lk2 (fun _ h9 => h9) rfl dX3_claimsOfSender_29 ?_
        refine lv_iload_n hx hb dX3_claimsOfSender_32 rfl (lv_at hl 2 rfl) ?_
        refine lv_icmp_ne (tgt := 39) hx hb dX3_claimsOfSender_33 (by decide) (fun c33 => ?_) (fun c33 => ?_)
        · have E9 : (if co.2.1 2 (co.1 0 j) = x then se_cl co x j + 1 else se_cl co x j) = se_cl co x j := if_neg c33
          refine lv_iinc (v := ((nI (j + 1)) + 1)) (lv' := [(3, .int ((nI (j + 1)) + 1)), (4, .ref (ad.2.2.1 j)), (0, .ref (Q 0)), (1, .int x), (2, .int (se_cl co x j))]) hx hb dX3_claimsOfSender_39 hl (k := 4) rfl rfl (by decide) rfl (fun ls hl => ?_)
          refine lv_goto (tgt := 4) hx hb dX3_claimsOfSender_42 (by decide) ?_
          exact ih _ ⟨lv_sub hl [2, 3, 4, 0] (by rw [nI_succ (j + 1), se_cl, E9]; rfl), trivial⟩
        · have E9 : (if co.2.1 2 (co.1 0 j) = x then se_cl co x j + 1 else se_cl co x j) = se_cl co x j + 1 := if_pos c33
          refine lv_iinc (v := ((se_cl co x j) + 1)) (lv' := [(2, .int ((se_cl co x j) + 1)), (4, .ref (ad.2.2.1 j)), (0, .ref (Q 0)), (1, .int x), (3, .int (nI (j + 1)))]) hx hb dX3_claimsOfSender_36 hl (k := 3) rfl rfl (by decide) rfl (fun ls hl => ?_)
          refine lv_iinc (v := ((nI (j + 1)) + 1)) (lv' := [(3, .int ((nI (j + 1)) + 1)), (2, .int ((se_cl co x j) + 1)), (4, .ref (ad.2.2.1 j)), (0, .ref (Q 0)), (1, .int x)]) hx hb dX3_claimsOfSender_39 hl (k := 4) rfl rfl (by decide) rfl (fun ls hl => ?_)
          refine lv_goto (tgt := 4) hx hb dX3_claimsOfSender_42 (by decide) ?_
          exact ih _ ⟨lv_sub hl [3, 4, 1, 0] (by rw [nI_succ (j + 1), se_cl, E9]; rfl), trivial⟩
      · rw [hR.1.2.2.1, nu_s hj (by have := hR.1.2.2.2.1; omega)] at hm14; cases hm14
  · obtain ⟨hl, hin⟩ := hin
    refine lv_iload_n hx hb dX3_claimsOfSender_4 rfl (lv_at hl 3 rfl) ?_
    refine lv_aload_n hx hb dX3_claimsOfSender_5 rfl (lv_at hl 0 rfl) ?_
    refine va_get (D := (dC, dI)) (ci := 3) (v := .int (σ.1 1)) (C := RX3) (T := TX3) (N := 16) hx hb hts in0 hown hK hP 0 (xc_W_0 _ _) rfl 3 (by decide) lk0 (fun _ h9 => h9) rfl dX3_claimsOfSender_6 ?_
    refine lv_icmp_gt (tgt := 45) hx hb dX3_claimsOfSender_9 (by decide) (fun c9 => ?_) (fun c9 => ?_)
    · refine lv_iload_n hx hb dX3_claimsOfSender_45 rfl (lv_at hl 2 rfl) ?_
      exact W.iret (v := (se_cl co x n.2.1)) hx hb hr (fun t ht hW => ⟨(se_cl co x n.2.1), rfl, rfl, ht⟩) (fun q h => by cases h) dX3_claimsOfSender_46
    · exact absurd (by rw [hR.1.2.2.1]; exact nI_lt (by omega) (by have := hR.1.2.2.2.1; omega)) c9
set_option maxHeartbeats 4000000 in
set_option maxRecDepth 100000 in
/-- mt_sumByTable -/
theorem mt_sumByTable (l : Launch) (dC : Nat → ClassId) (dI : Nat → Nat → Nat) (cA : Nat → ClassId) (Q : Nat → Nat) (σ : xs_T) (n : nn_T) (co : co_T) (L : List Nat) (f : Nat → va_E) (ad : ad_T) (hR : re_A cA σ n co L f ad) (j : Nat) (hj : j < n.2.1) : Met l yX3_sumByTable wsX3_sumByTable ({ frames := 1, cells := 0, slots := 0, locals := 21 }) (va_Pc [.ref (Q 0), .ref (ad.2.2.1 j)] (ct_R (dC, dI) vwCl (ty_K cA) (xc_W Q cA σ ++ va_pl L f))) (vp_Sl (fun r => r = su_m σ co j)) 0 0 (fun _ => False) := by
  refine Met.ofW (cc := cX3_sumByTable) (maxL := 7) (ret := (some .long)) (by decide) rfl ?_
  intro p e s m args below meth c s₁ B hml hv
  obtain ⟨rfl, hP, hK⟩ := hv
  have hx := B.exec
  have hb := B.bytes
  have hr := B.returns
  have hts := atoms_spec (ws := wsX3_sumByTable) B.pre
  have hown : s.vm.findClass RX3 = some m.cls := findClass_of_methodNamed B.named
  have hlocks := B.notSynchronized
  have hl := lv_entry ([.ref (Q 0), .ref (ad.2.2.1 j)]) (n := 7) (Nat.le_of_ble_eq_true rfl)
  rw [lg_entry_eq]
  generalize (lg_sl ([.ref (Q 0), .ref (ad.2.2.1 j)]) ++ List.replicate (7 - (lg_sl ([.ref (Q 0), .ref (ad.2.2.1 j)])).length) Slot.unset).toArray = ls at hl ⊢
  have hl : lv_has ls 7 [(0, .ref (Q 0)), (1, .ref (ad.2.2.1 j))] := hl
  have lk0 := hts (.fieldLink RX3 188 "ClaimRows$Claim" "item" "LClaimRows$Item;") (List.mem_cons_of_mem _ wd_123)
  have lk1 := hts (.fieldLink RX3 238 "ClaimRows$Item" "insured" "J") (List.mem_cons_of_mem _ wd_62)
  have lk2 := hts (.fieldLink RX3 27 "ClaimRows" "tableMost" "[J") (List.mem_cons_of_mem _ wd_25)
  have lk3 := hts (.fieldLink RX3 92 "ClaimRows$Item" "service" "I") (List.mem_cons_of_mem _ wd_58)
  have lk4 := hts (.fieldLink RX3 134 "ClaimRows$Claim" "kind" "I") (List.mem_cons_of_mem _ wd_125)
  have lk5 := hts (.fieldLink RX3 241 "ClaimRows$Item" "value" "J") (List.mem_cons_of_mem _ wd_60)
  have lk6 := hts (.methodLink RX3 244 yJ9_min_long) (List.mem_cons_of_mem _ wd_202)
  have lk7 := hts (.static yJ9_min_long) (List.mem_cons_of_mem _ wd_203)
  have lk8 := hts (.initialized RJ9) (List.mem_cons_of_mem _ wd_7)
  have lk9 := hts (.code yJ9_min_long cJ9_min_long 4 (some .long)) (List.mem_cons_of_mem _ wd_204)
  have lk10 := hts (.constantLong RX3 247 10) (List.mem_cons_of_mem _ wd_205)
  have lk11 := hts (.constantLong RX3 82 2) (List.mem_cons_of_mem _ wd_96)
  have in0 : ∀ w ∈ u_ws RX0 TX0 13, w ∈ wsX3_sumByTable := fun w h => List.mem_cons_of_mem _ (wu_X0 w h)
  have in1 : ∀ w ∈ u_ws RX1 TX1 9, w ∈ wsX3_sumByTable := fun w h => List.mem_cons_of_mem _ (wu_X1 w h)
  have in2 : ∀ w ∈ u_ws RX3 TX3 16, w ∈ wsX3_sumByTable := fun w h => List.mem_cons_of_mem _ (wu_X3 w h)
  have hC1 := hR.2.2.1 j hj
  have hC1v := hR.2.2.2.2.1.2.1 j hj
  have hC1a : f (ad.2.2.1 j) = .inr (0, [.int (nI (j + 1)), .int (co.2.1 6 j), .ref (ad.1 (co.1 0 j)), .int (co.2.1 7 j), .int (co.2.1 8 j), .int (co.2.1 9 j), .int (co.2.1 10 j), .int (co.2.1 11 j), .int (co.2.1 12 j), .int (co.2.1 13 j), .int (co.2.1 14 j), .int (co.2.1 15 j), .long (co.2.2.1 2 j)]) := hC1.2.2
  have hI2 := hR.2.1 (co.1 0 j) hC1v.1
  have hI2a : f (ad.1 (co.1 0 j)) = .inr (1, [.int (co.2.1 0 (co.1 0 j)), .long (co.2.2.1 0 (co.1 0 j)), .long (co.2.2.1 1 (co.1 0 j)), .int (co.2.1 1 (co.1 0 j)), .int (co.2.1 2 (co.1 0 j)), .ref (ad.2.1 (co.1 0 j)), .int (co.2.1 3 (co.1 0 j)), .int (co.2.1 4 (co.1 0 j)), .int (co.2.1 5 (co.1 0 j))]) := hI2.2.2.1
  have hI2p : f (ad.2.1 (co.1 0 j)) = .inl ((cA 0), 8, .inl (co.2.2.2 (co.1 0 j))) := hI2.2.2.2.2
  refine lv_aload_n hx hb dX3_sumByTable_0 rfl (lv_at hl 1 rfl) ?_
  refine hp_get (D := (dC, dI)) (ci := 0) (v := .ref (ad.1 (co.1 0 j))) (C := RX0) (T := TX0) (N := 13) hx hb hts in0 hown hK hP hC1.2.1 hC1a rfl 2 (by decide) lk0 (fun _ h9 => h9) rfl dX3_sumByTable_1 ?_
  refine lv_astore_n (lv' := [(2, .ref (ad.1 (co.1 0 j))), (0, .ref (Q 0)), (1, .ref (ad.2.2.1 j))]) hx hb dX3_sumByTable_4 rfl hl (by decide) rfl (fun ls hl => ?_)
  refine lv_aload_n hx hb dX3_sumByTable_5 rfl (lv_at hl 0 rfl) ?_
  refine hp_get (D := (dC, dI)) (ci := 1) (v := .long (co.2.2.1 1 (co.1 0 j))) (C := RX1) (T := TX1) (N := 9) hx hb hts in1 hown hK hP hI2.2.1 hI2a rfl 2 (by decide) lk1 (fun _ h9 => h9) rfl dX3_sumByTable_6 ?_
  refine lv_lconst (v := 0) hx hb dX3_sumByTable_9 (by decide) ?_
  refine W.lcmp hx hb dX3_sumByTable_10 ?_
  refine lv_if_le (tgt := 21) hx hb dX3_sumByTable_11 (by decide) (fun c11 => ?_) (fun c11 => ?_)
  · refine lv_aload_n hx hb dX3_sumByTable_21 rfl (lv_at hl 1 rfl) ?_
    refine va_get (D := (dC, dI)) (ci := 3) (v := .ref (Q 4)) (C := RX3) (T := TX3) (N := 16) hx hb hts in2 hown hK hP 0 (xc_W_0 _ _) rfl 6 (by decide) lk2 (fun _ h9 => h9) rfl dX3_sumByTable_22 ?_
    refine lv_aload_n hx hb dX3_sumByTable_25 rfl (lv_at hl 0 rfl) ?_
    refine hp_get (D := (dC, dI)) (ci := 1) (v := .int (co.2.1 0 (co.1 0 j))) (C := RX1) (T := TX1) (N := 9) hx hb hts in1 hown hK hP hI2.2.1 hI2a rfl 0 (by decide) lk3 (fun _ h9 => h9) rfl dX3_sumByTable_26 ?_
    refine lv_aload_n hx hb dX3_sumByTable_29 rfl (lv_at hl 2 rfl) ?_
    refine hp_get (D := (dC, dI)) (ci := 0) (v := .int (co.2.1 7 j)) (C := RX0) (T := TX0) (N := 13) hx hb hts in0 hown hK hP hC1.2.1 hC1a rfl 3 (by decide) lk4 (fun _ h9 => h9) rfl dX3_sumByTable_30 ?_
    refine vp_callSi (va_Run.run (va_runS (As := [.int (co.2.1 0 (co.1 0 j)), .int (co.2.1 7 j)]) (rest := [.ref (Q 4)]) ⟨hx, hb, hml, hown, hts⟩ (mt_rowOf l (co.2.1 0 (co.1 0 j)) (co.2.1 7 j)) (va_cwS 2 hts (al_gS wd_89 wd_90 wd_1 wd_91) rfl rfl rfl (by decide +kernel) ⟨Nat.le_of_ble_eq_true rfl, Nat.le_of_ble_eq_true rfl⟩) ⟨ct_bl0, ct_at0⟩ rfl rfl hl.1 rfl (lv_room (Nat.le_of_ble_eq_true rfl)) dX3_sumByTable_33 ⟨Nat.le_of_ble_eq_true rfl, Nat.le_of_ble_eq_true rfl⟩)) (fun r33 hr33 => ?_)
    subst hr33
    refine va_lald hx hb hK hP 4 1 (xc_W_4 _ _) rfl (rw_in (hR.2.2.2.2.1.1 (co.1 0 j) (hR.2.2.2.2.1.2.1 j hj).1).1 (hR.2.2.2.2.1.2.1 j hj).2.2.1) dX3_sumByTable_36 ?_
    refine lv_lstore_n (lv' := [(3, .long ((σ.2.2.2.1 0) (((co.2.1 0 (co.1 0 j)) * 4 + (co.2.1 7 j))).toNatClampNeg)), (2, .ref (ad.1 (co.1 0 j))), (0, .ref (Q 0)), (1, .ref (ad.2.2.1 j))]) hx hb dX3_sumByTable_37 rfl hl (by decide) rfl (fun ls hl => ?_)
    refine lv_aload_n hx hb dX3_sumByTable_38 rfl (lv_at hl 1 rfl) ?_
    refine hp_get (D := (dC, dI)) (ci := 1) (v := .long (co.2.2.1 0 (co.1 0 j))) (C := RX1) (T := TX1) (N := 9) hx hb hts in1 hown hK hP hI2.2.1 hI2a rfl 1 (by decide) lk5 (fun _ h9 => h9) rfl dX3_sumByTable_39 ?_
    refine lv_lload_n hx hb dX3_sumByTable_42 rfl (lv_at hl 0 rfl) ?_
    refine va_mmin_long hx hb (hml.trans hl.1.symm) hown lk6 lk7 lk8 lk9 (Nat.le_of_ble_eq_true rfl) (Nat.le_of_ble_eq_true rfl) (Nat.le_of_ble_eq_true rfl) (Nat.le_of_ble_eq_true rfl) dX3_sumByTable_43 ?_
    refine lv_lstore (lv' := [(5, .long (if ((σ.2.2.2.1 0) (((co.2.1 0 (co.1 0 j)) * 4 + (co.2.1 7 j))).toNatClampNeg) < (co.2.2.1 0 (co.1 0 j)) then ((σ.2.2.2.1 0) (((co.2.1 0 (co.1 0 j)) * 4 + (co.2.1 7 j))).toNatClampNeg) else (co.2.2.1 0 (co.1 0 j)))), (3, .long ((σ.2.2.2.1 0) (((co.2.1 0 (co.1 0 j)) * 4 + (co.2.1 7 j))).toNatClampNeg)), (2, .ref (ad.1 (co.1 0 j))), (0, .ref (Q 0)), (1, .ref (ad.2.2.1 j))]) hx hb dX3_sumByTable_46 hl (by decide) rfl (fun ls hl => ?_)
    refine lv_aload_n hx hb dX3_sumByTable_48 rfl (lv_at hl 4 rfl) ?_
    refine hp_get (D := (dC, dI)) (ci := 0) (v := .int (co.2.1 7 j)) (C := RX0) (T := TX0) (N := 13) hx hb hts in0 hown hK hP hC1.2.1 hC1a rfl 3 (by decide) lk4 (fun _ h9 => h9) rfl dX3_sumByTable_49 ?_
    rcases Classical.em ((co.2.1 7 j) = 1 ∨ (co.2.1 7 j) = 2) with e52 | e52
    · rcases e52 with e52 | e52
      · refine lv_lookup (off := 28) (tgt := 80) hx hb dX3_sumByTable_52 (by decide) (by rw [e52]; decide) (by decide) ?_
        refine lv_lload hx hb dX3_sumByTable_80 (lv_at hl 0 rfl) ?_
        refine lv_ldc2 hx hb hown lk10 dX3_sumByTable_82 ?_
        refine lv_ldiv hx hb dX3_sumByTable_85 (by decide) ?_
        exact W.lret (v := ((if ((σ.2.2.2.1 0) (((co.2.1 0 (co.1 0 j)) * 4 + (co.2.1 7 j))).toNatClampNeg) < (co.2.2.1 0 (co.1 0 j)) then ((σ.2.2.2.1 0) (((co.2.1 0 (co.1 0 j)) * 4 + (co.2.1 7 j))).toNatClampNeg) else (co.2.2.1 0 (co.1 0 j))) / 10)) hx hb hr (fun t ht hW => ⟨((if ((σ.2.2.2.1 0) (((co.2.1 0 (co.1 0 j)) * 4 + (co.2.1 7 j))).toNatClampNeg) < (co.2.2.1 0 (co.1 0 j)) then ((σ.2.2.2.1 0) (((co.2.1 0 (co.1 0 j)) * 4 + (co.2.1 7 j))).toNatClampNeg) else (co.2.2.1 0 (co.1 0 j))) / 10), rfl, (by unfold su_m; dsimp only; rw [if_neg (fun q => absurd (lc_gt.mpr q) (Int32.not_lt.mpr c11)), if_pos e52]), ht⟩) (fun q h => by cases h) dX3_sumByTable_86
      · refine lv_lookup (off := 35) (tgt := 87) hx hb dX3_sumByTable_52 (by decide) (by rw [e52]; decide) (by decide) ?_
        refine lv_lload hx hb dX3_sumByTable_87 (lv_at hl 0 rfl) ?_
        refine lv_ldc2 hx hb hown lk11 dX3_sumByTable_89 ?_
        refine lv_ldiv hx hb dX3_sumByTable_92 (by decide) ?_
        exact W.lret (v := ((if ((σ.2.2.2.1 0) (((co.2.1 0 (co.1 0 j)) * 4 + (co.2.1 7 j))).toNatClampNeg) < (co.2.2.1 0 (co.1 0 j)) then ((σ.2.2.2.1 0) (((co.2.1 0 (co.1 0 j)) * 4 + (co.2.1 7 j))).toNatClampNeg) else (co.2.2.1 0 (co.1 0 j))) / 2)) hx hb hr (fun t ht hW => ⟨((if ((σ.2.2.2.1 0) (((co.2.1 0 (co.1 0 j)) * 4 + (co.2.1 7 j))).toNatClampNeg) < (co.2.2.1 0 (co.1 0 j)) then ((σ.2.2.2.1 0) (((co.2.1 0 (co.1 0 j)) * 4 + (co.2.1 7 j))).toNatClampNeg) else (co.2.2.1 0 (co.1 0 j))) / 2), rfl, (by unfold su_m; dsimp only; rw [if_neg (fun q => absurd (lc_gt.mpr q) (Int32.not_lt.mpr c11)), if_neg (show ¬ co.2.1 7 j = 1 by rw [e52]; decide), if_pos e52]), ht⟩) (fun q h => by cases h) dX3_sumByTable_93
    · refine lv_lookup (off := 42) (tgt := 94) hx hb dX3_sumByTable_52 (by decide) (by rw [lv_osw (fun q => e52 (by simp [q])) (k := 1) (by decide)]; rw [lv_osw (fun q => e52 (by simp [q])) (k := 2) (by decide)]; rfl) (by decide) ?_
      refine lv_lload hx hb dX3_sumByTable_94 (lv_at hl 0 rfl) ?_
      exact W.lret (v := (if ((σ.2.2.2.1 0) (((co.2.1 0 (co.1 0 j)) * 4 + (co.2.1 7 j))).toNatClampNeg) < (co.2.2.1 0 (co.1 0 j)) then ((σ.2.2.2.1 0) (((co.2.1 0 (co.1 0 j)) * 4 + (co.2.1 7 j))).toNatClampNeg) else (co.2.2.1 0 (co.1 0 j)))) hx hb hr (fun t ht hW => ⟨(if ((σ.2.2.2.1 0) (((co.2.1 0 (co.1 0 j)) * 4 + (co.2.1 7 j))).toNatClampNeg) < (co.2.2.1 0 (co.1 0 j)) then ((σ.2.2.2.1 0) (((co.2.1 0 (co.1 0 j)) * 4 + (co.2.1 7 j))).toNatClampNeg) else (co.2.2.1 0 (co.1 0 j))), rfl, (by unfold su_m; dsimp only; rw [if_neg (fun q => absurd (lc_gt.mpr q) (Int32.not_lt.mpr c11)), if_neg (fun q => e52 (Or.inl q)), if_neg (fun q => e52 (Or.inr q))]), ht⟩) (fun q h => by cases h) dX3_sumByTable_96
  · refine lv_aload_n hx hb dX3_sumByTable_14 rfl (lv_at hl 0 rfl) ?_
    refine hp_get (D := (dC, dI)) (ci := 1) (v := .long (co.2.2.1 1 (co.1 0 j))) (C := RX1) (T := TX1) (N := 9) hx hb hts in1 hown hK hP hI2.2.1 hI2a rfl 2 (by decide) lk1 (fun _ h9 => h9) rfl dX3_sumByTable_15 ?_
    refine lv_goto (tgt := 37) hx hb dX3_sumByTable_18 (by decide) ?_
    refine lv_lstore_n (lv' := [(3, .long (co.2.2.1 1 (co.1 0 j))), (2, .ref (ad.1 (co.1 0 j))), (0, .ref (Q 0)), (1, .ref (ad.2.2.1 j))]) hx hb dX3_sumByTable_37 rfl hl (by decide) rfl (fun ls hl => ?_)
    refine lv_aload_n hx hb dX3_sumByTable_38 rfl (lv_at hl 1 rfl) ?_
    refine hp_get (D := (dC, dI)) (ci := 1) (v := .long (co.2.2.1 0 (co.1 0 j))) (C := RX1) (T := TX1) (N := 9) hx hb hts in1 hown hK hP hI2.2.1 hI2a rfl 1 (by decide) lk5 (fun _ h9 => h9) rfl dX3_sumByTable_39 ?_
    refine lv_lload_n hx hb dX3_sumByTable_42 rfl (lv_at hl 0 rfl) ?_
    refine va_mmin_long hx hb (hml.trans hl.1.symm) hown lk6 lk7 lk8 lk9 (Nat.le_of_ble_eq_true rfl) (Nat.le_of_ble_eq_true rfl) (Nat.le_of_ble_eq_true rfl) (Nat.le_of_ble_eq_true rfl) dX3_sumByTable_43 ?_
    refine lv_lstore (lv' := [(5, .long (if (co.2.2.1 1 (co.1 0 j)) < (co.2.2.1 0 (co.1 0 j)) then (co.2.2.1 1 (co.1 0 j)) else (co.2.2.1 0 (co.1 0 j)))), (3, .long (co.2.2.1 1 (co.1 0 j))), (2, .ref (ad.1 (co.1 0 j))), (0, .ref (Q 0)), (1, .ref (ad.2.2.1 j))]) hx hb dX3_sumByTable_46 hl (by decide) rfl (fun ls hl => ?_)
    refine lv_aload_n hx hb dX3_sumByTable_48 rfl (lv_at hl 4 rfl) ?_
    refine hp_get (D := (dC, dI)) (ci := 0) (v := .int (co.2.1 7 j)) (C := RX0) (T := TX0) (N := 13) hx hb hts in0 hown hK hP hC1.2.1 hC1a rfl 3 (by decide) lk4 (fun _ h9 => h9) rfl dX3_sumByTable_49 ?_
    rcases Classical.em ((co.2.1 7 j) = 1 ∨ (co.2.1 7 j) = 2) with e52 | e52
    · rcases e52 with e52 | e52
      · refine lv_lookup (off := 28) (tgt := 80) hx hb dX3_sumByTable_52 (by decide) (by rw [e52]; decide) (by decide) ?_
        refine lv_lload hx hb dX3_sumByTable_80 (lv_at hl 0 rfl) ?_
        refine lv_ldc2 hx hb hown lk10 dX3_sumByTable_82 ?_
        refine lv_ldiv hx hb dX3_sumByTable_85 (by decide) ?_
        exact W.lret (v := ((if (co.2.2.1 1 (co.1 0 j)) < (co.2.2.1 0 (co.1 0 j)) then (co.2.2.1 1 (co.1 0 j)) else (co.2.2.1 0 (co.1 0 j))) / 10)) hx hb hr (fun t ht hW => ⟨((if (co.2.2.1 1 (co.1 0 j)) < (co.2.2.1 0 (co.1 0 j)) then (co.2.2.1 1 (co.1 0 j)) else (co.2.2.1 0 (co.1 0 j))) / 10), rfl, (by unfold su_m; dsimp only; rw [if_pos (lc_gt.mp (Int32.not_le.mp c11)), if_pos e52]), ht⟩) (fun q h => by cases h) dX3_sumByTable_86
      · refine lv_lookup (off := 35) (tgt := 87) hx hb dX3_sumByTable_52 (by decide) (by rw [e52]; decide) (by decide) ?_
        refine lv_lload hx hb dX3_sumByTable_87 (lv_at hl 0 rfl) ?_
        refine lv_ldc2 hx hb hown lk11 dX3_sumByTable_89 ?_
        refine lv_ldiv hx hb dX3_sumByTable_92 (by decide) ?_
        exact W.lret (v := ((if (co.2.2.1 1 (co.1 0 j)) < (co.2.2.1 0 (co.1 0 j)) then (co.2.2.1 1 (co.1 0 j)) else (co.2.2.1 0 (co.1 0 j))) / 2)) hx hb hr (fun t ht hW => ⟨((if (co.2.2.1 1 (co.1 0 j)) < (co.2.2.1 0 (co.1 0 j)) then (co.2.2.1 1 (co.1 0 j)) else (co.2.2.1 0 (co.1 0 j))) / 2), rfl, (by unfold su_m; dsimp only; rw [if_pos (lc_gt.mp (Int32.not_le.mp c11)), if_neg (show ¬ co.2.1 7 j = 1 by rw [e52]; decide), if_pos e52]), ht⟩) (fun q h => by cases h) dX3_sumByTable_93
    · refine lv_lookup (off := 42) (tgt := 94) hx hb dX3_sumByTable_52 (by decide) (by rw [lv_osw (fun q => e52 (by simp [q])) (k := 1) (by decide)]; rw [lv_osw (fun q => e52 (by simp [q])) (k := 2) (by decide)]; rfl) (by decide) ?_
      refine lv_lload hx hb dX3_sumByTable_94 (lv_at hl 0 rfl) ?_
      exact W.lret (v := (if (co.2.2.1 1 (co.1 0 j)) < (co.2.2.1 0 (co.1 0 j)) then (co.2.2.1 1 (co.1 0 j)) else (co.2.2.1 0 (co.1 0 j)))) hx hb hr (fun t ht hW => ⟨(if (co.2.2.1 1 (co.1 0 j)) < (co.2.2.1 0 (co.1 0 j)) then (co.2.2.1 1 (co.1 0 j)) else (co.2.2.1 0 (co.1 0 j))), rfl, (by unfold su_m; dsimp only; rw [if_pos (lc_gt.mp (Int32.not_le.mp c11)), if_neg (fun q => e52 (Or.inl q)), if_neg (fun q => e52 (Or.inr q))]), ht⟩) (fun q h => by cases h) dX3_sumByTable_96
set_option maxHeartbeats 4000000 in
set_option maxRecDepth 100000 in
/-- mt_refuse -/
theorem mt_refuse (l : Launch) (dC : Nat → ClassId) (dI : Nat → Nat → Nat) (cA : Nat → ClassId) (sz : Nat) (Q : Nat → Nat) (σ : xs_T) (L : List Nat) (f : Nat → va_E) (mq : Nat) (hm : σ.1 3 = nI mq) (hb9 : mq < 1000000) (cq : Nat) (hc : cq ∈ L) (v0 : Int32) (v1 : Int32) (v2 : Nat) (v3 : Int32) (v4 : Int32) (v5 : Int32) (v6 : Int32) (v7 : Int32) (v8 : Int32) (v9 : Int32) (v10 : Int32) (v11 : Int32) (v12 : Int64) (hg : f cq = .inr (0, [.int v0, .int v1, .ref v2, .int v3, .int v4, .int v5, .int v6, .int v7, .int v8, .int v9, .int v10, .int v11, .long v12]))  : Met l yX3_refuse wsX3_refuse ({ frames := 1, cells := 0, slots := 0, locals := 22 }) (va_Pc [.ref (Q 0), .ref cq] (ct_M (dC, dI) vwCl (ty_K cA) (xc_W Q cA σ ++ va_pl L f) sz)) (va_Qi (fun r u => r = 2 ∧ u = (se_nd (xs_i σ 5 ((σ.1 5) + 1)) v0 4, L, va_up f cq (.inr (0, [.int v0, .int v1, .ref v2, .int v3, .int v4, .int 2, .int v6, .int v7, .int v8, .int v9, .int v10, .int v11, .long v12])))) (fun u t => ct_B (dC, dI) vwCl (ty_K cA) (va_A (xc_W Q cA σ ++ va_pl L f) sz) (xc_W Q cA u.1 ++ va_pl u.2.1 u.2.2) t) (va_A (xc_W Q cA σ ++ va_pl L f) sz)) 0 0 (va_A (xc_W Q cA σ ++ va_pl L f) sz) := by
  refine Met.ofW (cc := cX3_refuse) (maxL := 2) (ret := (some .int)) (by decide) rfl ?_
  intro p e s m args below meth c s₁ B hml hv
  obtain ⟨rfl, hsz, hP, hK, hD0⟩ := hv
  have hx := B.exec
  have hb := B.bytes
  have hr := B.returns
  have hts := atoms_spec (ws := wsX3_refuse) B.pre
  have hown : s.vm.findClass RX3 = some m.cls := findClass_of_methodNamed B.named
  have hlocks := B.notSynchronized
  subst hsz
  have hD := hD0.self (sz := s.heap.size)
  generalize hAe : va_A (xc_W Q cA σ ++ va_pl L f) s.heap.size = A at hD ⊢
  have hA : ∀ q : Nat, s.heap.size ≤ q → A q := fun q h => by rw [← hAe]; exact Or.inr h
  clear hAe hD0
  have hS : va_S A s.heap s.heap [] := va_S.rf
  have hl := lv_entry ([.ref (Q 0), .ref cq]) (n := 2) (Nat.le_of_ble_eq_true rfl)
  rw [lg_entry_eq]
  generalize (lg_sl ([.ref (Q 0), .ref cq]) ++ List.replicate (2 - (lg_sl ([.ref (Q 0), .ref cq])).length) Slot.unset).toArray = ls at hl ⊢
  have hl : lv_has ls 2 [(0, .ref (Q 0)), (1, .ref cq)] := hl
  have lk0 := hts (.fieldLink RX3 120 "ClaimRows$Claim" "state" "I") (List.mem_cons_of_mem _ wd_129)
  have lk1 := hts (.fieldLink RX3 233 "ClaimRows" "refusedInAll" "I") (List.mem_cons_of_mem _ wd_34)
  have lk2 := hts (.fieldLink RX3 199 "ClaimRows$Claim" "number" "I") (List.mem_cons_of_mem _ wd_119)
  have in0 : ∀ w ∈ u_ws RX0 TX0 13, w ∈ wsX3_refuse := fun w h => List.mem_cons_of_mem _ (wu_X0 w h)
  have in1 : ∀ w ∈ u_ws RX3 TX3 16, w ∈ wsX3_refuse := fun w h => List.mem_cons_of_mem _ (wu_X3 w h)
  refine lv_aload_n hx hb dX3_refuse_0 rfl (lv_at hl 1 rfl) ?_
  refine lv_iconst (v := 2) hx hb dX3_refuse_1 (by decide) ?_
  refine hp_put (D := (dC, dI)) (ci := 0) (v := .int 2) (ty := .int) (C := RX0) (T := TX0) (N := 13) hx hb hts in0 tyX0 tyX0_ok nmX0 hown hK hP hD hS hc hg rfl 5 (by decide) lk0 (fun _ h9 => h9) rfl (by decide +kernel) rfl rfl (Nat.le_of_ble_eq_true rfl) dX3_refuse_2 (fs' := [.int v0, .int v1, .ref v2, .int v3, .int v4, .int 2, .int v6, .int v7, .int v8, .int v9, .int v10, .int v11, .long v12]) rfl (fun H locs hP hD hS => ?_)
  obtain ⟨f_1, ef_1⟩ : ∃ y9, y9 = va_up f cq (.inr (0, [.int v0, .int v1, .ref v2, .int v3, .int v4, .int 2, .int v6, .int v7, .int v8, .int v9, .int v10, .int v11, .long v12])) := ⟨_, rfl⟩
  rw [← ef_1] at hP hD
  have hf_1_cq : f_1 cq = .inr (0, [.int v0, .int v1, .ref v2, .int v3, .int v4, .int 2, .int v6, .int v7, .int v8, .int v9, .int v10, .int v11, .long v12]) := by rw [ef_1]; exact va_up_self _ _ _
  refine lv_aload_n hx hb dX3_refuse_5 rfl (lv_at hl 0 rfl) ?_
  refine lv_dup hx hb dX3_refuse_6 rfl ?_
  refine va_get (D := (dC, dI)) (ci := 3) (v := .int (σ.1 5)) (C := RX3) (T := TX3) (N := 16) hx hb hts in1 hown hK hP 0 (xc_W_0 _ _) rfl 15 (by decide) lk1 (fun _ h9 => h9) rfl dX3_refuse_7 ?_
  refine lv_iconst (v := 1) hx hb dX3_refuse_10 (by decide) ?_
  refine lv_iadd hx hb dX3_refuse_11 ?_
  refine va_put (D := (dC, dI)) (ci := 3) (v := .int ((σ.1 5) + 1)) (ty := .int) (C := RX3) (T := TX3) (N := 16) hx hb hts in1 tyX3 tyX3_ok nmX3 hown hK hP hD hS 0 (xc_W_0 _ _) rfl 15 (by decide) lk1 (fun _ h9 => h9) rfl (by decide +kernel) rfl rfl (Nat.le_of_ble_eq_true rfl) dX3_refuse_12 (fun H locs hP hD hS => ?_)
  have hP : va_P (dC, dI) vwCl (xc_W Q cA (xs_i σ 5 ((σ.1 5) + 1)) ++ va_pl L f_1) H := hP
  have hD : va_D A (xc_W Q cA (xs_i σ 5 ((σ.1 5) + 1)) ++ va_pl L f_1) := hD
  refine lv_aload_n hx hb dX3_refuse_15 rfl (lv_at hl 0 rfl) ?_
  refine lv_aload_n hx hb dX3_refuse_16 rfl (lv_at hl 1 rfl) ?_
  refine hp_get (D := (dC, dI)) (ci := 0) (v := .int v0) (C := RX0) (T := TX0) (N := 13) hx hb hts in0 hown hK hP hc hf_1_cq rfl 0 (by decide) lk2 (fun _ h9 => h9) rfl dX3_refuse_17 ?_
  refine lv_iconst (v := 4) hx hb dX3_refuse_20 (by decide) ?_
  have hFc := ct_free hD hS hA
  refine va_callv (va_runV (As := [.int v0, .int 4]) (rest := []) ⟨hx, hb, hml, hown, hts⟩ (mt_send l dC dI cA H.size Q (xs_i σ 5 ((σ.1 5) + 1)) L f_1 mq (show (xs_i σ 5 ((σ.1 5) + 1)).1 3 = nI mq from hm) hb9 v0 4) (cwV 2 hts (al_gV wd_141 wd_143 wd_142 wd_1 wd_144) rfl rfl rfl (by decide +kernel) ⟨Nat.le_of_ble_eq_true rfl, Nat.le_of_ble_eq_true rfl⟩) ⟨ct_blM, va_recv hK hP (ci := 3) (q0 := 0) rfl (xc_W_0 _ _), ct_atM hP hK hD⟩ rfl rfl hl.1 rfl (lv_room (Nat.le_of_ble_eq_true rfl)) dX3_refuse_21 ⟨Nat.le_of_ble_eq_true rfl, Nat.le_of_ble_eq_true rfl⟩) hS (fun q _ h => hFc q h) hFc (fun u21 t H1 locs ht hvm hr21 hB hz1 hk1 hS => ?_)
  obtain ⟨hP, -, hD1⟩ := hB
  rw [ht] at hP
  have hD := hD1.weaken (fun _ _ _ h => hFc _ h)
  clear hD1 hk1 hz1 hFc hvm
  generalize H1 = H at hP hS ht ⊢
  clear ht
  refine W.widen (k := 0) (n := 0) (by decide) (by decide) ?_
  subst hr21
  have hP : va_P (dC, dI) vwCl (xc_W Q cA (se_nd (xs_i σ 5 ((σ.1 5) + 1)) v0 4) ++ va_pl L f_1) H := hP
  have hD : va_D A (xc_W Q cA (se_nd (xs_i σ 5 ((σ.1 5) + 1)) v0 4) ++ va_pl L f_1) := hD
  refine lv_iconst (v := 2) hx hb dX3_refuse_24 (by decide) ?_
  exact W.iret (v := 2) hx hb hr (fun t ht hW => ⟨⟨2, ((se_nd (xs_i σ 5 ((σ.1 5) + 1)) v0 4), L, f_1), rfl, ⟨rfl, by rw [ef_1]⟩, by rw [ht]; exact hP, va_K.moved hW.alike hK, hD⟩, hS.F ht⟩) hS.2.2 dX3_refuse_25
set_option maxHeartbeats 4000000 in
set_option maxRecDepth 100000 in
/-- mt_pay -/
theorem mt_pay (l : Launch) (dC : Nat → ClassId) (dI : Nat → Nat → Nat) (cA : Nat → ClassId) (sz : Nat) (Q : Nat → Nat) (σ : xs_T) (L : List Nat) (f : Nat → va_E) (mq : Nat) (hm : σ.1 3 = nI mq) (hb9 : mq < 1000000) (cq : Nat) (hc : cq ∈ L) (v0 : Int32) (v1 : Int32) (v2 : Nat) (v3 : Int32) (v4 : Int32) (v5 : Int32) (v6 : Int32) (v7 : Int32) (v8 : Int32) (v9 : Int32) (v10 : Int32) (v11 : Int32) (v12 : Int64) (hg : f cq = .inr (0, [.int v0, .int v1, .ref v2, .int v3, .int v4, .int v5, .int v6, .int v7, .int v8, .int v9, .int v10, .int v11, .long v12])) (z : Int64) : Met l yX3_pay wsX3_pay ({ frames := 1, cells := 0, slots := 0, locals := 22 }) (va_Pc [.ref (Q 0), .ref cq, .long z] (ct_M (dC, dI) vwCl (ty_K cA) (xc_W Q cA σ ++ va_pl L f) sz)) (va_Qi (fun r u => r = 1 ∧ u = (se_nd (xs_l σ 0 ((σ.2.1 0) + z)) v0 3, L, va_up f cq (.inr (0, [.int v0, .int v1, .ref v2, .int v3, .int v4, .int 1, .int v6, .int v7, .int v8, .int v9, .int v10, .int v11, .long z])))) (fun u t => ct_B (dC, dI) vwCl (ty_K cA) (va_A (xc_W Q cA σ ++ va_pl L f) sz) (xc_W Q cA u.1 ++ va_pl u.2.1 u.2.2) t) (va_A (xc_W Q cA σ ++ va_pl L f) sz)) 0 0 (va_A (xc_W Q cA σ ++ va_pl L f) sz) := by
  refine Met.ofW (cc := cX3_pay) (maxL := 4) (ret := (some .int)) (by decide) rfl ?_
  intro p e s m args below meth c s₁ B hml hv
  obtain ⟨rfl, hsz, hP, hK, hD0⟩ := hv
  have hx := B.exec
  have hb := B.bytes
  have hr := B.returns
  have hts := atoms_spec (ws := wsX3_pay) B.pre
  have hown : s.vm.findClass RX3 = some m.cls := findClass_of_methodNamed B.named
  have hlocks := B.notSynchronized
  subst hsz
  have hD := hD0.self (sz := s.heap.size)
  generalize hAe : va_A (xc_W Q cA σ ++ va_pl L f) s.heap.size = A at hD ⊢
  have hA : ∀ q : Nat, s.heap.size ≤ q → A q := fun q h => by rw [← hAe]; exact Or.inr h
  clear hAe hD0
  have hS : va_S A s.heap s.heap [] := va_S.rf
  have hl := lv_entry ([.ref (Q 0), .ref cq, .long z]) (n := 4) (Nat.le_of_ble_eq_true rfl)
  rw [lg_entry_eq]
  generalize (lg_sl ([.ref (Q 0), .ref cq, .long z]) ++ List.replicate (4 - (lg_sl ([.ref (Q 0), .ref cq, .long z])).length) Slot.unset).toArray = ls at hl ⊢
  have hl : lv_has ls 4 [(0, .ref (Q 0)), (1, .ref cq), (2, .long z)] := hl
  have lk0 := hts (.fieldLink RX3 120 "ClaimRows$Claim" "state" "I") (List.mem_cons_of_mem _ wd_129)
  have lk1 := hts (.fieldLink RX3 163 "ClaimRows$Claim" "paidSum" "J") (List.mem_cons_of_mem _ wd_140)
  have lk2 := hts (.fieldLink RX3 230 "ClaimRows" "paidInAll" "J") (List.mem_cons_of_mem _ wd_32)
  have lk3 := hts (.fieldLink RX3 199 "ClaimRows$Claim" "number" "I") (List.mem_cons_of_mem _ wd_119)
  have in0 : ∀ w ∈ u_ws RX0 TX0 13, w ∈ wsX3_pay := fun w h => List.mem_cons_of_mem _ (wu_X0 w h)
  have in1 : ∀ w ∈ u_ws RX3 TX3 16, w ∈ wsX3_pay := fun w h => List.mem_cons_of_mem _ (wu_X3 w h)
  refine lv_aload_n hx hb dX3_pay_0 rfl (lv_at hl 1 rfl) ?_
  refine lv_iconst (v := 1) hx hb dX3_pay_1 (by decide) ?_
  refine hp_put (D := (dC, dI)) (ci := 0) (v := .int 1) (ty := .int) (C := RX0) (T := TX0) (N := 13) hx hb hts in0 tyX0 tyX0_ok nmX0 hown hK hP hD hS hc hg rfl 5 (by decide) lk0 (fun _ h9 => h9) rfl (by decide +kernel) rfl rfl (Nat.le_of_ble_eq_true rfl) dX3_pay_2 (fs' := [.int v0, .int v1, .ref v2, .int v3, .int v4, .int 1, .int v6, .int v7, .int v8, .int v9, .int v10, .int v11, .long v12]) rfl (fun H locs hP hD hS => ?_)
  obtain ⟨f_1, ef_1⟩ : ∃ y9, y9 = va_up f cq (.inr (0, [.int v0, .int v1, .ref v2, .int v3, .int v4, .int 1, .int v6, .int v7, .int v8, .int v9, .int v10, .int v11, .long v12])) := ⟨_, rfl⟩
  rw [← ef_1] at hP hD
  have hf_1_cq : f_1 cq = .inr (0, [.int v0, .int v1, .ref v2, .int v3, .int v4, .int 1, .int v6, .int v7, .int v8, .int v9, .int v10, .int v11, .long v12]) := by rw [ef_1]; exact va_up_self _ _ _
  refine lv_aload_n hx hb dX3_pay_5 rfl (lv_at hl 1 rfl) ?_
  refine lv_lload_n hx hb dX3_pay_6 rfl (lv_at hl 2 rfl) ?_
  refine hp_put (D := (dC, dI)) (ci := 0) (v := .long z) (ty := .long) (C := RX0) (T := TX0) (N := 13) hx hb hts in0 tyX0 tyX0_ok nmX0 hown hK hP hD hS hc hf_1_cq rfl 12 (by decide) lk1 (fun _ h9 => h9) rfl (by decide +kernel) rfl rfl (Nat.le_of_ble_eq_true rfl) dX3_pay_7 (fs' := [.int v0, .int v1, .ref v2, .int v3, .int v4, .int 1, .int v6, .int v7, .int v8, .int v9, .int v10, .int v11, .long z]) rfl (fun H locs hP hD hS => ?_)
  obtain ⟨f_2, ef_2⟩ : ∃ y9, y9 = va_up f_1 cq (.inr (0, [.int v0, .int v1, .ref v2, .int v3, .int v4, .int 1, .int v6, .int v7, .int v8, .int v9, .int v10, .int v11, .long z])) := ⟨_, rfl⟩
  rw [← ef_2] at hP hD
  have hf_2_cq : f_2 cq = .inr (0, [.int v0, .int v1, .ref v2, .int v3, .int v4, .int 1, .int v6, .int v7, .int v8, .int v9, .int v10, .int v11, .long z]) := by rw [ef_2]; exact va_up_self _ _ _
  refine lv_aload_n hx hb dX3_pay_10 rfl (lv_at hl 0 rfl) ?_
  refine lv_dup hx hb dX3_pay_11 rfl ?_
  refine va_get (D := (dC, dI)) (ci := 3) (v := .long (σ.2.1 0)) (C := RX3) (T := TX3) (N := 16) hx hb hts in1 hown hK hP 0 (xc_W_0 _ _) rfl 13 (by decide) lk2 (fun _ h9 => h9) rfl dX3_pay_12 ?_
  refine lv_lload_n hx hb dX3_pay_15 rfl (lv_at hl 2 rfl) ?_
  refine lv_ladd hx hb dX3_pay_16 ?_
  refine va_put (D := (dC, dI)) (ci := 3) (v := .long ((σ.2.1 0) + z)) (ty := .long) (C := RX3) (T := TX3) (N := 16) hx hb hts in1 tyX3 tyX3_ok nmX3 hown hK hP hD hS 0 (xc_W_0 _ _) rfl 13 (by decide) lk2 (fun _ h9 => h9) rfl (by decide +kernel) rfl rfl (Nat.le_of_ble_eq_true rfl) dX3_pay_17 (fun H locs hP hD hS => ?_)
  have hP : va_P (dC, dI) vwCl (xc_W Q cA (xs_l σ 0 ((σ.2.1 0) + z)) ++ va_pl L f_2) H := hP
  have hD : va_D A (xc_W Q cA (xs_l σ 0 ((σ.2.1 0) + z)) ++ va_pl L f_2) := hD
  refine lv_aload_n hx hb dX3_pay_20 rfl (lv_at hl 0 rfl) ?_
  refine lv_aload_n hx hb dX3_pay_21 rfl (lv_at hl 1 rfl) ?_
  refine hp_get (D := (dC, dI)) (ci := 0) (v := .int v0) (C := RX0) (T := TX0) (N := 13) hx hb hts in0 hown hK hP hc hf_2_cq rfl 0 (by decide) lk3 (fun _ h9 => h9) rfl dX3_pay_22 ?_
  refine lv_iconst (v := 3) hx hb dX3_pay_25 (by decide) ?_
  have hFc := ct_free hD hS hA
  refine va_callv (va_runV (As := [.int v0, .int 3]) (rest := []) ⟨hx, hb, hml, hown, hts⟩ (mt_send l dC dI cA H.size Q (xs_l σ 0 ((σ.2.1 0) + z)) L f_2 mq (show (xs_l σ 0 ((σ.2.1 0) + z)).1 3 = nI mq from hm) hb9 v0 3) (cwV 2 hts (al_gV wd_141 wd_143 wd_142 wd_1 wd_144) rfl rfl rfl (by decide +kernel) ⟨Nat.le_of_ble_eq_true rfl, Nat.le_of_ble_eq_true rfl⟩) ⟨ct_blM, va_recv hK hP (ci := 3) (q0 := 0) rfl (xc_W_0 _ _), ct_atM hP hK hD⟩ rfl rfl hl.1 rfl (lv_room (Nat.le_of_ble_eq_true rfl)) dX3_pay_26 ⟨Nat.le_of_ble_eq_true rfl, Nat.le_of_ble_eq_true rfl⟩) hS (fun q _ h => hFc q h) hFc (fun u26 t H1 locs ht hvm hr26 hB hz1 hk1 hS => ?_)
  obtain ⟨hP, -, hD1⟩ := hB
  rw [ht] at hP
  have hD := hD1.weaken (fun _ _ _ h => hFc _ h)
  clear hD1 hk1 hz1 hFc hvm
  generalize H1 = H at hP hS ht ⊢
  clear ht
  refine W.widen (k := 0) (n := 0) (by decide) (by decide) ?_
  subst hr26
  have hP : va_P (dC, dI) vwCl (xc_W Q cA (se_nd (xs_l σ 0 ((σ.2.1 0) + z)) v0 3) ++ va_pl L f_2) H := hP
  have hD : va_D A (xc_W Q cA (se_nd (xs_l σ 0 ((σ.2.1 0) + z)) v0 3) ++ va_pl L f_2) := hD
  refine lv_iconst (v := 1) hx hb dX3_pay_29 (by decide) ?_
  exact W.iret (v := 1) hx hb hr (fun t ht hW => ⟨⟨1, ((se_nd (xs_l σ 0 ((σ.2.1 0) + z)) v0 3), L, f_2), rfl, ⟨rfl, by rw [ef_2, ef_1]; simp only [bx_uu]⟩, by rw [ht]; exact hP, va_K.moved hW.alike hK, hD⟩, hS.F ht⟩) hS.2.2 dX3_pay_30
end
section
set_option maxHeartbeats 4000000 in
set_option maxRecDepth 100000 in
/-- mt_item -/
theorem mt_item (l : Launch) (dC : Nat → ClassId) (dI : Nat → Nat → Nat) (cA : Nat → ClassId) (sz : Nat) (Q : Nat → Nat) (σ : xs_T) (n : nn_T) (co : co_T) (L : List Nat) (f : Nat → va_E) (ad : ad_T) (hR : re_A cA σ n co L f ad) (hT : n.2.2.2 < 100000) (x1 : Int32) (x2 x3 : Int64) (x4 x5 : Int32) : Met l yX3_item wsX3_item ({ frames := 2, cells := 2, slots := 17, locals := 46 }) (va_Pc [.ref (Q 0), .int x1, .long x2, .long x3, .int x4, .int x5] (ct_M (dC, dI) vwCl (ty_K cA) (xc_W Q cA σ ++ va_pl L f) sz)) (va_Qi (fun r u => (r, u) = kc_item (σ, co) x1 x2 x3 x4 x5) (fun u t => ∃ (ra : Nat → Nat → Option Nat) (n' : nn_T) (L' : List Nat) (f' : Nat → va_E) (ad' : ad_T), n'.2.2.2 ≤ n.2.2.2 + 1 ∧ re_A cA (xs_r u.1 ra) n' u.2 L' f' ad' ∧ ct_B (dC, dI) vwCl (ty_K cA) (va_A (xc_W Q cA σ ++ va_pl L f) sz) (xc_W Q cA (xs_r u.1 ra) ++ va_pl L' f') t) (va_A (xc_W Q cA σ ++ va_pl L f) sz)) 2 17 (va_A (xc_W Q cA σ ++ va_pl L f) sz) := by
  refine Met.ofW (cc := cX3_item) (maxL := 8) (ret := (some .int)) (by decide) rfl ?_
  intro p e s m args below meth c s₁ B hml hv
  obtain ⟨rfl, hsz, hP, hK, hD0⟩ := hv
  have hx := B.exec
  have hb := B.bytes
  have hr := B.returns
  have hts := atoms_spec (ws := wsX3_item) B.pre
  have hown : s.vm.findClass RX3 = some m.cls := findClass_of_methodNamed B.named
  have hlocks := B.notSynchronized
  subst hsz
  have hD := hD0.self (sz := s.heap.size)
  generalize hAe : va_A (xc_W Q cA σ ++ va_pl L f) s.heap.size = A at hD ⊢
  have hA : ∀ q : Nat, s.heap.size ≤ q → A q := fun q h => by rw [← hAe]; exact Or.inr h
  clear hAe hD0
  have hS : va_S A s.heap s.heap [] := va_S.rf
  have hl := lv_entry ([.ref (Q 0), .int x1, .long x2, .long x3, .int x4, .int x5]) (n := 8) (Nat.le_of_ble_eq_true rfl)
  rw [lg_entry_eq]
  generalize (lg_sl ([.ref (Q 0), .int x1, .long x2, .long x3, .int x4, .int x5]) ++ List.replicate (8 - (lg_sl ([.ref (Q 0), .int x1, .long x2, .long x3, .int x4, .int x5])).length) Slot.unset).toArray = ls at hl ⊢
  have hl : lv_has ls 8 [(0, .ref (Q 0)), (1, .int x1), (2, .long x2), (4, .long x3), (6, .int x4), (7, .int x5)] := hl
  have lk0 := hts (.constantLong RX3 52 100000) (List.mem_cons_of_mem _ wd_51)
  have lk1 := hts (.fieldLink RX3 58 "ClaimRows" "itemCount" "I") (List.mem_cons_of_mem _ wd_20)
  have lk2 := hts (.fieldLink RX3 11 "ClaimRows" "items" "[LClaimRows$Item;") (List.mem_cons_of_mem _ wd_19)
  have lk3 := hts (.classLink RX3 9 RX1) (List.mem_cons_of_mem _ wd_16)
  have lk4 := hts (.instantiable RX1 9) (List.mem_cons_of_mem _ wd_52)
  have lk5 := hts (.initialized RX1) (List.mem_cons_of_mem _ wd_3)
  have lk6 := hts (.methodLink RX3 62 yX1_init) (List.mem_cons_of_mem _ wd_53)
  have lk7 := hts (.instanceMethod yX1_init) (List.mem_cons_of_mem _ wd_54)
  have in0 : ∀ w ∈ u_ws RX3 TX3 16, w ∈ wsX3_item := fun w h => List.mem_cons_of_mem _ (wu_X3 w h)
  have in1 : ∀ w ∈ u_ws RX1 TX1 9, w ∈ wsX3_item := fun w h => List.mem_cons_of_mem _ (wu_X1 w h)
  have hn0 : (σ.1 0).toNatClampNeg = n.1 := by rw [hR.1.1]; exact nI_clamp (by have := hR.1.2.1; omega)
  have hn1 : (σ.1 1).toNatClampNeg = n.2.1 := by rw [hR.1.2.2.1]; exact nI_clamp (by have := hR.1.2.2.2.1; omega)
  have hn2 : (σ.1 2).toNatClampNeg = n.2.2.1 := by rw [hR.1.2.2.2.2.1]; exact nI_clamp (by have := hR.1.2.2.2.2.2.1; omega)
  refine lv_iload_n hx hb dX3_item_0 rfl (lv_at hl 1 rfl) ?_
  refine lv_iconst (v := 4) hx hb dX3_item_1 (by decide) ?_
  refine vp_callSi (va_Run.run (va_runS (As := [.int x1, .int 4]) (rest := []) ⟨hx, hb, hml, hown, hts⟩ (mt_isBelow l x1 4) (va_cwS 2 hts (al_gS wd_41 wd_42 wd_1 wd_43) rfl rfl rfl (by decide +kernel) ⟨Nat.le_of_ble_eq_true rfl, Nat.le_of_ble_eq_true rfl⟩) ⟨ct_bl0, ct_at0⟩ rfl rfl hl.1 rfl (lv_room (Nat.le_of_ble_eq_true rfl)) dX3_item_2 ⟨Nat.le_of_ble_eq_true rfl, Nat.le_of_ble_eq_true rfl⟩)) (fun r2 hr2 => ?_)
  subst hr2
  refine lv_if_eq (tgt := 23) hx hb dX3_item_5 (by decide) (fun c5 => ?_) (fun c5 => ?_)
  · have c5 := of_decide_eq_false (bb_0.mp c5)
    refine lv_bipush (v := (-102)) hx hb dX3_item_23 (by decide) ?_
    refine W.widen (k := 2) (n := 17) (by decide) (by decide) ?_
    exact W.iret (v := (-102)) hx hb hr (fun t ht hW => ⟨⟨(-102), (σ, co), rfl, (by simp only [kc_item, if_neg c5, Option.elim, hn0, hn1, hn2]), σ.2.2.2.2, n, L, f, ad, Nat.le_succ _, hR, by rw [ht]; exact hP, va_K.moved hW.alike hK, hD⟩, hS.F ht⟩) hS.2.2 dX3_item_25
  · have c5 := of_decide_eq_true (bb_n.mp c5)
    refine lv_lload_n hx hb dX3_item_8 rfl (lv_at hl 2 rfl) ?_
    refine vp_callSi (va_Run.run (va_runS (As := [.long x2]) (rest := []) ⟨hx, hb, hml, hown, hts⟩ (mt_areCents l x2) (va_cwS 1 hts (al_gS wd_44 wd_45 wd_1 wd_46) rfl rfl rfl (by decide +kernel) ⟨Nat.le_of_ble_eq_true rfl, Nat.le_of_ble_eq_true rfl⟩) ⟨ct_bl0, ct_at0⟩ rfl rfl hl.1 rfl (lv_room (Nat.le_of_ble_eq_true rfl)) dX3_item_9 ⟨Nat.le_of_ble_eq_true rfl, Nat.le_of_ble_eq_true rfl⟩)) (fun r9 hr9 => ?_)
    subst hr9
    refine lv_if_eq (tgt := 23) hx hb dX3_item_12 (by decide) (fun c12 => ?_) (fun c12 => ?_)
    · have c12 := of_decide_eq_false (bb_0.mp c12)
      refine lv_bipush (v := (-102)) hx hb dX3_item_23 (by decide) ?_
      refine W.widen (k := 2) (n := 17) (by decide) (by decide) ?_
      exact W.iret (v := (-102)) hx hb hr (fun t ht hW => ⟨⟨(-102), (σ, co), rfl, (by simp only [kc_item, if_pos c5, if_neg c12, Option.elim, hn0, hn1, hn2]), σ.2.2.2.2, n, L, f, ad, Nat.le_succ _, hR, by rw [ht]; exact hP, va_K.moved hW.alike hK, hD⟩, hS.F ht⟩) hS.2.2 dX3_item_25
    · have c12 := of_decide_eq_true (bb_n.mp c12)
      refine lv_lload hx hb dX3_item_15 (lv_at hl 3 rfl) ?_
      refine vp_callSi (va_Run.run (va_runS (As := [.long x3]) (rest := []) ⟨hx, hb, hml, hown, hts⟩ (mt_areCents l x3) (va_cwS 1 hts (al_gS wd_44 wd_45 wd_1 wd_46) rfl rfl rfl (by decide +kernel) ⟨Nat.le_of_ble_eq_true rfl, Nat.le_of_ble_eq_true rfl⟩) ⟨ct_bl0, ct_at0⟩ rfl rfl hl.1 rfl (lv_room (Nat.le_of_ble_eq_true rfl)) dX3_item_17 ⟨Nat.le_of_ble_eq_true rfl, Nat.le_of_ble_eq_true rfl⟩)) (fun r17 hr17 => ?_)
      subst hr17
      refine lv_if_ne (tgt := 26) hx hb dX3_item_20 (by decide) (fun c20 => ?_) (fun c20 => ?_)
      · have c20 := of_decide_eq_true (bb_n.mp c20)
        refine lv_iload hx hb dX3_item_26 (lv_at hl 4 rfl) ?_
        refine lv_i2l (v := (x4 : Int32).toInt64) hx hb dX3_item_28 rfl ?_
        refine lv_lconst (v := 0) hx hb dX3_item_29 (by decide) ?_
        refine lv_ldc2 hx hb hown lk0 dX3_item_30 ?_
        refine vp_callSi (va_Run.run (va_runS (As := [.long ((x4 : Int32).toInt64), .long 0, .long 100000]) (rest := []) ⟨hx, hb, hml, hown, hts⟩ (mt_isWithin l ((x4 : Int32).toInt64) 0 100000) (va_cwS 3 hts (al_gS wd_48 wd_49 wd_1 wd_50) rfl rfl rfl (by decide +kernel) ⟨Nat.le_of_ble_eq_true rfl, Nat.le_of_ble_eq_true rfl⟩) ⟨ct_bl0, ct_at0⟩ rfl rfl hl.1 rfl (lv_room (Nat.le_of_ble_eq_true rfl)) dX3_item_33 ⟨Nat.le_of_ble_eq_true rfl, Nat.le_of_ble_eq_true rfl⟩)) (fun r33 hr33 => ?_)
        subst hr33
        refine lv_if_eq (tgt := 49) hx hb dX3_item_36 (by decide) (fun c36 => ?_) (fun c36 => ?_)
        · have c36 := of_decide_eq_false (bb_0.mp c36)
          refine lv_bipush (v := (-102)) hx hb dX3_item_49 (by decide) ?_
          refine W.widen (k := 2) (n := 17) (by decide) (by decide) ?_
          exact W.iret (v := (-102)) hx hb hr (fun t ht hW => ⟨⟨(-102), (σ, co), rfl, (by simp only [kc_item, if_pos c5, if_pos c12, if_pos c20, if_neg c36, Option.elim, hn0, hn1, hn2]), σ.2.2.2.2, n, L, f, ad, Nat.le_succ _, hR, by rw [ht]; exact hP, va_K.moved hW.alike hK, hD⟩, hS.F ht⟩) hS.2.2 dX3_item_51
        · have c36 := of_decide_eq_true (bb_n.mp c36)
          refine lv_iload hx hb dX3_item_39 (lv_at hl 5 rfl) ?_
          refine lv_bipush (v := 20) hx hb dX3_item_41 (by decide) ?_
          refine vp_callSi (va_Run.run (va_runS (As := [.int x5, .int 20]) (rest := []) ⟨hx, hb, hml, hown, hts⟩ (mt_isBelow l x5 20) (va_cwS 2 hts (al_gS wd_41 wd_42 wd_1 wd_43) rfl rfl rfl (by decide +kernel) ⟨Nat.le_of_ble_eq_true rfl, Nat.le_of_ble_eq_true rfl⟩) ⟨ct_bl0, ct_at0⟩ rfl rfl hl.1 rfl (lv_room (Nat.le_of_ble_eq_true rfl)) dX3_item_43 ⟨Nat.le_of_ble_eq_true rfl, Nat.le_of_ble_eq_true rfl⟩)) (fun r43 hr43 => ?_)
          subst hr43
          refine lv_if_ne (tgt := 52) hx hb dX3_item_46 (by decide) (fun c46 => ?_) (fun c46 => ?_)
          · have c46 := of_decide_eq_true (bb_n.mp c46)
            refine lv_aload_n hx hb dX3_item_52 rfl (lv_at hl 0 rfl) ?_
            refine va_get (D := (dC, dI)) (ci := 3) (v := .int (σ.1 0)) (C := RX3) (T := TX3) (N := 16) hx hb hts in0 hown hK hP 0 (xc_W_0 _ _) rfl 1 (by decide) lk1 (fun _ h9 => h9) rfl dX3_item_53 ?_
            refine lv_bipush (v := 100) hx hb dX3_item_56 (by decide) ?_
            refine lv_icmp_lt (tgt := 64) hx hb dX3_item_58 (by decide) (fun c58 => ?_) (fun c58 => ?_)
            · refine lv_aload_n hx hb dX3_item_64 rfl (lv_at hl 0 rfl) ?_
              refine va_get (D := (dC, dI)) (ci := 3) (v := .ref (Q 1)) (C := RX3) (T := TX3) (N := 16) hx hb hts in0 hown hK hP 0 (xc_W_0 _ _) rfl 0 (by decide) lk2 (fun _ h9 => h9) rfl dX3_item_65 ?_
              refine lv_aload_n hx hb dX3_item_68 rfl (lv_at hl 0 rfl) ?_
              refine va_get (D := (dC, dI)) (ci := 3) (v := .int (σ.1 0)) (C := RX3) (T := TX3) (N := 16) hx hb hts in0 hown hK hP 0 (xc_W_0 _ _) rfl 1 (by decide) lk1 (fun _ h9 => h9) rfl dX3_item_69 ?_
              refine hp_new (ci := 1) (fs := [.int 0, .long 0, .long 0, .int 0, .int 0, .null, .int 0, .int 0, .int 0]) (C := RX1) (T := TX1) (N := 9) hx hb hts in1 tyX1 tyX1_ok hown lk3 lk4 lk5 hK hP hD hS hA rfl (fun j hj => by rcases (show j = 0 ∨ j = 1 ∨ j = 2 ∨ j = 3 ∨ j = 4 ∨ j = 5 ∨ j = 6 ∨ j = 7 ∨ j = 8 by omega) with rfl | rfl | rfl | rfl | rfl | rfl | rfl | rfl | rfl <;> rfl) (Nat.le_of_ble_eq_true rfl) (Nat.le_of_ble_eq_true rfl) dX3_item_72 (fun q72 H hq72 hP hD hS => ?_)
              obtain ⟨f_1, ef_1⟩ : ∃ y9, y9 = va_up f q72 (.inr (1, [.int 0, .long 0, .long 0, .int 0, .int 0, .null, .int 0, .int 0, .int 0])) := ⟨_, rfl⟩
              rw [← ef_1] at hP hD
              have hf_1_q72 : f_1 q72 = .inr (1, [.int 0, .long 0, .long 0, .int 0, .int 0, .null, .int 0, .int 0, .int 0]) := by rw [ef_1]; exact va_up_self _ _ _
              refine W.widen (k := 1) (n := 9) (by decide) (by decide) ?_
              refine lv_dup hx hb dX3_item_75 rfl ?_
              refine lv_iload_n hx hb dX3_item_76 rfl (lv_at hl 1 rfl) ?_
              refine lv_lload_n hx hb dX3_item_77 rfl (lv_at hl 2 rfl) ?_
              refine lv_lload hx hb dX3_item_78 (lv_at hl 3 rfl) ?_
              refine lv_iload hx hb dX3_item_80 (lv_at hl 4 rfl) ?_
              refine lv_iload hx hb dX3_item_82 (lv_at hl 5 rfl) ?_
              have hFc := ct_free hD hS hA
              refine va_callv (va_runI (As := [.int x1, .long x2, .long x3, .int x4, .int x5]) (rest := [.ref q72, .int (σ.1 0), .ref (Q 1)]) ⟨hx, hb, hml, hown, hts⟩ (mt_Item_init l dC dI cA H.size (xc_W Q cA σ) (L ++ [q72]) f_1 q72 (List.mem_append_right _ (List.mem_singleton.mpr rfl)) hf_1_q72 x1 x2 x3 x4 x5) (cwI 5 hts (al_g wd_55) rfl rfl rfl lk5 lk6 lk7 rfl (by decide +kernel) ⟨Nat.le_of_ble_eq_true rfl, Nat.le_of_ble_eq_true rfl⟩) ⟨ct_blM, ct_atM hP hK hD⟩ rfl rfl hl.1 rfl (lv_room (Nat.le_of_ble_eq_true rfl)) dX3_item_84 ⟨Nat.le_of_ble_eq_true rfl, Nat.le_of_ble_eq_true rfl⟩) hS (fun q _ h => hFc q h) hFc (fun u84 t H1 locs ht hvm hr84 hB hz1 hk1 hS => ?_)
              obtain ⟨hP, -, hD1⟩ := hB
              rw [ht] at hP
              have hD := hD1.weaken (fun _ _ _ h => hFc _ h)
              clear hD1 hk1 hz1 hFc hvm
              generalize H1 = H at hP hS ht ⊢
              clear ht
              refine W.widen (k := 2) (n := 17) (by decide) (by decide) ?_
              obtain ⟨p84, hp84, rfl⟩ := hr84
              have hP : va_P (dC, dI) vwCl (xc_W Q cA σ ++ va_pl ((L ++ [q72]) ++ [p84]) (va_up (va_up f_1 p84 (.inl (cA 0, 8, .inl (fun _ => 0)))) q72 (.inr (1, [.int x1, .long x2, .long x3, .int x4, .int x5, .ref p84, .int 0, .int 0, .int 0])))) H := hP
              have hD : va_D A (xc_W Q cA σ ++ va_pl ((L ++ [q72]) ++ [p84]) (va_up (va_up f_1 p84 (.inl (cA 0, 8, .inl (fun _ => 0)))) q72 (.inr (1, [.int x1, .long x2, .long x3, .int x4, .int x5, .ref p84, .int 0, .int 0, .int 0])))) := hD
              obtain ⟨f_2, ef_2⟩ : ∃ y9, y9 = va_up f_1 p84 (.inl ((cA 0), 8, .inl (fun _ => 0))) := ⟨_, rfl⟩
              rw [← ef_2] at hP hD
              have hf_2_q72 : f_2 q72 = .inr (1, [.int 0, .long 0, .long 0, .int 0, .int 0, .null, .int 0, .int 0, .int 0]) := by rw [ef_2, va_up_ne _ _ (ct_nq (List.mem_append_right _ (List.mem_singleton.mpr rfl)) hp84)]; exact hf_1_q72
              have hf_2_p84 : f_2 p84 = .inl ((cA 0), 8, .inl (fun _ => 0)) := by rw [ef_2]; exact va_up_self _ _ _
              obtain ⟨f_3, ef_3⟩ : ∃ y9, y9 = va_up f_2 q72 (.inr (1, [.int x1, .long x2, .long x3, .int x4, .int x5, .ref p84, .int 0, .int 0, .int 0])) := ⟨_, rfl⟩
              rw [← ef_3] at hP hD
              have hf_3_p84 : f_3 p84 = .inl ((cA 0), 8, .inl (fun _ => 0)) := by rw [ef_3, va_up_ne _ _ (Ne.symm (ct_nq (List.mem_append_right _ (List.mem_singleton.mpr rfl)) hp84))]; exact hf_2_p84
              have hf_3_q72 : f_3 q72 = .inr (1, [.int x1, .long x2, .long x3, .int x4, .int x5, .ref p84, .int 0, .int 0, .int 0]) := by rw [ef_3]; exact va_up_self _ _ _
              obtain ⟨k9, hk9⟩ := va_pl_get (X := xc_W Q cA σ) (f := f_3) (List.mem_append_left _ (List.mem_append_right _ (List.mem_singleton.mpr rfl)))
              rw [hf_3_q72] at hk9
              refine va_astq hx hb hK hP hD hS 1 3 k9 1 (xc_W_1 _ _) rfl hk9 rfl (nu_ix hR.1.1 (by have := nu_lt hR.1.1 hR.1.2.1 c58; omega) (by decide)) dX3_item_87 (fun H locs hP hD hS => ?_)
              have hP : va_P (dC, dI) vwCl (xc_W Q cA (xs_ar σ 0 (va_up (σ.2.2.2.2 0) ((σ.1 0)).toNatClampNeg (some q72))) ++ va_pl ((L ++ [q72]) ++ [p84]) f_3) H := hP
              have hD : va_D A (xc_W Q cA (xs_ar σ 0 (va_up (σ.2.2.2.2 0) ((σ.1 0)).toNatClampNeg (some q72))) ++ va_pl ((L ++ [q72]) ++ [p84]) f_3) := hD
              refine lv_aload_n hx hb dX3_item_88 rfl (lv_at hl 0 rfl) ?_
              refine lv_dup hx hb dX3_item_89 rfl ?_
              refine va_get (D := (dC, dI)) (ci := 3) (v := .int (σ.1 0)) (C := RX3) (T := TX3) (N := 16) hx hb hts in0 hown hK hP 0 (xc_W_0 _ _) rfl 1 (by decide) lk1 (fun _ h9 => h9) rfl dX3_item_90 ?_
              refine lv_iconst (v := 1) hx hb dX3_item_93 (by decide) ?_
              refine lv_iadd hx hb dX3_item_94 ?_
              refine va_put (D := (dC, dI)) (ci := 3) (v := .int ((σ.1 0) + 1)) (ty := .int) (C := RX3) (T := TX3) (N := 16) hx hb hts in0 tyX3 tyX3_ok nmX3 hown hK hP hD hS 0 (xc_W_0 _ _) rfl 1 (by decide) lk1 (fun _ h9 => h9) rfl (by decide +kernel) rfl rfl (Nat.le_of_ble_eq_true rfl) dX3_item_95 (fun H locs hP hD hS => ?_)
              have hP : va_P (dC, dI) vwCl (xc_W Q cA (xs_i (xs_ar σ 0 (va_up (σ.2.2.2.2 0) ((σ.1 0)).toNatClampNeg (some q72))) 0 ((σ.1 0) + 1)) ++ va_pl ((L ++ [q72]) ++ [p84]) f_3) H := hP
              have hD : va_D A (xc_W Q cA (xs_i (xs_ar σ 0 (va_up (σ.2.2.2.2 0) ((σ.1 0)).toNatClampNeg (some q72))) 0 ((σ.1 0) + 1)) ++ va_pl ((L ++ [q72]) ++ [p84]) f_3) := hD
              refine lv_aload_n hx hb dX3_item_98 rfl (lv_at hl 0 rfl) ?_
              refine va_get (D := (dC, dI)) (ci := 3) (v := .int ((σ.1 0) + 1)) (C := RX3) (T := TX3) (N := 16) hx hb hts in0 hown hK hP 0 (xc_W_0 _ _) rfl 1 (by decide) lk1 (fun _ h9 => h9) rfl dX3_item_99 ?_
              exact W.iret (v := ((σ.1 0) + 1)) hx hb hr (fun t ht hW => ⟨⟨((σ.1 0) + 1), (xs_i σ 0 (σ.1 0 + 1), ni_co co n.1 x1 x2 x3 x4 x5), rfl, (by simp only [kc_item, if_pos c5, if_pos c12, if_pos c20, if_pos c36, if_pos c46, if_pos c58, hn0]), va_up σ.2.2.2.2 0 (va_up (σ.2.2.2.2 0) (σ.1 0).toNatClampNeg (some q72)), (n.1 + 1, n.2), _, _, (va_up ad.1 n.1 q72, va_up ad.2.1 n.1 p84, ad.2.2), Nat.le_succ _, re_newI hR hq72 (fun z => hp84 (List.mem_append_left _ z)) (fun a h => List.mem_append_left _ (List.mem_append_left _ h)) (List.mem_append_left _ (List.mem_append_right _ (List.mem_singleton.mpr rfl))) (List.mem_append_right _ (List.mem_singleton.mpr rfl)) (fun a h => by rw [ef_3, va_up_ne _ _ (ct_nq h hq72), ef_2, va_up_ne _ _ (ct_nq (List.mem_append_left _ h) hp84), ef_1, va_up_ne _ _ (ct_nq h hq72)]) (nu_4 c5) (by rw [hf_3_q72]; exact (ni_ce _ _ _ _ _ _ _ _).symm) (by rw [hf_3_p84]; exact (ni_cp _ _ _ _ _ _ _ _).symm) (nu_lt hR.1.1 hR.1.2.1 c58) (by show σ.1 0 + 1 = _; rw [hR.1.1]; exact nI_1 _) rfl rfl rfl (by show va_up (σ.2.2.2.2 0) (σ.1 0).toNatClampNeg (some q72) = _; rw [hn0]) rfl rfl, by rw [ht]; exact hP, va_K.moved hW.alike hK, hD⟩, hS.F ht⟩) hS.2.2 dX3_item_102
            · refine lv_bipush (v := (-104)) hx hb dX3_item_61 (by decide) ?_
              refine W.widen (k := 2) (n := 17) (by decide) (by decide) ?_
              exact W.iret (v := (-104)) hx hb hr (fun t ht hW => ⟨⟨(-104), (σ, co), rfl, (by simp only [kc_item, if_pos c5, if_pos c12, if_pos c20, if_pos c36, if_pos c46, if_neg c58, Option.elim, hn0, hn1, hn2]), σ.2.2.2.2, n, L, f, ad, Nat.le_succ _, hR, by rw [ht]; exact hP, va_K.moved hW.alike hK, hD⟩, hS.F ht⟩) hS.2.2 dX3_item_63
          · have c46 := of_decide_eq_false (bb_0.mp c46)
            refine lv_bipush (v := (-102)) hx hb dX3_item_49 (by decide) ?_
            refine W.widen (k := 2) (n := 17) (by decide) (by decide) ?_
            exact W.iret (v := (-102)) hx hb hr (fun t ht hW => ⟨⟨(-102), (σ, co), rfl, (by simp only [kc_item, if_pos c5, if_pos c12, if_pos c20, if_pos c36, if_neg c46, Option.elim, hn0, hn1, hn2]), σ.2.2.2.2, n, L, f, ad, Nat.le_succ _, hR, by rw [ht]; exact hP, va_K.moved hW.alike hK, hD⟩, hS.F ht⟩) hS.2.2 dX3_item_51
      · have c20 := of_decide_eq_false (bb_0.mp c20)
        refine lv_bipush (v := (-102)) hx hb dX3_item_23 (by decide) ?_
        refine W.widen (k := 2) (n := 17) (by decide) (by decide) ?_
        exact W.iret (v := (-102)) hx hb hr (fun t ht hW => ⟨⟨(-102), (σ, co), rfl, (by simp only [kc_item, if_pos c5, if_pos c12, if_neg c20, Option.elim, hn0, hn1, hn2]), σ.2.2.2.2, n, L, f, ad, Nat.le_succ _, hR, by rw [ht]; exact hP, va_K.moved hW.alike hK, hD⟩, hS.F ht⟩) hS.2.2 dX3_item_25
set_option maxHeartbeats 4000000 in
set_option maxRecDepth 100000 in
/-- mt_pass -/
theorem mt_pass (l : Launch) (dC : Nat → ClassId) (dI : Nat → Nat → Nat) (cA : Nat → ClassId) (sz : Nat) (Q : Nat → Nat) (σ : xs_T) (n : nn_T) (co : co_T) (L : List Nat) (f : Nat → va_E) (ad : ad_T) (hR : re_A cA σ n co L f ad) (hT : n.2.2.2 < 100000) (x1 x2 : Int32) (b : Bool) : Met l yX3_pass wsX3_pass ({ frames := 2, cells := 0, slots := 0, locals := 46 }) (va_Pc [.ref (Q 0), .int x1, .int x2, .int (bb_v b)] (ct_M (dC, dI) vwCl (ty_K cA) (xc_W Q cA σ ++ va_pl L f) sz)) (va_Qi (fun r u => (r, u) = kc_pass (σ, co) x1 x2 b) (fun u t => ∃ (ra : Nat → Nat → Option Nat) (n' : nn_T) (L' : List Nat) (f' : Nat → va_E) (ad' : ad_T), n'.2.2.2 ≤ n.2.2.2 + 1 ∧ re_A cA (xs_r u.1 ra) n' u.2 L' f' ad' ∧ ct_B (dC, dI) vwCl (ty_K cA) (va_A (xc_W Q cA σ ++ va_pl L f) sz) (xc_W Q cA (xs_r u.1 ra) ++ va_pl L' f') t) (va_A (xc_W Q cA σ ++ va_pl L f) sz)) 0 0 (va_A (xc_W Q cA σ ++ va_pl L f) sz) := by
  refine Met.ofW (cc := cX3_pass) (maxL := 5) (ret := (some .int)) (by decide) rfl ?_
  intro p e s m args below meth c s₁ B hml hv
  obtain ⟨rfl, hsz, hP, hK, hD0⟩ := hv
  have hx := B.exec
  have hb := B.bytes
  have hr := B.returns
  have hts := atoms_spec (ws := wsX3_pass) B.pre
  have hown : s.vm.findClass RX3 = some m.cls := findClass_of_methodNamed B.named
  have hlocks := B.notSynchronized
  subst hsz
  have hD := hD0.self (sz := s.heap.size)
  generalize hAe : va_A (xc_W Q cA σ ++ va_pl L f) s.heap.size = A at hD ⊢
  have hA : ∀ q : Nat, s.heap.size ≤ q → A q := fun q h => by rw [← hAe]; exact Or.inr h
  clear hAe hD0
  have hS : va_S A s.heap s.heap [] := va_S.rf
  have hl := lv_entry ([.ref (Q 0), .int x1, .int x2, .int (bb_v b)]) (n := 5) (Nat.le_of_ble_eq_true rfl)
  rw [lg_entry_eq]
  generalize (lg_sl ([.ref (Q 0), .int x1, .int x2, .int (bb_v b)]) ++ List.replicate (5 - (lg_sl ([.ref (Q 0), .int x1, .int x2, .int (bb_v b)])).length) Slot.unset).toArray = ls at hl ⊢
  have hl : lv_has ls 5 [(0, .ref (Q 0)), (1, .int x1), (2, .int x2), (3, .int (bb_v b))] := hl
  have lk0 := hts (.fieldLink RX3 69 "ClaimRows$Item" "passed" "I") (List.mem_cons_of_mem _ wd_69)
  have in0 : ∀ w ∈ u_ws RX1 TX1 9, w ∈ wsX3_pass := fun w h => List.mem_cons_of_mem _ (wu_X1 w h)
  have hn0 : (σ.1 0).toNatClampNeg = n.1 := by rw [hR.1.1]; exact nI_clamp (by have := hR.1.2.1; omega)
  have hn1 : (σ.1 1).toNatClampNeg = n.2.1 := by rw [hR.1.2.2.1]; exact nI_clamp (by have := hR.1.2.2.2.1; omega)
  have hn2 : (σ.1 2).toNatClampNeg = n.2.2.1 := by rw [hR.1.2.2.2.2.1]; exact nI_clamp (by have := hR.1.2.2.2.2.2.1; omega)
  refine lv_aload_n hx hb dX3_pass_0 rfl (lv_at hl 0 rfl) ?_
  refine lv_iload_n hx hb dX3_pass_1 rfl (lv_at hl 1 rfl) ?_
  refine va_csq (va_Run.run (va_runV (As := [.int x1]) (rest := []) ⟨hx, hb, hml, hown, hts⟩ (mt_itemNumbered l dC dI cA Q σ n co L f ad hR x1) (cwV 1 hts (al_gV wd_76 wd_78 wd_77 wd_1 wd_79) rfl rfl rfl (by decide +kernel) ⟨Nat.le_of_ble_eq_true rfl, Nat.le_of_ble_eq_true rfl⟩) ⟨ct_blR, va_recv hK hP (ci := 3) (q0 := 0) rfl (xc_W_0 _ _), ct_atR hP hK⟩ rfl rfl hl.1 rfl (lv_room (Nat.le_of_ble_eq_true rfl)) dX3_pass_2 ⟨Nat.le_of_ble_eq_true rfl, Nat.le_of_ble_eq_true rfl⟩)) (fun r2 hr2 => ?_)
  rcases hr2 with ⟨j2, hj2, hm2, ex2, rfl⟩ | ⟨hm2, rfl⟩
  · have hI1 := hR.2.1 j2 hj2
    have hI1a : f (ad.1 j2) = .inr (1, [.int (co.2.1 0 j2), .long (co.2.2.1 0 j2), .long (co.2.2.1 1 j2), .int (co.2.1 1 j2), .int (co.2.1 2 j2), .ref (ad.2.1 j2), .int (co.2.1 3 j2), .int (co.2.1 4 j2), .int (co.2.1 5 j2)]) := hI1.2.2.1
    have hI1p : f (ad.2.1 j2) = .inl ((cA 0), 8, .inl (co.2.2.2 j2)) := hI1.2.2.2.2
    refine lv_astore (lv' := [(4, .ref (ad.1 j2)), (0, .ref (Q 0)), (1, .int x1), (2, .int x2), (3, .int (bb_v b))]) hx hb dX3_pass_5 hl (by decide) rfl (fun ls hl => ?_)
    refine lv_aload hx hb dX3_pass_7 (lv_at hl 0 rfl) ?_
    refine lv_ifnonnull (tgt := 15) hx hb dX3_pass_9 (by decide) ?_
    refine lv_iload_n hx hb dX3_pass_15 rfl (lv_at hl 3 rfl) ?_
    refine lv_bipush (v := 6) hx hb dX3_pass_16 (by decide) ?_
    refine vp_callSi (va_Run.run (va_runS (As := [.int x2, .int 6]) (rest := []) ⟨hx, hb, hml, hown, hts⟩ (mt_isBelow l x2 6) (va_cwS 2 hts (al_gS wd_41 wd_42 wd_1 wd_43) rfl rfl rfl (by decide +kernel) ⟨Nat.le_of_ble_eq_true rfl, Nat.le_of_ble_eq_true rfl⟩) ⟨ct_bl0, ct_at0⟩ rfl rfl hl.1 rfl (lv_room (Nat.le_of_ble_eq_true rfl)) dX3_pass_18 ⟨Nat.le_of_ble_eq_true rfl, Nat.le_of_ble_eq_true rfl⟩)) (fun r18 hr18 => ?_)
    subst hr18
    refine lv_if_ne (tgt := 27) hx hb dX3_pass_21 (by decide) (fun c21 => ?_) (fun c21 => ?_)
    · have c21 := of_decide_eq_true (bb_n.mp c21)
      refine lv_aload hx hb dX3_pass_27 (lv_at hl 0 rfl) ?_
      refine hp_get (D := (dC, dI)) (ci := 1) (v := .int (co.2.1 3 j2)) (C := RX1) (T := TX1) (N := 9) hx hb hts in0 hown hK hP hI1.2.1 hI1a rfl 6 (by decide) lk0 (fun _ h9 => h9) rfl dX3_pass_29 ?_
      refine lv_bipush (v := 8) hx hb dX3_pass_32 (by decide) ?_
      refine lv_icmp_lt (tgt := 40) hx hb dX3_pass_34 (by decide) (fun c34 => ?_) (fun c34 => ?_)
      · obtain ⟨k2, w2, hk2, hw2, e32, e42⟩ := (hR.2.2.2.2.1.1 j2 hj2).2
        have h82 : k2 < 8 := nu_l8 e32 hk2 c34
        refine lv_aload hx hb dX3_pass_40 (lv_at hl 0 rfl) ?_
        refine lv_iload_n hx hb dX3_pass_42 rfl (lv_at hl 3 rfl) ?_
        refine lv_iload_n hx hb dX3_pass_43 rfl (lv_at hl 4 rfl) ?_
        have hFc := ct_free hD hS hA
        refine va_callv (va_runV (As := [.int x2, .int (bb_v b)]) (rest := []) ⟨hx, hb, hml, hown, hts⟩ (mt_addPost l dC dI cA s.heap.size (xc_W Q cA σ) L f (ad.1 j2) (ad.2.1 j2) hI1.2.1 hI1.2.2.2.1 (co.2.1 0 j2) (co.2.2.1 0 j2) (co.2.2.1 1 j2) (co.2.1 1 j2) (co.2.1 2 j2) (co.2.1 3 j2) (co.2.1 4 j2) (co.2.1 5 j2) hI1a (co.2.2.2 j2) hI1p k2 e32 h82 x2 b) (cwV 2 hts (al_gV wd_80 wd_81 wd_82 wd_3 wd_83) rfl rfl rfl (by decide +kernel) ⟨Nat.le_of_ble_eq_true rfl, Nat.le_of_ble_eq_true rfl⟩) ⟨ct_blM, hp_recv hK hP (ci := 1) rfl hI1.2.1 hI1a, ct_atM hP hK hD⟩ rfl rfl hl.1 rfl (lv_room (Nat.le_of_ble_eq_true rfl)) dX3_pass_44 ⟨Nat.le_of_ble_eq_true rfl, Nat.le_of_ble_eq_true rfl⟩) hS (fun q _ h => hFc q h) hFc (fun u44 t H1 locs ht hvm hr44 hB hz1 hk1 hS => ?_)
        obtain ⟨hP, -, hD1⟩ := hB
        rw [ht] at hP
        have hD := hD1.weaken (fun _ _ _ h => hFc _ h)
        clear hD1 hk1 hz1 hFc hvm
        generalize H1 = H at hP hS ht ⊢
        clear ht
        refine W.widen (k := 0) (n := 0) (by decide) (by decide) ?_
        subst hr44
        have hP : va_P (dC, dI) vwCl (xc_W Q cA σ ++ va_pl L (va_up (va_up f (ad.2.1 j2) (.inl ((cA 0), 8, .inl (upd (co.2.2.2 j2) ((co.2.1 3 j2)).toNatClampNeg x2)))) (ad.1 j2) (.inr (1, [.int (co.2.1 0 j2), .long (co.2.2.1 0 j2), .long (co.2.2.1 1 j2), .int (co.2.1 1 j2), .int (co.2.1 2 j2), .ref (ad.2.1 j2), .int ((co.2.1 3 j2) + 1), .int (if b then (co.2.1 3 j2) else (co.2.1 4 j2)), .int (co.2.1 5 j2)])))) H := hP
        have hD : va_D A (xc_W Q cA σ ++ va_pl L (va_up (va_up f (ad.2.1 j2) (.inl ((cA 0), 8, .inl (upd (co.2.2.2 j2) ((co.2.1 3 j2)).toNatClampNeg x2)))) (ad.1 j2) (.inr (1, [.int (co.2.1 0 j2), .long (co.2.2.1 0 j2), .long (co.2.2.1 1 j2), .int (co.2.1 1 j2), .int (co.2.1 2 j2), .ref (ad.2.1 j2), .int ((co.2.1 3 j2) + 1), .int (if b then (co.2.1 3 j2) else (co.2.1 4 j2)), .int (co.2.1 5 j2)])))) := hD
        obtain ⟨f_1, ef_1⟩ : ∃ y9, y9 = va_up f (ad.2.1 j2) (.inl ((cA 0), 8, .inl (upd (co.2.2.2 j2) ((co.2.1 3 j2)).toNatClampNeg x2))) := ⟨_, rfl⟩
        rw [← ef_1] at hP hD
        have hf_1_ad1j2 : f_1 (ad.1 j2) = .inr (1, [.int (co.2.1 0 j2), .long (co.2.2.1 0 j2), .long (co.2.2.1 1 j2), .int (co.2.1 1 j2), .int (co.2.1 2 j2), .ref (ad.2.1 j2), .int (co.2.1 3 j2), .int (co.2.1 4 j2), .int (co.2.1 5 j2)]) := by rw [ef_1, va_up_ne _ _ (ct_ne hI1a hI1p (by simp))]; exact hI1a
        have hf_1_ad21j2 : f_1 (ad.2.1 j2) = .inl ((cA 0), 8, .inl (upd (co.2.2.2 j2) ((co.2.1 3 j2)).toNatClampNeg x2)) := by rw [ef_1]; exact va_up_self _ _ _
        obtain ⟨f_2, ef_2⟩ : ∃ y9, y9 = va_up f_1 (ad.1 j2) (.inr (1, [.int (co.2.1 0 j2), .long (co.2.2.1 0 j2), .long (co.2.2.1 1 j2), .int (co.2.1 1 j2), .int (co.2.1 2 j2), .ref (ad.2.1 j2), .int ((co.2.1 3 j2) + 1), .int (if b then (co.2.1 3 j2) else (co.2.1 4 j2)), .int (co.2.1 5 j2)])) := ⟨_, rfl⟩
        rw [← ef_2] at hP hD
        have hf_2_ad21j2 : f_2 (ad.2.1 j2) = .inl ((cA 0), 8, .inl (upd (co.2.2.2 j2) ((co.2.1 3 j2)).toNatClampNeg x2)) := by rw [ef_2, va_up_ne _ _ (ct_ne hf_1_ad21j2 hf_1_ad1j2 (by simp))]; exact hf_1_ad21j2
        have hf_2_ad1j2 : f_2 (ad.1 j2) = .inr (1, [.int (co.2.1 0 j2), .long (co.2.2.1 0 j2), .long (co.2.2.1 1 j2), .int (co.2.1 1 j2), .int (co.2.1 2 j2), .ref (ad.2.1 j2), .int ((co.2.1 3 j2) + 1), .int (if b then (co.2.1 3 j2) else (co.2.1 4 j2)), .int (co.2.1 5 j2)]) := by rw [ef_2]; exact va_up_self _ _ _
        refine lv_aload hx hb dX3_pass_47 (lv_at hl 0 rfl) ?_
        refine hp_get (D := (dC, dI)) (ci := 1) (v := .int ((co.2.1 3 j2) + 1)) (C := RX1) (T := TX1) (N := 9) hx hb hts in0 hown hK hP hI1.2.1 hf_2_ad1j2 rfl 6 (by decide) lk0 (fun _ h9 => h9) rfl dX3_pass_49 ?_
        exact W.iret (v := ((co.2.1 3 j2) + 1)) hx hb hr (fun t ht hW => ⟨⟨((co.2.1 3 j2) + 1), (σ, ps_co co j2 x2 b), rfl, (by simp only [kc_pass, hm2, if_pos c21, if_pos c34, Option.elim]), σ.2.2.2.2, n, L, f_2, ad, Nat.le_succ _, re_setI hR hj2 (ps_ag hk2 hw2 h82 e32 e42) (by rw [hf_2_ad1j2]; exact (ps_ce _ _ _ _ _).symm) (by rw [hf_2_ad21j2]; exact (ps_cp _ _ _ _ _).symm) (fun z h1 h2 => by rw [ef_2, va_up_ne _ _ h1, ef_1, va_up_ne _ _ h2]), by rw [ht]; exact hP, va_K.moved hW.alike hK, hD⟩, hS.F ht⟩) hS.2.2 dX3_pass_52
      · refine lv_bipush (v := (-104)) hx hb dX3_pass_37 (by decide) ?_
        exact W.iret (v := (-104)) hx hb hr (fun t ht hW => ⟨⟨(-104), (σ, co), rfl, (by simp only [kc_pass, hm2, if_pos c21, if_neg c34, Option.elim, hn0, hn1, hn2]), σ.2.2.2.2, n, L, f, ad, Nat.le_succ _, hR, by rw [ht]; exact hP, va_K.moved hW.alike hK, hD⟩, hS.F ht⟩) hS.2.2 dX3_pass_39
    · have c21 := of_decide_eq_false (bb_0.mp c21)
      refine lv_bipush (v := (-102)) hx hb dX3_pass_24 (by decide) ?_
      exact W.iret (v := (-102)) hx hb hr (fun t ht hW => ⟨⟨(-102), (σ, co), rfl, (by simp only [kc_pass, hm2, if_neg c21, Option.elim, hn0, hn1, hn2]), σ.2.2.2.2, n, L, f, ad, Nat.le_succ _, hR, by rw [ht]; exact hP, va_K.moved hW.alike hK, hD⟩, hS.F ht⟩) hS.2.2 dX3_pass_26
  · skip
    refine lv_astoreN (lv' := [(4, .null), (0, .ref (Q 0)), (1, .int x1), (2, .int x2), (3, .int (bb_v b))]) hx hb dX3_pass_5 hl (by decide) rfl (fun ls hl => ?_)
    refine lv_aloadN hx hb dX3_pass_7 (lv_at hl 0 rfl) ?_
    refine lv_ifnonnullN hx hb dX3_pass_9 ?_
    refine lv_bipush (v := (-101)) hx hb dX3_pass_12 (by decide) ?_
    exact W.iret (v := (-101)) hx hb hr (fun t ht hW => ⟨⟨(-101), (σ, co), rfl, (by simp only [kc_pass, hm2, Option.elim, hn0, hn1, hn2]), σ.2.2.2.2, n, L, f, ad, Nat.le_succ _, hR, by rw [ht]; exact hP, va_K.moved hW.alike hK, hD⟩, hS.F ht⟩) hS.2.2 dX3_pass_14
set_option maxHeartbeats 4000000 in
set_option maxRecDepth 100000 in
/-- mt_table -/
theorem mt_table (l : Launch) (dC : Nat → ClassId) (dI : Nat → Nat → Nat) (cA : Nat → ClassId) (sz : Nat) (Q : Nat → Nat) (σ : xs_T) (n : nn_T) (co : co_T) (L : List Nat) (f : Nat → va_E) (ad : ad_T) (hR : re_A cA σ n co L f ad) (hT : n.2.2.2 < 100000) (x1 x2 : Int32) (x3 : Int64) (x4 : Int32) : Met l yX3_table wsX3_table ({ frames := 2, cells := 0, slots := 0, locals := 46 }) (va_Pc [.ref (Q 0), .int x1, .int x2, .long x3, .int x4] (ct_M (dC, dI) vwCl (ty_K cA) (xc_W Q cA σ ++ va_pl L f) sz)) (va_Qi (fun r u => (r, u) = kc_table (σ, co) x1 x2 x3 x4) (fun u t => ∃ (ra : Nat → Nat → Option Nat) (n' : nn_T) (L' : List Nat) (f' : Nat → va_E) (ad' : ad_T), n'.2.2.2 ≤ n.2.2.2 + 1 ∧ re_A cA (xs_r u.1 ra) n' u.2 L' f' ad' ∧ ct_B (dC, dI) vwCl (ty_K cA) (va_A (xc_W Q cA σ ++ va_pl L f) sz) (xc_W Q cA (xs_r u.1 ra) ++ va_pl L' f') t) (va_A (xc_W Q cA σ ++ va_pl L f) sz)) 0 0 (va_A (xc_W Q cA σ ++ va_pl L f) sz) := by
  refine Met.ofW (cc := cX3_table) (maxL := 7) (ret := (some .int)) (by decide) rfl ?_
  intro p e s m args below meth c s₁ B hml hv
  obtain ⟨rfl, hsz, hP, hK, hD0⟩ := hv
  have hx := B.exec
  have hb := B.bytes
  have hr := B.returns
  have hts := atoms_spec (ws := wsX3_table) B.pre
  have hown : s.vm.findClass RX3 = some m.cls := findClass_of_methodNamed B.named
  have hlocks := B.notSynchronized
  subst hsz
  have hD := hD0.self (sz := s.heap.size)
  generalize hAe : va_A (xc_W Q cA σ ++ va_pl L f) s.heap.size = A at hD ⊢
  have hA : ∀ q : Nat, s.heap.size ≤ q → A q := fun q h => by rw [← hAe]; exact Or.inr h
  clear hAe hD0
  have hS : va_S A s.heap s.heap [] := va_S.rf
  have hl := lv_entry ([.ref (Q 0), .int x1, .int x2, .long x3, .int x4]) (n := 7) (Nat.le_of_ble_eq_true rfl)
  rw [lg_entry_eq]
  generalize (lg_sl ([.ref (Q 0), .int x1, .int x2, .long x3, .int x4]) ++ List.replicate (7 - (lg_sl ([.ref (Q 0), .int x1, .int x2, .long x3, .int x4])).length) Slot.unset).toArray = ls at hl ⊢
  have hl : lv_has ls 7 [(0, .ref (Q 0)), (1, .int x1), (2, .int x2), (3, .long x3), (5, .int x4)] := hl
  have lk0 := hts (.constantLong RX3 76 10000) (List.mem_cons_of_mem _ wd_88)
  have lk1 := hts (.fieldLink RX3 27 "ClaimRows" "tableMost" "[J") (List.mem_cons_of_mem _ wd_25)
  have lk2 := hts (.fieldLink RX3 31 "ClaimRows" "tableDays" "[I") (List.mem_cons_of_mem _ wd_26)
  have in0 : ∀ w ∈ u_ws RX3 TX3 16, w ∈ wsX3_table := fun w h => List.mem_cons_of_mem _ (wu_X3 w h)
  have hn0 : (σ.1 0).toNatClampNeg = n.1 := by rw [hR.1.1]; exact nI_clamp (by have := hR.1.2.1; omega)
  have hn1 : (σ.1 1).toNatClampNeg = n.2.1 := by rw [hR.1.2.2.1]; exact nI_clamp (by have := hR.1.2.2.2.1; omega)
  have hn2 : (σ.1 2).toNatClampNeg = n.2.2.1 := by rw [hR.1.2.2.2.2.1]; exact nI_clamp (by have := hR.1.2.2.2.2.2.1; omega)
  refine lv_iload_n hx hb dX3_table_0 rfl (lv_at hl 1 rfl) ?_
  refine lv_iconst (v := 4) hx hb dX3_table_1 (by decide) ?_
  refine vp_callSi (va_Run.run (va_runS (As := [.int x1, .int 4]) (rest := []) ⟨hx, hb, hml, hown, hts⟩ (mt_isBelow l x1 4) (va_cwS 2 hts (al_gS wd_41 wd_42 wd_1 wd_43) rfl rfl rfl (by decide +kernel) ⟨Nat.le_of_ble_eq_true rfl, Nat.le_of_ble_eq_true rfl⟩) ⟨ct_bl0, ct_at0⟩ rfl rfl hl.1 rfl (lv_room (Nat.le_of_ble_eq_true rfl)) dX3_table_2 ⟨Nat.le_of_ble_eq_true rfl, Nat.le_of_ble_eq_true rfl⟩)) (fun r2 hr2 => ?_)
  subst hr2
  refine lv_if_eq (tgt := 16) hx hb dX3_table_5 (by decide) (fun c5 => ?_) (fun c5 => ?_)
  · have c5 := of_decide_eq_false (bb_0.mp c5)
    refine lv_bipush (v := (-102)) hx hb dX3_table_16 (by decide) ?_
    exact W.iret (v := (-102)) hx hb hr (fun t ht hW => ⟨⟨(-102), (σ, co), rfl, (by simp only [kc_table, if_neg c5, Option.elim, hn0, hn1, hn2]), σ.2.2.2.2, n, L, f, ad, Nat.le_succ _, hR, by rw [ht]; exact hP, va_K.moved hW.alike hK, hD⟩, hS.F ht⟩) hS.2.2 dX3_table_18
  · have c5 := of_decide_eq_true (bb_n.mp c5)
    refine lv_iload_n hx hb dX3_table_8 rfl (lv_at hl 2 rfl) ?_
    refine lv_iconst (v := 4) hx hb dX3_table_9 (by decide) ?_
    refine vp_callSi (va_Run.run (va_runS (As := [.int x2, .int 4]) (rest := []) ⟨hx, hb, hml, hown, hts⟩ (mt_isBelow l x2 4) (va_cwS 2 hts (al_gS wd_41 wd_42 wd_1 wd_43) rfl rfl rfl (by decide +kernel) ⟨Nat.le_of_ble_eq_true rfl, Nat.le_of_ble_eq_true rfl⟩) ⟨ct_bl0, ct_at0⟩ rfl rfl hl.1 rfl (lv_room (Nat.le_of_ble_eq_true rfl)) dX3_table_10 ⟨Nat.le_of_ble_eq_true rfl, Nat.le_of_ble_eq_true rfl⟩)) (fun r10 hr10 => ?_)
    subst hr10
    refine lv_if_ne (tgt := 19) hx hb dX3_table_13 (by decide) (fun c13 => ?_) (fun c13 => ?_)
    · have c13 := of_decide_eq_true (bb_n.mp c13)
      refine lv_lload_n hx hb dX3_table_19 rfl (lv_at hl 3 rfl) ?_
      refine vp_callSi (va_Run.run (va_runS (As := [.long x3]) (rest := []) ⟨hx, hb, hml, hown, hts⟩ (mt_areCents l x3) (va_cwS 1 hts (al_gS wd_44 wd_45 wd_1 wd_46) rfl rfl rfl (by decide +kernel) ⟨Nat.le_of_ble_eq_true rfl, Nat.le_of_ble_eq_true rfl⟩) ⟨ct_bl0, ct_at0⟩ rfl rfl hl.1 rfl (lv_room (Nat.le_of_ble_eq_true rfl)) dX3_table_20 ⟨Nat.le_of_ble_eq_true rfl, Nat.le_of_ble_eq_true rfl⟩)) (fun r20 hr20 => ?_)
      subst hr20
      refine lv_if_eq (tgt := 39) hx hb dX3_table_23 (by decide) (fun c23 => ?_) (fun c23 => ?_)
      · have c23 := of_decide_eq_false (bb_0.mp c23)
        refine lv_bipush (v := (-102)) hx hb dX3_table_39 (by decide) ?_
        exact W.iret (v := (-102)) hx hb hr (fun t ht hW => ⟨⟨(-102), (σ, co), rfl, (by simp only [kc_table, if_pos c5, if_pos c13, if_neg c23, Option.elim, hn0, hn1, hn2]), σ.2.2.2.2, n, L, f, ad, Nat.le_succ _, hR, by rw [ht]; exact hP, va_K.moved hW.alike hK, hD⟩, hS.F ht⟩) hS.2.2 dX3_table_41
      · have c23 := of_decide_eq_true (bb_n.mp c23)
        refine lv_iload hx hb dX3_table_26 (lv_at hl 4 rfl) ?_
        refine lv_i2l (v := (x4 : Int32).toInt64) hx hb dX3_table_28 rfl ?_
        refine lv_lconst (v := 0) hx hb dX3_table_29 (by decide) ?_
        refine lv_ldc2 hx hb hown lk0 dX3_table_30 ?_
        refine vp_callSi (va_Run.run (va_runS (As := [.long ((x4 : Int32).toInt64), .long 0, .long 10000]) (rest := []) ⟨hx, hb, hml, hown, hts⟩ (mt_isWithin l ((x4 : Int32).toInt64) 0 10000) (va_cwS 3 hts (al_gS wd_48 wd_49 wd_1 wd_50) rfl rfl rfl (by decide +kernel) ⟨Nat.le_of_ble_eq_true rfl, Nat.le_of_ble_eq_true rfl⟩) ⟨ct_bl0, ct_at0⟩ rfl rfl hl.1 rfl (lv_room (Nat.le_of_ble_eq_true rfl)) dX3_table_33 ⟨Nat.le_of_ble_eq_true rfl, Nat.le_of_ble_eq_true rfl⟩)) (fun r33 hr33 => ?_)
        subst hr33
        refine lv_if_ne (tgt := 42) hx hb dX3_table_36 (by decide) (fun c36 => ?_) (fun c36 => ?_)
        · have c36 := of_decide_eq_true (bb_n.mp c36)
          refine lv_iload_n hx hb dX3_table_42 rfl (lv_at hl 1 rfl) ?_
          refine lv_iload_n hx hb dX3_table_43 rfl (lv_at hl 2 rfl) ?_
          refine vp_callSi (va_Run.run (va_runS (As := [.int x1, .int x2]) (rest := []) ⟨hx, hb, hml, hown, hts⟩ (mt_rowOf l x1 x2) (va_cwS 2 hts (al_gS wd_89 wd_90 wd_1 wd_91) rfl rfl rfl (by decide +kernel) ⟨Nat.le_of_ble_eq_true rfl, Nat.le_of_ble_eq_true rfl⟩) ⟨ct_bl0, ct_at0⟩ rfl rfl hl.1 rfl (lv_room (Nat.le_of_ble_eq_true rfl)) dX3_table_44 ⟨Nat.le_of_ble_eq_true rfl, Nat.le_of_ble_eq_true rfl⟩)) (fun r44 hr44 => ?_)
          subst hr44
          refine lv_istore (lv' := [(6, .int (x1 * 4 + x2)), (0, .ref (Q 0)), (1, .int x1), (2, .int x2), (3, .long x3), (5, .int x4)]) hx hb dX3_table_47 hl (by decide) rfl (fun ls hl => ?_)
          refine lv_aload_n hx hb dX3_table_49 rfl (lv_at hl 1 rfl) ?_
          refine va_get (D := (dC, dI)) (ci := 3) (v := .ref (Q 4)) (C := RX3) (T := TX3) (N := 16) hx hb hts in0 hown hK hP 0 (xc_W_0 _ _) rfl 6 (by decide) lk1 (fun _ h9 => h9) rfl dX3_table_50 ?_
          refine lv_iload hx hb dX3_table_53 (lv_at hl 0 rfl) ?_
          refine lv_lload_n hx hb dX3_table_55 rfl (lv_at hl 4 rfl) ?_
          refine va_last hx hb hK hP hD hS 4 1 (xc_W_4 _ _) rfl (rw_in (nu_4 c5) (nu_4 c13)) dX3_table_56 (fun H locs hP hD hS => ?_)
          have hP : va_P (dC, dI) vwCl (xc_W Q cA (xs_al σ 0 (vp_updL (σ.2.2.2.1 0) ((x1 * 4 + x2)).toNatClampNeg x3)) ++ va_pl L f) H := hP
          have hD : va_D A (xc_W Q cA (xs_al σ 0 (vp_updL (σ.2.2.2.1 0) ((x1 * 4 + x2)).toNatClampNeg x3)) ++ va_pl L f) := hD
          refine lv_aload_n hx hb dX3_table_57 rfl (lv_at hl 1 rfl) ?_
          refine va_get (D := (dC, dI)) (ci := 3) (v := .ref (Q 5)) (C := RX3) (T := TX3) (N := 16) hx hb hts in0 hown hK hP 0 (xc_W_0 _ _) rfl 7 (by decide) lk2 (fun _ h9 => h9) rfl dX3_table_58 ?_
          refine lv_iload hx hb dX3_table_61 (lv_at hl 0 rfl) ?_
          refine lv_iload hx hb dX3_table_63 (lv_at hl 5 rfl) ?_
          refine va_iast hx hb hK hP hD hS 5 0 (xc_W_5 _ _) rfl (rw_in (nu_4 c5) (nu_4 c13)) dX3_table_65 (fun H locs hP hD hS => ?_)
          have hP : va_P (dC, dI) vwCl (xc_W Q cA (xs_ai (xs_al σ 0 (vp_updL (σ.2.2.2.1 0) ((x1 * 4 + x2)).toNatClampNeg x3)) 0 (upd (σ.2.2.1 0) ((x1 * 4 + x2)).toNatClampNeg x4)) ++ va_pl L f) H := hP
          have hD : va_D A (xc_W Q cA (xs_ai (xs_al σ 0 (vp_updL (σ.2.2.2.1 0) ((x1 * 4 + x2)).toNatClampNeg x3)) 0 (upd (σ.2.2.1 0) ((x1 * 4 + x2)).toNatClampNeg x4)) ++ va_pl L f) := hD
          refine lv_iconst (v := 1) hx hb dX3_table_66 (by decide) ?_
          exact W.iret (v := 1) hx hb hr (fun t ht hW => ⟨⟨1, (xs_ai (xs_al σ 0 (vp_updL (σ.2.2.2.1 0) ((x1 * 4 + x2)).toNatClampNeg x3)) 0 (upd (σ.2.2.1 0) ((x1 * 4 + x2)).toNatClampNeg x4), co), rfl, (by simp only [kc_table, if_pos c5, if_pos c13, if_pos c23, if_pos c36]), σ.2.2.2.2, n, L, f, ad, Nat.le_succ _, re_x hR n.2.2.2 rfl rfl rfl hR.1.2.2.2.2.2.2 rfl, by rw [ht]; exact hP, va_K.moved hW.alike hK, hD⟩, hS.F ht⟩) hS.2.2 dX3_table_67
        · have c36 := of_decide_eq_false (bb_0.mp c36)
          refine lv_bipush (v := (-102)) hx hb dX3_table_39 (by decide) ?_
          exact W.iret (v := (-102)) hx hb hr (fun t ht hW => ⟨⟨(-102), (σ, co), rfl, (by simp only [kc_table, if_pos c5, if_pos c13, if_pos c23, if_neg c36, Option.elim, hn0, hn1, hn2]), σ.2.2.2.2, n, L, f, ad, Nat.le_succ _, hR, by rw [ht]; exact hP, va_K.moved hW.alike hK, hD⟩, hS.F ht⟩) hS.2.2 dX3_table_41
    · have c13 := of_decide_eq_false (bb_0.mp c13)
      refine lv_bipush (v := (-102)) hx hb dX3_table_16 (by decide) ?_
      exact W.iret (v := (-102)) hx hb hr (fun t ht hW => ⟨⟨(-102), (σ, co), rfl, (by simp only [kc_table, if_pos c5, if_neg c13, Option.elim, hn0, hn1, hn2]), σ.2.2.2.2, n, L, f, ad, Nat.le_succ _, hR, by rw [ht]; exact hP, va_K.moved hW.alike hK, hD⟩, hS.F ht⟩) hS.2.2 dX3_table_18
set_option maxHeartbeats 4000000 in
set_option maxRecDepth 100000 in
/-- mt_limit -/
theorem mt_limit (l : Launch) (dC : Nat → ClassId) (dI : Nat → Nat → Nat) (cA : Nat → ClassId) (sz : Nat) (Q : Nat → Nat) (σ : xs_T) (n : nn_T) (co : co_T) (L : List Nat) (f : Nat → va_E) (ad : ad_T) (hR : re_A cA σ n co L f ad) (hT : n.2.2.2 < 100000) (x1 : Int32) (x2 : Int64) : Met l yX3_limit wsX3_limit ({ frames := 2, cells := 0, slots := 0, locals := 46 }) (va_Pc [.ref (Q 0), .int x1, .long x2] (ct_M (dC, dI) vwCl (ty_K cA) (xc_W Q cA σ ++ va_pl L f) sz)) (va_Qi (fun r u => (r, u) = kc_limit (σ, co) x1 x2) (fun u t => ∃ (ra : Nat → Nat → Option Nat) (n' : nn_T) (L' : List Nat) (f' : Nat → va_E) (ad' : ad_T), n'.2.2.2 ≤ n.2.2.2 + 1 ∧ re_A cA (xs_r u.1 ra) n' u.2 L' f' ad' ∧ ct_B (dC, dI) vwCl (ty_K cA) (va_A (xc_W Q cA σ ++ va_pl L f) sz) (xc_W Q cA (xs_r u.1 ra) ++ va_pl L' f') t) (va_A (xc_W Q cA σ ++ va_pl L f) sz)) 0 0 (va_A (xc_W Q cA σ ++ va_pl L f) sz) := by
  refine Met.ofW (cc := cX3_limit) (maxL := 4) (ret := (some .int)) (by decide) rfl ?_
  intro p e s m args below meth c s₁ B hml hv
  obtain ⟨rfl, hsz, hP, hK, hD0⟩ := hv
  have hx := B.exec
  have hb := B.bytes
  have hr := B.returns
  have hts := atoms_spec (ws := wsX3_limit) B.pre
  have hown : s.vm.findClass RX3 = some m.cls := findClass_of_methodNamed B.named
  have hlocks := B.notSynchronized
  subst hsz
  have hD := hD0.self (sz := s.heap.size)
  generalize hAe : va_A (xc_W Q cA σ ++ va_pl L f) s.heap.size = A at hD ⊢
  have hA : ∀ q : Nat, s.heap.size ≤ q → A q := fun q h => by rw [← hAe]; exact Or.inr h
  clear hAe hD0
  have hS : va_S A s.heap s.heap [] := va_S.rf
  have hl := lv_entry ([.ref (Q 0), .int x1, .long x2]) (n := 4) (Nat.le_of_ble_eq_true rfl)
  rw [lg_entry_eq]
  generalize (lg_sl ([.ref (Q 0), .int x1, .long x2]) ++ List.replicate (4 - (lg_sl ([.ref (Q 0), .int x1, .long x2])).length) Slot.unset).toArray = ls at hl ⊢
  have hl : lv_has ls 4 [(0, .ref (Q 0)), (1, .int x1), (2, .long x2)] := hl
  have lk0 := hts (.fieldLink RX3 35 "ClaimRows" "limits" "[J") (List.mem_cons_of_mem _ wd_27)
  have in0 : ∀ w ∈ u_ws RX3 TX3 16, w ∈ wsX3_limit := fun w h => List.mem_cons_of_mem _ (wu_X3 w h)
  have hn0 : (σ.1 0).toNatClampNeg = n.1 := by rw [hR.1.1]; exact nI_clamp (by have := hR.1.2.1; omega)
  have hn1 : (σ.1 1).toNatClampNeg = n.2.1 := by rw [hR.1.2.2.1]; exact nI_clamp (by have := hR.1.2.2.2.1; omega)
  have hn2 : (σ.1 2).toNatClampNeg = n.2.2.1 := by rw [hR.1.2.2.2.2.1]; exact nI_clamp (by have := hR.1.2.2.2.2.2.1; omega)
  refine lv_iload_n hx hb dX3_limit_0 rfl (lv_at hl 1 rfl) ?_
  refine lv_bipush (v := 10) hx hb dX3_limit_1 (by decide) ?_
  refine vp_callSi (va_Run.run (va_runS (As := [.int x1, .int 10]) (rest := []) ⟨hx, hb, hml, hown, hts⟩ (mt_isBelow l x1 10) (va_cwS 2 hts (al_gS wd_41 wd_42 wd_1 wd_43) rfl rfl rfl (by decide +kernel) ⟨Nat.le_of_ble_eq_true rfl, Nat.le_of_ble_eq_true rfl⟩) ⟨ct_bl0, ct_at0⟩ rfl rfl hl.1 rfl (lv_room (Nat.le_of_ble_eq_true rfl)) dX3_limit_3 ⟨Nat.le_of_ble_eq_true rfl, Nat.le_of_ble_eq_true rfl⟩)) (fun r3 hr3 => ?_)
  subst hr3
  refine lv_if_eq (tgt := 16) hx hb dX3_limit_6 (by decide) (fun c6 => ?_) (fun c6 => ?_)
  · have c6 := of_decide_eq_false (bb_0.mp c6)
    refine lv_bipush (v := (-102)) hx hb dX3_limit_16 (by decide) ?_
    exact W.iret (v := (-102)) hx hb hr (fun t ht hW => ⟨⟨(-102), (σ, co), rfl, (by simp only [kc_limit, if_neg c6, Option.elim, hn0, hn1, hn2]), σ.2.2.2.2, n, L, f, ad, Nat.le_succ _, hR, by rw [ht]; exact hP, va_K.moved hW.alike hK, hD⟩, hS.F ht⟩) hS.2.2 dX3_limit_18
  · have c6 := of_decide_eq_true (bb_n.mp c6)
    refine lv_lload_n hx hb dX3_limit_9 rfl (lv_at hl 2 rfl) ?_
    refine vp_callSi (va_Run.run (va_runS (As := [.long x2]) (rest := []) ⟨hx, hb, hml, hown, hts⟩ (mt_areCents l x2) (va_cwS 1 hts (al_gS wd_44 wd_45 wd_1 wd_46) rfl rfl rfl (by decide +kernel) ⟨Nat.le_of_ble_eq_true rfl, Nat.le_of_ble_eq_true rfl⟩) ⟨ct_bl0, ct_at0⟩ rfl rfl hl.1 rfl (lv_room (Nat.le_of_ble_eq_true rfl)) dX3_limit_10 ⟨Nat.le_of_ble_eq_true rfl, Nat.le_of_ble_eq_true rfl⟩)) (fun r10 hr10 => ?_)
    subst hr10
    refine lv_if_ne (tgt := 19) hx hb dX3_limit_13 (by decide) (fun c13 => ?_) (fun c13 => ?_)
    · have c13 := of_decide_eq_true (bb_n.mp c13)
      refine lv_aload_n hx hb dX3_limit_19 rfl (lv_at hl 0 rfl) ?_
      refine va_get (D := (dC, dI)) (ci := 3) (v := .ref (Q 6)) (C := RX3) (T := TX3) (N := 16) hx hb hts in0 hown hK hP 0 (xc_W_0 _ _) rfl 8 (by decide) lk0 (fun _ h9 => h9) rfl dX3_limit_20 ?_
      refine lv_iload_n hx hb dX3_limit_23 rfl (lv_at hl 1 rfl) ?_
      refine lv_lload_n hx hb dX3_limit_24 rfl (lv_at hl 2 rfl) ?_
      refine va_last hx hb hK hP hD hS 6 1 (xc_W_6 _ _) rfl (nu_b (b := 10) c6) dX3_limit_25 (fun H locs hP hD hS => ?_)
      have hP : va_P (dC, dI) vwCl (xc_W Q cA (xs_al σ 1 (vp_updL (σ.2.2.2.1 1) (x1).toNatClampNeg x2)) ++ va_pl L f) H := hP
      have hD : va_D A (xc_W Q cA (xs_al σ 1 (vp_updL (σ.2.2.2.1 1) (x1).toNatClampNeg x2)) ++ va_pl L f) := hD
      refine lv_iconst (v := 1) hx hb dX3_limit_26 (by decide) ?_
      exact W.iret (v := 1) hx hb hr (fun t ht hW => ⟨⟨1, (xs_al σ 1 (vp_updL (σ.2.2.2.1 1) (x1).toNatClampNeg x2), co), rfl, (by simp only [kc_limit, if_pos c6, if_pos c13]), σ.2.2.2.2, n, L, f, ad, Nat.le_succ _, re_x hR n.2.2.2 rfl rfl rfl hR.1.2.2.2.2.2.2 rfl, by rw [ht]; exact hP, va_K.moved hW.alike hK, hD⟩, hS.F ht⟩) hS.2.2 dX3_limit_27
    · have c13 := of_decide_eq_false (bb_0.mp c13)
      refine lv_bipush (v := (-102)) hx hb dX3_limit_16 (by decide) ?_
      exact W.iret (v := (-102)) hx hb hr (fun t ht hW => ⟨⟨(-102), (σ, co), rfl, (by simp only [kc_limit, if_pos c6, if_neg c13, Option.elim, hn0, hn1, hn2]), σ.2.2.2.2, n, L, f, ad, Nat.le_succ _, hR, by rw [ht]; exact hP, va_K.moved hW.alike hK, hD⟩, hS.F ht⟩) hS.2.2 dX3_limit_18
end
section
set_option maxHeartbeats 4000000 in
set_option maxRecDepth 100000 in
/-- mt_search -/
theorem mt_search (l : Launch) (dC : Nat → ClassId) (dI : Nat → Nat → Nat) (cA : Nat → ClassId) (sz : Nat) (Q : Nat → Nat) (σ : xs_T) (n : nn_T) (co : co_T) (L : List Nat) (f : Nat → va_E) (ad : ad_T) (hR : re_A cA σ n co L f ad) (hT : n.2.2.2 < 100000) (x1 x2 x3 : Int32) : Met l yX3_search wsX3_search ({ frames := 2, cells := 1, slots := 3, locals := 46 }) (va_Pc [.ref (Q 0), .int x1, .int x2, .int x3] (ct_M (dC, dI) vwCl (ty_K cA) (xc_W Q cA σ ++ va_pl L f) sz)) (va_Qi (fun r u => (r, u) = kc_search (σ, co) x1 x2 x3) (fun u t => ∃ (ra : Nat → Nat → Option Nat) (n' : nn_T) (L' : List Nat) (f' : Nat → va_E) (ad' : ad_T), n'.2.2.2 ≤ n.2.2.2 + 1 ∧ re_A cA (xs_r u.1 ra) n' u.2 L' f' ad' ∧ ct_B (dC, dI) vwCl (ty_K cA) (va_A (xc_W Q cA σ ++ va_pl L f) sz) (xc_W Q cA (xs_r u.1 ra) ++ va_pl L' f') t) (va_A (xc_W Q cA σ ++ va_pl L f) sz)) 1 3 (va_A (xc_W Q cA σ ++ va_pl L f) sz) := by
  refine Met.ofW (cc := cX3_search) (maxL := 5) (ret := (some .int)) (by decide) rfl ?_
  intro p e s m args below meth c s₁ B hml hv
  obtain ⟨rfl, hsz, hP, hK, hD0⟩ := hv
  have hx := B.exec
  have hb := B.bytes
  have hr := B.returns
  have hts := atoms_spec (ws := wsX3_search) B.pre
  have hown : s.vm.findClass RX3 = some m.cls := findClass_of_methodNamed B.named
  have hlocks := B.notSynchronized
  subst hsz
  have hD := hD0.self (sz := s.heap.size)
  generalize hAe : va_A (xc_W Q cA σ ++ va_pl L f) s.heap.size = A at hD ⊢
  have hA : ∀ q : Nat, s.heap.size ≤ q → A q := fun q h => by rw [← hAe]; exact Or.inr h
  clear hAe hD0
  have hS : va_S A s.heap s.heap [] := va_S.rf
  have hl := lv_entry ([.ref (Q 0), .int x1, .int x2, .int x3]) (n := 5) (Nat.le_of_ble_eq_true rfl)
  rw [lg_entry_eq]
  generalize (lg_sl ([.ref (Q 0), .int x1, .int x2, .int x3]) ++ List.replicate (5 - (lg_sl ([.ref (Q 0), .int x1, .int x2, .int x3])).length) Slot.unset).toArray = ls at hl ⊢
  have hl : lv_has ls 5 [(0, .ref (Q 0)), (1, .int x1), (2, .int x2), (3, .int x3)] := hl
  have lk0 := hts (.fieldLink RX3 131 "ClaimRows" "clock" "I") (List.mem_cons_of_mem _ wd_31)
  have lk1 := hts (.constantLong RX3 84 200000) (List.mem_cons_of_mem _ wd_97)
  have lk2 := hts (.fieldLink RX3 120 "ClaimRows$Claim" "state" "I") (List.mem_cons_of_mem _ wd_129)
  have lk3 := hts (.fieldLink RX3 134 "ClaimRows$Claim" "kind" "I") (List.mem_cons_of_mem _ wd_125)
  have lk4 := hts (.fieldLink RX3 137 "ClaimRows" "searchCount" "I") (List.mem_cons_of_mem _ wd_24)
  have lk5 := hts (.fieldLink RX3 23 "ClaimRows" "searches" "[LClaimRows$Search;") (List.mem_cons_of_mem _ wd_23)
  have lk6 := hts (.classLink RX3 21 RX2) (List.mem_cons_of_mem _ wd_18)
  have lk7 := hts (.instantiable RX2 3) (List.mem_cons_of_mem _ wd_159)
  have lk8 := hts (.initialized RX2) (List.mem_cons_of_mem _ wd_6)
  have lk9 := hts (.methodLink RX3 140 yX2_init) (List.mem_cons_of_mem _ wd_160)
  have lk10 := hts (.instanceMethod yX2_init) (List.mem_cons_of_mem _ wd_161)
  have in0 : ∀ w ∈ u_ws RX3 TX3 16, w ∈ wsX3_search := fun w h => List.mem_cons_of_mem _ (wu_X3 w h)
  have in1 : ∀ w ∈ u_ws RX0 TX0 13, w ∈ wsX3_search := fun w h => List.mem_cons_of_mem _ (wu_X0 w h)
  have in2 : ∀ w ∈ u_ws RX2 TX2 3, w ∈ wsX3_search := fun w h => List.mem_cons_of_mem _ (wu_X2 w h)
  have hn0 : (σ.1 0).toNatClampNeg = n.1 := by rw [hR.1.1]; exact nI_clamp (by have := hR.1.2.1; omega)
  have hn1 : (σ.1 1).toNatClampNeg = n.2.1 := by rw [hR.1.2.2.1]; exact nI_clamp (by have := hR.1.2.2.2.1; omega)
  have hn2 : (σ.1 2).toNatClampNeg = n.2.2.1 := by rw [hR.1.2.2.2.2.1]; exact nI_clamp (by have := hR.1.2.2.2.2.2.1; omega)
  refine lv_aload_n hx hb dX3_search_0 rfl (lv_at hl 0 rfl) ?_
  refine lv_iload_n hx hb dX3_search_1 rfl (lv_at hl 1 rfl) ?_
  refine va_csq (va_Run.run (va_runV (As := [.int x1]) (rest := []) ⟨hx, hb, hml, hown, hts⟩ (mt_claimNumbered l dC dI cA Q σ n co L f ad hR x1) (cwV 1 hts (al_gV wd_105 wd_107 wd_106 wd_1 wd_108) rfl rfl rfl (by decide +kernel) ⟨Nat.le_of_ble_eq_true rfl, Nat.le_of_ble_eq_true rfl⟩) ⟨ct_blR, va_recv hK hP (ci := 3) (q0 := 0) rfl (xc_W_0 _ _), ct_atR hP hK⟩ rfl rfl hl.1 rfl (lv_room (Nat.le_of_ble_eq_true rfl)) dX3_search_2 ⟨Nat.le_of_ble_eq_true rfl, Nat.le_of_ble_eq_true rfl⟩)) (fun r2 hr2 => ?_)
  rcases hr2 with ⟨j2, hj2, hm2, ex2, rfl⟩ | ⟨hm2, rfl⟩
  · have hC1 := hR.2.2.1 j2 hj2
    have hC1v := hR.2.2.2.2.1.2.1 j2 hj2
    have hC1a : f (ad.2.2.1 j2) = .inr (0, [.int (nI (j2 + 1)), .int (co.2.1 6 j2), .ref (ad.1 (co.1 0 j2)), .int (co.2.1 7 j2), .int (co.2.1 8 j2), .int (co.2.1 9 j2), .int (co.2.1 10 j2), .int (co.2.1 11 j2), .int (co.2.1 12 j2), .int (co.2.1 13 j2), .int (co.2.1 14 j2), .int (co.2.1 15 j2), .long (co.2.2.1 2 j2)]) := hC1.2.2
    have hI2 := hR.2.1 (co.1 0 j2) hC1v.1
    have hI2a : f (ad.1 (co.1 0 j2)) = .inr (1, [.int (co.2.1 0 (co.1 0 j2)), .long (co.2.2.1 0 (co.1 0 j2)), .long (co.2.2.1 1 (co.1 0 j2)), .int (co.2.1 1 (co.1 0 j2)), .int (co.2.1 2 (co.1 0 j2)), .ref (ad.2.1 (co.1 0 j2)), .int (co.2.1 3 (co.1 0 j2)), .int (co.2.1 4 (co.1 0 j2)), .int (co.2.1 5 (co.1 0 j2))]) := hI2.2.2.1
    have hI2p : f (ad.2.1 (co.1 0 j2)) = .inl ((cA 0), 8, .inl (co.2.2.2 (co.1 0 j2))) := hI2.2.2.2.2
    refine lv_astore (lv' := [(4, .ref (ad.2.2.1 j2)), (0, .ref (Q 0)), (1, .int x1), (2, .int x2), (3, .int x3)]) hx hb dX3_search_5 hl (by decide) rfl (fun ls hl => ?_)
    refine lv_aload hx hb dX3_search_7 (lv_at hl 0 rfl) ?_
    refine lv_ifnonnull (tgt := 15) hx hb dX3_search_9 (by decide) ?_
    refine lv_iload_n hx hb dX3_search_15 rfl (lv_at hl 3 rfl) ?_
    refine lv_bipush (v := 50) hx hb dX3_search_16 (by decide) ?_
    refine vp_callSi (va_Run.run (va_runS (As := [.int x2, .int 50]) (rest := []) ⟨hx, hb, hml, hown, hts⟩ (mt_isBelow l x2 50) (va_cwS 2 hts (al_gS wd_41 wd_42 wd_1 wd_43) rfl rfl rfl (by decide +kernel) ⟨Nat.le_of_ble_eq_true rfl, Nat.le_of_ble_eq_true rfl⟩) ⟨ct_bl0, ct_at0⟩ rfl rfl hl.1 rfl (lv_room (Nat.le_of_ble_eq_true rfl)) dX3_search_18 ⟨Nat.le_of_ble_eq_true rfl, Nat.le_of_ble_eq_true rfl⟩)) (fun r18 hr18 => ?_)
    subst hr18
    refine lv_if_eq (tgt := 40) hx hb dX3_search_21 (by decide) (fun c21 => ?_) (fun c21 => ?_)
    · have c21 := of_decide_eq_false (bb_0.mp c21)
      refine lv_bipush (v := (-102)) hx hb dX3_search_40 (by decide) ?_
      refine W.widen (k := 1) (n := 3) (by decide) (by decide) ?_
      exact W.iret (v := (-102)) hx hb hr (fun t ht hW => ⟨⟨(-102), (σ, co), rfl, (by simp only [kc_search, hm2, if_neg c21, Option.elim, hn0, hn1, hn2]), σ.2.2.2.2, n, L, f, ad, Nat.le_succ _, hR, by rw [ht]; exact hP, va_K.moved hW.alike hK, hD⟩, hS.F ht⟩) hS.2.2 dX3_search_42
    · have c21 := of_decide_eq_true (bb_n.mp c21)
      refine lv_iload_n hx hb dX3_search_24 rfl (lv_at hl 4 rfl) ?_
      refine lv_i2l (v := (x3 : Int32).toInt64) hx hb dX3_search_25 rfl ?_
      refine lv_aload_n hx hb dX3_search_26 rfl (lv_at hl 1 rfl) ?_
      refine va_get (D := (dC, dI)) (ci := 3) (v := .int (σ.1 4)) (C := RX3) (T := TX3) (N := 16) hx hb hts in0 hown hK hP 0 (xc_W_0 _ _) rfl 12 (by decide) lk0 (fun _ h9 => h9) rfl dX3_search_27 ?_
      refine lv_i2l (v := ((σ.1 4) : Int32).toInt64) hx hb dX3_search_30 rfl ?_
      refine lv_ldc2 hx hb hown lk1 dX3_search_31 ?_
      refine vp_callSi (va_Run.run (va_runS (As := [.long ((x3 : Int32).toInt64), .long (((σ.1 4) : Int32).toInt64), .long 200000]) (rest := []) ⟨hx, hb, hml, hown, hts⟩ (mt_isWithin l ((x3 : Int32).toInt64) (((σ.1 4) : Int32).toInt64) 200000) (va_cwS 3 hts (al_gS wd_48 wd_49 wd_1 wd_50) rfl rfl rfl (by decide +kernel) ⟨Nat.le_of_ble_eq_true rfl, Nat.le_of_ble_eq_true rfl⟩) ⟨ct_bl0, ct_at0⟩ rfl rfl hl.1 rfl (lv_room (Nat.le_of_ble_eq_true rfl)) dX3_search_34 ⟨Nat.le_of_ble_eq_true rfl, Nat.le_of_ble_eq_true rfl⟩)) (fun r34 hr34 => ?_)
      subst hr34
      refine lv_if_ne (tgt := 43) hx hb dX3_search_37 (by decide) (fun c37 => ?_) (fun c37 => ?_)
      · have c37 := of_decide_eq_true (bb_n.mp c37)
        refine lv_aload hx hb dX3_search_43 (lv_at hl 0 rfl) ?_
        refine hp_get (D := (dC, dI)) (ci := 0) (v := .int (co.2.1 9 j2)) (C := RX0) (T := TX0) (N := 13) hx hb hts in1 hown hK hP hC1.2.1 hC1a rfl 5 (by decide) lk2 (fun _ h9 => h9) rfl dX3_search_45 ?_
        refine lv_if_ne (tgt := 59) hx hb dX3_search_48 (by decide) (fun c48 => ?_) (fun c48 => ?_)
        · refine lv_bipush (v := (-103)) hx hb dX3_search_59 (by decide) ?_
          refine W.widen (k := 1) (n := 3) (by decide) (by decide) ?_
          exact W.iret (v := (-103)) hx hb hr (fun t ht hW => ⟨⟨(-103), (σ, co), rfl, (by simp only [kc_search, hm2, if_pos c21, if_pos c37, if_neg c48, Option.elim, hn0, hn1, hn2]), σ.2.2.2.2, n, L, f, ad, Nat.le_succ _, hR, by rw [ht]; exact hP, va_K.moved hW.alike hK, hD⟩, hS.F ht⟩) hS.2.2 dX3_search_61
        · refine lv_aload hx hb dX3_search_51 (lv_at hl 0 rfl) ?_
          refine hp_get (D := (dC, dI)) (ci := 0) (v := .int (co.2.1 7 j2)) (C := RX0) (T := TX0) (N := 13) hx hb hts in1 hown hK hP hC1.2.1 hC1a rfl 3 (by decide) lk3 (fun _ h9 => h9) rfl dX3_search_53 ?_
          refine lv_if_eq (tgt := 62) hx hb dX3_search_56 (by decide) (fun c56 => ?_) (fun c56 => ?_)
          · refine lv_aload_n hx hb dX3_search_62 rfl (lv_at hl 1 rfl) ?_
            refine va_get (D := (dC, dI)) (ci := 3) (v := .int (σ.1 2)) (C := RX3) (T := TX3) (N := 16) hx hb hts in0 hown hK hP 0 (xc_W_0 _ _) rfl 5 (by decide) lk4 (fun _ h9 => h9) rfl dX3_search_63 ?_
            refine lv_bipush (v := 100) hx hb dX3_search_66 (by decide) ?_
            refine lv_icmp_lt (tgt := 74) hx hb dX3_search_68 (by decide) (fun c68 => ?_) (fun c68 => ?_)
            · refine lv_aload_n hx hb dX3_search_74 rfl (lv_at hl 1 rfl) ?_
              refine va_get (D := (dC, dI)) (ci := 3) (v := .ref (Q 3)) (C := RX3) (T := TX3) (N := 16) hx hb hts in0 hown hK hP 0 (xc_W_0 _ _) rfl 4 (by decide) lk5 (fun _ h9 => h9) rfl dX3_search_75 ?_
              refine lv_aload_n hx hb dX3_search_78 rfl (lv_at hl 1 rfl) ?_
              refine va_get (D := (dC, dI)) (ci := 3) (v := .int (σ.1 2)) (C := RX3) (T := TX3) (N := 16) hx hb hts in0 hown hK hP 0 (xc_W_0 _ _) rfl 5 (by decide) lk4 (fun _ h9 => h9) rfl dX3_search_79 ?_
              refine hp_new (ci := 2) (fs := [.null, .int 0, .int 0]) (C := RX2) (T := TX2) (N := 3) hx hb hts in2 tyX2 tyX2_ok hown lk6 lk7 lk8 hK hP hD hS hA rfl (fun j hj => by rcases (show j = 0 ∨ j = 1 ∨ j = 2 by omega) with rfl | rfl | rfl <;> rfl) (Nat.le_of_ble_eq_true rfl) (Nat.le_of_ble_eq_true rfl) dX3_search_82 (fun q82 H hq82 hP hD hS => ?_)
              obtain ⟨f_1, ef_1⟩ : ∃ y9, y9 = va_up f q82 (.inr (2, [.null, .int 0, .int 0])) := ⟨_, rfl⟩
              rw [← ef_1] at hP hD
              have hf_1_ad221j2 : f_1 (ad.2.2.1 j2) = .inr (0, [.int (nI (j2 + 1)), .int (co.2.1 6 j2), .ref (ad.1 (co.1 0 j2)), .int (co.2.1 7 j2), .int (co.2.1 8 j2), .int (co.2.1 9 j2), .int (co.2.1 10 j2), .int (co.2.1 11 j2), .int (co.2.1 12 j2), .int (co.2.1 13 j2), .int (co.2.1 14 j2), .int (co.2.1 15 j2), .long (co.2.2.1 2 j2)]) := by rw [ef_1, va_up_ne _ _ (ct_nq hC1.2.1 hq82)]; exact hC1a
              have hf_1_ad1co10j2 : f_1 (ad.1 (co.1 0 j2)) = .inr (1, [.int (co.2.1 0 (co.1 0 j2)), .long (co.2.2.1 0 (co.1 0 j2)), .long (co.2.2.1 1 (co.1 0 j2)), .int (co.2.1 1 (co.1 0 j2)), .int (co.2.1 2 (co.1 0 j2)), .ref (ad.2.1 (co.1 0 j2)), .int (co.2.1 3 (co.1 0 j2)), .int (co.2.1 4 (co.1 0 j2)), .int (co.2.1 5 (co.1 0 j2))]) := by rw [ef_1, va_up_ne _ _ (ct_nq hI2.2.1 hq82)]; exact hI2a
              have hf_1_ad21co10j2 : f_1 (ad.2.1 (co.1 0 j2)) = .inl ((cA 0), 8, .inl (co.2.2.2 (co.1 0 j2))) := by rw [ef_1, va_up_ne _ _ (ct_nq hI2.2.2.2.1 hq82)]; exact hI2p
              have hf_1_q82 : f_1 q82 = .inr (2, [.null, .int 0, .int 0]) := by rw [ef_1]; exact va_up_self _ _ _
              refine W.widen (k := 1) (n := 3) (by decide) (by decide) ?_
              refine lv_dup hx hb dX3_search_85 rfl ?_
              refine lv_aload hx hb dX3_search_86 (lv_at hl 0 rfl) ?_
              refine lv_iload_n hx hb dX3_search_88 rfl (lv_at hl 4 rfl) ?_
              have hFc := ct_free hD hS hA
              refine va_callv (va_runI (As := [.ref (ad.2.2.1 j2), .int x3]) (rest := [.ref q82, .int (σ.1 2), .ref (Q 3)]) ⟨hx, hb, hml, hown, hts⟩ (mt_Search_init l dC dI cA H.size (xc_W Q cA σ) (L ++ [q82]) f_1 q82 (List.mem_append_right _ (List.mem_singleton.mpr rfl)) hf_1_q82 (ad.2.2.1 j2) x3) (cwI 2 hts (al_g wd_162) rfl rfl rfl lk8 lk9 lk10 rfl (by decide +kernel) ⟨Nat.le_of_ble_eq_true rfl, Nat.le_of_ble_eq_true rfl⟩) ⟨ct_blM, ct_atM hP hK hD⟩ rfl rfl hl.1 rfl (lv_room (Nat.le_of_ble_eq_true rfl)) dX3_search_89 ⟨Nat.le_of_ble_eq_true rfl, Nat.le_of_ble_eq_true rfl⟩) hS (fun q _ h => hFc q h) hFc (fun u89 t H1 locs ht hvm hr89 hB hz1 hk1 hS => ?_)
              obtain ⟨hP, -, hD1⟩ := hB
              rw [ht] at hP
              have hD := hD1.weaken (fun _ _ _ h => hFc _ h)
              clear hD1 hk1 hz1 hFc hvm
              generalize H1 = H at hP hS ht ⊢
              clear ht
              refine W.widen (k := 1) (n := 3) (by decide) (by decide) ?_
              subst hr89
              have hP : va_P (dC, dI) vwCl (xc_W Q cA σ ++ va_pl (L ++ [q82]) (va_up f_1 q82 (.inr (2, [.ref (ad.2.2.1 j2), .int x3, .int 1])))) H := hP
              have hD : va_D A (xc_W Q cA σ ++ va_pl (L ++ [q82]) (va_up f_1 q82 (.inr (2, [.ref (ad.2.2.1 j2), .int x3, .int 1])))) := hD
              obtain ⟨f_2, ef_2⟩ : ∃ y9, y9 = va_up f_1 q82 (.inr (2, [.ref (ad.2.2.1 j2), .int x3, .int 1])) := ⟨_, rfl⟩
              rw [← ef_2] at hP hD
              have hf_2_ad221j2 : f_2 (ad.2.2.1 j2) = .inr (0, [.int (nI (j2 + 1)), .int (co.2.1 6 j2), .ref (ad.1 (co.1 0 j2)), .int (co.2.1 7 j2), .int (co.2.1 8 j2), .int (co.2.1 9 j2), .int (co.2.1 10 j2), .int (co.2.1 11 j2), .int (co.2.1 12 j2), .int (co.2.1 13 j2), .int (co.2.1 14 j2), .int (co.2.1 15 j2), .long (co.2.2.1 2 j2)]) := by rw [ef_2, va_up_ne _ _ (ct_nq hC1.2.1 hq82)]; exact hf_1_ad221j2
              have hf_2_ad1co10j2 : f_2 (ad.1 (co.1 0 j2)) = .inr (1, [.int (co.2.1 0 (co.1 0 j2)), .long (co.2.2.1 0 (co.1 0 j2)), .long (co.2.2.1 1 (co.1 0 j2)), .int (co.2.1 1 (co.1 0 j2)), .int (co.2.1 2 (co.1 0 j2)), .ref (ad.2.1 (co.1 0 j2)), .int (co.2.1 3 (co.1 0 j2)), .int (co.2.1 4 (co.1 0 j2)), .int (co.2.1 5 (co.1 0 j2))]) := by rw [ef_2, va_up_ne _ _ (ct_nq hI2.2.1 hq82)]; exact hf_1_ad1co10j2
              have hf_2_ad21co10j2 : f_2 (ad.2.1 (co.1 0 j2)) = .inl ((cA 0), 8, .inl (co.2.2.2 (co.1 0 j2))) := by rw [ef_2, va_up_ne _ _ (ct_nq hI2.2.2.2.1 hq82)]; exact hf_1_ad21co10j2
              have hf_2_q82 : f_2 q82 = .inr (2, [.ref (ad.2.2.1 j2), .int x3, .int 1]) := by rw [ef_2]; exact va_up_self _ _ _
              obtain ⟨k9, hk9⟩ := va_pl_get (X := xc_W Q cA σ) (f := f_2) (List.mem_append_right _ (List.mem_singleton.mpr rfl))
              rw [hf_2_q82] at hk9
              refine va_astq hx hb hK hP hD hS 3 5 k9 2 (xc_W_3 _ _) rfl hk9 rfl (nu_ix hR.1.2.2.2.2.1 (by have := nu_lt hR.1.2.2.2.2.1 hR.1.2.2.2.2.2.1 c68; omega) (by decide)) dX3_search_92 (fun H locs hP hD hS => ?_)
              have hP : va_P (dC, dI) vwCl (xc_W Q cA (xs_ar σ 2 (va_up (σ.2.2.2.2 2) ((σ.1 2)).toNatClampNeg (some q82))) ++ va_pl (L ++ [q82]) f_2) H := hP
              have hD : va_D A (xc_W Q cA (xs_ar σ 2 (va_up (σ.2.2.2.2 2) ((σ.1 2)).toNatClampNeg (some q82))) ++ va_pl (L ++ [q82]) f_2) := hD
              refine lv_aload_n hx hb dX3_search_93 rfl (lv_at hl 1 rfl) ?_
              refine lv_dup hx hb dX3_search_94 rfl ?_
              refine va_get (D := (dC, dI)) (ci := 3) (v := .int (σ.1 2)) (C := RX3) (T := TX3) (N := 16) hx hb hts in0 hown hK hP 0 (xc_W_0 _ _) rfl 5 (by decide) lk4 (fun _ h9 => h9) rfl dX3_search_95 ?_
              refine lv_iconst (v := 1) hx hb dX3_search_98 (by decide) ?_
              refine lv_iadd hx hb dX3_search_99 ?_
              refine va_put (D := (dC, dI)) (ci := 3) (v := .int ((σ.1 2) + 1)) (ty := .int) (C := RX3) (T := TX3) (N := 16) hx hb hts in0 tyX3 tyX3_ok nmX3 hown hK hP hD hS 0 (xc_W_0 _ _) rfl 5 (by decide) lk4 (fun _ h9 => h9) rfl (by decide +kernel) rfl rfl (Nat.le_of_ble_eq_true rfl) dX3_search_100 (fun H locs hP hD hS => ?_)
              have hP : va_P (dC, dI) vwCl (xc_W Q cA (xs_i (xs_ar σ 2 (va_up (σ.2.2.2.2 2) ((σ.1 2)).toNatClampNeg (some q82))) 2 ((σ.1 2) + 1)) ++ va_pl (L ++ [q82]) f_2) H := hP
              have hD : va_D A (xc_W Q cA (xs_i (xs_ar σ 2 (va_up (σ.2.2.2.2 2) ((σ.1 2)).toNatClampNeg (some q82))) 2 ((σ.1 2) + 1)) ++ va_pl (L ++ [q82]) f_2) := hD
              refine lv_aload hx hb dX3_search_103 (lv_at hl 0 rfl) ?_
              have hFc := ct_free hD hS hA
              refine va_callv (va_runV (As := []) (rest := []) ⟨hx, hb, hml, hown, hts⟩ (mt_addSearch l dC dI cA H.size (xc_W Q cA (xs_i (xs_ar σ 2 (va_up (σ.2.2.2.2 2) ((σ.1 2)).toNatClampNeg (some q82))) 2 ((σ.1 2) + 1))) (L ++ [q82]) f_2 (ad.2.2.1 j2) (List.mem_append_left _ hC1.2.1) (nI (j2 + 1)) (co.2.1 6 j2) (ad.1 (co.1 0 j2)) (co.2.1 7 j2) (co.2.1 8 j2) (co.2.1 9 j2) (co.2.1 10 j2) (co.2.1 11 j2) (co.2.1 12 j2) (co.2.1 13 j2) (co.2.1 14 j2) (co.2.1 15 j2) (co.2.2.1 2 j2) hf_2_ad221j2 ) (cwV 0 hts (al_gV wd_169 wd_170 wd_171 wd_4 wd_172) rfl rfl rfl (by decide +kernel) ⟨Nat.le_of_ble_eq_true rfl, Nat.le_of_ble_eq_true rfl⟩) ⟨ct_blM, hp_recv hK hP (ci := 0) rfl (List.mem_append_left _ hC1.2.1) hf_2_ad221j2, ct_atM hP hK hD⟩ rfl rfl hl.1 rfl (lv_room (Nat.le_of_ble_eq_true rfl)) dX3_search_105 ⟨Nat.le_of_ble_eq_true rfl, Nat.le_of_ble_eq_true rfl⟩) hS (fun q _ h => hFc q h) hFc (fun u105 t H1 locs ht hvm hr105 hB hz1 hk1 hS => ?_)
              obtain ⟨hP, -, hD1⟩ := hB
              rw [ht] at hP
              have hD := hD1.weaken (fun _ _ _ h => hFc _ h)
              clear hD1 hk1 hz1 hFc hvm
              generalize H1 = H at hP hS ht ⊢
              clear ht
              refine W.widen (k := 1) (n := 3) (by decide) (by decide) ?_
              subst hr105
              have hP : va_P (dC, dI) vwCl (xc_W Q cA (xs_i (xs_ar σ 2 (va_up (σ.2.2.2.2 2) ((σ.1 2)).toNatClampNeg (some q82))) 2 ((σ.1 2) + 1)) ++ va_pl (L ++ [q82]) (va_up f_2 (ad.2.2.1 j2) (.inr (0, [.int (nI (j2 + 1)), .int (co.2.1 6 j2), .ref (ad.1 (co.1 0 j2)), .int (co.2.1 7 j2), .int (co.2.1 8 j2), .int (co.2.1 9 j2), .int (co.2.1 10 j2), .int ((co.2.1 11 j2) + 1), .int ((co.2.1 12 j2) + 1), .int (co.2.1 13 j2), .int (co.2.1 14 j2), .int (co.2.1 15 j2), .long (co.2.2.1 2 j2)])))) H := hP
              have hD : va_D A (xc_W Q cA (xs_i (xs_ar σ 2 (va_up (σ.2.2.2.2 2) ((σ.1 2)).toNatClampNeg (some q82))) 2 ((σ.1 2) + 1)) ++ va_pl (L ++ [q82]) (va_up f_2 (ad.2.2.1 j2) (.inr (0, [.int (nI (j2 + 1)), .int (co.2.1 6 j2), .ref (ad.1 (co.1 0 j2)), .int (co.2.1 7 j2), .int (co.2.1 8 j2), .int (co.2.1 9 j2), .int (co.2.1 10 j2), .int ((co.2.1 11 j2) + 1), .int ((co.2.1 12 j2) + 1), .int (co.2.1 13 j2), .int (co.2.1 14 j2), .int (co.2.1 15 j2), .long (co.2.2.1 2 j2)])))) := hD
              obtain ⟨f_3, ef_3⟩ : ∃ y9, y9 = va_up f_2 (ad.2.2.1 j2) (.inr (0, [.int (nI (j2 + 1)), .int (co.2.1 6 j2), .ref (ad.1 (co.1 0 j2)), .int (co.2.1 7 j2), .int (co.2.1 8 j2), .int (co.2.1 9 j2), .int (co.2.1 10 j2), .int ((co.2.1 11 j2) + 1), .int ((co.2.1 12 j2) + 1), .int (co.2.1 13 j2), .int (co.2.1 14 j2), .int (co.2.1 15 j2), .long (co.2.2.1 2 j2)])) := ⟨_, rfl⟩
              rw [← ef_3] at hP hD
              have hf_3_ad1co10j2 : f_3 (ad.1 (co.1 0 j2)) = .inr (1, [.int (co.2.1 0 (co.1 0 j2)), .long (co.2.2.1 0 (co.1 0 j2)), .long (co.2.2.1 1 (co.1 0 j2)), .int (co.2.1 1 (co.1 0 j2)), .int (co.2.1 2 (co.1 0 j2)), .ref (ad.2.1 (co.1 0 j2)), .int (co.2.1 3 (co.1 0 j2)), .int (co.2.1 4 (co.1 0 j2)), .int (co.2.1 5 (co.1 0 j2))]) := by rw [ef_3, va_up_ne _ _ (ct_ne hf_2_ad1co10j2 hf_2_ad221j2 (by simp))]; exact hf_2_ad1co10j2
              have hf_3_ad21co10j2 : f_3 (ad.2.1 (co.1 0 j2)) = .inl ((cA 0), 8, .inl (co.2.2.2 (co.1 0 j2))) := by rw [ef_3, va_up_ne _ _ (ct_ne hf_2_ad21co10j2 hf_2_ad221j2 (by simp))]; exact hf_2_ad21co10j2
              have hf_3_q82 : f_3 q82 = .inr (2, [.ref (ad.2.2.1 j2), .int x3, .int 1]) := by rw [ef_3, va_up_ne _ _ (Ne.symm (ct_nq hC1.2.1 hq82))]; exact hf_2_q82
              have hf_3_ad221j2 : f_3 (ad.2.2.1 j2) = .inr (0, [.int (nI (j2 + 1)), .int (co.2.1 6 j2), .ref (ad.1 (co.1 0 j2)), .int (co.2.1 7 j2), .int (co.2.1 8 j2), .int (co.2.1 9 j2), .int (co.2.1 10 j2), .int ((co.2.1 11 j2) + 1), .int ((co.2.1 12 j2) + 1), .int (co.2.1 13 j2), .int (co.2.1 14 j2), .int (co.2.1 15 j2), .long (co.2.2.1 2 j2)]) := by rw [ef_3]; exact va_up_self _ _ _
              refine lv_aload_n hx hb dX3_search_108 rfl (lv_at hl 1 rfl) ?_
              refine va_get (D := (dC, dI)) (ci := 3) (v := .int ((σ.1 2) + 1)) (C := RX3) (T := TX3) (N := 16) hx hb hts in0 hown hK hP 0 (xc_W_0 _ _) rfl 5 (by decide) lk4 (fun _ h9 => h9) rfl dX3_search_109 ?_
              exact W.iret (v := ((σ.1 2) + 1)) hx hb hr (fun t ht hW => ⟨⟨((σ.1 2) + 1), (xs_i σ 2 (σ.1 2 + 1), ns_co co n.2.2.1 j2 x3), rfl, (by simp only [kc_search, hm2, if_pos c21, if_pos c37, if_pos c48, if_pos c56, if_pos c68, Option.elim, hn2]), va_up σ.2.2.2.2 2 (va_up (σ.2.2.2.2 2) (σ.1 2).toNatClampNeg (some q82)), (n.1, n.2.1, n.2.2.1 + 1, n.2.2.2), _, _, (ad.1, ad.2.1, ad.2.2.1, va_up ad.2.2.2 n.2.2.1 q82), Nat.le_succ _, by rw [ef_3]; exact re_setC (re_newS (σ' := xs_r (xs_i σ 2 (σ.1 2 + 1)) (va_up σ.2.2.2.2 2 (va_up (σ.2.2.2.2 2) (σ.1 2).toNatClampNeg (some q82)))) (f' := f_2) (L' := L ++ [q82]) hR hq82 (fun a h => List.mem_append_left _ h) (List.mem_append_right _ (List.mem_singleton.mpr rfl)) (fun a h => by rw [ef_2, va_up_ne _ _ (ct_nq h hq82), ef_1, va_up_ne _ _ (ct_nq h hq82)]) hj2 (due := x3) (by rw [hf_2_q82]; exact (ns_ce _ _ _ _).symm) (nu_lt hR.1.2.2.2.2.1 hR.1.2.2.2.2.2.1 c68) rfl rfl (by show σ.1 2 + 1 = _; rw [hR.1.2.2.2.2.1]; exact nI_1 _) rfl rfl rfl (by show va_up (σ.2.2.2.2 2) (σ.1 2).toNatClampNeg (some q82) = _; rw [hn2])) hj2 (ns_ag (hR.2.2.2.2.1.2.1 j2 hj2).2.2.2) (ns_cc _ _ _ _ _), by rw [ht]; exact hP, va_K.moved hW.alike hK, hD⟩, hS.F ht⟩) hS.2.2 dX3_search_112
            · refine lv_bipush (v := (-104)) hx hb dX3_search_71 (by decide) ?_
              refine W.widen (k := 1) (n := 3) (by decide) (by decide) ?_
              exact W.iret (v := (-104)) hx hb hr (fun t ht hW => ⟨⟨(-104), (σ, co), rfl, (by simp only [kc_search, hm2, if_pos c21, if_pos c37, if_pos c48, if_pos c56, if_neg c68, Option.elim, hn0, hn1, hn2]), σ.2.2.2.2, n, L, f, ad, Nat.le_succ _, hR, by rw [ht]; exact hP, va_K.moved hW.alike hK, hD⟩, hS.F ht⟩) hS.2.2 dX3_search_73
          · refine lv_bipush (v := (-103)) hx hb dX3_search_59 (by decide) ?_
            refine W.widen (k := 1) (n := 3) (by decide) (by decide) ?_
            exact W.iret (v := (-103)) hx hb hr (fun t ht hW => ⟨⟨(-103), (σ, co), rfl, (by simp only [kc_search, hm2, if_pos c21, if_pos c37, if_pos c48, if_neg c56, Option.elim, hn0, hn1, hn2]), σ.2.2.2.2, n, L, f, ad, Nat.le_succ _, hR, by rw [ht]; exact hP, va_K.moved hW.alike hK, hD⟩, hS.F ht⟩) hS.2.2 dX3_search_61
      · have c37 := of_decide_eq_false (bb_0.mp c37)
        refine lv_bipush (v := (-102)) hx hb dX3_search_40 (by decide) ?_
        refine W.widen (k := 1) (n := 3) (by decide) (by decide) ?_
        exact W.iret (v := (-102)) hx hb hr (fun t ht hW => ⟨⟨(-102), (σ, co), rfl, (by simp only [kc_search, hm2, if_pos c21, if_neg c37, Option.elim, hn0, hn1, hn2]), σ.2.2.2.2, n, L, f, ad, Nat.le_succ _, hR, by rw [ht]; exact hP, va_K.moved hW.alike hK, hD⟩, hS.F ht⟩) hS.2.2 dX3_search_42
  · skip
    refine lv_astoreN (lv' := [(4, .null), (0, .ref (Q 0)), (1, .int x1), (2, .int x2), (3, .int x3)]) hx hb dX3_search_5 hl (by decide) rfl (fun ls hl => ?_)
    refine lv_aloadN hx hb dX3_search_7 (lv_at hl 0 rfl) ?_
    refine lv_ifnonnullN hx hb dX3_search_9 ?_
    refine lv_bipush (v := (-101)) hx hb dX3_search_12 (by decide) ?_
    refine W.widen (k := 1) (n := 3) (by decide) (by decide) ?_
    exact W.iret (v := (-101)) hx hb hr (fun t ht hW => ⟨⟨(-101), (σ, co), rfl, (by simp only [kc_search, hm2, Option.elim, hn0, hn1, hn2]), σ.2.2.2.2, n, L, f, ad, Nat.le_succ _, hR, by rw [ht]; exact hP, va_K.moved hW.alike hK, hD⟩, hS.F ht⟩) hS.2.2 dX3_search_14
set_option maxHeartbeats 4000000 in
set_option maxRecDepth 100000 in
/-- mt_answer -/
theorem mt_answer (l : Launch) (dC : Nat → ClassId) (dI : Nat → Nat → Nat) (cA : Nat → ClassId) (sz : Nat) (Q : Nat → Nat) (σ : xs_T) (n : nn_T) (co : co_T) (L : List Nat) (f : Nat → va_E) (ad : ad_T) (hR : re_A cA σ n co L f ad) (hT : n.2.2.2 < 100000) (x1 : Int32) (b : Bool) : Met l yX3_answer wsX3_answer ({ frames := 2, cells := 0, slots := 0, locals := 46 }) (va_Pc [.ref (Q 0), .int x1, .int (bb_v b)] (ct_M (dC, dI) vwCl (ty_K cA) (xc_W Q cA σ ++ va_pl L f) sz)) (va_Qi (fun r u => (r, u) = kc_answer (σ, co) x1 b) (fun u t => ∃ (ra : Nat → Nat → Option Nat) (n' : nn_T) (L' : List Nat) (f' : Nat → va_E) (ad' : ad_T), n'.2.2.2 ≤ n.2.2.2 + 1 ∧ re_A cA (xs_r u.1 ra) n' u.2 L' f' ad' ∧ ct_B (dC, dI) vwCl (ty_K cA) (va_A (xc_W Q cA σ ++ va_pl L f) sz) (xc_W Q cA (xs_r u.1 ra) ++ va_pl L' f') t) (va_A (xc_W Q cA σ ++ va_pl L f) sz)) 0 0 (va_A (xc_W Q cA σ ++ va_pl L f) sz) := by
  refine Met.ofW (cc := cX3_answer) (maxL := 4) (ret := (some .int)) (by decide) rfl ?_
  intro p e s m args below meth c s₁ B hml hv
  obtain ⟨rfl, hsz, hP, hK, hD0⟩ := hv
  have hx := B.exec
  have hb := B.bytes
  have hr := B.returns
  have hts := atoms_spec (ws := wsX3_answer) B.pre
  have hown : s.vm.findClass RX3 = some m.cls := findClass_of_methodNamed B.named
  have hlocks := B.notSynchronized
  subst hsz
  have hD := hD0.self (sz := s.heap.size)
  generalize hAe : va_A (xc_W Q cA σ ++ va_pl L f) s.heap.size = A at hD ⊢
  have hA : ∀ q : Nat, s.heap.size ≤ q → A q := fun q h => by rw [← hAe]; exact Or.inr h
  clear hAe hD0
  have hS : va_S A s.heap s.heap [] := va_S.rf
  have hl := lv_entry ([.ref (Q 0), .int x1, .int (bb_v b)]) (n := 4) (Nat.le_of_ble_eq_true rfl)
  rw [lg_entry_eq]
  generalize (lg_sl ([.ref (Q 0), .int x1, .int (bb_v b)]) ++ List.replicate (4 - (lg_sl ([.ref (Q 0), .int x1, .int (bb_v b)])).length) Slot.unset).toArray = ls at hl ⊢
  have hl : lv_has ls 4 [(0, .ref (Q 0)), (1, .int x1), (2, .int (bb_v b))] := hl
  have lk0 := hts (.fieldLink RX3 150 "ClaimRows$Search" "unanswered" "Z") (List.mem_cons_of_mem _ wd_168)
  have in0 : ∀ w ∈ u_ws RX2 TX2 3, w ∈ wsX3_answer := fun w h => List.mem_cons_of_mem _ (wu_X2 w h)
  have hn0 : (σ.1 0).toNatClampNeg = n.1 := by rw [hR.1.1]; exact nI_clamp (by have := hR.1.2.1; omega)
  have hn1 : (σ.1 1).toNatClampNeg = n.2.1 := by rw [hR.1.2.2.1]; exact nI_clamp (by have := hR.1.2.2.2.1; omega)
  have hn2 : (σ.1 2).toNatClampNeg = n.2.2.1 := by rw [hR.1.2.2.2.2.1]; exact nI_clamp (by have := hR.1.2.2.2.2.2.1; omega)
  refine lv_aload_n hx hb dX3_answer_0 rfl (lv_at hl 0 rfl) ?_
  refine lv_iload_n hx hb dX3_answer_1 rfl (lv_at hl 1 rfl) ?_
  refine va_csq (va_Run.run (va_runV (As := [.int x1]) (rest := []) ⟨hx, hb, hml, hown, hts⟩ (mt_searchNumbered l dC dI cA Q σ n co L f ad hR x1) (cwV 1 hts (al_gV wd_177 wd_179 wd_178 wd_1 wd_180) rfl rfl rfl (by decide +kernel) ⟨Nat.le_of_ble_eq_true rfl, Nat.le_of_ble_eq_true rfl⟩) ⟨ct_blR, va_recv hK hP (ci := 3) (q0 := 0) rfl (xc_W_0 _ _), ct_atR hP hK⟩ rfl rfl hl.1 rfl (lv_room (Nat.le_of_ble_eq_true rfl)) dX3_answer_2 ⟨Nat.le_of_ble_eq_true rfl, Nat.le_of_ble_eq_true rfl⟩)) (fun r2 hr2 => ?_)
  rcases hr2 with ⟨j2, hj2, hm2, ex2, rfl⟩ | ⟨hm2, rfl⟩
  · have hS1 := hR.2.2.2.1 j2 hj2
    have hS1v := hR.2.2.2.2.1.2.2 j2 hj2
    have hS1a : f (ad.2.2.2 j2) = .inr (2, [.ref (ad.2.2.1 (co.1 1 j2)), .int (co.2.1 17 j2), .int (co.2.1 18 j2)]) := hS1.2.2
    have hC2 := hR.2.2.1 (co.1 1 j2) hS1v
    have hC2v := hR.2.2.2.2.1.2.1 (co.1 1 j2) hS1v
    have hC2a : f (ad.2.2.1 (co.1 1 j2)) = .inr (0, [.int (nI ((co.1 1 j2) + 1)), .int (co.2.1 6 (co.1 1 j2)), .ref (ad.1 (co.1 0 (co.1 1 j2))), .int (co.2.1 7 (co.1 1 j2)), .int (co.2.1 8 (co.1 1 j2)), .int (co.2.1 9 (co.1 1 j2)), .int (co.2.1 10 (co.1 1 j2)), .int (co.2.1 11 (co.1 1 j2)), .int (co.2.1 12 (co.1 1 j2)), .int (co.2.1 13 (co.1 1 j2)), .int (co.2.1 14 (co.1 1 j2)), .int (co.2.1 15 (co.1 1 j2)), .long (co.2.2.1 2 (co.1 1 j2))]) := hC2.2.2
    have hI3 := hR.2.1 (co.1 0 (co.1 1 j2)) hC2v.1
    have hI3a : f (ad.1 (co.1 0 (co.1 1 j2))) = .inr (1, [.int (co.2.1 0 (co.1 0 (co.1 1 j2))), .long (co.2.2.1 0 (co.1 0 (co.1 1 j2))), .long (co.2.2.1 1 (co.1 0 (co.1 1 j2))), .int (co.2.1 1 (co.1 0 (co.1 1 j2))), .int (co.2.1 2 (co.1 0 (co.1 1 j2))), .ref (ad.2.1 (co.1 0 (co.1 1 j2))), .int (co.2.1 3 (co.1 0 (co.1 1 j2))), .int (co.2.1 4 (co.1 0 (co.1 1 j2))), .int (co.2.1 5 (co.1 0 (co.1 1 j2)))]) := hI3.2.2.1
    have hI3p : f (ad.2.1 (co.1 0 (co.1 1 j2))) = .inl ((cA 0), 8, .inl (co.2.2.2 (co.1 0 (co.1 1 j2)))) := hI3.2.2.2.2
    refine lv_astore_n (lv' := [(3, .ref (ad.2.2.2 j2)), (0, .ref (Q 0)), (1, .int x1), (2, .int (bb_v b))]) hx hb dX3_answer_5 rfl hl (by decide) rfl (fun ls hl => ?_)
    refine lv_aload_n hx hb dX3_answer_6 rfl (lv_at hl 0 rfl) ?_
    refine lv_ifnonnull (tgt := 13) hx hb dX3_answer_7 (by decide) ?_
    refine lv_aload_n hx hb dX3_answer_13 rfl (lv_at hl 0 rfl) ?_
    refine hp_get (D := (dC, dI)) (ci := 2) (v := .int (co.2.1 18 j2)) (C := RX2) (T := TX2) (N := 3) hx hb hts in0 hown hK hP hS1.2.1 hS1a rfl 2 (by decide) lk0 (fun _ h9 => h9) rfl dX3_answer_14 ?_
    refine lv_if_ne (tgt := 23) hx hb dX3_answer_17 (by decide) (fun c17 => ?_) (fun c17 => ?_)
    · refine lv_aload_n hx hb dX3_answer_23 rfl (lv_at hl 0 rfl) ?_
      refine lv_iload_n hx hb dX3_answer_24 rfl (lv_at hl 3 rfl) ?_
      have hFc := ct_free hD hS hA
      refine va_callv (va_runV (As := [.int (bb_v b)]) (rest := []) ⟨hx, hb, hml, hown, hts⟩ (mt_close l dC dI cA s.heap.size (xc_W Q cA σ) L f (ad.2.2.2 j2) hS1.2.1 (ad.2.2.1 (co.1 1 j2)) hC2.2.1 (co.2.1 17 j2) (co.2.1 18 j2) hS1a (nI ((co.1 1 j2) + 1)) (co.2.1 6 (co.1 1 j2)) (ad.1 (co.1 0 (co.1 1 j2))) (co.2.1 7 (co.1 1 j2)) (co.2.1 8 (co.1 1 j2)) (co.2.1 9 (co.1 1 j2)) (co.2.1 10 (co.1 1 j2)) (co.2.1 11 (co.1 1 j2)) (co.2.1 12 (co.1 1 j2)) (co.2.1 13 (co.1 1 j2)) (co.2.1 14 (co.1 1 j2)) (co.2.1 15 (co.1 1 j2)) (co.2.2.1 2 (co.1 1 j2)) hC2a b) (cwV 1 hts (al_gV wd_181 wd_182 wd_183 wd_6 wd_184) rfl rfl rfl (by decide +kernel) ⟨Nat.le_of_ble_eq_true rfl, Nat.le_of_ble_eq_true rfl⟩) ⟨ct_blM, hp_recv hK hP (ci := 2) rfl hS1.2.1 hS1a, ct_atM hP hK hD⟩ rfl rfl hl.1 rfl (lv_room (Nat.le_of_ble_eq_true rfl)) dX3_answer_25 ⟨Nat.le_of_ble_eq_true rfl, Nat.le_of_ble_eq_true rfl⟩) hS (fun q _ h => hFc q h) hFc (fun u25 t H1 locs ht hvm hr25 hB hz1 hk1 hS => ?_)
      obtain ⟨hP, -, hD1⟩ := hB
      rw [ht] at hP
      have hD := hD1.weaken (fun _ _ _ h => hFc _ h)
      clear hD1 hk1 hz1 hFc hvm
      generalize H1 = H at hP hS ht ⊢
      clear ht
      refine W.widen (k := 0) (n := 0) (by decide) (by decide) ?_
      subst hr25
      have hP : va_P (dC, dI) vwCl (xc_W Q cA σ ++ va_pl L (va_up (va_up f (ad.2.2.2 j2) (.inr (2, [.ref (ad.2.2.1 (co.1 1 j2)), .int (co.2.1 17 j2), .int 0]))) (ad.2.2.1 (co.1 1 j2)) (.inr (0, [.int (nI ((co.1 1 j2) + 1)), .int (co.2.1 6 (co.1 1 j2)), .ref (ad.1 (co.1 0 (co.1 1 j2))), .int (co.2.1 7 (co.1 1 j2)), .int (co.2.1 8 (co.1 1 j2)), .int (co.2.1 9 (co.1 1 j2)), .int (co.2.1 10 (co.1 1 j2)), .int (co.2.1 11 (co.1 1 j2)), .int ((co.2.1 12 (co.1 1 j2)) - 1), .int (if b then 1 else (co.2.1 13 (co.1 1 j2))), .int (co.2.1 14 (co.1 1 j2)), .int (co.2.1 15 (co.1 1 j2)), .long (co.2.2.1 2 (co.1 1 j2))])))) H := hP
      have hD : va_D A (xc_W Q cA σ ++ va_pl L (va_up (va_up f (ad.2.2.2 j2) (.inr (2, [.ref (ad.2.2.1 (co.1 1 j2)), .int (co.2.1 17 j2), .int 0]))) (ad.2.2.1 (co.1 1 j2)) (.inr (0, [.int (nI ((co.1 1 j2) + 1)), .int (co.2.1 6 (co.1 1 j2)), .ref (ad.1 (co.1 0 (co.1 1 j2))), .int (co.2.1 7 (co.1 1 j2)), .int (co.2.1 8 (co.1 1 j2)), .int (co.2.1 9 (co.1 1 j2)), .int (co.2.1 10 (co.1 1 j2)), .int (co.2.1 11 (co.1 1 j2)), .int ((co.2.1 12 (co.1 1 j2)) - 1), .int (if b then 1 else (co.2.1 13 (co.1 1 j2))), .int (co.2.1 14 (co.1 1 j2)), .int (co.2.1 15 (co.1 1 j2)), .long (co.2.2.1 2 (co.1 1 j2))])))) := hD
      obtain ⟨f_1, ef_1⟩ : ∃ y9, y9 = va_up f (ad.2.2.2 j2) (.inr (2, [.ref (ad.2.2.1 (co.1 1 j2)), .int (co.2.1 17 j2), .int 0])) := ⟨_, rfl⟩
      rw [← ef_1] at hP hD
      have hf_1_ad221co11j2 : f_1 (ad.2.2.1 (co.1 1 j2)) = .inr (0, [.int (nI ((co.1 1 j2) + 1)), .int (co.2.1 6 (co.1 1 j2)), .ref (ad.1 (co.1 0 (co.1 1 j2))), .int (co.2.1 7 (co.1 1 j2)), .int (co.2.1 8 (co.1 1 j2)), .int (co.2.1 9 (co.1 1 j2)), .int (co.2.1 10 (co.1 1 j2)), .int (co.2.1 11 (co.1 1 j2)), .int (co.2.1 12 (co.1 1 j2)), .int (co.2.1 13 (co.1 1 j2)), .int (co.2.1 14 (co.1 1 j2)), .int (co.2.1 15 (co.1 1 j2)), .long (co.2.2.1 2 (co.1 1 j2))]) := by rw [ef_1, va_up_ne _ _ (ct_ne hC2a hS1a (by simp))]; exact hC2a
      have hf_1_ad1co10co11j2 : f_1 (ad.1 (co.1 0 (co.1 1 j2))) = .inr (1, [.int (co.2.1 0 (co.1 0 (co.1 1 j2))), .long (co.2.2.1 0 (co.1 0 (co.1 1 j2))), .long (co.2.2.1 1 (co.1 0 (co.1 1 j2))), .int (co.2.1 1 (co.1 0 (co.1 1 j2))), .int (co.2.1 2 (co.1 0 (co.1 1 j2))), .ref (ad.2.1 (co.1 0 (co.1 1 j2))), .int (co.2.1 3 (co.1 0 (co.1 1 j2))), .int (co.2.1 4 (co.1 0 (co.1 1 j2))), .int (co.2.1 5 (co.1 0 (co.1 1 j2)))]) := by rw [ef_1, va_up_ne _ _ (ct_ne hI3a hS1a (by simp))]; exact hI3a
      have hf_1_ad21co10co11j2 : f_1 (ad.2.1 (co.1 0 (co.1 1 j2))) = .inl ((cA 0), 8, .inl (co.2.2.2 (co.1 0 (co.1 1 j2)))) := by rw [ef_1, va_up_ne _ _ (ct_ne hI3p hS1a (by simp))]; exact hI3p
      have hf_1_ad222j2 : f_1 (ad.2.2.2 j2) = .inr (2, [.ref (ad.2.2.1 (co.1 1 j2)), .int (co.2.1 17 j2), .int 0]) := by rw [ef_1]; exact va_up_self _ _ _
      obtain ⟨f_2, ef_2⟩ : ∃ y9, y9 = va_up f_1 (ad.2.2.1 (co.1 1 j2)) (.inr (0, [.int (nI ((co.1 1 j2) + 1)), .int (co.2.1 6 (co.1 1 j2)), .ref (ad.1 (co.1 0 (co.1 1 j2))), .int (co.2.1 7 (co.1 1 j2)), .int (co.2.1 8 (co.1 1 j2)), .int (co.2.1 9 (co.1 1 j2)), .int (co.2.1 10 (co.1 1 j2)), .int (co.2.1 11 (co.1 1 j2)), .int ((co.2.1 12 (co.1 1 j2)) - 1), .int (if b then 1 else (co.2.1 13 (co.1 1 j2))), .int (co.2.1 14 (co.1 1 j2)), .int (co.2.1 15 (co.1 1 j2)), .long (co.2.2.1 2 (co.1 1 j2))])) := ⟨_, rfl⟩
      rw [← ef_2] at hP hD
      have hf_2_ad222j2 : f_2 (ad.2.2.2 j2) = .inr (2, [.ref (ad.2.2.1 (co.1 1 j2)), .int (co.2.1 17 j2), .int 0]) := by rw [ef_2, va_up_ne _ _ (ct_ne hf_1_ad222j2 hf_1_ad221co11j2 (by simp))]; exact hf_1_ad222j2
      have hf_2_ad1co10co11j2 : f_2 (ad.1 (co.1 0 (co.1 1 j2))) = .inr (1, [.int (co.2.1 0 (co.1 0 (co.1 1 j2))), .long (co.2.2.1 0 (co.1 0 (co.1 1 j2))), .long (co.2.2.1 1 (co.1 0 (co.1 1 j2))), .int (co.2.1 1 (co.1 0 (co.1 1 j2))), .int (co.2.1 2 (co.1 0 (co.1 1 j2))), .ref (ad.2.1 (co.1 0 (co.1 1 j2))), .int (co.2.1 3 (co.1 0 (co.1 1 j2))), .int (co.2.1 4 (co.1 0 (co.1 1 j2))), .int (co.2.1 5 (co.1 0 (co.1 1 j2)))]) := by rw [ef_2, va_up_ne _ _ (ct_ne hf_1_ad1co10co11j2 hf_1_ad221co11j2 (by simp))]; exact hf_1_ad1co10co11j2
      have hf_2_ad21co10co11j2 : f_2 (ad.2.1 (co.1 0 (co.1 1 j2))) = .inl ((cA 0), 8, .inl (co.2.2.2 (co.1 0 (co.1 1 j2)))) := by rw [ef_2, va_up_ne _ _ (ct_ne hf_1_ad21co10co11j2 hf_1_ad221co11j2 (by simp))]; exact hf_1_ad21co10co11j2
      have hf_2_ad221co11j2 : f_2 (ad.2.2.1 (co.1 1 j2)) = .inr (0, [.int (nI ((co.1 1 j2) + 1)), .int (co.2.1 6 (co.1 1 j2)), .ref (ad.1 (co.1 0 (co.1 1 j2))), .int (co.2.1 7 (co.1 1 j2)), .int (co.2.1 8 (co.1 1 j2)), .int (co.2.1 9 (co.1 1 j2)), .int (co.2.1 10 (co.1 1 j2)), .int (co.2.1 11 (co.1 1 j2)), .int ((co.2.1 12 (co.1 1 j2)) - 1), .int (if b then 1 else (co.2.1 13 (co.1 1 j2))), .int (co.2.1 14 (co.1 1 j2)), .int (co.2.1 15 (co.1 1 j2)), .long (co.2.2.1 2 (co.1 1 j2))]) := by rw [ef_2]; exact va_up_self _ _ _
      refine lv_iconst (v := 1) hx hb dX3_answer_28 (by decide) ?_
      exact W.iret (v := 1) hx hb hr (fun t ht hW => ⟨⟨1, (σ, cs_co co j2 b), rfl, (by simp only [kc_answer, hm2, if_neg c17, Option.elim]), σ.2.2.2.2, n, L, f_2, ad, Nat.le_succ _, by rw [ef_2, ef_1]; exact re_close hR hj2 rfl rfl, by rw [ht]; exact hP, va_K.moved hW.alike hK, hD⟩, hS.F ht⟩) hS.2.2 dX3_answer_29
    · refine lv_bipush (v := (-103)) hx hb dX3_answer_20 (by decide) ?_
      exact W.iret (v := (-103)) hx hb hr (fun t ht hW => ⟨⟨(-103), (σ, co), rfl, (by simp only [kc_answer, hm2, if_pos c17, Option.elim, hn0, hn1, hn2]), σ.2.2.2.2, n, L, f, ad, Nat.le_succ _, hR, by rw [ht]; exact hP, va_K.moved hW.alike hK, hD⟩, hS.F ht⟩) hS.2.2 dX3_answer_22
  · skip
    refine lv_astore_nN (lv' := [(3, .null), (0, .ref (Q 0)), (1, .int x1), (2, .int (bb_v b))]) hx hb dX3_answer_5 rfl hl (by decide) rfl (fun ls hl => ?_)
    refine lv_aload_nN hx hb dX3_answer_6 rfl (lv_at hl 0 rfl) ?_
    refine lv_ifnonnullN hx hb dX3_answer_7 ?_
    refine lv_bipush (v := (-101)) hx hb dX3_answer_10 (by decide) ?_
    exact W.iret (v := (-101)) hx hb hr (fun t ht hW => ⟨⟨(-101), (σ, co), rfl, (by simp only [kc_answer, hm2, Option.elim, hn0, hn1, hn2]), σ.2.2.2.2, n, L, f, ad, Nat.le_succ _, hR, by rw [ht]; exact hP, va_K.moved hW.alike hK, hD⟩, hS.F ht⟩) hS.2.2 dX3_answer_12
set_option maxHeartbeats 4000000 in
set_option maxRecDepth 100000 in
/-- mt_proof -/
theorem mt_proof (l : Launch) (dC : Nat → ClassId) (dI : Nat → Nat → Nat) (cA : Nat → ClassId) (sz : Nat) (Q : Nat → Nat) (σ : xs_T) (n : nn_T) (co : co_T) (L : List Nat) (f : Nat → va_E) (ad : ad_T) (hR : re_A cA σ n co L f ad) (hT : n.2.2.2 < 100000) (x1 x2 : Int32) : Met l yX3_proof wsX3_proof ({ frames := 2, cells := 0, slots := 0, locals := 46 }) (va_Pc [.ref (Q 0), .int x1, .int x2] (ct_M (dC, dI) vwCl (ty_K cA) (xc_W Q cA σ ++ va_pl L f) sz)) (va_Qi (fun r u => (r, u) = kc_proof (σ, co) x1 x2) (fun u t => ∃ (ra : Nat → Nat → Option Nat) (n' : nn_T) (L' : List Nat) (f' : Nat → va_E) (ad' : ad_T), n'.2.2.2 ≤ n.2.2.2 + 1 ∧ re_A cA (xs_r u.1 ra) n' u.2 L' f' ad' ∧ ct_B (dC, dI) vwCl (ty_K cA) (va_A (xc_W Q cA σ ++ va_pl L f) sz) (xc_W Q cA (xs_r u.1 ra) ++ va_pl L' f') t) (va_A (xc_W Q cA σ ++ va_pl L f) sz)) 0 0 (va_A (xc_W Q cA σ ++ va_pl L f) sz) := by
  refine Met.ofW (cc := cX3_proof) (maxL := 6) (ret := (some .int)) (by decide) rfl ?_
  intro p e s m args below meth c s₁ B hml hv
  obtain ⟨rfl, hsz, hP, hK, hD0⟩ := hv
  have hx := B.exec
  have hb := B.bytes
  have hr := B.returns
  have hts := atoms_spec (ws := wsX3_proof) B.pre
  have hown : s.vm.findClass RX3 = some m.cls := findClass_of_methodNamed B.named
  have hlocks := B.notSynchronized
  subst hsz
  have hD := hD0.self (sz := s.heap.size)
  generalize hAe : va_A (xc_W Q cA σ ++ va_pl L f) s.heap.size = A at hD ⊢
  have hA : ∀ q : Nat, s.heap.size ≤ q → A q := fun q h => by rw [← hAe]; exact Or.inr h
  clear hAe hD0
  have hS : va_S A s.heap s.heap [] := va_S.rf
  have hl := lv_entry ([.ref (Q 0), .int x1, .int x2]) (n := 6) (Nat.le_of_ble_eq_true rfl)
  rw [lg_entry_eq]
  generalize (lg_sl ([.ref (Q 0), .int x1, .int x2]) ++ List.replicate (6 - (lg_sl ([.ref (Q 0), .int x1, .int x2])).length) Slot.unset).toArray = ls at hl ⊢
  have hl : lv_has ls 6 [(0, .ref (Q 0)), (1, .int x1), (2, .int x2)] := hl
  have lk0 := hts (.fieldLink RX3 120 "ClaimRows$Claim" "state" "I") (List.mem_cons_of_mem _ wd_129)
  have lk1 := hts (.fieldLink RX3 123 "ClaimRows$Claim" "lacking" "I") (List.mem_cons_of_mem _ wd_131)
  have in0 : ∀ w ∈ u_ws RX0 TX0 13, w ∈ wsX3_proof := fun w h => List.mem_cons_of_mem _ (wu_X0 w h)
  have hn0 : (σ.1 0).toNatClampNeg = n.1 := by rw [hR.1.1]; exact nI_clamp (by have := hR.1.2.1; omega)
  have hn1 : (σ.1 1).toNatClampNeg = n.2.1 := by rw [hR.1.2.2.1]; exact nI_clamp (by have := hR.1.2.2.2.1; omega)
  have hn2 : (σ.1 2).toNatClampNeg = n.2.2.1 := by rw [hR.1.2.2.2.2.1]; exact nI_clamp (by have := hR.1.2.2.2.2.2.1; omega)
  refine lv_aload_n hx hb dX3_proof_0 rfl (lv_at hl 0 rfl) ?_
  refine lv_iload_n hx hb dX3_proof_1 rfl (lv_at hl 1 rfl) ?_
  refine va_csq (va_Run.run (va_runV (As := [.int x1]) (rest := []) ⟨hx, hb, hml, hown, hts⟩ (mt_claimNumbered l dC dI cA Q σ n co L f ad hR x1) (cwV 1 hts (al_gV wd_105 wd_107 wd_106 wd_1 wd_108) rfl rfl rfl (by decide +kernel) ⟨Nat.le_of_ble_eq_true rfl, Nat.le_of_ble_eq_true rfl⟩) ⟨ct_blR, va_recv hK hP (ci := 3) (q0 := 0) rfl (xc_W_0 _ _), ct_atR hP hK⟩ rfl rfl hl.1 rfl (lv_room (Nat.le_of_ble_eq_true rfl)) dX3_proof_2 ⟨Nat.le_of_ble_eq_true rfl, Nat.le_of_ble_eq_true rfl⟩)) (fun r2 hr2 => ?_)
  rcases hr2 with ⟨j2, hj2, hm2, ex2, rfl⟩ | ⟨hm2, rfl⟩
  · have hC1 := hR.2.2.1 j2 hj2
    have hC1v := hR.2.2.2.2.1.2.1 j2 hj2
    have hC1a : f (ad.2.2.1 j2) = .inr (0, [.int (nI (j2 + 1)), .int (co.2.1 6 j2), .ref (ad.1 (co.1 0 j2)), .int (co.2.1 7 j2), .int (co.2.1 8 j2), .int (co.2.1 9 j2), .int (co.2.1 10 j2), .int (co.2.1 11 j2), .int (co.2.1 12 j2), .int (co.2.1 13 j2), .int (co.2.1 14 j2), .int (co.2.1 15 j2), .long (co.2.2.1 2 j2)]) := hC1.2.2
    have hI2 := hR.2.1 (co.1 0 j2) hC1v.1
    have hI2a : f (ad.1 (co.1 0 j2)) = .inr (1, [.int (co.2.1 0 (co.1 0 j2)), .long (co.2.2.1 0 (co.1 0 j2)), .long (co.2.2.1 1 (co.1 0 j2)), .int (co.2.1 1 (co.1 0 j2)), .int (co.2.1 2 (co.1 0 j2)), .ref (ad.2.1 (co.1 0 j2)), .int (co.2.1 3 (co.1 0 j2)), .int (co.2.1 4 (co.1 0 j2)), .int (co.2.1 5 (co.1 0 j2))]) := hI2.2.2.1
    have hI2p : f (ad.2.1 (co.1 0 j2)) = .inl ((cA 0), 8, .inl (co.2.2.2 (co.1 0 j2))) := hI2.2.2.2.2
    refine lv_astore_n (lv' := [(3, .ref (ad.2.2.1 j2)), (0, .ref (Q 0)), (1, .int x1), (2, .int x2)]) hx hb dX3_proof_5 rfl hl (by decide) rfl (fun ls hl => ?_)
    refine lv_aload_n hx hb dX3_proof_6 rfl (lv_at hl 0 rfl) ?_
    refine lv_ifnonnull (tgt := 13) hx hb dX3_proof_7 (by decide) ?_
    refine lv_iload_n hx hb dX3_proof_13 rfl (lv_at hl 3 rfl) ?_
    refine lv_iconst (v := 4) hx hb dX3_proof_14 (by decide) ?_
    refine vp_callSi (va_Run.run (va_runS (As := [.int x2, .int 4]) (rest := []) ⟨hx, hb, hml, hown, hts⟩ (mt_isBelow l x2 4) (va_cwS 2 hts (al_gS wd_41 wd_42 wd_1 wd_43) rfl rfl rfl (by decide +kernel) ⟨Nat.le_of_ble_eq_true rfl, Nat.le_of_ble_eq_true rfl⟩) ⟨ct_bl0, ct_at0⟩ rfl rfl hl.1 rfl (lv_room (Nat.le_of_ble_eq_true rfl)) dX3_proof_15 ⟨Nat.le_of_ble_eq_true rfl, Nat.le_of_ble_eq_true rfl⟩)) (fun r15 hr15 => ?_)
    subst hr15
    refine lv_if_ne (tgt := 24) hx hb dX3_proof_18 (by decide) (fun c18 => ?_) (fun c18 => ?_)
    · have c18 := of_decide_eq_true (bb_n.mp c18)
      refine lv_iconst (v := 1) hx hb dX3_proof_24 (by decide) ?_
      refine lv_iload_n hx hb dX3_proof_25 rfl (lv_at hl 3 rfl) ?_
      refine lv_ishl hx hb dX3_proof_26 ?_
      refine lv_istore (lv' := [(4, .int ((1 : Int32) <<< (x2 &&& 31))), (3, .ref (ad.2.2.1 j2)), (0, .ref (Q 0)), (1, .int x1), (2, .int x2)]) hx hb dX3_proof_27 hl (by decide) rfl (fun ls hl => ?_)
      refine lv_aload_n hx hb dX3_proof_29 rfl (lv_at hl 1 rfl) ?_
      refine hp_get (D := (dC, dI)) (ci := 0) (v := .int (co.2.1 9 j2)) (C := RX0) (T := TX0) (N := 13) hx hb hts in0 hown hK hP hC1.2.1 hC1a rfl 5 (by decide) lk0 (fun _ h9 => h9) rfl dX3_proof_30 ?_
      refine lv_if_ne (tgt := 46) hx hb dX3_proof_33 (by decide) (fun c33 => ?_) (fun c33 => ?_)
      · refine lv_bipush (v := (-103)) hx hb dX3_proof_46 (by decide) ?_
        exact W.iret (v := (-103)) hx hb hr (fun t ht hW => ⟨⟨(-103), (σ, co), rfl, (by simp only [kc_proof, hm2, if_pos c18, if_neg c33, Option.elim, hn0, hn1, hn2]), σ.2.2.2.2, n, L, f, ad, Nat.le_succ _, hR, by rw [ht]; exact hP, va_K.moved hW.alike hK, hD⟩, hS.F ht⟩) hS.2.2 dX3_proof_48
      · refine lv_aload_n hx hb dX3_proof_36 rfl (lv_at hl 1 rfl) ?_
        refine hp_get (D := (dC, dI)) (ci := 0) (v := .int (co.2.1 10 j2)) (C := RX0) (T := TX0) (N := 13) hx hb hts in0 hown hK hP hC1.2.1 hC1a rfl 6 (by decide) lk1 (fun _ h9 => h9) rfl dX3_proof_37 ?_
        refine lv_iload hx hb dX3_proof_40 (lv_at hl 0 rfl) ?_
        refine lv_iand hx hb dX3_proof_42 ?_
        refine lv_if_ne (tgt := 49) hx hb dX3_proof_43 (by decide) (fun c43 => ?_) (fun c43 => ?_)
        · refine lv_aload_n hx hb dX3_proof_49 rfl (lv_at hl 1 rfl) ?_
          refine lv_dup hx hb dX3_proof_50 rfl ?_
          refine hp_get (D := (dC, dI)) (ci := 0) (v := .int (co.2.1 10 j2)) (C := RX0) (T := TX0) (N := 13) hx hb hts in0 hown hK hP hC1.2.1 hC1a rfl 6 (by decide) lk1 (fun _ h9 => h9) rfl dX3_proof_51 ?_
          refine lv_iload hx hb dX3_proof_54 (lv_at hl 0 rfl) ?_
          refine lv_iconst (v := (-1)) hx hb dX3_proof_56 (by decide) ?_
          refine lv_ixor hx hb dX3_proof_57 ?_
          refine lv_iand hx hb dX3_proof_58 ?_
          refine hp_put (D := (dC, dI)) (ci := 0) (v := .int ((co.2.1 10 j2) &&& (((1 : Int32) <<< (x2 &&& 31)) ^^^ (-1)))) (ty := .int) (C := RX0) (T := TX0) (N := 13) hx hb hts in0 tyX0 tyX0_ok nmX0 hown hK hP hD hS hC1.2.1 hC1a rfl 6 (by decide) lk1 (fun _ h9 => h9) rfl (by decide +kernel) rfl rfl (Nat.le_of_ble_eq_true rfl) dX3_proof_59 (fs' := [.int (nI (j2 + 1)), .int (co.2.1 6 j2), .ref (ad.1 (co.1 0 j2)), .int (co.2.1 7 j2), .int (co.2.1 8 j2), .int (co.2.1 9 j2), .int ((co.2.1 10 j2) &&& (((1 : Int32) <<< (x2 &&& 31)) ^^^ (-1))), .int (co.2.1 11 j2), .int (co.2.1 12 j2), .int (co.2.1 13 j2), .int (co.2.1 14 j2), .int (co.2.1 15 j2), .long (co.2.2.1 2 j2)]) rfl (fun H locs hP hD hS => ?_)
          obtain ⟨f_1, ef_1⟩ : ∃ y9, y9 = va_up f (ad.2.2.1 j2) (.inr (0, [.int (nI (j2 + 1)), .int (co.2.1 6 j2), .ref (ad.1 (co.1 0 j2)), .int (co.2.1 7 j2), .int (co.2.1 8 j2), .int (co.2.1 9 j2), .int ((co.2.1 10 j2) &&& (((1 : Int32) <<< (x2 &&& 31)) ^^^ (-1))), .int (co.2.1 11 j2), .int (co.2.1 12 j2), .int (co.2.1 13 j2), .int (co.2.1 14 j2), .int (co.2.1 15 j2), .long (co.2.2.1 2 j2)])) := ⟨_, rfl⟩
          rw [← ef_1] at hP hD
          have hf_1_ad1co10j2 : f_1 (ad.1 (co.1 0 j2)) = .inr (1, [.int (co.2.1 0 (co.1 0 j2)), .long (co.2.2.1 0 (co.1 0 j2)), .long (co.2.2.1 1 (co.1 0 j2)), .int (co.2.1 1 (co.1 0 j2)), .int (co.2.1 2 (co.1 0 j2)), .ref (ad.2.1 (co.1 0 j2)), .int (co.2.1 3 (co.1 0 j2)), .int (co.2.1 4 (co.1 0 j2)), .int (co.2.1 5 (co.1 0 j2))]) := by rw [ef_1, va_up_ne _ _ (ct_ne hI2a hC1a (by simp))]; exact hI2a
          have hf_1_ad21co10j2 : f_1 (ad.2.1 (co.1 0 j2)) = .inl ((cA 0), 8, .inl (co.2.2.2 (co.1 0 j2))) := by rw [ef_1, va_up_ne _ _ (ct_ne hI2p hC1a (by simp))]; exact hI2p
          have hf_1_ad221j2 : f_1 (ad.2.2.1 j2) = .inr (0, [.int (nI (j2 + 1)), .int (co.2.1 6 j2), .ref (ad.1 (co.1 0 j2)), .int (co.2.1 7 j2), .int (co.2.1 8 j2), .int (co.2.1 9 j2), .int ((co.2.1 10 j2) &&& (((1 : Int32) <<< (x2 &&& 31)) ^^^ (-1))), .int (co.2.1 11 j2), .int (co.2.1 12 j2), .int (co.2.1 13 j2), .int (co.2.1 14 j2), .int (co.2.1 15 j2), .long (co.2.2.1 2 j2)]) := by rw [ef_1]; exact va_up_self _ _ _
          refine lv_aload_n hx hb dX3_proof_62 rfl (lv_at hl 1 rfl) ?_
          refine hp_get (D := (dC, dI)) (ci := 0) (v := .int ((co.2.1 10 j2) &&& (((1 : Int32) <<< (x2 &&& 31)) ^^^ (-1)))) (C := RX0) (T := TX0) (N := 13) hx hb hts in0 hown hK hP hC1.2.1 hf_1_ad221j2 rfl 6 (by decide) lk1 (fun _ h9 => h9) rfl dX3_proof_63 ?_
          refine vp_callSi (va_Run.run (va_runS (As := [.int ((co.2.1 10 j2) &&& (((1 : Int32) <<< (x2 &&& 31)) ^^^ (-1)))]) (rest := []) ⟨hx, hb, hml, hown, hts⟩ (mt_bitCount l ((co.2.1 10 j2) &&& (((1 : Int32) <<< (x2 &&& 31)) ^^^ (-1))) (an_17 (hR.2.2.2.2.1.2.1 j2 hj2).2.2.2 _)) (va_cwS 1 hts (al_gS wd_149 wd_150 wd_5 wd_151) rfl rfl rfl (by decide +kernel) ⟨Nat.le_of_ble_eq_true rfl, Nat.le_of_ble_eq_true rfl⟩) ⟨ct_bl0, ct_at0⟩ rfl rfl hl.1 rfl (lv_room (Nat.le_of_ble_eq_true rfl)) dX3_proof_66 ⟨Nat.le_of_ble_eq_true rfl, Nat.le_of_ble_eq_true rfl⟩)) (fun r66 hr66 => ?_)
          subst hr66
          refine lv_istore (lv' := [(5, .int (bi_ct ((co.2.1 10 j2) &&& (((1 : Int32) <<< (x2 &&& 31)) ^^^ (-1))))), (4, .int ((1 : Int32) <<< (x2 &&& 31))), (3, .ref (ad.2.2.1 j2)), (0, .ref (Q 0)), (1, .int x1), (2, .int x2)]) hx hb dX3_proof_69 hl (by decide) rfl (fun ls hl => ?_)
          refine lv_iload hx hb dX3_proof_71 (lv_at hl 0 rfl) ?_
          refine lv_if_le (tgt := 82) hx hb dX3_proof_73 (by decide) (fun c73 => ?_) (fun c73 => ?_)
          · refine lv_iload hx hb dX3_proof_82 (lv_at hl 0 rfl) ?_
            exact W.iret (v := (bi_ct ((co.2.1 10 j2) &&& (((1 : Int32) <<< (x2 &&& 31)) ^^^ (-1))))) hx hb hr (fun t ht hW => ⟨⟨(bi_ct ((co.2.1 10 j2) &&& (((1 : Int32) <<< (x2 &&& 31)) ^^^ (-1)))), (σ, co_g co (up_2 co.2.1 10 j2 (pr_lk co j2 x2))), rfl, (by simp only [kc_proof, hm2, if_pos c18, if_pos c33, if_neg c43, Option.elim, if_neg (show ¬ 0 < bi_ct (pr_lk co j2 x2) from Int32.not_lt.mpr c73)]; rfl), σ.2.2.2.2, n, L, f_1, ad, Nat.le_succ _, by rw [ef_1]; exact re_setC hR hj2 (pf_ag (hR.2.2.2.2.1.2.1 j2 hj2).2.2.2 _) (pf_ce _ _ _ _), by rw [ht]; exact hP, va_K.moved hW.alike hK, hD⟩, hS.F ht⟩) hS.2.2 dX3_proof_84
          · refine lv_aload_n hx hb dX3_proof_76 rfl (lv_at hl 3 rfl) ?_
            refine lv_iload_n hx hb dX3_proof_77 rfl (lv_at hl 4 rfl) ?_
            refine lv_iconst (v := 2) hx hb dX3_proof_78 (by decide) ?_
            have hFc := ct_free hD hS hA
            refine va_callv (va_runV (As := [.int x1, .int 2]) (rest := []) ⟨hx, hb, hml, hown, hts⟩ (mt_send l dC dI cA H.size Q σ L f_1 n.2.2.2 (show (σ).1 3 = nI n.2.2.2 from hR.1.2.2.2.2.2.2) (by omega) x1 2) (cwV 2 hts (al_gV wd_141 wd_143 wd_142 wd_1 wd_144) rfl rfl rfl (by decide +kernel) ⟨Nat.le_of_ble_eq_true rfl, Nat.le_of_ble_eq_true rfl⟩) ⟨ct_blM, va_recv hK hP (ci := 3) (q0 := 0) rfl (xc_W_0 _ _), ct_atM hP hK hD⟩ rfl rfl hl.1 rfl (lv_room (Nat.le_of_ble_eq_true rfl)) dX3_proof_79 ⟨Nat.le_of_ble_eq_true rfl, Nat.le_of_ble_eq_true rfl⟩) hS (fun q _ h => hFc q h) hFc (fun u79 t H1 locs ht hvm hr79 hB hz1 hk1 hS => ?_)
            obtain ⟨hP, -, hD1⟩ := hB
            rw [ht] at hP
            have hD := hD1.weaken (fun _ _ _ h => hFc _ h)
            clear hD1 hk1 hz1 hFc hvm
            generalize H1 = H at hP hS ht ⊢
            clear ht
            refine W.widen (k := 0) (n := 0) (by decide) (by decide) ?_
            subst hr79
            have hP : va_P (dC, dI) vwCl (xc_W Q cA (se_nd σ x1 2) ++ va_pl L f_1) H := hP
            have hD : va_D A (xc_W Q cA (se_nd σ x1 2) ++ va_pl L f_1) := hD
            refine lv_iload hx hb dX3_proof_82 (lv_at hl 0 rfl) ?_
            exact W.iret (v := (bi_ct ((co.2.1 10 j2) &&& (((1 : Int32) <<< (x2 &&& 31)) ^^^ (-1))))) hx hb hr (fun t ht hW => ⟨⟨(bi_ct ((co.2.1 10 j2) &&& (((1 : Int32) <<< (x2 &&& 31)) ^^^ (-1)))), (se_nd σ x1 2, co_g co (up_2 co.2.1 10 j2 (pr_lk co j2 x2))), rfl, (by simp only [kc_proof, hm2, if_pos c18, if_pos c33, if_neg c43, Option.elim, if_pos (show 0 < bi_ct (pr_lk co j2 x2) from Int32.not_le.mp c73)]; rfl), ((se_nd σ x1 2)).2.2.2.2, (n.1, n.2.1, n.2.2.1, n.2.2.2 + 1), L, f_1, ad, Nat.le_refl _, by rw [ef_1]; exact re_x (re_setC hR hj2 (pf_ag (hR.2.2.2.2.1.2.1 j2 hj2).2.2.2 _) (pf_ce _ _ _ _)) (n.2.2.2 + 1) (sn_0 _ _ _ 0 (by decide)) (sn_0 _ _ _ 1 (by decide)) (sn_0 _ _ _ 2 (by decide)) (sn_3 (σ := σ) (show (σ).1 3 = nI n.2.2.2 from hR.1.2.2.2.2.2.2) _ _) (sn_r _ _ _), by rw [ht]; exact hP, va_K.moved hW.alike hK, hD⟩, hS.F ht⟩) hS.2.2 dX3_proof_84
        · refine lv_bipush (v := (-103)) hx hb dX3_proof_46 (by decide) ?_
          exact W.iret (v := (-103)) hx hb hr (fun t ht hW => ⟨⟨(-103), (σ, co), rfl, (by simp only [kc_proof, hm2, if_pos c18, if_pos c33, if_pos c43, Option.elim, hn0, hn1, hn2]), σ.2.2.2.2, n, L, f, ad, Nat.le_succ _, hR, by rw [ht]; exact hP, va_K.moved hW.alike hK, hD⟩, hS.F ht⟩) hS.2.2 dX3_proof_48
    · have c18 := of_decide_eq_false (bb_0.mp c18)
      refine lv_bipush (v := (-102)) hx hb dX3_proof_21 (by decide) ?_
      exact W.iret (v := (-102)) hx hb hr (fun t ht hW => ⟨⟨(-102), (σ, co), rfl, (by simp only [kc_proof, hm2, if_neg c18, Option.elim, hn0, hn1, hn2]), σ.2.2.2.2, n, L, f, ad, Nat.le_succ _, hR, by rw [ht]; exact hP, va_K.moved hW.alike hK, hD⟩, hS.F ht⟩) hS.2.2 dX3_proof_23
  · skip
    refine lv_astore_nN (lv' := [(3, .null), (0, .ref (Q 0)), (1, .int x1), (2, .int x2)]) hx hb dX3_proof_5 rfl hl (by decide) rfl (fun ls hl => ?_)
    refine lv_aload_nN hx hb dX3_proof_6 rfl (lv_at hl 0 rfl) ?_
    refine lv_ifnonnullN hx hb dX3_proof_7 ?_
    refine lv_bipush (v := (-101)) hx hb dX3_proof_10 (by decide) ?_
    exact W.iret (v := (-101)) hx hb hr (fun t ht hW => ⟨⟨(-101), (σ, co), rfl, (by simp only [kc_proof, hm2, Option.elim, hn0, hn1, hn2]), σ.2.2.2.2, n, L, f, ad, Nat.le_succ _, hR, by rw [ht]; exact hP, va_K.moved hW.alike hK, hD⟩, hS.F ht⟩) hS.2.2 dX3_proof_12
set_option maxHeartbeats 4000000 in
set_option maxRecDepth 100000 in
/-- mt_found -/
theorem mt_found (l : Launch) (dC : Nat → ClassId) (dI : Nat → Nat → Nat) (cA : Nat → ClassId) (sz : Nat) (Q : Nat → Nat) (σ : xs_T) (n : nn_T) (co : co_T) (L : List Nat) (f : Nat → va_E) (ad : ad_T) (hR : re_A cA σ n co L f ad) (hT : n.2.2.2 < 100000) (x1 : Int32) : Met l yX3_found wsX3_found ({ frames := 3, cells := 0, slots := 0, locals := 70 }) (va_Pc [.ref (Q 0), .int x1] (ct_M (dC, dI) vwCl (ty_K cA) (xc_W Q cA σ ++ va_pl L f) sz)) (va_Qi (fun r u => (r, u) = kc_found (σ, co) x1) (fun u t => ∃ (ra : Nat → Nat → Option Nat) (n' : nn_T) (L' : List Nat) (f' : Nat → va_E) (ad' : ad_T), n'.2.2.2 ≤ n.2.2.2 + 1 ∧ re_A cA (xs_r u.1 ra) n' u.2 L' f' ad' ∧ ct_B (dC, dI) vwCl (ty_K cA) (va_A (xc_W Q cA σ ++ va_pl L f) sz) (xc_W Q cA (xs_r u.1 ra) ++ va_pl L' f') t) (va_A (xc_W Q cA σ ++ va_pl L f) sz)) 0 0 (va_A (xc_W Q cA σ ++ va_pl L f) sz) := by
  refine Met.ofW (cc := cX3_found) (maxL := 4) (ret := (some .int)) (by decide) rfl ?_
  intro p e s m args below meth c s₁ B hml hv
  obtain ⟨rfl, hsz, hP, hK, hD0⟩ := hv
  have hx := B.exec
  have hb := B.bytes
  have hr := B.returns
  have hts := atoms_spec (ws := wsX3_found) B.pre
  have hown : s.vm.findClass RX3 = some m.cls := findClass_of_methodNamed B.named
  have hlocks := B.notSynchronized
  subst hsz
  have hD := hD0.self (sz := s.heap.size)
  generalize hAe : va_A (xc_W Q cA σ ++ va_pl L f) s.heap.size = A at hD ⊢
  have hA : ∀ q : Nat, s.heap.size ≤ q → A q := fun q h => by rw [← hAe]; exact Or.inr h
  clear hAe hD0
  have hS : va_S A s.heap s.heap [] := va_S.rf
  have hl := lv_entry ([.ref (Q 0), .int x1]) (n := 4) (Nat.le_of_ble_eq_true rfl)
  rw [lg_entry_eq]
  generalize (lg_sl ([.ref (Q 0), .int x1]) ++ List.replicate (4 - (lg_sl ([.ref (Q 0), .int x1])).length) Slot.unset).toArray = ls at hl ⊢
  have hl : lv_has ls 4 [(0, .ref (Q 0)), (1, .int x1)] := hl
  have lk0 := hts (.fieldLink RX3 120 "ClaimRows$Claim" "state" "I") (List.mem_cons_of_mem _ wd_129)
  have lk1 := hts (.fieldLink RX3 196 "ClaimRows$Item" "isFound" "Z") (List.mem_cons_of_mem _ wd_71)
  have lk2 := hts (.fieldLink RX3 199 "ClaimRows$Claim" "number" "I") (List.mem_cons_of_mem _ wd_119)
  have in0 : ∀ w ∈ u_ws RX0 TX0 13, w ∈ wsX3_found := fun w h => List.mem_cons_of_mem _ (wu_X0 w h)
  have in1 : ∀ w ∈ u_ws RX1 TX1 9, w ∈ wsX3_found := fun w h => List.mem_cons_of_mem _ (wu_X1 w h)
  have hn0 : (σ.1 0).toNatClampNeg = n.1 := by rw [hR.1.1]; exact nI_clamp (by have := hR.1.2.1; omega)
  have hn1 : (σ.1 1).toNatClampNeg = n.2.1 := by rw [hR.1.2.2.1]; exact nI_clamp (by have := hR.1.2.2.2.1; omega)
  have hn2 : (σ.1 2).toNatClampNeg = n.2.2.1 := by rw [hR.1.2.2.2.2.1]; exact nI_clamp (by have := hR.1.2.2.2.2.2.1; omega)
  refine lv_aload_n hx hb dX3_found_0 rfl (lv_at hl 0 rfl) ?_
  refine lv_iload_n hx hb dX3_found_1 rfl (lv_at hl 1 rfl) ?_
  refine va_csq (va_Run.run (va_runV (As := [.int x1]) (rest := []) ⟨hx, hb, hml, hown, hts⟩ (mt_itemNumbered l dC dI cA Q σ n co L f ad hR x1) (cwV 1 hts (al_gV wd_76 wd_78 wd_77 wd_1 wd_79) rfl rfl rfl (by decide +kernel) ⟨Nat.le_of_ble_eq_true rfl, Nat.le_of_ble_eq_true rfl⟩) ⟨ct_blR, va_recv hK hP (ci := 3) (q0 := 0) rfl (xc_W_0 _ _), ct_atR hP hK⟩ rfl rfl hl.1 rfl (lv_room (Nat.le_of_ble_eq_true rfl)) dX3_found_2 ⟨Nat.le_of_ble_eq_true rfl, Nat.le_of_ble_eq_true rfl⟩)) (fun r2 hr2 => ?_)
  rcases hr2 with ⟨j2, hj2, hm2, ex2, rfl⟩ | ⟨hm2, rfl⟩
  · have hI1 := hR.2.1 j2 hj2
    have hI1a : f (ad.1 j2) = .inr (1, [.int (co.2.1 0 j2), .long (co.2.2.1 0 j2), .long (co.2.2.1 1 j2), .int (co.2.1 1 j2), .int (co.2.1 2 j2), .ref (ad.2.1 j2), .int (co.2.1 3 j2), .int (co.2.1 4 j2), .int (co.2.1 5 j2)]) := hI1.2.2.1
    have hI1p : f (ad.2.1 j2) = .inl ((cA 0), 8, .inl (co.2.2.2 j2)) := hI1.2.2.2.2
    refine lv_astore_n (lv' := [(2, .ref (ad.1 j2)), (0, .ref (Q 0)), (1, .int x1)]) hx hb dX3_found_5 rfl hl (by decide) rfl (fun ls hl => ?_)
    refine lv_aload_n hx hb dX3_found_6 rfl (lv_at hl 0 rfl) ?_
    refine lv_ifnonnull (tgt := 13) hx hb dX3_found_7 (by decide) ?_
    refine lv_aload_n hx hb dX3_found_13 rfl (lv_at hl 1 rfl) ?_
    refine lv_iload_n hx hb dX3_found_14 rfl (lv_at hl 2 rfl) ?_
    refine lv_iconst (v := 0) hx hb dX3_found_15 (by decide) ?_
    refine va_csq (va_Run.run (va_runV (As := [.int x1, .int 0]) (rest := []) ⟨hx, hb, hml, hown, hts⟩ (mt_standingClaim l dC dI cA Q σ n co L f ad hR x1 0) (cwV 2 hts (al_gV wd_101 wd_103 wd_102 wd_1 wd_104) rfl rfl rfl (by decide +kernel) ⟨Nat.le_of_ble_eq_true rfl, Nat.le_of_ble_eq_true rfl⟩) ⟨ct_blR, va_recv hK hP (ci := 3) (q0 := 0) rfl (xc_W_0 _ _), ct_atR hP hK⟩ rfl rfl hl.1 rfl (lv_room (Nat.le_of_ble_eq_true rfl)) dX3_found_16 ⟨Nat.le_of_ble_eq_true rfl, Nat.le_of_ble_eq_true rfl⟩)) (fun r16 hr16 => ?_)
    rcases hr16 with ⟨j16, hj16, hm16, rfl⟩ | ⟨hm16, rfl⟩
    · have hC2 := hR.2.2.1 j16 hj16
      have hC2v := hR.2.2.2.2.1.2.1 j16 hj16
      have hC2a : f (ad.2.2.1 j16) = .inr (0, [.int (nI (j16 + 1)), .int (co.2.1 6 j16), .ref (ad.1 (co.1 0 j16)), .int (co.2.1 7 j16), .int (co.2.1 8 j16), .int (co.2.1 9 j16), .int (co.2.1 10 j16), .int (co.2.1 11 j16), .int (co.2.1 12 j16), .int (co.2.1 13 j16), .int (co.2.1 14 j16), .int (co.2.1 15 j16), .long (co.2.2.1 2 j16)]) := hC2.2.2
      have hI3 := hR.2.1 (co.1 0 j16) hC2v.1
      have hI3a : f (ad.1 (co.1 0 j16)) = .inr (1, [.int (co.2.1 0 (co.1 0 j16)), .long (co.2.2.1 0 (co.1 0 j16)), .long (co.2.2.1 1 (co.1 0 j16)), .int (co.2.1 1 (co.1 0 j16)), .int (co.2.1 2 (co.1 0 j16)), .ref (ad.2.1 (co.1 0 j16)), .int (co.2.1 3 (co.1 0 j16)), .int (co.2.1 4 (co.1 0 j16)), .int (co.2.1 5 (co.1 0 j16))]) := hI3.2.2.1
      have hI3p : f (ad.2.1 (co.1 0 j16)) = .inl ((cA 0), 8, .inl (co.2.2.2 (co.1 0 j16))) := hI3.2.2.2.2
      refine lv_astore_n (lv' := [(3, .ref (ad.2.2.1 j16)), (2, .ref (ad.1 j2)), (0, .ref (Q 0)), (1, .int x1)]) hx hb dX3_found_19 rfl hl (by decide) rfl (fun ls hl => ?_)
      refine lv_aload_n hx hb dX3_found_20 rfl (lv_at hl 0 rfl) ?_
      refine lv_ifnull hx hb dX3_found_21 ?_
      refine lv_aload_n hx hb dX3_found_24 rfl (lv_at hl 0 rfl) ?_
      refine hp_get (D := (dC, dI)) (ci := 0) (v := .int (co.2.1 9 j16)) (C := RX0) (T := TX0) (N := 13) hx hb hts in0 hown hK hP hC2.2.1 hC2a rfl 5 (by decide) lk0 (fun _ h9 => h9) rfl dX3_found_25 ?_
      refine lv_iconst (v := 1) hx hb dX3_found_28 (by decide) ?_
      refine lv_icmp_ne (tgt := 39) hx hb dX3_found_29 (by decide) (fun c29 => ?_) (fun c29 => ?_)
      · refine lv_bipush (v := (-103)) hx hb dX3_found_39 (by decide) ?_
        exact W.iret (v := (-103)) hx hb hr (fun t ht hW => ⟨⟨(-103), (σ, co), rfl, (by simp only [kc_found, hm2, hm16, if_neg c29, Option.elim, hn0, hn1, hn2]), σ.2.2.2.2, n, L, f, ad, Nat.le_succ _, hR, by rw [ht]; exact hP, va_K.moved hW.alike hK, hD⟩, hS.F ht⟩) hS.2.2 dX3_found_41
      · refine lv_aload_n hx hb dX3_found_32 rfl (lv_at hl 1 rfl) ?_
        refine hp_get (D := (dC, dI)) (ci := 1) (v := .int (co.2.1 5 j2)) (C := RX1) (T := TX1) (N := 9) hx hb hts in1 hown hK hP hI1.2.1 hI1a rfl 8 (by decide) lk1 (fun _ h9 => h9) rfl dX3_found_33 ?_
        refine lv_if_eq (tgt := 42) hx hb dX3_found_36 (by decide) (fun c36 => ?_) (fun c36 => ?_)
        · refine lv_aload_n hx hb dX3_found_42 rfl (lv_at hl 1 rfl) ?_
          refine lv_iconst (v := 1) hx hb dX3_found_43 (by decide) ?_
          refine hp_put (D := (dC, dI)) (ci := 1) (v := .int 1) (ty := .boolean) (C := RX1) (T := TX1) (N := 9) hx hb hts in1 tyX1 tyX1_ok nmX1 hown hK hP hD hS hI1.2.1 hI1a rfl 8 (by decide) lk1 (fun _ h9 => h9) rfl (by decide +kernel) (by decide) rfl (Nat.le_of_ble_eq_true rfl) dX3_found_44 (fs' := [.int (co.2.1 0 j2), .long (co.2.2.1 0 j2), .long (co.2.2.1 1 j2), .int (co.2.1 1 j2), .int (co.2.1 2 j2), .ref (ad.2.1 j2), .int (co.2.1 3 j2), .int (co.2.1 4 j2), .int 1]) rfl (fun H locs hP hD hS => ?_)
          obtain ⟨f_1, ef_1⟩ : ∃ y9, y9 = va_up f (ad.1 j2) (.inr (1, [.int (co.2.1 0 j2), .long (co.2.2.1 0 j2), .long (co.2.2.1 1 j2), .int (co.2.1 1 j2), .int (co.2.1 2 j2), .ref (ad.2.1 j2), .int (co.2.1 3 j2), .int (co.2.1 4 j2), .int 1])) := ⟨_, rfl⟩
          rw [← ef_1] at hP hD
          have hf_1_ad21j2 : f_1 (ad.2.1 j2) = .inl ((cA 0), 8, .inl (co.2.2.2 j2)) := by rw [ef_1, va_up_ne _ _ (ct_ne hI1p hI1a (by simp))]; exact hI1p
          have hf_1_ad221j16 : f_1 (ad.2.2.1 j16) = .inr (0, [.int (nI (j16 + 1)), .int (co.2.1 6 j16), .ref (ad.1 (co.1 0 j16)), .int (co.2.1 7 j16), .int (co.2.1 8 j16), .int (co.2.1 9 j16), .int (co.2.1 10 j16), .int (co.2.1 11 j16), .int (co.2.1 12 j16), .int (co.2.1 13 j16), .int (co.2.1 14 j16), .int (co.2.1 15 j16), .long (co.2.2.1 2 j16)]) := by rw [ef_1, va_up_ne _ _ (ct_ne hC2a hI1a (by simp))]; exact hC2a
          have hf_1_ad21co10j16 : f_1 (ad.2.1 (co.1 0 j16)) = .inl ((cA 0), 8, .inl (co.2.2.2 (co.1 0 j16))) := by rw [ef_1, va_up_ne _ _ (ct_ne hI3p hI1a (by simp))]; exact hI3p
          have hf_1_ad1j2 : f_1 (ad.1 j2) = .inr (1, [.int (co.2.1 0 j2), .long (co.2.2.1 0 j2), .long (co.2.2.1 1 j2), .int (co.2.1 1 j2), .int (co.2.1 2 j2), .ref (ad.2.1 j2), .int (co.2.1 3 j2), .int (co.2.1 4 j2), .int 1]) := by rw [ef_1]; exact va_up_self _ _ _
          refine lv_aload_n hx hb dX3_found_47 rfl (lv_at hl 0 rfl) ?_
          refine hp_get (D := (dC, dI)) (ci := 0) (v := .int (nI (j16 + 1))) (C := RX0) (T := TX0) (N := 13) hx hb hts in0 hown hK hP hC2.2.1 hf_1_ad221j16 rfl 0 (by decide) lk2 (fun _ h9 => h9) rfl dX3_found_48 ?_
          exact W.iret (v := (nI (j16 + 1))) hx hb hr (fun t ht hW => ⟨⟨(nI (j16 + 1)), (σ, co_g co (up_2 co.2.1 5 j2 1)), rfl, (by simp only [kc_found, hm2, hm16, if_pos c29, if_pos c36, Option.elim, hn1]), σ.2.2.2.2, n, L, f_1, ad, Nat.le_succ _, re_setI hR hj2 (fo_ag (hR.2.2.2.2.1.1 j2 hj2).2) (by rw [hf_1_ad1j2]; exact (fo_ce _ _ _).symm) (by rw [ef_1, va_up_ne _ _ (ct_ne (hR.2.1 j2 hj2).2.2.2.2 (hR.2.1 j2 hj2).2.2.1 ce_PI)]; exact (hR.2.1 j2 hj2).2.2.2.2) (fun z h1 h2 => by rw [ef_1, va_up_ne _ _ h1]), by rw [ht]; exact hP, va_K.moved hW.alike hK, hD⟩, hS.F ht⟩) hS.2.2 dX3_found_51
        · refine lv_bipush (v := (-103)) hx hb dX3_found_39 (by decide) ?_
          exact W.iret (v := (-103)) hx hb hr (fun t ht hW => ⟨⟨(-103), (σ, co), rfl, (by simp only [kc_found, hm2, hm16, if_pos c29, if_neg c36, Option.elim, hn0, hn1, hn2]), σ.2.2.2.2, n, L, f, ad, Nat.le_succ _, hR, by rw [ht]; exact hP, va_K.moved hW.alike hK, hD⟩, hS.F ht⟩) hS.2.2 dX3_found_41
    · skip
      refine lv_astore_nN (lv' := [(3, .null), (2, .ref (ad.1 j2)), (0, .ref (Q 0)), (1, .int x1)]) hx hb dX3_found_19 rfl hl (by decide) rfl (fun ls hl => ?_)
      refine lv_aload_nN hx hb dX3_found_20 rfl (lv_at hl 0 rfl) ?_
      refine lv_ifnullN (tgt := 39) hx hb dX3_found_21 (by decide) ?_
      refine lv_bipush (v := (-103)) hx hb dX3_found_39 (by decide) ?_
      exact W.iret (v := (-103)) hx hb hr (fun t ht hW => ⟨⟨(-103), (σ, co), rfl, (by simp only [kc_found, hm2, hm16, Option.elim, hn0, hn1, hn2]), σ.2.2.2.2, n, L, f, ad, Nat.le_succ _, hR, by rw [ht]; exact hP, va_K.moved hW.alike hK, hD⟩, hS.F ht⟩) hS.2.2 dX3_found_41
  · skip
    refine lv_astore_nN (lv' := [(2, .null), (0, .ref (Q 0)), (1, .int x1)]) hx hb dX3_found_5 rfl hl (by decide) rfl (fun ls hl => ?_)
    refine lv_aload_nN hx hb dX3_found_6 rfl (lv_at hl 0 rfl) ?_
    refine lv_ifnonnullN hx hb dX3_found_7 ?_
    refine lv_bipush (v := (-101)) hx hb dX3_found_10 (by decide) ?_
    exact W.iret (v := (-101)) hx hb hr (fun t ht hW => ⟨⟨(-101), (σ, co), rfl, (by simp only [kc_found, hm2, Option.elim, hn0, hn1, hn2]), σ.2.2.2.2, n, L, f, ad, Nat.le_succ _, hR, by rw [ht]; exact hP, va_K.moved hW.alike hK, hD⟩, hS.F ht⟩) hS.2.2 dX3_found_12
end
section
set_option maxHeartbeats 4000000 in
set_option maxRecDepth 100000 in
/-- mt_decide -/
theorem mt_decide (l : Launch) (dC : Nat → ClassId) (dI : Nat → Nat → Nat) (cA : Nat → ClassId) (sz : Nat) (Q : Nat → Nat) (σ : xs_T) (n : nn_T) (co : co_T) (L : List Nat) (f : Nat → va_E) (ad : ad_T) (hR : re_A cA σ n co L f ad) (hT : n.2.2.2 < 100000) (x1 x2 : Int32) : Met l yX3_decide wsX3_decide ({ frames := 2, cells := 0, slots := 0, locals := 47 }) (va_Pc [.ref (Q 0), .int x1, .int x2] (ct_M (dC, dI) vwCl (ty_K cA) (xc_W Q cA σ ++ va_pl L f) sz)) (va_Qi (fun r u => (r, u) = kc_decide (σ, co) x1 x2) (fun u t => ∃ (ra : Nat → Nat → Option Nat) (n' : nn_T) (L' : List Nat) (f' : Nat → va_E) (ad' : ad_T), n'.2.2.2 ≤ n.2.2.2 + 1 ∧ re_A cA (xs_r u.1 ra) n' u.2 L' f' ad' ∧ ct_B (dC, dI) vwCl (ty_K cA) (va_A (xc_W Q cA σ ++ va_pl L f) sz) (xc_W Q cA (xs_r u.1 ra) ++ va_pl L' f') t) (va_A (xc_W Q cA σ ++ va_pl L f) sz)) 0 0 (va_A (xc_W Q cA σ ++ va_pl L f) sz) := by
  refine Met.ofW (cc := cX3_decide) (maxL := 6) (ret := (some .int)) (by decide) rfl ?_
  intro p e s m args below meth c s₁ B hml hv
  obtain ⟨rfl, hsz, hP, hK, hD0⟩ := hv
  have hx := B.exec
  have hb := B.bytes
  have hr := B.returns
  have hts := atoms_spec (ws := wsX3_decide) B.pre
  have hown : s.vm.findClass RX3 = some m.cls := findClass_of_methodNamed B.named
  have hlocks := B.notSynchronized
  subst hsz
  have hD := hD0.self (sz := s.heap.size)
  generalize hAe : va_A (xc_W Q cA σ ++ va_pl L f) s.heap.size = A at hD ⊢
  have hA : ∀ q : Nat, s.heap.size ≤ q → A q := fun q h => by rw [← hAe]; exact Or.inr h
  clear hAe hD0
  have hS : va_S A s.heap s.heap [] := va_S.rf
  have hl := lv_entry ([.ref (Q 0), .int x1, .int x2]) (n := 6) (Nat.le_of_ble_eq_true rfl)
  rw [lg_entry_eq]
  generalize (lg_sl ([.ref (Q 0), .int x1, .int x2]) ++ List.replicate (6 - (lg_sl ([.ref (Q 0), .int x1, .int x2])).length) Slot.unset).toArray = ls at hl ⊢
  have hl : lv_has ls 6 [(0, .ref (Q 0)), (1, .int x1), (2, .int x2)] := hl
  have lk0 := hts (.fieldLink RX3 175 "ClaimRows$Claim" "seenWhole" "Z") (List.mem_cons_of_mem _ wd_136)
  have lk1 := hts (.fieldLink RX3 35 "ClaimRows" "limits" "[J") (List.mem_cons_of_mem _ wd_27)
  have in0 : ∀ w ∈ u_ws RX0 TX0 13, w ∈ wsX3_decide := fun w h => List.mem_cons_of_mem _ (wu_X0 w h)
  have in1 : ∀ w ∈ u_ws RX3 TX3 16, w ∈ wsX3_decide := fun w h => List.mem_cons_of_mem _ (wu_X3 w h)
  have hn0 : (σ.1 0).toNatClampNeg = n.1 := by rw [hR.1.1]; exact nI_clamp (by have := hR.1.2.1; omega)
  have hn1 : (σ.1 1).toNatClampNeg = n.2.1 := by rw [hR.1.2.2.1]; exact nI_clamp (by have := hR.1.2.2.2.1; omega)
  have hn2 : (σ.1 2).toNatClampNeg = n.2.2.1 := by rw [hR.1.2.2.2.2.1]; exact nI_clamp (by have := hR.1.2.2.2.2.2.1; omega)
  refine lv_aload_n hx hb dX3_decide_0 rfl (lv_at hl 0 rfl) ?_
  refine lv_iload_n hx hb dX3_decide_1 rfl (lv_at hl 1 rfl) ?_
  refine va_csq (va_Run.run (va_runV (As := [.int x1]) (rest := []) ⟨hx, hb, hml, hown, hts⟩ (mt_claimNumbered l dC dI cA Q σ n co L f ad hR x1) (cwV 1 hts (al_gV wd_105 wd_107 wd_106 wd_1 wd_108) rfl rfl rfl (by decide +kernel) ⟨Nat.le_of_ble_eq_true rfl, Nat.le_of_ble_eq_true rfl⟩) ⟨ct_blR, va_recv hK hP (ci := 3) (q0 := 0) rfl (xc_W_0 _ _), ct_atR hP hK⟩ rfl rfl hl.1 rfl (lv_room (Nat.le_of_ble_eq_true rfl)) dX3_decide_2 ⟨Nat.le_of_ble_eq_true rfl, Nat.le_of_ble_eq_true rfl⟩)) (fun r2 hr2 => ?_)
  rcases hr2 with ⟨j2, hj2, hm2, ex2, rfl⟩ | ⟨hm2, rfl⟩
  · have hC1 := hR.2.2.1 j2 hj2
    have hC1v := hR.2.2.2.2.1.2.1 j2 hj2
    have hC1a : f (ad.2.2.1 j2) = .inr (0, [.int (nI (j2 + 1)), .int (co.2.1 6 j2), .ref (ad.1 (co.1 0 j2)), .int (co.2.1 7 j2), .int (co.2.1 8 j2), .int (co.2.1 9 j2), .int (co.2.1 10 j2), .int (co.2.1 11 j2), .int (co.2.1 12 j2), .int (co.2.1 13 j2), .int (co.2.1 14 j2), .int (co.2.1 15 j2), .long (co.2.2.1 2 j2)]) := hC1.2.2
    have hI2 := hR.2.1 (co.1 0 j2) hC1v.1
    have hI2a : f (ad.1 (co.1 0 j2)) = .inr (1, [.int (co.2.1 0 (co.1 0 j2)), .long (co.2.2.1 0 (co.1 0 j2)), .long (co.2.2.1 1 (co.1 0 j2)), .int (co.2.1 1 (co.1 0 j2)), .int (co.2.1 2 (co.1 0 j2)), .ref (ad.2.1 (co.1 0 j2)), .int (co.2.1 3 (co.1 0 j2)), .int (co.2.1 4 (co.1 0 j2)), .int (co.2.1 5 (co.1 0 j2))]) := hI2.2.2.1
    have hI2p : f (ad.2.1 (co.1 0 j2)) = .inl ((cA 0), 8, .inl (co.2.2.2 (co.1 0 j2))) := hI2.2.2.2.2
    refine lv_astore_n (lv' := [(3, .ref (ad.2.2.1 j2)), (0, .ref (Q 0)), (1, .int x1), (2, .int x2)]) hx hb dX3_decide_5 rfl hl (by decide) rfl (fun ls hl => ?_)
    refine lv_aload_n hx hb dX3_decide_6 rfl (lv_at hl 0 rfl) ?_
    refine lv_ifnonnull (tgt := 13) hx hb dX3_decide_7 (by decide) ?_
    refine lv_iload_n hx hb dX3_decide_13 rfl (lv_at hl 3 rfl) ?_
    refine lv_bipush (v := 10) hx hb dX3_decide_14 (by decide) ?_
    refine vp_callSi (va_Run.run (va_runS (As := [.int x2, .int 10]) (rest := []) ⟨hx, hb, hml, hown, hts⟩ (mt_isBelow l x2 10) (va_cwS 2 hts (al_gS wd_41 wd_42 wd_1 wd_43) rfl rfl rfl (by decide +kernel) ⟨Nat.le_of_ble_eq_true rfl, Nat.le_of_ble_eq_true rfl⟩) ⟨ct_bl0, ct_at0⟩ rfl rfl hl.1 rfl (lv_room (Nat.le_of_ble_eq_true rfl)) dX3_decide_16 ⟨Nat.le_of_ble_eq_true rfl, Nat.le_of_ble_eq_true rfl⟩)) (fun r16 hr16 => ?_)
    subst hr16
    refine lv_if_ne (tgt := 25) hx hb dX3_decide_19 (by decide) (fun c19 => ?_) (fun c19 => ?_)
    · have c19 := of_decide_eq_true (bb_n.mp c19)
      refine lv_aload_n hx hb dX3_decide_25 rfl (lv_at hl 0 rfl) ?_
      refine vp_callSi (va_Run.run (va_runV (As := []) (rest := []) ⟨hx, hb, hml, hown, hts⟩ (mt_isReady l dC dI cA (xc_W Q cA σ) L f (ad.2.2.1 j2) hC1.2.1 (nI (j2 + 1)) (co.2.1 6 j2) (ad.1 (co.1 0 j2)) (co.2.1 7 j2) (co.2.1 8 j2) (co.2.1 9 j2) (co.2.1 10 j2) (co.2.1 11 j2) (co.2.1 12 j2) (co.2.1 13 j2) (co.2.1 14 j2) (co.2.1 15 j2) (co.2.2.1 2 j2) hC1a) (cwV 0 hts (al_gV wd_214 wd_215 wd_216 wd_4 wd_217) rfl rfl rfl (by decide +kernel) ⟨Nat.le_of_ble_eq_true rfl, Nat.le_of_ble_eq_true rfl⟩) ⟨ct_blR, hp_recv hK hP (ci := 0) rfl hC1.2.1 hC1a, ct_atR hP hK⟩ rfl rfl hl.1 rfl (lv_room (Nat.le_of_ble_eq_true rfl)) dX3_decide_26 ⟨Nat.le_of_ble_eq_true rfl, Nat.le_of_ble_eq_true rfl⟩)) (fun r26 hr26 => ?_)
      subst hr26
      refine lv_if_ne (tgt := 35) hx hb dX3_decide_29 (by decide) (fun c29 => ?_) (fun c29 => ?_)
      · have c29 := of_decide_eq_true (bb_n.mp c29)
        refine lv_aload_n hx hb dX3_decide_35 rfl (lv_at hl 0 rfl) ?_
        refine hp_get (D := (dC, dI)) (ci := 0) (v := .int (co.2.1 13 j2)) (C := RX0) (T := TX0) (N := 13) hx hb hts in0 hown hK hP hC1.2.1 hC1a rfl 9 (by decide) lk0 (fun _ h9 => h9) rfl dX3_decide_36 ?_
        refine lv_if_eq (tgt := 48) hx hb dX3_decide_39 (by decide) (fun c39 => ?_) (fun c39 => ?_)
        · refine lv_aload_n hx hb dX3_decide_48 rfl (lv_at hl 1 rfl) ?_
          refine lv_aload_n hx hb dX3_decide_49 rfl (lv_at hl 0 rfl) ?_
          refine vp_callSl (va_Run.run (va_runV (As := [.ref (ad.2.2.1 j2)]) (rest := []) ⟨hx, hb, hml, hown, hts⟩ (mt_sumByTable l dC dI cA Q σ n co L f ad hR j2 hj2) (cwV 1 hts (al_gV wd_198 wd_200 wd_199 wd_1 wd_201) rfl rfl rfl (by decide +kernel) ⟨Nat.le_of_ble_eq_true rfl, Nat.le_of_ble_eq_true rfl⟩) ⟨ct_blR, va_recv hK hP (ci := 3) (q0 := 0) rfl (xc_W_0 _ _), ct_atR hP hK⟩ rfl rfl hl.1 rfl (lv_room (Nat.le_of_ble_eq_true rfl)) dX3_decide_50 ⟨Nat.le_of_ble_eq_true rfl, Nat.le_of_ble_eq_true rfl⟩)) (fun r50 hr50 => ?_)
          subst hr50
          refine lv_lstore (lv' := [(4, .long (su_m σ co j2)), (3, .ref (ad.2.2.1 j2)), (0, .ref (Q 0)), (1, .int x1), (2, .int x2)]) hx hb dX3_decide_53 hl (by decide) rfl (fun ls hl => ?_)
          refine lv_lload hx hb dX3_decide_55 (lv_at hl 0 rfl) ?_
          refine lv_aload_n hx hb dX3_decide_57 rfl (lv_at hl 2 rfl) ?_
          refine va_get (D := (dC, dI)) (ci := 3) (v := .ref (Q 6)) (C := RX3) (T := TX3) (N := 16) hx hb hts in1 hown hK hP 0 (xc_W_0 _ _) rfl 8 (by decide) lk1 (fun _ h9 => h9) rfl dX3_decide_58 ?_
          refine lv_iload_n hx hb dX3_decide_61 rfl (lv_at hl 4 rfl) ?_
          refine va_lald hx hb hK hP 6 1 (xc_W_6 _ _) rfl (nu_b (b := 10) c19) dX3_decide_62 ?_
          refine W.lcmp hx hb dX3_decide_63 ?_
          refine lv_if_le (tgt := 70) hx hb dX3_decide_64 (by decide) (fun c64 => ?_) (fun c64 => ?_)
          · refine lv_aload_n hx hb dX3_decide_70 rfl (lv_at hl 2 rfl) ?_
            refine lv_aload_n hx hb dX3_decide_71 rfl (lv_at hl 1 rfl) ?_
            refine lv_lload hx hb dX3_decide_72 (lv_at hl 0 rfl) ?_
            have hFc := ct_free hD hS hA
            refine va_calli (va_runV (As := [.ref (ad.2.2.1 j2), .long (su_m σ co j2)]) (rest := []) ⟨hx, hb, hml, hown, hts⟩ (mt_pay l dC dI cA s.heap.size Q σ L f n.2.2.2 (show (σ).1 3 = nI n.2.2.2 from hR.1.2.2.2.2.2.2) (by omega) (ad.2.2.1 j2) hC1.2.1 (nI (j2 + 1)) (co.2.1 6 j2) (ad.1 (co.1 0 j2)) (co.2.1 7 j2) (co.2.1 8 j2) (co.2.1 9 j2) (co.2.1 10 j2) (co.2.1 11 j2) (co.2.1 12 j2) (co.2.1 13 j2) (co.2.1 14 j2) (co.2.1 15 j2) (co.2.2.1 2 j2) hC1a (su_m σ co j2)) (cwV 2 hts (al_gV wd_222 wd_224 wd_223 wd_1 wd_225) rfl rfl rfl (by decide +kernel) ⟨Nat.le_of_ble_eq_true rfl, Nat.le_of_ble_eq_true rfl⟩) ⟨ct_blM, va_recv hK hP (ci := 3) (q0 := 0) rfl (xc_W_0 _ _), ct_atM hP hK hD⟩ rfl rfl hl.1 rfl (lv_room (Nat.le_of_ble_eq_true rfl)) dX3_decide_74 ⟨Nat.le_of_ble_eq_true rfl, Nat.le_of_ble_eq_true rfl⟩) hS (fun q _ h => hFc q h) hFc (fun r74 u74 t H1 locs ht hvm hr74 hB hz1 hk1 hS => ?_)
            obtain ⟨hP, -, hD1⟩ := hB
            rw [ht] at hP
            have hD := hD1.weaken (fun _ _ _ h => hFc _ h)
            clear hD1 hk1 hz1 hFc hvm
            generalize H1 = H at hP hS ht ⊢
            clear ht
            refine W.widen (k := 0) (n := 0) (by decide) (by decide) ?_
            obtain ⟨rfl, rfl⟩ := hr74
            have hP : va_P (dC, dI) vwCl (xc_W Q cA (se_nd (xs_l σ 0 ((σ.2.1 0) + (su_m σ co j2))) (nI (j2 + 1)) 3) ++ va_pl L (va_up f (ad.2.2.1 j2) (.inr (0, [.int (nI (j2 + 1)), .int (co.2.1 6 j2), .ref (ad.1 (co.1 0 j2)), .int (co.2.1 7 j2), .int (co.2.1 8 j2), .int 1, .int (co.2.1 10 j2), .int (co.2.1 11 j2), .int (co.2.1 12 j2), .int (co.2.1 13 j2), .int (co.2.1 14 j2), .int (co.2.1 15 j2), .long (su_m σ co j2)])))) H := hP
            have hD : va_D A (xc_W Q cA (se_nd (xs_l σ 0 ((σ.2.1 0) + (su_m σ co j2))) (nI (j2 + 1)) 3) ++ va_pl L (va_up f (ad.2.2.1 j2) (.inr (0, [.int (nI (j2 + 1)), .int (co.2.1 6 j2), .ref (ad.1 (co.1 0 j2)), .int (co.2.1 7 j2), .int (co.2.1 8 j2), .int 1, .int (co.2.1 10 j2), .int (co.2.1 11 j2), .int (co.2.1 12 j2), .int (co.2.1 13 j2), .int (co.2.1 14 j2), .int (co.2.1 15 j2), .long (su_m σ co j2)])))) := hD
            obtain ⟨f_1, ef_1⟩ : ∃ y9, y9 = va_up f (ad.2.2.1 j2) (.inr (0, [.int (nI (j2 + 1)), .int (co.2.1 6 j2), .ref (ad.1 (co.1 0 j2)), .int (co.2.1 7 j2), .int (co.2.1 8 j2), .int 1, .int (co.2.1 10 j2), .int (co.2.1 11 j2), .int (co.2.1 12 j2), .int (co.2.1 13 j2), .int (co.2.1 14 j2), .int (co.2.1 15 j2), .long (su_m σ co j2)])) := ⟨_, rfl⟩
            rw [← ef_1] at hP hD
            have hf_1_ad1co10j2 : f_1 (ad.1 (co.1 0 j2)) = .inr (1, [.int (co.2.1 0 (co.1 0 j2)), .long (co.2.2.1 0 (co.1 0 j2)), .long (co.2.2.1 1 (co.1 0 j2)), .int (co.2.1 1 (co.1 0 j2)), .int (co.2.1 2 (co.1 0 j2)), .ref (ad.2.1 (co.1 0 j2)), .int (co.2.1 3 (co.1 0 j2)), .int (co.2.1 4 (co.1 0 j2)), .int (co.2.1 5 (co.1 0 j2))]) := by rw [ef_1, va_up_ne _ _ (ct_ne hI2a hC1a (by simp))]; exact hI2a
            have hf_1_ad21co10j2 : f_1 (ad.2.1 (co.1 0 j2)) = .inl ((cA 0), 8, .inl (co.2.2.2 (co.1 0 j2))) := by rw [ef_1, va_up_ne _ _ (ct_ne hI2p hC1a (by simp))]; exact hI2p
            have hf_1_ad221j2 : f_1 (ad.2.2.1 j2) = .inr (0, [.int (nI (j2 + 1)), .int (co.2.1 6 j2), .ref (ad.1 (co.1 0 j2)), .int (co.2.1 7 j2), .int (co.2.1 8 j2), .int 1, .int (co.2.1 10 j2), .int (co.2.1 11 j2), .int (co.2.1 12 j2), .int (co.2.1 13 j2), .int (co.2.1 14 j2), .int (co.2.1 15 j2), .long (su_m σ co j2)]) := by rw [ef_1]; exact va_up_self _ _ _
            exact W.iret (v := 1) hx hb hr (fun t ht hW => ⟨⟨1, ((se_nd (xs_l σ 0 ((σ.2.1 0) + (su_m σ co j2))) (nI (j2 + 1)) 3), (co.1, up_2 co.2.1 9 j2 1, up_2 co.2.2.1 2 j2 (su_m σ co j2), co.2.2.2)), rfl, (by simp only [kc_decide, hm2, if_pos c19, if_pos c29, if_pos c39, if_neg (fun q => absurd (lc_gt.mpr q) (Int32.not_lt.mpr c64)), Option.elim]), ((se_nd (xs_l σ 0 ((σ.2.1 0) + (su_m σ co j2))) (nI (j2 + 1)) 3)).2.2.2.2, (n.1, n.2.1, n.2.2.1, n.2.2.2 + 1), L, f_1, ad, Nat.le_refl _, by rw [ef_1]; exact re_x (re_setC hR hj2 (py_ag (hR.2.2.2.2.1.2.1 j2 hj2).2.2.2 _) (py_ce _ _ _ _)) (n.2.2.2 + 1) (sn_0 _ _ _ 0 (by decide)) (sn_0 _ _ _ 1 (by decide)) (sn_0 _ _ _ 2 (by decide)) (sn_3 (σ := (xs_l σ 0 ((σ.2.1 0) + (su_m σ co j2)))) (show ((xs_l σ 0 ((σ.2.1 0) + (su_m σ co j2)))).1 3 = nI n.2.2.2 from hR.1.2.2.2.2.2.2) _ _) (sn_r _ _ _), by rw [ht]; exact hP, va_K.moved hW.alike hK, hD⟩, hS.F ht⟩) hS.2.2 dX3_decide_77
          · refine lv_bipush (v := (-107)) hx hb dX3_decide_67 (by decide) ?_
            exact W.iret (v := (-107)) hx hb hr (fun t ht hW => ⟨⟨(-107), (σ, co), rfl, (by simp only [kc_decide, hm2, if_pos c19, if_pos c29, if_pos c39, if_pos (lc_gt.mp (Int32.not_le.mp c64)), Option.elim, hn0, hn1, hn2]), σ.2.2.2.2, n, L, f, ad, Nat.le_succ _, hR, by rw [ht]; exact hP, va_K.moved hW.alike hK, hD⟩, hS.F ht⟩) hS.2.2 dX3_decide_69
        · refine lv_aload_n hx hb dX3_decide_42 rfl (lv_at hl 1 rfl) ?_
          refine lv_aload_n hx hb dX3_decide_43 rfl (lv_at hl 0 rfl) ?_
          have hFc := ct_free hD hS hA
          refine va_calli (va_runV (As := [.ref (ad.2.2.1 j2)]) (rest := []) ⟨hx, hb, hml, hown, hts⟩ (mt_refuse l dC dI cA s.heap.size Q σ L f n.2.2.2 (show (σ).1 3 = nI n.2.2.2 from hR.1.2.2.2.2.2.2) (by omega) (ad.2.2.1 j2) hC1.2.1 (nI (j2 + 1)) (co.2.1 6 j2) (ad.1 (co.1 0 j2)) (co.2.1 7 j2) (co.2.1 8 j2) (co.2.1 9 j2) (co.2.1 10 j2) (co.2.1 11 j2) (co.2.1 12 j2) (co.2.1 13 j2) (co.2.1 14 j2) (co.2.1 15 j2) (co.2.2.1 2 j2) hC1a ) (cwV 1 hts (al_gV wd_218 wd_220 wd_219 wd_1 wd_221) rfl rfl rfl (by decide +kernel) ⟨Nat.le_of_ble_eq_true rfl, Nat.le_of_ble_eq_true rfl⟩) ⟨ct_blM, va_recv hK hP (ci := 3) (q0 := 0) rfl (xc_W_0 _ _), ct_atM hP hK hD⟩ rfl rfl hl.1 rfl (lv_room (Nat.le_of_ble_eq_true rfl)) dX3_decide_44 ⟨Nat.le_of_ble_eq_true rfl, Nat.le_of_ble_eq_true rfl⟩) hS (fun q _ h => hFc q h) hFc (fun r44 u44 t H1 locs ht hvm hr44 hB hz1 hk1 hS => ?_)
          obtain ⟨hP, -, hD1⟩ := hB
          rw [ht] at hP
          have hD := hD1.weaken (fun _ _ _ h => hFc _ h)
          clear hD1 hk1 hz1 hFc hvm
          generalize H1 = H at hP hS ht ⊢
          clear ht
          refine W.widen (k := 0) (n := 0) (by decide) (by decide) ?_
          obtain ⟨rfl, rfl⟩ := hr44
          have hP : va_P (dC, dI) vwCl (xc_W Q cA (se_nd (xs_i σ 5 ((σ.1 5) + 1)) (nI (j2 + 1)) 4) ++ va_pl L (va_up f (ad.2.2.1 j2) (.inr (0, [.int (nI (j2 + 1)), .int (co.2.1 6 j2), .ref (ad.1 (co.1 0 j2)), .int (co.2.1 7 j2), .int (co.2.1 8 j2), .int 2, .int (co.2.1 10 j2), .int (co.2.1 11 j2), .int (co.2.1 12 j2), .int (co.2.1 13 j2), .int (co.2.1 14 j2), .int (co.2.1 15 j2), .long (co.2.2.1 2 j2)])))) H := hP
          have hD : va_D A (xc_W Q cA (se_nd (xs_i σ 5 ((σ.1 5) + 1)) (nI (j2 + 1)) 4) ++ va_pl L (va_up f (ad.2.2.1 j2) (.inr (0, [.int (nI (j2 + 1)), .int (co.2.1 6 j2), .ref (ad.1 (co.1 0 j2)), .int (co.2.1 7 j2), .int (co.2.1 8 j2), .int 2, .int (co.2.1 10 j2), .int (co.2.1 11 j2), .int (co.2.1 12 j2), .int (co.2.1 13 j2), .int (co.2.1 14 j2), .int (co.2.1 15 j2), .long (co.2.2.1 2 j2)])))) := hD
          obtain ⟨f_2, ef_2⟩ : ∃ y9, y9 = va_up f (ad.2.2.1 j2) (.inr (0, [.int (nI (j2 + 1)), .int (co.2.1 6 j2), .ref (ad.1 (co.1 0 j2)), .int (co.2.1 7 j2), .int (co.2.1 8 j2), .int 2, .int (co.2.1 10 j2), .int (co.2.1 11 j2), .int (co.2.1 12 j2), .int (co.2.1 13 j2), .int (co.2.1 14 j2), .int (co.2.1 15 j2), .long (co.2.2.1 2 j2)])) := ⟨_, rfl⟩
          rw [← ef_2] at hP hD
          have hf_2_ad1co10j2 : f_2 (ad.1 (co.1 0 j2)) = .inr (1, [.int (co.2.1 0 (co.1 0 j2)), .long (co.2.2.1 0 (co.1 0 j2)), .long (co.2.2.1 1 (co.1 0 j2)), .int (co.2.1 1 (co.1 0 j2)), .int (co.2.1 2 (co.1 0 j2)), .ref (ad.2.1 (co.1 0 j2)), .int (co.2.1 3 (co.1 0 j2)), .int (co.2.1 4 (co.1 0 j2)), .int (co.2.1 5 (co.1 0 j2))]) := by rw [ef_2, va_up_ne _ _ (ct_ne hI2a hC1a (by simp))]; exact hI2a
          have hf_2_ad21co10j2 : f_2 (ad.2.1 (co.1 0 j2)) = .inl ((cA 0), 8, .inl (co.2.2.2 (co.1 0 j2))) := by rw [ef_2, va_up_ne _ _ (ct_ne hI2p hC1a (by simp))]; exact hI2p
          have hf_2_ad221j2 : f_2 (ad.2.2.1 j2) = .inr (0, [.int (nI (j2 + 1)), .int (co.2.1 6 j2), .ref (ad.1 (co.1 0 j2)), .int (co.2.1 7 j2), .int (co.2.1 8 j2), .int 2, .int (co.2.1 10 j2), .int (co.2.1 11 j2), .int (co.2.1 12 j2), .int (co.2.1 13 j2), .int (co.2.1 14 j2), .int (co.2.1 15 j2), .long (co.2.2.1 2 j2)]) := by rw [ef_2]; exact va_up_self _ _ _
          exact W.iret (v := 2) hx hb hr (fun t ht hW => ⟨⟨2, ((se_nd (xs_i σ 5 ((σ.1 5) + 1)) (nI (j2 + 1)) 4), co_g co (up_2 co.2.1 9 j2 2)), rfl, (by simp only [kc_decide, hm2, if_pos c19, if_pos c29, if_neg c39, Option.elim]), ((se_nd (xs_i σ 5 ((σ.1 5) + 1)) (nI (j2 + 1)) 4)).2.2.2.2, (n.1, n.2.1, n.2.2.1, n.2.2.2 + 1), L, f_2, ad, Nat.le_refl _, by rw [ef_2]; exact re_x (re_setC hR hj2 (st_ag (hR.2.2.2.2.1.2.1 j2 hj2).2.2.2 _) (st_ce _ _ _ _)) (n.2.2.2 + 1) (sn_0 _ _ _ 0 (by decide)) (sn_0 _ _ _ 1 (by decide)) (sn_0 _ _ _ 2 (by decide)) (sn_3 (σ := (xs_i σ 5 ((σ.1 5) + 1))) (show ((xs_i σ 5 ((σ.1 5) + 1))).1 3 = nI n.2.2.2 from hR.1.2.2.2.2.2.2) _ _) (sn_r _ _ _), by rw [ht]; exact hP, va_K.moved hW.alike hK, hD⟩, hS.F ht⟩) hS.2.2 dX3_decide_47
      · have c29 := of_decide_eq_false (bb_0.mp c29)
        refine lv_bipush (v := (-103)) hx hb dX3_decide_32 (by decide) ?_
        exact W.iret (v := (-103)) hx hb hr (fun t ht hW => ⟨⟨(-103), (σ, co), rfl, (by simp only [kc_decide, hm2, if_pos c19, if_neg c29, Option.elim, hn0, hn1, hn2]), σ.2.2.2.2, n, L, f, ad, Nat.le_succ _, hR, by rw [ht]; exact hP, va_K.moved hW.alike hK, hD⟩, hS.F ht⟩) hS.2.2 dX3_decide_34
    · have c19 := of_decide_eq_false (bb_0.mp c19)
      refine lv_bipush (v := (-102)) hx hb dX3_decide_22 (by decide) ?_
      exact W.iret (v := (-102)) hx hb hr (fun t ht hW => ⟨⟨(-102), (σ, co), rfl, (by simp only [kc_decide, hm2, if_neg c19, Option.elim, hn0, hn1, hn2]), σ.2.2.2.2, n, L, f, ad, Nat.le_succ _, hR, by rw [ht]; exact hP, va_K.moved hW.alike hK, hD⟩, hS.F ht⟩) hS.2.2 dX3_decide_24
  · skip
    refine lv_astore_nN (lv' := [(3, .null), (0, .ref (Q 0)), (1, .int x1), (2, .int x2)]) hx hb dX3_decide_5 rfl hl (by decide) rfl (fun ls hl => ?_)
    refine lv_aload_nN hx hb dX3_decide_6 rfl (lv_at hl 0 rfl) ?_
    refine lv_ifnonnullN hx hb dX3_decide_7 ?_
    refine lv_bipush (v := (-101)) hx hb dX3_decide_10 (by decide) ?_
    exact W.iret (v := (-101)) hx hb hr (fun t ht hW => ⟨⟨(-101), (σ, co), rfl, (by simp only [kc_decide, hm2, Option.elim, hn0, hn1, hn2]), σ.2.2.2.2, n, L, f, ad, Nat.le_succ _, hR, by rw [ht]; exact hP, va_K.moved hW.alike hK, hD⟩, hS.F ht⟩) hS.2.2 dX3_decide_12
set_option maxHeartbeats 4000000 in
set_option maxRecDepth 100000 in
/-- mt_back -/
theorem mt_back (l : Launch) (dC : Nat → ClassId) (dI : Nat → Nat → Nat) (cA : Nat → ClassId) (sz : Nat) (Q : Nat → Nat) (σ : xs_T) (n : nn_T) (co : co_T) (L : List Nat) (f : Nat → va_E) (ad : ad_T) (hR : re_A cA σ n co L f ad) (hT : n.2.2.2 < 100000) (x1 : Int32) (b : Bool) : Met l yX3_back wsX3_back ({ frames := 2, cells := 0, slots := 0, locals := 46 }) (va_Pc [.ref (Q 0), .int x1, .int (bb_v b)] (ct_M (dC, dI) vwCl (ty_K cA) (xc_W Q cA σ ++ va_pl L f) sz)) (va_Qi (fun r u => (r, u) = kc_back (σ, co) x1 b) (fun u t => ∃ (ra : Nat → Nat → Option Nat) (n' : nn_T) (L' : List Nat) (f' : Nat → va_E) (ad' : ad_T), n'.2.2.2 ≤ n.2.2.2 + 1 ∧ re_A cA (xs_r u.1 ra) n' u.2 L' f' ad' ∧ ct_B (dC, dI) vwCl (ty_K cA) (va_A (xc_W Q cA σ ++ va_pl L f) sz) (xc_W Q cA (xs_r u.1 ra) ++ va_pl L' f') t) (va_A (xc_W Q cA σ ++ va_pl L f) sz)) 0 0 (va_A (xc_W Q cA σ ++ va_pl L f) sz) := by
  refine Met.ofW (cc := cX3_back) (maxL := 4) (ret := (some .int)) (by decide) rfl ?_
  intro p e s m args below meth c s₁ B hml hv
  obtain ⟨rfl, hsz, hP, hK, hD0⟩ := hv
  have hx := B.exec
  have hb := B.bytes
  have hr := B.returns
  have hts := atoms_spec (ws := wsX3_back) B.pre
  have hown : s.vm.findClass RX3 = some m.cls := findClass_of_methodNamed B.named
  have hlocks := B.notSynchronized
  subst hsz
  have hD := hD0.self (sz := s.heap.size)
  generalize hAe : va_A (xc_W Q cA σ ++ va_pl L f) s.heap.size = A at hD ⊢
  have hA : ∀ q : Nat, s.heap.size ≤ q → A q := fun q h => by rw [← hAe]; exact Or.inr h
  clear hAe hD0
  have hS : va_S A s.heap s.heap [] := va_S.rf
  have hl := lv_entry ([.ref (Q 0), .int x1, .int (bb_v b)]) (n := 4) (Nat.le_of_ble_eq_true rfl)
  rw [lg_entry_eq]
  generalize (lg_sl ([.ref (Q 0), .int x1, .int (bb_v b)]) ++ List.replicate (4 - (lg_sl ([.ref (Q 0), .int x1, .int (bb_v b)])).length) Slot.unset).toArray = ls at hl ⊢
  have hl : lv_has ls 4 [(0, .ref (Q 0)), (1, .int x1), (2, .int (bb_v b))] := hl
  have lk0 := hts (.fieldLink RX3 134 "ClaimRows$Claim" "kind" "I") (List.mem_cons_of_mem _ wd_125)
  have lk1 := hts (.fieldLink RX3 120 "ClaimRows$Claim" "state" "I") (List.mem_cons_of_mem _ wd_129)
  have lk2 := hts (.fieldLink RX3 188 "ClaimRows$Claim" "item" "LClaimRows$Item;") (List.mem_cons_of_mem _ wd_123)
  have lk3 := hts (.fieldLink RX3 196 "ClaimRows$Item" "isFound" "Z") (List.mem_cons_of_mem _ wd_71)
  have lk4 := hts (.fieldLink RX3 202 "ClaimRows$Claim" "backSaid" "Z") (List.mem_cons_of_mem _ wd_139)
  have lk5 := hts (.fieldLink RX3 205 "ClaimRows" "recoveredInAll" "J") (List.mem_cons_of_mem _ wd_33)
  have lk6 := hts (.fieldLink RX3 163 "ClaimRows$Claim" "paidSum" "J") (List.mem_cons_of_mem _ wd_140)
  have in0 : ∀ w ∈ u_ws RX0 TX0 13, w ∈ wsX3_back := fun w h => List.mem_cons_of_mem _ (wu_X0 w h)
  have in1 : ∀ w ∈ u_ws RX1 TX1 9, w ∈ wsX3_back := fun w h => List.mem_cons_of_mem _ (wu_X1 w h)
  have in2 : ∀ w ∈ u_ws RX3 TX3 16, w ∈ wsX3_back := fun w h => List.mem_cons_of_mem _ (wu_X3 w h)
  have hn0 : (σ.1 0).toNatClampNeg = n.1 := by rw [hR.1.1]; exact nI_clamp (by have := hR.1.2.1; omega)
  have hn1 : (σ.1 1).toNatClampNeg = n.2.1 := by rw [hR.1.2.2.1]; exact nI_clamp (by have := hR.1.2.2.2.1; omega)
  have hn2 : (σ.1 2).toNatClampNeg = n.2.2.1 := by rw [hR.1.2.2.2.2.1]; exact nI_clamp (by have := hR.1.2.2.2.2.2.1; omega)
  refine lv_aload_n hx hb dX3_back_0 rfl (lv_at hl 0 rfl) ?_
  refine lv_iload_n hx hb dX3_back_1 rfl (lv_at hl 1 rfl) ?_
  refine va_csq (va_Run.run (va_runV (As := [.int x1]) (rest := []) ⟨hx, hb, hml, hown, hts⟩ (mt_claimNumbered l dC dI cA Q σ n co L f ad hR x1) (cwV 1 hts (al_gV wd_105 wd_107 wd_106 wd_1 wd_108) rfl rfl rfl (by decide +kernel) ⟨Nat.le_of_ble_eq_true rfl, Nat.le_of_ble_eq_true rfl⟩) ⟨ct_blR, va_recv hK hP (ci := 3) (q0 := 0) rfl (xc_W_0 _ _), ct_atR hP hK⟩ rfl rfl hl.1 rfl (lv_room (Nat.le_of_ble_eq_true rfl)) dX3_back_2 ⟨Nat.le_of_ble_eq_true rfl, Nat.le_of_ble_eq_true rfl⟩)) (fun r2 hr2 => ?_)
  rcases hr2 with ⟨j2, hj2, hm2, ex2, rfl⟩ | ⟨hm2, rfl⟩
  · have hC1 := hR.2.2.1 j2 hj2
    have hC1v := hR.2.2.2.2.1.2.1 j2 hj2
    have hC1a : f (ad.2.2.1 j2) = .inr (0, [.int (nI (j2 + 1)), .int (co.2.1 6 j2), .ref (ad.1 (co.1 0 j2)), .int (co.2.1 7 j2), .int (co.2.1 8 j2), .int (co.2.1 9 j2), .int (co.2.1 10 j2), .int (co.2.1 11 j2), .int (co.2.1 12 j2), .int (co.2.1 13 j2), .int (co.2.1 14 j2), .int (co.2.1 15 j2), .long (co.2.2.1 2 j2)]) := hC1.2.2
    have hI2 := hR.2.1 (co.1 0 j2) hC1v.1
    have hI2a : f (ad.1 (co.1 0 j2)) = .inr (1, [.int (co.2.1 0 (co.1 0 j2)), .long (co.2.2.1 0 (co.1 0 j2)), .long (co.2.2.1 1 (co.1 0 j2)), .int (co.2.1 1 (co.1 0 j2)), .int (co.2.1 2 (co.1 0 j2)), .ref (ad.2.1 (co.1 0 j2)), .int (co.2.1 3 (co.1 0 j2)), .int (co.2.1 4 (co.1 0 j2)), .int (co.2.1 5 (co.1 0 j2))]) := hI2.2.2.1
    have hI2p : f (ad.2.1 (co.1 0 j2)) = .inl ((cA 0), 8, .inl (co.2.2.2 (co.1 0 j2))) := hI2.2.2.2.2
    refine lv_astore_n (lv' := [(3, .ref (ad.2.2.1 j2)), (0, .ref (Q 0)), (1, .int x1), (2, .int (bb_v b))]) hx hb dX3_back_5 rfl hl (by decide) rfl (fun ls hl => ?_)
    refine lv_aload_n hx hb dX3_back_6 rfl (lv_at hl 0 rfl) ?_
    refine lv_ifnonnull (tgt := 13) hx hb dX3_back_7 (by decide) ?_
    refine lv_aload_n hx hb dX3_back_13 rfl (lv_at hl 0 rfl) ?_
    refine hp_get (D := (dC, dI)) (ci := 0) (v := .int (co.2.1 7 j2)) (C := RX0) (T := TX0) (N := 13) hx hb hts in0 hown hK hP hC1.2.1 hC1a rfl 3 (by decide) lk0 (fun _ h9 => h9) rfl dX3_back_14 ?_
    refine lv_if_ne (tgt := 45) hx hb dX3_back_17 (by decide) (fun c17 => ?_) (fun c17 => ?_)
    · refine lv_bipush (v := (-103)) hx hb dX3_back_45 (by decide) ?_
      exact W.iret (v := (-103)) hx hb hr (fun t ht hW => ⟨⟨(-103), (σ, co), rfl, (by simp only [kc_back, hm2, if_neg c17, Option.elim, hn0, hn1, hn2]), σ.2.2.2.2, n, L, f, ad, Nat.le_succ _, hR, by rw [ht]; exact hP, va_K.moved hW.alike hK, hD⟩, hS.F ht⟩) hS.2.2 dX3_back_47
    · refine lv_aload_n hx hb dX3_back_20 rfl (lv_at hl 0 rfl) ?_
      refine hp_get (D := (dC, dI)) (ci := 0) (v := .int (co.2.1 9 j2)) (C := RX0) (T := TX0) (N := 13) hx hb hts in0 hown hK hP hC1.2.1 hC1a rfl 5 (by decide) lk1 (fun _ h9 => h9) rfl dX3_back_21 ?_
      refine lv_iconst (v := 1) hx hb dX3_back_24 (by decide) ?_
      refine lv_icmp_ne (tgt := 45) hx hb dX3_back_25 (by decide) (fun c25 => ?_) (fun c25 => ?_)
      · refine lv_bipush (v := (-103)) hx hb dX3_back_45 (by decide) ?_
        exact W.iret (v := (-103)) hx hb hr (fun t ht hW => ⟨⟨(-103), (σ, co), rfl, (by simp only [kc_back, hm2, if_pos c17, if_neg c25, Option.elim, hn0, hn1, hn2]), σ.2.2.2.2, n, L, f, ad, Nat.le_succ _, hR, by rw [ht]; exact hP, va_K.moved hW.alike hK, hD⟩, hS.F ht⟩) hS.2.2 dX3_back_47
      · refine lv_aload_n hx hb dX3_back_28 rfl (lv_at hl 0 rfl) ?_
        refine hp_get (D := (dC, dI)) (ci := 0) (v := .ref (ad.1 (co.1 0 j2))) (C := RX0) (T := TX0) (N := 13) hx hb hts in0 hown hK hP hC1.2.1 hC1a rfl 2 (by decide) lk2 (fun _ h9 => h9) rfl dX3_back_29 ?_
        refine hp_get (D := (dC, dI)) (ci := 1) (v := .int (co.2.1 5 (co.1 0 j2))) (C := RX1) (T := TX1) (N := 9) hx hb hts in1 hown hK hP hI2.2.1 hI2a rfl 8 (by decide) lk3 (fun _ h9 => h9) rfl dX3_back_32 ?_
        refine lv_if_eq (tgt := 45) hx hb dX3_back_35 (by decide) (fun c35 => ?_) (fun c35 => ?_)
        · refine lv_bipush (v := (-103)) hx hb dX3_back_45 (by decide) ?_
          exact W.iret (v := (-103)) hx hb hr (fun t ht hW => ⟨⟨(-103), (σ, co), rfl, (by simp only [kc_back, hm2, if_pos c17, if_pos c25, if_pos c35, Option.elim, hn0, hn1, hn2]), σ.2.2.2.2, n, L, f, ad, Nat.le_succ _, hR, by rw [ht]; exact hP, va_K.moved hW.alike hK, hD⟩, hS.F ht⟩) hS.2.2 dX3_back_47
        · refine lv_aload_n hx hb dX3_back_38 rfl (lv_at hl 0 rfl) ?_
          refine hp_get (D := (dC, dI)) (ci := 0) (v := .int (co.2.1 15 j2)) (C := RX0) (T := TX0) (N := 13) hx hb hts in0 hown hK hP hC1.2.1 hC1a rfl 11 (by decide) lk4 (fun _ h9 => h9) rfl dX3_back_39 ?_
          refine lv_if_eq (tgt := 48) hx hb dX3_back_42 (by decide) (fun c42 => ?_) (fun c42 => ?_)
          · refine lv_aload_n hx hb dX3_back_48 rfl (lv_at hl 0 rfl) ?_
            refine lv_iconst (v := 1) hx hb dX3_back_49 (by decide) ?_
            refine hp_put (D := (dC, dI)) (ci := 0) (v := .int 1) (ty := .boolean) (C := RX0) (T := TX0) (N := 13) hx hb hts in0 tyX0 tyX0_ok nmX0 hown hK hP hD hS hC1.2.1 hC1a rfl 11 (by decide) lk4 (fun _ h9 => h9) rfl (by decide +kernel) (by decide) rfl (Nat.le_of_ble_eq_true rfl) dX3_back_50 (fs' := [.int (nI (j2 + 1)), .int (co.2.1 6 j2), .ref (ad.1 (co.1 0 j2)), .int (co.2.1 7 j2), .int (co.2.1 8 j2), .int (co.2.1 9 j2), .int (co.2.1 10 j2), .int (co.2.1 11 j2), .int (co.2.1 12 j2), .int (co.2.1 13 j2), .int (co.2.1 14 j2), .int 1, .long (co.2.2.1 2 j2)]) rfl (fun H locs hP hD hS => ?_)
            obtain ⟨f_1, ef_1⟩ : ∃ y9, y9 = va_up f (ad.2.2.1 j2) (.inr (0, [.int (nI (j2 + 1)), .int (co.2.1 6 j2), .ref (ad.1 (co.1 0 j2)), .int (co.2.1 7 j2), .int (co.2.1 8 j2), .int (co.2.1 9 j2), .int (co.2.1 10 j2), .int (co.2.1 11 j2), .int (co.2.1 12 j2), .int (co.2.1 13 j2), .int (co.2.1 14 j2), .int 1, .long (co.2.2.1 2 j2)])) := ⟨_, rfl⟩
            rw [← ef_1] at hP hD
            have hf_1_ad1co10j2 : f_1 (ad.1 (co.1 0 j2)) = .inr (1, [.int (co.2.1 0 (co.1 0 j2)), .long (co.2.2.1 0 (co.1 0 j2)), .long (co.2.2.1 1 (co.1 0 j2)), .int (co.2.1 1 (co.1 0 j2)), .int (co.2.1 2 (co.1 0 j2)), .ref (ad.2.1 (co.1 0 j2)), .int (co.2.1 3 (co.1 0 j2)), .int (co.2.1 4 (co.1 0 j2)), .int (co.2.1 5 (co.1 0 j2))]) := by rw [ef_1, va_up_ne _ _ (ct_ne hI2a hC1a (by simp))]; exact hI2a
            have hf_1_ad21co10j2 : f_1 (ad.2.1 (co.1 0 j2)) = .inl ((cA 0), 8, .inl (co.2.2.2 (co.1 0 j2))) := by rw [ef_1, va_up_ne _ _ (ct_ne hI2p hC1a (by simp))]; exact hI2p
            have hf_1_ad221j2 : f_1 (ad.2.2.1 j2) = .inr (0, [.int (nI (j2 + 1)), .int (co.2.1 6 j2), .ref (ad.1 (co.1 0 j2)), .int (co.2.1 7 j2), .int (co.2.1 8 j2), .int (co.2.1 9 j2), .int (co.2.1 10 j2), .int (co.2.1 11 j2), .int (co.2.1 12 j2), .int (co.2.1 13 j2), .int (co.2.1 14 j2), .int 1, .long (co.2.2.1 2 j2)]) := by rw [ef_1]; exact va_up_self _ _ _
            refine lv_iload_n hx hb dX3_back_53 rfl (lv_at hl 3 rfl) ?_
            refine lv_if_eq (tgt := 76) hx hb dX3_back_54 (by decide) (fun c54 => ?_) (fun c54 => ?_)
            · have c54 := bb_0.mp c54
              refine lv_iconst (v := 1) hx hb dX3_back_76 (by decide) ?_
              exact W.iret (v := 1) hx hb hr (fun t ht hW => ⟨⟨1, (σ, co_g co (up_2 co.2.1 15 j2 1)), rfl, (by simp only [kc_back, hm2, if_pos c17, if_pos c25, if_neg c35, if_pos c42, Option.elim, c54]; rfl), σ.2.2.2.2, n, L, f_1, ad, Nat.le_succ _, by rw [ef_1]; exact re_setC hR hj2 (bk_ag (hR.2.2.2.2.1.2.1 j2 hj2).2.2.2 _) (bk_ce _ _ _ _), by rw [ht]; exact hP, va_K.moved hW.alike hK, hD⟩, hS.F ht⟩) hS.2.2 dX3_back_77
            · have c54 := bb_n.mp c54
              refine lv_aload_n hx hb dX3_back_57 rfl (lv_at hl 1 rfl) ?_
              refine lv_dup hx hb dX3_back_58 rfl ?_
              refine va_get (D := (dC, dI)) (ci := 3) (v := .long (σ.2.1 1)) (C := RX3) (T := TX3) (N := 16) hx hb hts in2 hown hK hP 0 (xc_W_0 _ _) rfl 14 (by decide) lk5 (fun _ h9 => h9) rfl dX3_back_59 ?_
              refine lv_aload_n hx hb dX3_back_62 rfl (lv_at hl 0 rfl) ?_
              refine hp_get (D := (dC, dI)) (ci := 0) (v := .long (co.2.2.1 2 j2)) (C := RX0) (T := TX0) (N := 13) hx hb hts in0 hown hK hP hC1.2.1 hf_1_ad221j2 rfl 12 (by decide) lk6 (fun _ h9 => h9) rfl dX3_back_63 ?_
              refine lv_ladd hx hb dX3_back_66 ?_
              refine va_put (D := (dC, dI)) (ci := 3) (v := .long ((σ.2.1 1) + (co.2.2.1 2 j2))) (ty := .long) (C := RX3) (T := TX3) (N := 16) hx hb hts in2 tyX3 tyX3_ok nmX3 hown hK hP hD hS 0 (xc_W_0 _ _) rfl 14 (by decide) lk5 (fun _ h9 => h9) rfl (by decide +kernel) rfl rfl (Nat.le_of_ble_eq_true rfl) dX3_back_67 (fun H locs hP hD hS => ?_)
              have hP : va_P (dC, dI) vwCl (xc_W Q cA (xs_l σ 1 ((σ.2.1 1) + (co.2.2.1 2 j2))) ++ va_pl L f_1) H := hP
              have hD : va_D A (xc_W Q cA (xs_l σ 1 ((σ.2.1 1) + (co.2.2.1 2 j2))) ++ va_pl L f_1) := hD
              refine lv_aload_n hx hb dX3_back_70 rfl (lv_at hl 1 rfl) ?_
              refine lv_iload_n hx hb dX3_back_71 rfl (lv_at hl 2 rfl) ?_
              refine lv_iconst (v := 5) hx hb dX3_back_72 (by decide) ?_
              have hFc := ct_free hD hS hA
              refine va_callv (va_runV (As := [.int x1, .int 5]) (rest := []) ⟨hx, hb, hml, hown, hts⟩ (mt_send l dC dI cA H.size Q (xs_l σ 1 ((σ.2.1 1) + (co.2.2.1 2 j2))) L f_1 n.2.2.2 (show (xs_l σ 1 ((σ.2.1 1) + (co.2.2.1 2 j2))).1 3 = nI n.2.2.2 from hR.1.2.2.2.2.2.2) (by omega) x1 5) (cwV 2 hts (al_gV wd_141 wd_143 wd_142 wd_1 wd_144) rfl rfl rfl (by decide +kernel) ⟨Nat.le_of_ble_eq_true rfl, Nat.le_of_ble_eq_true rfl⟩) ⟨ct_blM, va_recv hK hP (ci := 3) (q0 := 0) rfl (xc_W_0 _ _), ct_atM hP hK hD⟩ rfl rfl hl.1 rfl (lv_room (Nat.le_of_ble_eq_true rfl)) dX3_back_73 ⟨Nat.le_of_ble_eq_true rfl, Nat.le_of_ble_eq_true rfl⟩) hS (fun q _ h => hFc q h) hFc (fun u73 t H1 locs ht hvm hr73 hB hz1 hk1 hS => ?_)
              obtain ⟨hP, -, hD1⟩ := hB
              rw [ht] at hP
              have hD := hD1.weaken (fun _ _ _ h => hFc _ h)
              clear hD1 hk1 hz1 hFc hvm
              generalize H1 = H at hP hS ht ⊢
              clear ht
              refine W.widen (k := 0) (n := 0) (by decide) (by decide) ?_
              subst hr73
              have hP : va_P (dC, dI) vwCl (xc_W Q cA (se_nd (xs_l σ 1 ((σ.2.1 1) + (co.2.2.1 2 j2))) x1 5) ++ va_pl L f_1) H := hP
              have hD : va_D A (xc_W Q cA (se_nd (xs_l σ 1 ((σ.2.1 1) + (co.2.2.1 2 j2))) x1 5) ++ va_pl L f_1) := hD
              refine lv_iconst (v := 1) hx hb dX3_back_76 (by decide) ?_
              exact W.iret (v := 1) hx hb hr (fun t ht hW => ⟨⟨1, ((se_nd (xs_l σ 1 ((σ.2.1 1) + (co.2.2.1 2 j2))) x1 5), co_g co (up_2 co.2.1 15 j2 1)), rfl, (by simp only [kc_back, hm2, if_pos c17, if_pos c25, if_neg c35, if_pos c42, Option.elim, c54]; rfl), ((se_nd (xs_l σ 1 ((σ.2.1 1) + (co.2.2.1 2 j2))) x1 5)).2.2.2.2, (n.1, n.2.1, n.2.2.1, n.2.2.2 + 1), L, f_1, ad, Nat.le_refl _, by rw [ef_1]; exact re_x (re_setC hR hj2 (bk_ag (hR.2.2.2.2.1.2.1 j2 hj2).2.2.2 _) (bk_ce _ _ _ _)) (n.2.2.2 + 1) (sn_0 _ _ _ 0 (by decide)) (sn_0 _ _ _ 1 (by decide)) (sn_0 _ _ _ 2 (by decide)) (sn_3 (σ := (xs_l σ 1 ((σ.2.1 1) + (co.2.2.1 2 j2)))) (show ((xs_l σ 1 ((σ.2.1 1) + (co.2.2.1 2 j2)))).1 3 = nI n.2.2.2 from hR.1.2.2.2.2.2.2) _ _) (sn_r _ _ _), by rw [ht]; exact hP, va_K.moved hW.alike hK, hD⟩, hS.F ht⟩) hS.2.2 dX3_back_77
          · refine lv_bipush (v := (-103)) hx hb dX3_back_45 (by decide) ?_
            exact W.iret (v := (-103)) hx hb hr (fun t ht hW => ⟨⟨(-103), (σ, co), rfl, (by simp only [kc_back, hm2, if_pos c17, if_pos c25, if_neg c35, if_neg c42, Option.elim, hn0, hn1, hn2]), σ.2.2.2.2, n, L, f, ad, Nat.le_succ _, hR, by rw [ht]; exact hP, va_K.moved hW.alike hK, hD⟩, hS.F ht⟩) hS.2.2 dX3_back_47
  · skip
    refine lv_astore_nN (lv' := [(3, .null), (0, .ref (Q 0)), (1, .int x1), (2, .int (bb_v b))]) hx hb dX3_back_5 rfl hl (by decide) rfl (fun ls hl => ?_)
    refine lv_aload_nN hx hb dX3_back_6 rfl (lv_at hl 0 rfl) ?_
    refine lv_ifnonnullN hx hb dX3_back_7 ?_
    refine lv_bipush (v := (-101)) hx hb dX3_back_10 (by decide) ?_
    exact W.iret (v := (-101)) hx hb hr (fun t ht hW => ⟨⟨(-101), (σ, co), rfl, (by simp only [kc_back, hm2, Option.elim, hn0, hn1, hn2]), σ.2.2.2.2, n, L, f, ad, Nat.le_succ _, hR, by rw [ht]; exact hP, va_K.moved hW.alike hK, hD⟩, hS.F ht⟩) hS.2.2 dX3_back_12
set_option maxHeartbeats 4000000 in
set_option maxRecDepth 100000 in
/-- mt_appeal -/
theorem mt_appeal (l : Launch) (dC : Nat → ClassId) (dI : Nat → Nat → Nat) (cA : Nat → ClassId) (sz : Nat) (Q : Nat → Nat) (σ : xs_T) (n : nn_T) (co : co_T) (L : List Nat) (f : Nat → va_E) (ad : ad_T) (hR : re_A cA σ n co L f ad) (hT : n.2.2.2 < 100000) (x1 : Int32) : Met l yX3_appeal wsX3_appeal ({ frames := 3, cells := 0, slots := 0, locals := 70 }) (va_Pc [.ref (Q 0), .int x1] (ct_M (dC, dI) vwCl (ty_K cA) (xc_W Q cA σ ++ va_pl L f) sz)) (va_Qi (fun r u => (r, u) = kc_appeal (σ, co) x1) (fun u t => ∃ (ra : Nat → Nat → Option Nat) (n' : nn_T) (L' : List Nat) (f' : Nat → va_E) (ad' : ad_T), n'.2.2.2 ≤ n.2.2.2 + 1 ∧ re_A cA (xs_r u.1 ra) n' u.2 L' f' ad' ∧ ct_B (dC, dI) vwCl (ty_K cA) (va_A (xc_W Q cA σ ++ va_pl L f) sz) (xc_W Q cA (xs_r u.1 ra) ++ va_pl L' f') t) (va_A (xc_W Q cA σ ++ va_pl L f) sz)) 0 0 (va_A (xc_W Q cA σ ++ va_pl L f) sz) := by
  refine Met.ofW (cc := cX3_appeal) (maxL := 3) (ret := (some .int)) (by decide) rfl ?_
  intro p e s m args below meth c s₁ B hml hv
  obtain ⟨rfl, hsz, hP, hK, hD0⟩ := hv
  have hx := B.exec
  have hb := B.bytes
  have hr := B.returns
  have hts := atoms_spec (ws := wsX3_appeal) B.pre
  have hown : s.vm.findClass RX3 = some m.cls := findClass_of_methodNamed B.named
  have hlocks := B.notSynchronized
  subst hsz
  have hD := hD0.self (sz := s.heap.size)
  generalize hAe : va_A (xc_W Q cA σ ++ va_pl L f) s.heap.size = A at hD ⊢
  have hA : ∀ q : Nat, s.heap.size ≤ q → A q := fun q h => by rw [← hAe]; exact Or.inr h
  clear hAe hD0
  have hS : va_S A s.heap s.heap [] := va_S.rf
  have hl := lv_entry ([.ref (Q 0), .int x1]) (n := 3) (Nat.le_of_ble_eq_true rfl)
  rw [lg_entry_eq]
  generalize (lg_sl ([.ref (Q 0), .int x1]) ++ List.replicate (3 - (lg_sl ([.ref (Q 0), .int x1])).length) Slot.unset).toArray = ls at hl ⊢
  have hl : lv_has ls 3 [(0, .ref (Q 0)), (1, .int x1)] := hl
  have lk0 := hts (.fieldLink RX3 120 "ClaimRows$Claim" "state" "I") (List.mem_cons_of_mem _ wd_129)
  have lk1 := hts (.fieldLink RX3 208 "ClaimRows$Claim" "appealed" "Z") (List.mem_cons_of_mem _ wd_138)
  have lk2 := hts (.fieldLink RX3 211 "ClaimRows$Claim" "itemNumber" "I") (List.mem_cons_of_mem _ wd_121)
  have lk3 := hts (.fieldLink RX3 134 "ClaimRows$Claim" "kind" "I") (List.mem_cons_of_mem _ wd_125)
  have in0 : ∀ w ∈ u_ws RX0 TX0 13, w ∈ wsX3_appeal := fun w h => List.mem_cons_of_mem _ (wu_X0 w h)
  have hn0 : (σ.1 0).toNatClampNeg = n.1 := by rw [hR.1.1]; exact nI_clamp (by have := hR.1.2.1; omega)
  have hn1 : (σ.1 1).toNatClampNeg = n.2.1 := by rw [hR.1.2.2.1]; exact nI_clamp (by have := hR.1.2.2.2.1; omega)
  have hn2 : (σ.1 2).toNatClampNeg = n.2.2.1 := by rw [hR.1.2.2.2.2.1]; exact nI_clamp (by have := hR.1.2.2.2.2.2.1; omega)
  refine lv_aload_n hx hb dX3_appeal_0 rfl (lv_at hl 0 rfl) ?_
  refine lv_iload_n hx hb dX3_appeal_1 rfl (lv_at hl 1 rfl) ?_
  refine va_csq (va_Run.run (va_runV (As := [.int x1]) (rest := []) ⟨hx, hb, hml, hown, hts⟩ (mt_claimNumbered l dC dI cA Q σ n co L f ad hR x1) (cwV 1 hts (al_gV wd_105 wd_107 wd_106 wd_1 wd_108) rfl rfl rfl (by decide +kernel) ⟨Nat.le_of_ble_eq_true rfl, Nat.le_of_ble_eq_true rfl⟩) ⟨ct_blR, va_recv hK hP (ci := 3) (q0 := 0) rfl (xc_W_0 _ _), ct_atR hP hK⟩ rfl rfl hl.1 rfl (lv_room (Nat.le_of_ble_eq_true rfl)) dX3_appeal_2 ⟨Nat.le_of_ble_eq_true rfl, Nat.le_of_ble_eq_true rfl⟩)) (fun r2 hr2 => ?_)
  rcases hr2 with ⟨j2, hj2, hm2, ex2, rfl⟩ | ⟨hm2, rfl⟩
  · have hC1 := hR.2.2.1 j2 hj2
    have hC1v := hR.2.2.2.2.1.2.1 j2 hj2
    have hC1a : f (ad.2.2.1 j2) = .inr (0, [.int (nI (j2 + 1)), .int (co.2.1 6 j2), .ref (ad.1 (co.1 0 j2)), .int (co.2.1 7 j2), .int (co.2.1 8 j2), .int (co.2.1 9 j2), .int (co.2.1 10 j2), .int (co.2.1 11 j2), .int (co.2.1 12 j2), .int (co.2.1 13 j2), .int (co.2.1 14 j2), .int (co.2.1 15 j2), .long (co.2.2.1 2 j2)]) := hC1.2.2
    have hI2 := hR.2.1 (co.1 0 j2) hC1v.1
    have hI2a : f (ad.1 (co.1 0 j2)) = .inr (1, [.int (co.2.1 0 (co.1 0 j2)), .long (co.2.2.1 0 (co.1 0 j2)), .long (co.2.2.1 1 (co.1 0 j2)), .int (co.2.1 1 (co.1 0 j2)), .int (co.2.1 2 (co.1 0 j2)), .ref (ad.2.1 (co.1 0 j2)), .int (co.2.1 3 (co.1 0 j2)), .int (co.2.1 4 (co.1 0 j2)), .int (co.2.1 5 (co.1 0 j2))]) := hI2.2.2.1
    have hI2p : f (ad.2.1 (co.1 0 j2)) = .inl ((cA 0), 8, .inl (co.2.2.2 (co.1 0 j2))) := hI2.2.2.2.2
    refine lv_astore_n (lv' := [(2, .ref (ad.2.2.1 j2)), (0, .ref (Q 0)), (1, .int x1)]) hx hb dX3_appeal_5 rfl hl (by decide) rfl (fun ls hl => ?_)
    refine lv_aload_n hx hb dX3_appeal_6 rfl (lv_at hl 0 rfl) ?_
    refine lv_ifnonnull (tgt := 13) hx hb dX3_appeal_7 (by decide) ?_
    refine lv_aload_n hx hb dX3_appeal_13 rfl (lv_at hl 0 rfl) ?_
    refine hp_get (D := (dC, dI)) (ci := 0) (v := .int (co.2.1 9 j2)) (C := RX0) (T := TX0) (N := 13) hx hb hts in0 hown hK hP hC1.2.1 hC1a rfl 5 (by decide) lk0 (fun _ h9 => h9) rfl dX3_appeal_14 ?_
    refine lv_iconst (v := 2) hx hb dX3_appeal_17 (by decide) ?_
    refine lv_icmp_ne (tgt := 43) hx hb dX3_appeal_18 (by decide) (fun c18 => ?_) (fun c18 => ?_)
    · refine lv_bipush (v := (-103)) hx hb dX3_appeal_43 (by decide) ?_
      exact W.iret (v := (-103)) hx hb hr (fun t ht hW => ⟨⟨(-103), (σ, co), rfl, (by simp only [kc_appeal, hm2, if_neg c18, Option.elim, hn0, hn1, hn2]), σ.2.2.2.2, n, L, f, ad, Nat.le_succ _, hR, by rw [ht]; exact hP, va_K.moved hW.alike hK, hD⟩, hS.F ht⟩) hS.2.2 dX3_appeal_45
    · refine lv_aload_n hx hb dX3_appeal_21 rfl (lv_at hl 0 rfl) ?_
      refine hp_get (D := (dC, dI)) (ci := 0) (v := .int (co.2.1 14 j2)) (C := RX0) (T := TX0) (N := 13) hx hb hts in0 hown hK hP hC1.2.1 hC1a rfl 10 (by decide) lk1 (fun _ h9 => h9) rfl dX3_appeal_22 ?_
      refine lv_if_ne (tgt := 43) hx hb dX3_appeal_25 (by decide) (fun c25 => ?_) (fun c25 => ?_)
      · refine lv_bipush (v := (-103)) hx hb dX3_appeal_43 (by decide) ?_
        exact W.iret (v := (-103)) hx hb hr (fun t ht hW => ⟨⟨(-103), (σ, co), rfl, (by simp only [kc_appeal, hm2, if_pos c18, if_neg c25, Option.elim, hn0, hn1, hn2]), σ.2.2.2.2, n, L, f, ad, Nat.le_succ _, hR, by rw [ht]; exact hP, va_K.moved hW.alike hK, hD⟩, hS.F ht⟩) hS.2.2 dX3_appeal_45
      · refine lv_aload_n hx hb dX3_appeal_28 rfl (lv_at hl 1 rfl) ?_
        refine lv_aload_n hx hb dX3_appeal_29 rfl (lv_at hl 0 rfl) ?_
        refine hp_get (D := (dC, dI)) (ci := 0) (v := .int (co.2.1 6 j2)) (C := RX0) (T := TX0) (N := 13) hx hb hts in0 hown hK hP hC1.2.1 hC1a rfl 1 (by decide) lk2 (fun _ h9 => h9) rfl dX3_appeal_30 ?_
        refine lv_aload_n hx hb dX3_appeal_33 rfl (lv_at hl 0 rfl) ?_
        refine hp_get (D := (dC, dI)) (ci := 0) (v := .int (co.2.1 7 j2)) (C := RX0) (T := TX0) (N := 13) hx hb hts in0 hown hK hP hC1.2.1 hC1a rfl 3 (by decide) lk3 (fun _ h9 => h9) rfl dX3_appeal_34 ?_
        refine va_csq (va_Run.run (va_runV (As := [.int (co.2.1 6 j2), .int (co.2.1 7 j2)]) (rest := []) ⟨hx, hb, hml, hown, hts⟩ (mt_standingClaim l dC dI cA Q σ n co L f ad hR (co.2.1 6 j2) (co.2.1 7 j2)) (cwV 2 hts (al_gV wd_101 wd_103 wd_102 wd_1 wd_104) rfl rfl rfl (by decide +kernel) ⟨Nat.le_of_ble_eq_true rfl, Nat.le_of_ble_eq_true rfl⟩) ⟨ct_blR, va_recv hK hP (ci := 3) (q0 := 0) rfl (xc_W_0 _ _), ct_atR hP hK⟩ rfl rfl hl.1 rfl (lv_room (Nat.le_of_ble_eq_true rfl)) dX3_appeal_37 ⟨Nat.le_of_ble_eq_true rfl, Nat.le_of_ble_eq_true rfl⟩)) (fun r37 hr37 => ?_)
        rcases hr37 with ⟨j37, hj37, hm37, rfl⟩ | ⟨hm37, rfl⟩
        · have hC3 := hR.2.2.1 j37 hj37
          have hC3v := hR.2.2.2.2.1.2.1 j37 hj37
          have hC3a : f (ad.2.2.1 j37) = .inr (0, [.int (nI (j37 + 1)), .int (co.2.1 6 j37), .ref (ad.1 (co.1 0 j37)), .int (co.2.1 7 j37), .int (co.2.1 8 j37), .int (co.2.1 9 j37), .int (co.2.1 10 j37), .int (co.2.1 11 j37), .int (co.2.1 12 j37), .int (co.2.1 13 j37), .int (co.2.1 14 j37), .int (co.2.1 15 j37), .long (co.2.2.1 2 j37)]) := hC3.2.2
          have hI4 := hR.2.1 (co.1 0 j37) hC3v.1
          have hI4a : f (ad.1 (co.1 0 j37)) = .inr (1, [.int (co.2.1 0 (co.1 0 j37)), .long (co.2.2.1 0 (co.1 0 j37)), .long (co.2.2.1 1 (co.1 0 j37)), .int (co.2.1 1 (co.1 0 j37)), .int (co.2.1 2 (co.1 0 j37)), .ref (ad.2.1 (co.1 0 j37)), .int (co.2.1 3 (co.1 0 j37)), .int (co.2.1 4 (co.1 0 j37)), .int (co.2.1 5 (co.1 0 j37))]) := hI4.2.2.1
          have hI4p : f (ad.2.1 (co.1 0 j37)) = .inl ((cA 0), 8, .inl (co.2.2.2 (co.1 0 j37))) := hI4.2.2.2.2
          refine lv_ifnull hx hb dX3_appeal_40 ?_
          refine lv_bipush (v := (-103)) hx hb dX3_appeal_43 (by decide) ?_
          exact W.iret (v := (-103)) hx hb hr (fun t ht hW => ⟨⟨(-103), (σ, co), rfl, (by simp only [kc_appeal, hm2, if_pos c18, if_pos c25, hm37, Option.elim, hn0, hn1, hn2]), σ.2.2.2.2, n, L, f, ad, Nat.le_succ _, hR, by rw [ht]; exact hP, va_K.moved hW.alike hK, hD⟩, hS.F ht⟩) hS.2.2 dX3_appeal_45
        · skip
          refine lv_ifnullN (tgt := 46) hx hb dX3_appeal_40 (by decide) ?_
          refine lv_aload_n hx hb dX3_appeal_46 rfl (lv_at hl 0 rfl) ?_
          have hFc := ct_free hD hS hA
          refine va_callv (va_runV (As := []) (rest := []) ⟨hx, hb, hml, hown, hts⟩ (mt_reopen l dC dI cA s.heap.size (xc_W Q cA σ) L f (ad.2.2.1 j2) hC1.2.1 (nI (j2 + 1)) (co.2.1 6 j2) (ad.1 (co.1 0 j2)) (co.2.1 7 j2) (co.2.1 8 j2) (co.2.1 9 j2) (co.2.1 10 j2) (co.2.1 11 j2) (co.2.1 12 j2) (co.2.1 13 j2) (co.2.1 14 j2) (co.2.1 15 j2) (co.2.2.1 2 j2) hC1a ) (cwV 0 hts (al_gV wd_247 wd_248 wd_249 wd_4 wd_250) rfl rfl rfl (by decide +kernel) ⟨Nat.le_of_ble_eq_true rfl, Nat.le_of_ble_eq_true rfl⟩) ⟨ct_blM, hp_recv hK hP (ci := 0) rfl hC1.2.1 hC1a, ct_atM hP hK hD⟩ rfl rfl hl.1 rfl (lv_room (Nat.le_of_ble_eq_true rfl)) dX3_appeal_47 ⟨Nat.le_of_ble_eq_true rfl, Nat.le_of_ble_eq_true rfl⟩) hS (fun q _ h => hFc q h) hFc (fun u47 t H1 locs ht hvm hr47 hB hz1 hk1 hS => ?_)
          obtain ⟨hP, -, hD1⟩ := hB
          rw [ht] at hP
          have hD := hD1.weaken (fun _ _ _ h => hFc _ h)
          clear hD1 hk1 hz1 hFc hvm
          generalize H1 = H at hP hS ht ⊢
          clear ht
          refine W.widen (k := 0) (n := 0) (by decide) (by decide) ?_
          subst hr47
          have hP : va_P (dC, dI) vwCl (xc_W Q cA σ ++ va_pl L (va_up f (ad.2.2.1 j2) (.inr (0, [.int (nI (j2 + 1)), .int (co.2.1 6 j2), .ref (ad.1 (co.1 0 j2)), .int (co.2.1 7 j2), .int (co.2.1 8 j2), .int 0, .int (co.2.1 10 j2), .int 0, .int (co.2.1 12 j2), .int 0, .int 1, .int (co.2.1 15 j2), .long (co.2.2.1 2 j2)])))) H := hP
          have hD : va_D A (xc_W Q cA σ ++ va_pl L (va_up f (ad.2.2.1 j2) (.inr (0, [.int (nI (j2 + 1)), .int (co.2.1 6 j2), .ref (ad.1 (co.1 0 j2)), .int (co.2.1 7 j2), .int (co.2.1 8 j2), .int 0, .int (co.2.1 10 j2), .int 0, .int (co.2.1 12 j2), .int 0, .int 1, .int (co.2.1 15 j2), .long (co.2.2.1 2 j2)])))) := hD
          obtain ⟨f_1, ef_1⟩ : ∃ y9, y9 = va_up f (ad.2.2.1 j2) (.inr (0, [.int (nI (j2 + 1)), .int (co.2.1 6 j2), .ref (ad.1 (co.1 0 j2)), .int (co.2.1 7 j2), .int (co.2.1 8 j2), .int 0, .int (co.2.1 10 j2), .int 0, .int (co.2.1 12 j2), .int 0, .int 1, .int (co.2.1 15 j2), .long (co.2.2.1 2 j2)])) := ⟨_, rfl⟩
          rw [← ef_1] at hP hD
          have hf_1_ad1co10j2 : f_1 (ad.1 (co.1 0 j2)) = .inr (1, [.int (co.2.1 0 (co.1 0 j2)), .long (co.2.2.1 0 (co.1 0 j2)), .long (co.2.2.1 1 (co.1 0 j2)), .int (co.2.1 1 (co.1 0 j2)), .int (co.2.1 2 (co.1 0 j2)), .ref (ad.2.1 (co.1 0 j2)), .int (co.2.1 3 (co.1 0 j2)), .int (co.2.1 4 (co.1 0 j2)), .int (co.2.1 5 (co.1 0 j2))]) := by rw [ef_1, va_up_ne _ _ (ct_ne hI2a hC1a (by simp))]; exact hI2a
          have hf_1_ad21co10j2 : f_1 (ad.2.1 (co.1 0 j2)) = .inl ((cA 0), 8, .inl (co.2.2.2 (co.1 0 j2))) := by rw [ef_1, va_up_ne _ _ (ct_ne hI2p hC1a (by simp))]; exact hI2p
          have hf_1_ad221j2 : f_1 (ad.2.2.1 j2) = .inr (0, [.int (nI (j2 + 1)), .int (co.2.1 6 j2), .ref (ad.1 (co.1 0 j2)), .int (co.2.1 7 j2), .int (co.2.1 8 j2), .int 0, .int (co.2.1 10 j2), .int 0, .int (co.2.1 12 j2), .int 0, .int 1, .int (co.2.1 15 j2), .long (co.2.2.1 2 j2)]) := by rw [ef_1]; exact va_up_self _ _ _
          refine lv_aload_n hx hb dX3_appeal_50 rfl (lv_at hl 1 rfl) ?_
          refine lv_iload_n hx hb dX3_appeal_51 rfl (lv_at hl 2 rfl) ?_
          refine lv_bipush (v := 6) hx hb dX3_appeal_52 (by decide) ?_
          have hFc := ct_free hD hS hA
          refine va_callv (va_runV (As := [.int x1, .int 6]) (rest := []) ⟨hx, hb, hml, hown, hts⟩ (mt_send l dC dI cA H.size Q σ L f_1 n.2.2.2 (show (σ).1 3 = nI n.2.2.2 from hR.1.2.2.2.2.2.2) (by omega) x1 6) (cwV 2 hts (al_gV wd_141 wd_143 wd_142 wd_1 wd_144) rfl rfl rfl (by decide +kernel) ⟨Nat.le_of_ble_eq_true rfl, Nat.le_of_ble_eq_true rfl⟩) ⟨ct_blM, va_recv hK hP (ci := 3) (q0 := 0) rfl (xc_W_0 _ _), ct_atM hP hK hD⟩ rfl rfl hl.1 rfl (lv_room (Nat.le_of_ble_eq_true rfl)) dX3_appeal_54 ⟨Nat.le_of_ble_eq_true rfl, Nat.le_of_ble_eq_true rfl⟩) hS (fun q _ h => hFc q h) hFc (fun u54 t H1 locs ht hvm hr54 hB hz1 hk1 hS => ?_)
          obtain ⟨hP, -, hD1⟩ := hB
          rw [ht] at hP
          have hD := hD1.weaken (fun _ _ _ h => hFc _ h)
          clear hD1 hk1 hz1 hFc hvm
          generalize H1 = H at hP hS ht ⊢
          clear ht
          refine W.widen (k := 0) (n := 0) (by decide) (by decide) ?_
          subst hr54
          have hP : va_P (dC, dI) vwCl (xc_W Q cA (se_nd σ x1 6) ++ va_pl L f_1) H := hP
          have hD : va_D A (xc_W Q cA (se_nd σ x1 6) ++ va_pl L f_1) := hD
          refine lv_iconst (v := 1) hx hb dX3_appeal_57 (by decide) ?_
          exact W.iret (v := 1) hx hb hr (fun t ht hW => ⟨⟨1, (se_nd σ x1 6, ap_co co j2), rfl, (by simp only [kc_appeal, hm2, if_pos c18, if_pos c25, hm37, Option.elim, hn1]), (se_nd σ x1 6).2.2.2.2, (n.1, n.2.1, n.2.2.1, n.2.2.2 + 1), L, f_1, ad, Nat.le_refl _, by rw [ef_1]; exact re_x (re_setC hR hj2 (ap_ag (hR.2.2.2.2.1.2.1 j2 hj2).2.2.2) (ap_ce _ _ _)) (n.2.2.2 + 1) (sn_0 _ _ _ 0 (by decide)) (sn_0 _ _ _ 1 (by decide)) (sn_0 _ _ _ 2 (by decide)) (sn_3 (σ := σ) (show (σ).1 3 = nI n.2.2.2 from hR.1.2.2.2.2.2.2) _ _) (sn_r _ _ _), by rw [ht]; exact hP, va_K.moved hW.alike hK, hD⟩, hS.F ht⟩) hS.2.2 dX3_appeal_58
  · skip
    refine lv_astore_nN (lv' := [(2, .null), (0, .ref (Q 0)), (1, .int x1)]) hx hb dX3_appeal_5 rfl hl (by decide) rfl (fun ls hl => ?_)
    refine lv_aload_nN hx hb dX3_appeal_6 rfl (lv_at hl 0 rfl) ?_
    refine lv_ifnonnullN hx hb dX3_appeal_7 ?_
    refine lv_bipush (v := (-101)) hx hb dX3_appeal_10 (by decide) ?_
    exact W.iret (v := (-101)) hx hb hr (fun t ht hW => ⟨⟨(-101), (σ, co), rfl, (by simp only [kc_appeal, hm2, Option.elim, hn0, hn1, hn2]), σ.2.2.2.2, n, L, f, ad, Nat.le_succ _, hR, by rw [ht]; exact hP, va_K.moved hW.alike hK, hD⟩, hS.F ht⟩) hS.2.2 dX3_appeal_12
end
section
theorem sw_out_0_5 {x : Int32} (h : ¬ (x = 0 ∨ x = 1 ∨ x = 2 ∨ x = 3 ∨ x = 4 ∨ x = 5)) : x.toInt < 0 ∨ 5 < x.toInt := by
  by_cases q : x.toInt < 0
  · exact Or.inl q
  · by_cases r : 5 < x.toInt
    · exact Or.inr r
    · exfalso
      apply h
      have e : x.toInt = 0 ∨ x.toInt = 1 ∨ x.toInt = 2 ∨ x.toInt = 3 ∨ x.toInt = 4 ∨ x.toInt = 5 := by omega
      rcases e with e | e | e | e | e | e
      · exact (Or.inl (Int32.toInt_inj.mp (e.trans (by decide))))
      · exact (Or.inr (Or.inl (Int32.toInt_inj.mp (e.trans (by decide)))))
      · exact (Or.inr (Or.inr (Or.inl (Int32.toInt_inj.mp (e.trans (by decide))))))
      · exact (Or.inr (Or.inr (Or.inr (Or.inl (Int32.toInt_inj.mp (e.trans (by decide)))))))
      · exact (Or.inr (Or.inr (Or.inr (Or.inr (Or.inl (Int32.toInt_inj.mp (e.trans (by decide))))))))
      · exact (Or.inr (Or.inr (Or.inr (Or.inr (Or.inr (Int32.toInt_inj.mp (e.trans (by decide))))))))
theorem sw_out_0_3 {x : Int32} (h : ¬ (x = 0 ∨ x = 1 ∨ x = 2 ∨ x = 3)) : x.toInt < 0 ∨ 3 < x.toInt := by
  by_cases q : x.toInt < 0
  · exact Or.inl q
  · by_cases r : 3 < x.toInt
    · exact Or.inr r
    · exfalso
      apply h
      have e : x.toInt = 0 ∨ x.toInt = 1 ∨ x.toInt = 2 ∨ x.toInt = 3 := by omega
      rcases e with e | e | e | e
      · exact (Or.inl (Int32.toInt_inj.mp (e.trans (by decide))))
      · exact (Or.inr (Or.inl (Int32.toInt_inj.mp (e.trans (by decide)))))
      · exact (Or.inr (Or.inr (Or.inl (Int32.toInt_inj.mp (e.trans (by decide))))))
      · exact (Or.inr (Or.inr (Or.inr (Int32.toInt_inj.mp (e.trans (by decide))))))
theorem sw_out_0_18 {x : Int32} (h : ¬ (x = 0 ∨ x = 1 ∨ x = 2 ∨ x = 3 ∨ x = 4 ∨ x = 5 ∨ x = 6 ∨ x = 7 ∨ x = 8 ∨ x = 9 ∨ x = 10 ∨ x = 11 ∨ x = 12 ∨ x = 13 ∨ x = 14 ∨ x = 15 ∨ x = 16 ∨ x = 17 ∨ x = 18)) : x.toInt < 0 ∨ 18 < x.toInt := by
  by_cases q : x.toInt < 0
  · exact Or.inl q
  · by_cases r : 18 < x.toInt
    · exact Or.inr r
    · exfalso
      apply h
      have e : x.toInt = 0 ∨ x.toInt = 1 ∨ x.toInt = 2 ∨ x.toInt = 3 ∨ x.toInt = 4 ∨ x.toInt = 5 ∨ x.toInt = 6 ∨ x.toInt = 7 ∨ x.toInt = 8 ∨ x.toInt = 9 ∨ x.toInt = 10 ∨ x.toInt = 11 ∨ x.toInt = 12 ∨ x.toInt = 13 ∨ x.toInt = 14 ∨ x.toInt = 15 ∨ x.toInt = 16 ∨ x.toInt = 17 ∨ x.toInt = 18 := by omega
      rcases e with e | e | e | e | e | e | e | e | e | e | e | e | e | e | e | e | e | e | e
      · exact (Or.inl (Int32.toInt_inj.mp (e.trans (by decide))))
      · exact (Or.inr (Or.inl (Int32.toInt_inj.mp (e.trans (by decide)))))
      · exact (Or.inr (Or.inr (Or.inl (Int32.toInt_inj.mp (e.trans (by decide))))))
      · exact (Or.inr (Or.inr (Or.inr (Or.inl (Int32.toInt_inj.mp (e.trans (by decide)))))))
      · exact (Or.inr (Or.inr (Or.inr (Or.inr (Or.inl (Int32.toInt_inj.mp (e.trans (by decide))))))))
      · exact (Or.inr (Or.inr (Or.inr (Or.inr (Or.inr (Or.inl (Int32.toInt_inj.mp (e.trans (by decide)))))))))
      · exact (Or.inr (Or.inr (Or.inr (Or.inr (Or.inr (Or.inr (Or.inl (Int32.toInt_inj.mp (e.trans (by decide))))))))))
      · exact (Or.inr (Or.inr (Or.inr (Or.inr (Or.inr (Or.inr (Or.inr (Or.inl (Int32.toInt_inj.mp (e.trans (by decide)))))))))))
      · exact (Or.inr (Or.inr (Or.inr (Or.inr (Or.inr (Or.inr (Or.inr (Or.inr (Or.inl (Int32.toInt_inj.mp (e.trans (by decide))))))))))))
      · exact (Or.inr (Or.inr (Or.inr (Or.inr (Or.inr (Or.inr (Or.inr (Or.inr (Or.inr (Or.inl (Int32.toInt_inj.mp (e.trans (by decide)))))))))))))
      · exact (Or.inr (Or.inr (Or.inr (Or.inr (Or.inr (Or.inr (Or.inr (Or.inr (Or.inr (Or.inr (Or.inl (Int32.toInt_inj.mp (e.trans (by decide))))))))))))))
      · exact (Or.inr (Or.inr (Or.inr (Or.inr (Or.inr (Or.inr (Or.inr (Or.inr (Or.inr (Or.inr (Or.inr (Or.inl (Int32.toInt_inj.mp (e.trans (by decide)))))))))))))))
      · exact (Or.inr (Or.inr (Or.inr (Or.inr (Or.inr (Or.inr (Or.inr (Or.inr (Or.inr (Or.inr (Or.inr (Or.inr (Or.inl (Int32.toInt_inj.mp (e.trans (by decide))))))))))))))))
      · exact (Or.inr (Or.inr (Or.inr (Or.inr (Or.inr (Or.inr (Or.inr (Or.inr (Or.inr (Or.inr (Or.inr (Or.inr (Or.inr (Or.inl (Int32.toInt_inj.mp (e.trans (by decide)))))))))))))))))
      · exact (Or.inr (Or.inr (Or.inr (Or.inr (Or.inr (Or.inr (Or.inr (Or.inr (Or.inr (Or.inr (Or.inr (Or.inr (Or.inr (Or.inr (Or.inl (Int32.toInt_inj.mp (e.trans (by decide))))))))))))))))))
      · exact (Or.inr (Or.inr (Or.inr (Or.inr (Or.inr (Or.inr (Or.inr (Or.inr (Or.inr (Or.inr (Or.inr (Or.inr (Or.inr (Or.inr (Or.inr (Or.inl (Int32.toInt_inj.mp (e.trans (by decide)))))))))))))))))))
      · exact (Or.inr (Or.inr (Or.inr (Or.inr (Or.inr (Or.inr (Or.inr (Or.inr (Or.inr (Or.inr (Or.inr (Or.inr (Or.inr (Or.inr (Or.inr (Or.inr (Or.inl (Int32.toInt_inj.mp (e.trans (by decide))))))))))))))))))))
      · exact (Or.inr (Or.inr (Or.inr (Or.inr (Or.inr (Or.inr (Or.inr (Or.inr (Or.inr (Or.inr (Or.inr (Or.inr (Or.inr (Or.inr (Or.inr (Or.inr (Or.inr (Or.inl (Int32.toInt_inj.mp (e.trans (by decide)))))))))))))))))))))
      · exact (Or.inr (Or.inr (Or.inr (Or.inr (Or.inr (Or.inr (Or.inr (Or.inr (Or.inr (Or.inr (Or.inr (Or.inr (Or.inr (Or.inr (Or.inr (Or.inr (Or.inr (Or.inr (Int32.toInt_inj.mp (e.trans (by decide)))))))))))))))))))))
end
section
set_option maxHeartbeats 4000000 in
set_option maxRecDepth 100000 in
/-- mt_sum -/
theorem mt_sum (l : Launch) (dC : Nat → ClassId) (dI : Nat → Nat → Nat) (cA : Nat → ClassId) (Q : Nat → Nat) (σ : xs_T) (n : nn_T) (co : co_T) (L : List Nat) (f : Nat → va_E) (ad : ad_T) (hR : re_A cA σ n co L f ad) (hT : n.2.2.2 < 100000) (x1 : Int32) : Met l yX3_sum wsX3_sum ({ frames := 2, cells := 0, slots := 0, locals := 47 }) (va_Pc [.ref (Q 0), .int x1] (ct_R (dC, dI) vwCl (ty_K cA) (xc_W Q cA σ ++ va_pl L f))) (vp_Sl (fun r => r = kc_sum (σ, co) x1)) 0 0 (fun _ => False) := by
  refine Met.ofW (cc := cX3_sum) (maxL := 3) (ret := (some .long)) (by decide) rfl ?_
  intro p e s m args below meth c s₁ B hml hv
  obtain ⟨rfl, hP, hK⟩ := hv
  have hx := B.exec
  have hb := B.bytes
  have hr := B.returns
  have hts := atoms_spec (ws := wsX3_sum) B.pre
  have hown : s.vm.findClass RX3 = some m.cls := findClass_of_methodNamed B.named
  have hlocks := B.notSynchronized
  have hl := lv_entry ([.ref (Q 0), .int x1]) (n := 3) (Nat.le_of_ble_eq_true rfl)
  rw [lg_entry_eq]
  generalize (lg_sl ([.ref (Q 0), .int x1]) ++ List.replicate (3 - (lg_sl ([.ref (Q 0), .int x1])).length) Slot.unset).toArray = ls at hl ⊢
  have hl : lv_has ls 3 [(0, .ref (Q 0)), (1, .int x1)] := hl
  have lk0 := hts (.fieldLink RX3 120 "ClaimRows$Claim" "state" "I") (List.mem_cons_of_mem _ wd_129)
  have lk1 := hts (.fieldLink RX3 163 "ClaimRows$Claim" "paidSum" "J") (List.mem_cons_of_mem _ wd_140)
  have lk2 := hts (.constantLong RX3 161 (-101)) (List.mem_cons_of_mem _ wd_197)
  have in0 : ∀ w ∈ u_ws RX0 TX0 13, w ∈ wsX3_sum := fun w h => List.mem_cons_of_mem _ (wu_X0 w h)
  have hn0 : (σ.1 0).toNatClampNeg = n.1 := by rw [hR.1.1]; exact nI_clamp (by have := hR.1.2.1; omega)
  have hn1 : (σ.1 1).toNatClampNeg = n.2.1 := by rw [hR.1.2.2.1]; exact nI_clamp (by have := hR.1.2.2.2.1; omega)
  have hn2 : (σ.1 2).toNatClampNeg = n.2.2.1 := by rw [hR.1.2.2.2.2.1]; exact nI_clamp (by have := hR.1.2.2.2.2.2.1; omega)
  refine lv_aload_n hx hb dX3_sum_0 rfl (lv_at hl 0 rfl) ?_
  refine lv_iload_n hx hb dX3_sum_1 rfl (lv_at hl 1 rfl) ?_
  refine va_csq (va_Run.run (va_runV (As := [.int x1]) (rest := []) ⟨hx, hb, hml, hown, hts⟩ (mt_claimNumbered l dC dI cA Q σ n co L f ad hR x1) (cwV 1 hts (al_gV wd_105 wd_107 wd_106 wd_1 wd_108) rfl rfl rfl (by decide +kernel) ⟨Nat.le_of_ble_eq_true rfl, Nat.le_of_ble_eq_true rfl⟩) ⟨ct_blR, va_recv hK hP (ci := 3) (q0 := 0) rfl (xc_W_0 _ _), ct_atR hP hK⟩ rfl rfl hl.1 rfl (lv_room (Nat.le_of_ble_eq_true rfl)) dX3_sum_2 ⟨Nat.le_of_ble_eq_true rfl, Nat.le_of_ble_eq_true rfl⟩)) (fun r2 hr2 => ?_)
  rcases hr2 with ⟨j2, hj2, hm2, ex2, rfl⟩ | ⟨hm2, rfl⟩
  · have hC1 := hR.2.2.1 j2 hj2
    have hC1v := hR.2.2.2.2.1.2.1 j2 hj2
    have hC1a : f (ad.2.2.1 j2) = .inr (0, [.int (nI (j2 + 1)), .int (co.2.1 6 j2), .ref (ad.1 (co.1 0 j2)), .int (co.2.1 7 j2), .int (co.2.1 8 j2), .int (co.2.1 9 j2), .int (co.2.1 10 j2), .int (co.2.1 11 j2), .int (co.2.1 12 j2), .int (co.2.1 13 j2), .int (co.2.1 14 j2), .int (co.2.1 15 j2), .long (co.2.2.1 2 j2)]) := hC1.2.2
    have hI2 := hR.2.1 (co.1 0 j2) hC1v.1
    have hI2a : f (ad.1 (co.1 0 j2)) = .inr (1, [.int (co.2.1 0 (co.1 0 j2)), .long (co.2.2.1 0 (co.1 0 j2)), .long (co.2.2.1 1 (co.1 0 j2)), .int (co.2.1 1 (co.1 0 j2)), .int (co.2.1 2 (co.1 0 j2)), .ref (ad.2.1 (co.1 0 j2)), .int (co.2.1 3 (co.1 0 j2)), .int (co.2.1 4 (co.1 0 j2)), .int (co.2.1 5 (co.1 0 j2))]) := hI2.2.2.1
    have hI2p : f (ad.2.1 (co.1 0 j2)) = .inl ((cA 0), 8, .inl (co.2.2.2 (co.1 0 j2))) := hI2.2.2.2.2
    refine lv_astore_n (lv' := [(2, .ref (ad.2.2.1 j2)), (0, .ref (Q 0)), (1, .int x1)]) hx hb dX3_sum_5 rfl hl (by decide) rfl (fun ls hl => ?_)
    refine lv_aload_n hx hb dX3_sum_6 rfl (lv_at hl 0 rfl) ?_
    refine lv_ifnonnull (tgt := 14) hx hb dX3_sum_7 (by decide) ?_
    refine lv_aload_n hx hb dX3_sum_14 rfl (lv_at hl 0 rfl) ?_
    refine hp_get (D := (dC, dI)) (ci := 0) (v := .int (co.2.1 9 j2)) (C := RX0) (T := TX0) (N := 13) hx hb hts in0 hown hK hP hC1.2.1 hC1a rfl 5 (by decide) lk0 (fun _ h9 => h9) rfl dX3_sum_15 ?_
    refine lv_iconst (v := 1) hx hb dX3_sum_18 (by decide) ?_
    refine lv_icmp_ne (tgt := 29) hx hb dX3_sum_19 (by decide) (fun c19 => ?_) (fun c19 => ?_)
    · refine lv_aload_n hx hb dX3_sum_29 rfl (lv_at hl 1 rfl) ?_
      refine lv_aload_n hx hb dX3_sum_30 rfl (lv_at hl 0 rfl) ?_
      refine vp_callSl (va_Run.run (va_runV (As := [.ref (ad.2.2.1 j2)]) (rest := []) ⟨hx, hb, hml, hown, hts⟩ (mt_sumByTable l dC dI cA Q σ n co L f ad hR j2 hj2) (cwV 1 hts (al_gV wd_198 wd_200 wd_199 wd_1 wd_201) rfl rfl rfl (by decide +kernel) ⟨Nat.le_of_ble_eq_true rfl, Nat.le_of_ble_eq_true rfl⟩) ⟨ct_blR, va_recv hK hP (ci := 3) (q0 := 0) rfl (xc_W_0 _ _), ct_atR hP hK⟩ rfl rfl hl.1 rfl (lv_room (Nat.le_of_ble_eq_true rfl)) dX3_sum_31 ⟨Nat.le_of_ble_eq_true rfl, Nat.le_of_ble_eq_true rfl⟩)) (fun r31 hr31 => ?_)
      subst hr31
      exact W.lret (v := (su_m σ co j2)) hx hb hr (fun t ht hW => ⟨(su_m σ co j2), rfl, (by simp only [kc_sum, hm2, if_neg c19, Option.elim, hn1]), ht⟩) (fun q h => by cases h) dX3_sum_34
    · refine lv_aload_n hx hb dX3_sum_22 rfl (lv_at hl 0 rfl) ?_
      refine hp_get (D := (dC, dI)) (ci := 0) (v := .long (co.2.2.1 2 j2)) (C := RX0) (T := TX0) (N := 13) hx hb hts in0 hown hK hP hC1.2.1 hC1a rfl 12 (by decide) lk1 (fun _ h9 => h9) rfl dX3_sum_23 ?_
      refine lv_goto (tgt := 34) hx hb dX3_sum_26 (by decide) ?_
      exact W.lret (v := (co.2.2.1 2 j2)) hx hb hr (fun t ht hW => ⟨(co.2.2.1 2 j2), rfl, (by simp only [kc_sum, hm2, if_pos c19, Option.elim, hn1]), ht⟩) (fun q h => by cases h) dX3_sum_34
  · skip
    refine lv_astore_nN (lv' := [(2, .null), (0, .ref (Q 0)), (1, .int x1)]) hx hb dX3_sum_5 rfl hl (by decide) rfl (fun ls hl => ?_)
    refine lv_aload_nN hx hb dX3_sum_6 rfl (lv_at hl 0 rfl) ?_
    refine lv_ifnonnullN hx hb dX3_sum_7 ?_
    refine lv_ldc2 hx hb hown lk2 dX3_sum_10 ?_
    exact W.lret (v := (-101)) hx hb hr (fun t ht hW => ⟨(-101), rfl, (by simp only [kc_sum, hm2, Option.elim, hn1]), ht⟩) (fun q h => by cases h) dX3_sum_13
set_option maxHeartbeats 4000000 in
set_option maxRecDepth 100000 in
/-- mt_paid -/
theorem mt_paid (l : Launch) (dC : Nat → ClassId) (dI : Nat → Nat → Nat) (cA : Nat → ClassId) (Q : Nat → Nat) (σ : xs_T) (n : nn_T) (co : co_T) (L : List Nat) (f : Nat → va_E) (ad : ad_T) (hR : re_A cA σ n co L f ad) (hT : n.2.2.2 < 100000) (x1 x2 : Int32) : Met l yX3_paid wsX3_paid ({ frames := 3, cells := 0, slots := 0, locals := 70 }) (va_Pc [.ref (Q 0), .int x1, .int x2] (ct_R (dC, dI) vwCl (ty_K cA) (xc_W Q cA σ ++ va_pl L f))) (vp_Si (fun r => r = bb_v (kc_paid (σ, co) x1 x2))) 0 0 (fun _ => False) := by
  refine Met.ofW (cc := cX3_paid) (maxL := 4) (ret := (some .boolean)) (by decide) rfl ?_
  intro p e s m args below meth c s₁ B hml hv
  obtain ⟨rfl, hP, hK⟩ := hv
  have hx := B.exec
  have hb := B.bytes
  have hr := B.returns
  have hts := atoms_spec (ws := wsX3_paid) B.pre
  have hown : s.vm.findClass RX3 = some m.cls := findClass_of_methodNamed B.named
  have hlocks := B.notSynchronized
  have hl := lv_entry ([.ref (Q 0), .int x1, .int x2]) (n := 4) (Nat.le_of_ble_eq_true rfl)
  rw [lg_entry_eq]
  generalize (lg_sl ([.ref (Q 0), .int x1, .int x2]) ++ List.replicate (4 - (lg_sl ([.ref (Q 0), .int x1, .int x2])).length) Slot.unset).toArray = ls at hl ⊢
  have hl : lv_has ls 4 [(0, .ref (Q 0)), (1, .int x1), (2, .int x2)] := hl
  have lk0 := hts (.fieldLink RX3 120 "ClaimRows$Claim" "state" "I") (List.mem_cons_of_mem _ wd_129)
  have in0 : ∀ w ∈ u_ws RX0 TX0 13, w ∈ wsX3_paid := fun w h => List.mem_cons_of_mem _ (wu_X0 w h)
  have hn0 : (σ.1 0).toNatClampNeg = n.1 := by rw [hR.1.1]; exact nI_clamp (by have := hR.1.2.1; omega)
  have hn1 : (σ.1 1).toNatClampNeg = n.2.1 := by rw [hR.1.2.2.1]; exact nI_clamp (by have := hR.1.2.2.2.1; omega)
  have hn2 : (σ.1 2).toNatClampNeg = n.2.2.1 := by rw [hR.1.2.2.2.2.1]; exact nI_clamp (by have := hR.1.2.2.2.2.2.1; omega)
  refine lv_aload_n hx hb dX3_paid_0 rfl (lv_at hl 0 rfl) ?_
  refine lv_iload_n hx hb dX3_paid_1 rfl (lv_at hl 1 rfl) ?_
  refine lv_iload_n hx hb dX3_paid_2 rfl (lv_at hl 2 rfl) ?_
  refine va_csq (va_Run.run (va_runV (As := [.int x1, .int x2]) (rest := []) ⟨hx, hb, hml, hown, hts⟩ (mt_standingClaim l dC dI cA Q σ n co L f ad hR x1 x2) (cwV 2 hts (al_gV wd_101 wd_103 wd_102 wd_1 wd_104) rfl rfl rfl (by decide +kernel) ⟨Nat.le_of_ble_eq_true rfl, Nat.le_of_ble_eq_true rfl⟩) ⟨ct_blR, va_recv hK hP (ci := 3) (q0 := 0) rfl (xc_W_0 _ _), ct_atR hP hK⟩ rfl rfl hl.1 rfl (lv_room (Nat.le_of_ble_eq_true rfl)) dX3_paid_3 ⟨Nat.le_of_ble_eq_true rfl, Nat.le_of_ble_eq_true rfl⟩)) (fun r3 hr3 => ?_)
  rcases hr3 with ⟨j3, hj3, hm3, rfl⟩ | ⟨hm3, rfl⟩
  · have hC1 := hR.2.2.1 j3 hj3
    have hC1v := hR.2.2.2.2.1.2.1 j3 hj3
    have hC1a : f (ad.2.2.1 j3) = .inr (0, [.int (nI (j3 + 1)), .int (co.2.1 6 j3), .ref (ad.1 (co.1 0 j3)), .int (co.2.1 7 j3), .int (co.2.1 8 j3), .int (co.2.1 9 j3), .int (co.2.1 10 j3), .int (co.2.1 11 j3), .int (co.2.1 12 j3), .int (co.2.1 13 j3), .int (co.2.1 14 j3), .int (co.2.1 15 j3), .long (co.2.2.1 2 j3)]) := hC1.2.2
    have hI2 := hR.2.1 (co.1 0 j3) hC1v.1
    have hI2a : f (ad.1 (co.1 0 j3)) = .inr (1, [.int (co.2.1 0 (co.1 0 j3)), .long (co.2.2.1 0 (co.1 0 j3)), .long (co.2.2.1 1 (co.1 0 j3)), .int (co.2.1 1 (co.1 0 j3)), .int (co.2.1 2 (co.1 0 j3)), .ref (ad.2.1 (co.1 0 j3)), .int (co.2.1 3 (co.1 0 j3)), .int (co.2.1 4 (co.1 0 j3)), .int (co.2.1 5 (co.1 0 j3))]) := hI2.2.2.1
    have hI2p : f (ad.2.1 (co.1 0 j3)) = .inl ((cA 0), 8, .inl (co.2.2.2 (co.1 0 j3))) := hI2.2.2.2.2
    refine lv_astore_n (lv' := [(3, .ref (ad.2.2.1 j3)), (0, .ref (Q 0)), (1, .int x1), (2, .int x2)]) hx hb dX3_paid_6 rfl hl (by decide) rfl (fun ls hl => ?_)
    refine lv_aload_n hx hb dX3_paid_7 rfl (lv_at hl 0 rfl) ?_
    refine lv_ifnull hx hb dX3_paid_8 ?_
    refine lv_aload_n hx hb dX3_paid_11 rfl (lv_at hl 0 rfl) ?_
    refine hp_get (D := (dC, dI)) (ci := 0) (v := .int (co.2.1 9 j3)) (C := RX0) (T := TX0) (N := 13) hx hb hts in0 hown hK hP hC1.2.1 hC1a rfl 5 (by decide) lk0 (fun _ h9 => h9) rfl dX3_paid_12 ?_
    refine lv_iconst (v := 1) hx hb dX3_paid_15 (by decide) ?_
    refine lv_icmp_ne (tgt := 23) hx hb dX3_paid_16 (by decide) (fun c16 => ?_) (fun c16 => ?_)
    · refine lv_iconst (v := 0) hx hb dX3_paid_23 (by decide) ?_
      exact W.zret (v := 0) hx hb hr (by decide) (fun t ht hW => ⟨0, rfl, (by simp only [kc_paid, hn1, hm3, Option.elim, decide_eq_false c16]; rfl), ht⟩) (fun q h => by cases h) dX3_paid_24
    · refine lv_iconst (v := 1) hx hb dX3_paid_19 (by decide) ?_
      refine lv_goto (tgt := 24) hx hb dX3_paid_20 (by decide) ?_
      exact W.zret (v := 1) hx hb hr (by decide) (fun t ht hW => ⟨1, rfl, (by simp only [kc_paid, hn1, hm3, Option.elim, c16]; rfl), ht⟩) (fun q h => by cases h) dX3_paid_24
  · skip
    refine lv_astore_nN (lv' := [(3, .null), (0, .ref (Q 0)), (1, .int x1), (2, .int x2)]) hx hb dX3_paid_6 rfl hl (by decide) rfl (fun ls hl => ?_)
    refine lv_aload_nN hx hb dX3_paid_7 rfl (lv_at hl 0 rfl) ?_
    refine lv_ifnullN (tgt := 23) hx hb dX3_paid_8 (by decide) ?_
    refine lv_iconst (v := 0) hx hb dX3_paid_23 (by decide) ?_
    exact W.zret (v := 0) hx hb hr (by decide) (fun t ht hW => ⟨0, rfl, (by simp only [kc_paid, hn1, hm3, Option.elim]; rfl), ht⟩) (fun q h => by cases h) dX3_paid_24
set_option maxHeartbeats 4000000 in
set_option maxRecDepth 100000 in
/-- mt_about -/
theorem mt_about (l : Launch) (dC : Nat → ClassId) (dI : Nat → Nat → Nat) (cA : Nat → ClassId) (Q : Nat → Nat) (σ : xs_T) (n : nn_T) (co : co_T) (L : List Nat) (f : Nat → va_E) (ad : ad_T) (hR : re_A cA σ n co L f ad) (hT : n.2.2.2 < 100000) (x1 x2 : Int32) : Met l yX3_about wsX3_about ({ frames := 2, cells := 0, slots := 0, locals := 46 }) (va_Pc [.ref (Q 0), .int x1, .int x2] (ct_R (dC, dI) vwCl (ty_K cA) (xc_W Q cA σ ++ va_pl L f))) (vp_Si (fun r => r = kc_about (σ, co) x1 x2)) 0 0 (fun _ => False) := by
  refine Met.ofW (cc := cX3_about) (maxL := 4) (ret := (some .int)) (by decide) rfl ?_
  intro p e s m args below meth c s₁ B hml hv
  obtain ⟨rfl, hP, hK⟩ := hv
  have hx := B.exec
  have hb := B.bytes
  have hr := B.returns
  have hts := atoms_spec (ws := wsX3_about) B.pre
  have hown : s.vm.findClass RX3 = some m.cls := findClass_of_methodNamed B.named
  have hlocks := B.notSynchronized
  have hl := lv_entry ([.ref (Q 0), .int x1, .int x2]) (n := 4) (Nat.le_of_ble_eq_true rfl)
  rw [lg_entry_eq]
  generalize (lg_sl ([.ref (Q 0), .int x1, .int x2]) ++ List.replicate (4 - (lg_sl ([.ref (Q 0), .int x1, .int x2])).length) Slot.unset).toArray = ls at hl ⊢
  have hl : lv_has ls 4 [(0, .ref (Q 0)), (1, .int x1), (2, .int x2)] := hl
  have lk0 := hts (.fieldLink RX3 120 "ClaimRows$Claim" "state" "I") (List.mem_cons_of_mem _ wd_129)
  have lk1 := hts (.fieldLink RX3 211 "ClaimRows$Claim" "itemNumber" "I") (List.mem_cons_of_mem _ wd_121)
  have lk2 := hts (.fieldLink RX3 134 "ClaimRows$Claim" "kind" "I") (List.mem_cons_of_mem _ wd_125)
  have lk3 := hts (.fieldLink RX3 123 "ClaimRows$Claim" "lacking" "I") (List.mem_cons_of_mem _ wd_131)
  have lk4 := hts (.fieldLink RX3 217 "ClaimRows$Claim" "unanswered" "I") (List.mem_cons_of_mem _ wd_134)
  have lk5 := hts (.fieldLink RX3 219 "ClaimRows$Claim" "earlier" "I") (List.mem_cons_of_mem _ wd_127)
  have in0 : ∀ w ∈ u_ws RX0 TX0 13, w ∈ wsX3_about := fun w h => List.mem_cons_of_mem _ (wu_X0 w h)
  have hn0 : (σ.1 0).toNatClampNeg = n.1 := by rw [hR.1.1]; exact nI_clamp (by have := hR.1.2.1; omega)
  have hn1 : (σ.1 1).toNatClampNeg = n.2.1 := by rw [hR.1.2.2.1]; exact nI_clamp (by have := hR.1.2.2.2.1; omega)
  have hn2 : (σ.1 2).toNatClampNeg = n.2.2.1 := by rw [hR.1.2.2.2.2.1]; exact nI_clamp (by have := hR.1.2.2.2.2.2.1; omega)
  refine lv_aload_n hx hb dX3_about_0 rfl (lv_at hl 0 rfl) ?_
  refine lv_iload_n hx hb dX3_about_1 rfl (lv_at hl 1 rfl) ?_
  refine va_csq (va_Run.run (va_runV (As := [.int x1]) (rest := []) ⟨hx, hb, hml, hown, hts⟩ (mt_claimNumbered l dC dI cA Q σ n co L f ad hR x1) (cwV 1 hts (al_gV wd_105 wd_107 wd_106 wd_1 wd_108) rfl rfl rfl (by decide +kernel) ⟨Nat.le_of_ble_eq_true rfl, Nat.le_of_ble_eq_true rfl⟩) ⟨ct_blR, va_recv hK hP (ci := 3) (q0 := 0) rfl (xc_W_0 _ _), ct_atR hP hK⟩ rfl rfl hl.1 rfl (lv_room (Nat.le_of_ble_eq_true rfl)) dX3_about_2 ⟨Nat.le_of_ble_eq_true rfl, Nat.le_of_ble_eq_true rfl⟩)) (fun r2 hr2 => ?_)
  rcases hr2 with ⟨j2, hj2, hm2, ex2, rfl⟩ | ⟨hm2, rfl⟩
  · have hC1 := hR.2.2.1 j2 hj2
    have hC1v := hR.2.2.2.2.1.2.1 j2 hj2
    have hC1a : f (ad.2.2.1 j2) = .inr (0, [.int (nI (j2 + 1)), .int (co.2.1 6 j2), .ref (ad.1 (co.1 0 j2)), .int (co.2.1 7 j2), .int (co.2.1 8 j2), .int (co.2.1 9 j2), .int (co.2.1 10 j2), .int (co.2.1 11 j2), .int (co.2.1 12 j2), .int (co.2.1 13 j2), .int (co.2.1 14 j2), .int (co.2.1 15 j2), .long (co.2.2.1 2 j2)]) := hC1.2.2
    have hI2 := hR.2.1 (co.1 0 j2) hC1v.1
    have hI2a : f (ad.1 (co.1 0 j2)) = .inr (1, [.int (co.2.1 0 (co.1 0 j2)), .long (co.2.2.1 0 (co.1 0 j2)), .long (co.2.2.1 1 (co.1 0 j2)), .int (co.2.1 1 (co.1 0 j2)), .int (co.2.1 2 (co.1 0 j2)), .ref (ad.2.1 (co.1 0 j2)), .int (co.2.1 3 (co.1 0 j2)), .int (co.2.1 4 (co.1 0 j2)), .int (co.2.1 5 (co.1 0 j2))]) := hI2.2.2.1
    have hI2p : f (ad.2.1 (co.1 0 j2)) = .inl ((cA 0), 8, .inl (co.2.2.2 (co.1 0 j2))) := hI2.2.2.2.2
    refine lv_astore_n (lv' := [(3, .ref (ad.2.2.1 j2)), (0, .ref (Q 0)), (1, .int x1), (2, .int x2)]) hx hb dX3_about_5 rfl hl (by decide) rfl (fun ls hl => ?_)
    refine lv_aload_n hx hb dX3_about_6 rfl (lv_at hl 0 rfl) ?_
    refine lv_ifnonnull (tgt := 13) hx hb dX3_about_7 (by decide) ?_
    refine lv_iload_n hx hb dX3_about_13 rfl (lv_at hl 3 rfl) ?_
    rcases Classical.em (x2 = 0 ∨ x2 = 1 ∨ x2 = 2 ∨ x2 = 3 ∨ x2 = 4 ∨ x2 = 5) with e14 | e14
    · rcases e14 with e14 | e14 | e14 | e14 | e14 | e14
      · refine lv_tableIn (off := 38) (tgt := 52) hx hb dX3_about_14 (by rw [e14]; decide) (by rw [e14]; decide) (by rw [e14]; decide) (by decide) ?_
        refine lv_aload_n hx hb dX3_about_52 rfl (lv_at hl 0 rfl) ?_
        refine hp_get (D := (dC, dI)) (ci := 0) (v := .int (co.2.1 9 j2)) (C := RX0) (T := TX0) (N := 13) hx hb hts in0 hown hK hP hC1.2.1 hC1a rfl 5 (by decide) lk0 (fun _ h9 => h9) rfl dX3_about_53 ?_
        exact W.iret (v := (co.2.1 9 j2)) hx hb hr (fun t ht hW => ⟨(co.2.1 9 j2), rfl, (by simp only [kc_about, hm2, Option.elim]; subst e14; rfl), ht⟩) (fun q h => by cases h) dX3_about_56
      · refine lv_tableIn (off := 43) (tgt := 57) hx hb dX3_about_14 (by rw [e14]; decide) (by rw [e14]; decide) (by rw [e14]; decide) (by decide) ?_
        refine lv_aload_n hx hb dX3_about_57 rfl (lv_at hl 0 rfl) ?_
        refine hp_get (D := (dC, dI)) (ci := 0) (v := .int (co.2.1 6 j2)) (C := RX0) (T := TX0) (N := 13) hx hb hts in0 hown hK hP hC1.2.1 hC1a rfl 1 (by decide) lk1 (fun _ h9 => h9) rfl dX3_about_58 ?_
        exact W.iret (v := (co.2.1 6 j2)) hx hb hr (fun t ht hW => ⟨(co.2.1 6 j2), rfl, (by simp only [kc_about, hm2, Option.elim]; subst e14; rfl), ht⟩) (fun q h => by cases h) dX3_about_61
      · refine lv_tableIn (off := 48) (tgt := 62) hx hb dX3_about_14 (by rw [e14]; decide) (by rw [e14]; decide) (by rw [e14]; decide) (by decide) ?_
        refine lv_aload_n hx hb dX3_about_62 rfl (lv_at hl 0 rfl) ?_
        refine hp_get (D := (dC, dI)) (ci := 0) (v := .int (co.2.1 7 j2)) (C := RX0) (T := TX0) (N := 13) hx hb hts in0 hown hK hP hC1.2.1 hC1a rfl 3 (by decide) lk2 (fun _ h9 => h9) rfl dX3_about_63 ?_
        exact W.iret (v := (co.2.1 7 j2)) hx hb hr (fun t ht hW => ⟨(co.2.1 7 j2), rfl, (by simp only [kc_about, hm2, Option.elim]; subst e14; rfl), ht⟩) (fun q h => by cases h) dX3_about_66
      · refine lv_tableIn (off := 53) (tgt := 67) hx hb dX3_about_14 (by rw [e14]; decide) (by rw [e14]; decide) (by rw [e14]; decide) (by decide) ?_
        refine lv_aload_n hx hb dX3_about_67 rfl (lv_at hl 0 rfl) ?_
        refine hp_get (D := (dC, dI)) (ci := 0) (v := .int (co.2.1 10 j2)) (C := RX0) (T := TX0) (N := 13) hx hb hts in0 hown hK hP hC1.2.1 hC1a rfl 6 (by decide) lk3 (fun _ h9 => h9) rfl dX3_about_68 ?_
        refine vp_callSi (va_Run.run (va_runS (As := [.int (co.2.1 10 j2)]) (rest := []) ⟨hx, hb, hml, hown, hts⟩ (mt_bitCount l (co.2.1 10 j2) (hR.2.2.2.2.1.2.1 j2 hj2).2.2.2) (va_cwS 1 hts (al_gS wd_149 wd_150 wd_5 wd_151) rfl rfl rfl (by decide +kernel) ⟨Nat.le_of_ble_eq_true rfl, Nat.le_of_ble_eq_true rfl⟩) ⟨ct_bl0, ct_at0⟩ rfl rfl hl.1 rfl (lv_room (Nat.le_of_ble_eq_true rfl)) dX3_about_71 ⟨Nat.le_of_ble_eq_true rfl, Nat.le_of_ble_eq_true rfl⟩)) (fun r71 hr71 => ?_)
        subst hr71
        exact W.iret (v := (bi_ct (co.2.1 10 j2))) hx hb hr (fun t ht hW => ⟨(bi_ct (co.2.1 10 j2)), rfl, (by simp only [kc_about, hm2, Option.elim]; subst e14; rfl), ht⟩) (fun q h => by cases h) dX3_about_74
      · refine lv_tableIn (off := 61) (tgt := 75) hx hb dX3_about_14 (by rw [e14]; decide) (by rw [e14]; decide) (by rw [e14]; decide) (by decide) ?_
        refine lv_aload_n hx hb dX3_about_75 rfl (lv_at hl 0 rfl) ?_
        refine hp_get (D := (dC, dI)) (ci := 0) (v := .int (co.2.1 12 j2)) (C := RX0) (T := TX0) (N := 13) hx hb hts in0 hown hK hP hC1.2.1 hC1a rfl 8 (by decide) lk4 (fun _ h9 => h9) rfl dX3_about_76 ?_
        exact W.iret (v := (co.2.1 12 j2)) hx hb hr (fun t ht hW => ⟨(co.2.1 12 j2), rfl, (by simp only [kc_about, hm2, Option.elim]; subst e14; rfl), ht⟩) (fun q h => by cases h) dX3_about_79
      · refine lv_tableIn (off := 66) (tgt := 80) hx hb dX3_about_14 (by rw [e14]; decide) (by rw [e14]; decide) (by rw [e14]; decide) (by decide) ?_
        refine lv_aload_n hx hb dX3_about_80 rfl (lv_at hl 0 rfl) ?_
        refine hp_get (D := (dC, dI)) (ci := 0) (v := .int (co.2.1 8 j2)) (C := RX0) (T := TX0) (N := 13) hx hb hts in0 hown hK hP hC1.2.1 hC1a rfl 4 (by decide) lk5 (fun _ h9 => h9) rfl dX3_about_81 ?_
        exact W.iret (v := (co.2.1 8 j2)) hx hb hr (fun t ht hW => ⟨(co.2.1 8 j2), rfl, (by simp only [kc_about, hm2, Option.elim]; subst e14; rfl), ht⟩) (fun q h => by cases h) dX3_about_84
    · refine lv_tableOut (tgt := 85) hx hb dX3_about_14 (sw_out_0_5 (fun q => e14 q)) (by decide) ?_
      refine lv_bipush (v := (-102)) hx hb dX3_about_85 (by decide) ?_
      exact W.iret (v := (-102)) hx hb hr (fun t ht hW => ⟨(-102), rfl, (by simp only [kc_about, hm2, Option.elim]; rw [if_neg (fun q => e14 (by simp [q])), if_neg (fun q => e14 (by simp [q])), if_neg (fun q => e14 (by simp [q])), if_neg (fun q => e14 (by simp [q])), if_neg (fun q => e14 (by simp [q])), if_neg (fun q => e14 (by simp [q]))]), ht⟩) (fun q h => by cases h) dX3_about_87
  · skip
    refine lv_astore_nN (lv' := [(3, .null), (0, .ref (Q 0)), (1, .int x1), (2, .int x2)]) hx hb dX3_about_5 rfl hl (by decide) rfl (fun ls hl => ?_)
    refine lv_aload_nN hx hb dX3_about_6 rfl (lv_at hl 0 rfl) ?_
    refine lv_ifnonnullN hx hb dX3_about_7 ?_
    refine lv_bipush (v := (-101)) hx hb dX3_about_10 (by decide) ?_
    exact W.iret (v := (-101)) hx hb hr (fun t ht hW => ⟨(-101), rfl, (by simp only [kc_about, hm2, Option.elim]), ht⟩) (fun q h => by cases h) dX3_about_12
set_option maxHeartbeats 4000000 in
set_option maxRecDepth 100000 in
/-- mt_letter -/
theorem mt_letter (l : Launch) (dC : Nat → ClassId) (dI : Nat → Nat → Nat) (cA : Nat → ClassId) (Q : Nat → Nat) (σ : xs_T) (n : nn_T) (co : co_T) (L : List Nat) (f : Nat → va_E) (ad : ad_T) (hR : re_A cA σ n co L f ad) (hT : n.2.2.2 < 100000) (x1 x2 : Int32) : Met l yX3_letter wsX3_letter ({ frames := 1, cells := 0, slots := 0, locals := 21 }) (va_Pc [.ref (Q 0), .int x1, .int x2] (ct_R (dC, dI) vwCl (ty_K cA) (xc_W Q cA σ ++ va_pl L f))) (vp_Si (fun r => r = kc_letter (σ, co) x1 x2)) 0 0 (fun _ => False) := by
  refine Met.ofW (cc := cX3_letter) (maxL := 3) (ret := (some .int)) (by decide) rfl ?_
  intro p e s m args below meth c s₁ B hml hv
  obtain ⟨rfl, hP, hK⟩ := hv
  have hx := B.exec
  have hb := B.bytes
  have hr := B.returns
  have hts := atoms_spec (ws := wsX3_letter) B.pre
  have hown : s.vm.findClass RX3 = some m.cls := findClass_of_methodNamed B.named
  have hlocks := B.notSynchronized
  have hl := lv_entry ([.ref (Q 0), .int x1, .int x2]) (n := 3) (Nat.le_of_ble_eq_true rfl)
  rw [lg_entry_eq]
  generalize (lg_sl ([.ref (Q 0), .int x1, .int x2]) ++ List.replicate (3 - (lg_sl ([.ref (Q 0), .int x1, .int x2])).length) Slot.unset).toArray = ls at hl ⊢
  have hl : lv_has ls 3 [(0, .ref (Q 0)), (1, .int x1), (2, .int x2)] := hl
  have lk0 := hts (.fieldLink RX3 222 "ClaimRows" "letterCount" "I") (List.mem_cons_of_mem _ wd_30)
  have lk1 := hts (.methodLink RX3 225 yJ9_min) (List.mem_cons_of_mem _ wd_263)
  have lk2 := hts (.static yJ9_min) (List.mem_cons_of_mem _ wd_264)
  have lk3 := hts (.initialized RJ9) (List.mem_cons_of_mem _ wd_7)
  have lk4 := hts (.code yJ9_min cJ9_min 2 (some .int)) (List.mem_cons_of_mem _ wd_265)
  have lk5 := hts (.fieldLink RX3 38 "ClaimRows" "letterClaims" "[I") (List.mem_cons_of_mem _ wd_28)
  have lk6 := hts (.fieldLink RX3 41 "ClaimRows" "letterKinds" "[I") (List.mem_cons_of_mem _ wd_29)
  have in0 : ∀ w ∈ u_ws RX3 TX3 16, w ∈ wsX3_letter := fun w h => List.mem_cons_of_mem _ (wu_X3 w h)
  have hn0 : (σ.1 0).toNatClampNeg = n.1 := by rw [hR.1.1]; exact nI_clamp (by have := hR.1.2.1; omega)
  have hn1 : (σ.1 1).toNatClampNeg = n.2.1 := by rw [hR.1.2.2.1]; exact nI_clamp (by have := hR.1.2.2.2.1; omega)
  have hn2 : (σ.1 2).toNatClampNeg = n.2.2.1 := by rw [hR.1.2.2.2.2.1]; exact nI_clamp (by have := hR.1.2.2.2.2.2.1; omega)
  refine lv_iload_n hx hb dX3_letter_0 rfl (lv_at hl 1 rfl) ?_
  refine lv_aload_n hx hb dX3_letter_1 rfl (lv_at hl 0 rfl) ?_
  refine va_get (D := (dC, dI)) (ci := 3) (v := .int (σ.1 3)) (C := RX3) (T := TX3) (N := 16) hx hb hts in0 hown hK hP 0 (xc_W_0 _ _) rfl 11 (by decide) lk0 (fun _ h9 => h9) rfl dX3_letter_2 ?_
  refine lv_sipush (v := 200) hx hb dX3_letter_5 (by decide) ?_
  refine va_mmin hx hb (hml.trans hl.1.symm) hown lk1 lk2 lk3 lk4 (Nat.le_of_ble_eq_true rfl) (Nat.le_of_ble_eq_true rfl) (Nat.le_of_ble_eq_true rfl) (Nat.le_of_ble_eq_true rfl) dX3_letter_8 ?_
  refine vp_callSi (va_Run.run (va_runS (As := [.int x1, .int (if 200 < (σ.1 3) then 200 else (σ.1 3))]) (rest := []) ⟨hx, hb, hml, hown, hts⟩ (mt_isBelow l x1 (if 200 < (σ.1 3) then 200 else (σ.1 3))) (va_cwS 2 hts (al_gS wd_41 wd_42 wd_1 wd_43) rfl rfl rfl (by decide +kernel) ⟨Nat.le_of_ble_eq_true rfl, Nat.le_of_ble_eq_true rfl⟩) ⟨ct_bl0, ct_at0⟩ rfl rfl hl.1 rfl (lv_room (Nat.le_of_ble_eq_true rfl)) dX3_letter_11 ⟨Nat.le_of_ble_eq_true rfl, Nat.le_of_ble_eq_true rfl⟩)) (fun r11 hr11 => ?_)
  subst hr11
  refine lv_if_ne (tgt := 19) hx hb dX3_letter_14 (by decide) (fun c14 => ?_) (fun c14 => ?_)
  · have c14 := of_decide_eq_true (bb_n.mp c14)
    refine lv_iload_n hx hb dX3_letter_19 rfl (lv_at hl 2 rfl) ?_
    rcases Classical.em (x2 = 0 ∨ x2 = 1) with e20 | e20
    · rcases e20 with e20 | e20
      · refine lv_lookup (off := 28) (tgt := 48) hx hb dX3_letter_20 (by decide) (by rw [e20]; decide) (by decide) ?_
        refine lv_aload_n hx hb dX3_letter_48 rfl (lv_at hl 0 rfl) ?_
        refine va_get (D := (dC, dI)) (ci := 3) (v := .ref (Q 7)) (C := RX3) (T := TX3) (N := 16) hx hb hts in0 hown hK hP 0 (xc_W_0 _ _) rfl 9 (by decide) lk5 (fun _ h9 => h9) rfl dX3_letter_49 ?_
        refine lv_iload_n hx hb dX3_letter_52 rfl (lv_at hl 1 rfl) ?_
        refine va_iald hx hb hK hP 7 0 (xc_W_7 _ _) rfl (le_in hR.1.2.2.2.2.2.2 (by omega) c14) dX3_letter_53 ?_
        exact W.iret (v := ((σ.2.2.1 1) (x1).toNatClampNeg)) hx hb hr (fun t ht hW => ⟨((σ.2.2.1 1) (x1).toNatClampNeg), rfl, (by simp only [kc_letter, if_pos c14]; subst e20; rfl), ht⟩) (fun q h => by cases h) dX3_letter_54
      · refine lv_lookup (off := 35) (tgt := 55) hx hb dX3_letter_20 (by decide) (by rw [e20]; decide) (by decide) ?_
        refine lv_aload_n hx hb dX3_letter_55 rfl (lv_at hl 0 rfl) ?_
        refine va_get (D := (dC, dI)) (ci := 3) (v := .ref (Q 8)) (C := RX3) (T := TX3) (N := 16) hx hb hts in0 hown hK hP 0 (xc_W_0 _ _) rfl 10 (by decide) lk6 (fun _ h9 => h9) rfl dX3_letter_56 ?_
        refine lv_iload_n hx hb dX3_letter_59 rfl (lv_at hl 1 rfl) ?_
        refine va_iald hx hb hK hP 8 0 (xc_W_8 _ _) rfl (le_in hR.1.2.2.2.2.2.2 (by omega) c14) dX3_letter_60 ?_
        exact W.iret (v := ((σ.2.2.1 2) (x1).toNatClampNeg)) hx hb hr (fun t ht hW => ⟨((σ.2.2.1 2) (x1).toNatClampNeg), rfl, (by simp only [kc_letter, if_pos c14]; subst e20; rfl), ht⟩) (fun q h => by cases h) dX3_letter_61
    · refine lv_lookup (off := 42) (tgt := 62) hx hb dX3_letter_20 (by decide) (by rw [lv_osw (fun q => e20 (by simp [q])) (k := 0) (by decide)]; rw [lv_osw (fun q => e20 (by simp [q])) (k := 1) (by decide)]; rfl) (by decide) ?_
      refine lv_iconst (v := (-1)) hx hb dX3_letter_62 (by decide) ?_
      exact W.iret (v := (-1)) hx hb hr (fun t ht hW => ⟨(-1), rfl, (by simp only [kc_letter, if_pos c14]; rw [if_neg (fun q => e20 (Or.inl q)), if_neg (fun q => e20 (Or.inr q))]), ht⟩) (fun q h => by cases h) dX3_letter_63
  · have c14 := of_decide_eq_false (bb_0.mp c14)
    refine lv_iconst (v := (-1)) hx hb dX3_letter_17 (by decide) ?_
    exact W.iret (v := (-1)) hx hb hr (fun t ht hW => ⟨(-1), rfl, (by simp only [kc_letter, if_neg c14]), ht⟩) (fun q h => by cases h) dX3_letter_18
set_option maxHeartbeats 4000000 in
set_option maxRecDepth 100000 in
/-- mt_all -/
theorem mt_all (l : Launch) (dC : Nat → ClassId) (dI : Nat → Nat → Nat) (cA : Nat → ClassId) (Q : Nat → Nat) (σ : xs_T) (n : nn_T) (co : co_T) (L : List Nat) (f : Nat → va_E) (ad : ad_T) (hR : re_A cA σ n co L f ad) (hT : n.2.2.2 < 100000) (x1 : Int32) : Met l yX3_all wsX3_all ({ frames := 0, cells := 0, slots := 0, locals := 0 }) (va_Pc [.ref (Q 0), .int x1] (ct_R (dC, dI) vwCl (ty_K cA) (xc_W Q cA σ ++ va_pl L f))) (vp_Sl (fun r => r = kc_all (σ, co) x1)) 0 0 (fun _ => False) := by
  refine Met.ofW (cc := cX3_all) (maxL := 2) (ret := (some .long)) (by decide) rfl ?_
  intro p e s m args below meth c s₁ B hml hv
  obtain ⟨rfl, hP, hK⟩ := hv
  have hx := B.exec
  have hb := B.bytes
  have hr := B.returns
  have hts := atoms_spec (ws := wsX3_all) B.pre
  have hown : s.vm.findClass RX3 = some m.cls := findClass_of_methodNamed B.named
  have hlocks := B.notSynchronized
  have hl := lv_entry ([.ref (Q 0), .int x1]) (n := 2) (Nat.le_of_ble_eq_true rfl)
  rw [lg_entry_eq]
  generalize (lg_sl ([.ref (Q 0), .int x1]) ++ List.replicate (2 - (lg_sl ([.ref (Q 0), .int x1])).length) Slot.unset).toArray = ls at hl ⊢
  have hl : lv_has ls 2 [(0, .ref (Q 0)), (1, .int x1)] := hl
  have lk0 := hts (.fieldLink RX3 230 "ClaimRows" "paidInAll" "J") (List.mem_cons_of_mem _ wd_32)
  have lk1 := hts (.fieldLink RX3 205 "ClaimRows" "recoveredInAll" "J") (List.mem_cons_of_mem _ wd_33)
  have lk2 := hts (.fieldLink RX3 233 "ClaimRows" "refusedInAll" "I") (List.mem_cons_of_mem _ wd_34)
  have lk3 := hts (.fieldLink RX3 222 "ClaimRows" "letterCount" "I") (List.mem_cons_of_mem _ wd_30)
  have lk4 := hts (.constantLong RX3 186 (-102)) (List.mem_cons_of_mem _ wd_230)
  have in0 : ∀ w ∈ u_ws RX3 TX3 16, w ∈ wsX3_all := fun w h => List.mem_cons_of_mem _ (wu_X3 w h)
  have hn0 : (σ.1 0).toNatClampNeg = n.1 := by rw [hR.1.1]; exact nI_clamp (by have := hR.1.2.1; omega)
  have hn1 : (σ.1 1).toNatClampNeg = n.2.1 := by rw [hR.1.2.2.1]; exact nI_clamp (by have := hR.1.2.2.2.1; omega)
  have hn2 : (σ.1 2).toNatClampNeg = n.2.2.1 := by rw [hR.1.2.2.2.2.1]; exact nI_clamp (by have := hR.1.2.2.2.2.2.1; omega)
  refine lv_iload_n hx hb dX3_all_0 rfl (lv_at hl 1 rfl) ?_
  rcases Classical.em (x1 = 0 ∨ x1 = 1 ∨ x1 = 2 ∨ x1 = 3) with e1 | e1
  · rcases e1 with e1 | e1 | e1 | e1
    · refine lv_tableIn (off := 31) (tgt := 32) hx hb dX3_all_1 (by rw [e1]; decide) (by rw [e1]; decide) (by rw [e1]; decide) (by decide) ?_
      refine lv_aload_n hx hb dX3_all_32 rfl (lv_at hl 0 rfl) ?_
      refine va_get (D := (dC, dI)) (ci := 3) (v := .long (σ.2.1 0)) (C := RX3) (T := TX3) (N := 16) hx hb hts in0 hown hK hP 0 (xc_W_0 _ _) rfl 13 (by decide) lk0 (fun _ h9 => h9) rfl dX3_all_33 ?_
      exact W.lret (v := (σ.2.1 0)) hx hb hr (fun t ht hW => ⟨(σ.2.1 0), rfl, (by simp only [kc_all]; subst e1; rfl), ht⟩) (fun q h => by cases h) dX3_all_36
    · refine lv_tableIn (off := 36) (tgt := 37) hx hb dX3_all_1 (by rw [e1]; decide) (by rw [e1]; decide) (by rw [e1]; decide) (by decide) ?_
      refine lv_aload_n hx hb dX3_all_37 rfl (lv_at hl 0 rfl) ?_
      refine va_get (D := (dC, dI)) (ci := 3) (v := .long (σ.2.1 1)) (C := RX3) (T := TX3) (N := 16) hx hb hts in0 hown hK hP 0 (xc_W_0 _ _) rfl 14 (by decide) lk1 (fun _ h9 => h9) rfl dX3_all_38 ?_
      exact W.lret (v := (σ.2.1 1)) hx hb hr (fun t ht hW => ⟨(σ.2.1 1), rfl, (by simp only [kc_all]; subst e1; rfl), ht⟩) (fun q h => by cases h) dX3_all_41
    · refine lv_tableIn (off := 41) (tgt := 42) hx hb dX3_all_1 (by rw [e1]; decide) (by rw [e1]; decide) (by rw [e1]; decide) (by decide) ?_
      refine lv_aload_n hx hb dX3_all_42 rfl (lv_at hl 0 rfl) ?_
      refine va_get (D := (dC, dI)) (ci := 3) (v := .int (σ.1 5)) (C := RX3) (T := TX3) (N := 16) hx hb hts in0 hown hK hP 0 (xc_W_0 _ _) rfl 15 (by decide) lk2 (fun _ h9 => h9) rfl dX3_all_43 ?_
      refine lv_i2l (v := ((σ.1 5) : Int32).toInt64) hx hb dX3_all_46 rfl ?_
      exact W.lret (v := (((σ.1 5) : Int32).toInt64)) hx hb hr (fun t ht hW => ⟨(((σ.1 5) : Int32).toInt64), rfl, (by simp only [kc_all]; subst e1; rfl), ht⟩) (fun q h => by cases h) dX3_all_47
    · refine lv_tableIn (off := 47) (tgt := 48) hx hb dX3_all_1 (by rw [e1]; decide) (by rw [e1]; decide) (by rw [e1]; decide) (by decide) ?_
      refine lv_aload_n hx hb dX3_all_48 rfl (lv_at hl 0 rfl) ?_
      refine va_get (D := (dC, dI)) (ci := 3) (v := .int (σ.1 3)) (C := RX3) (T := TX3) (N := 16) hx hb hts in0 hown hK hP 0 (xc_W_0 _ _) rfl 11 (by decide) lk3 (fun _ h9 => h9) rfl dX3_all_49 ?_
      refine lv_i2l (v := ((σ.1 3) : Int32).toInt64) hx hb dX3_all_52 rfl ?_
      exact W.lret (v := (((σ.1 3) : Int32).toInt64)) hx hb hr (fun t ht hW => ⟨(((σ.1 3) : Int32).toInt64), rfl, (by simp only [kc_all]; subst e1; rfl), ht⟩) (fun q h => by cases h) dX3_all_53
  · refine lv_tableOut (tgt := 54) hx hb dX3_all_1 (sw_out_0_3 (fun q => e1 q)) (by decide) ?_
    refine lv_ldc2 hx hb hown lk4 dX3_all_54 ?_
    exact W.lret (v := (-102)) hx hb hr (fun t ht hW => ⟨(-102), rfl, (by simp only [kc_all]; rw [if_neg (fun q => e1 (by simp [q])), if_neg (fun q => e1 (by simp [q])), if_neg (fun q => e1 (by simp [q])), if_neg (fun q => e1 (by simp [q]))]), ht⟩) (fun q h => by cases h) dX3_all_57
set_option maxHeartbeats 4000000 in
set_option maxRecDepth 100000 in
/-- mt_share -/
theorem mt_share (l : Launch) (dC : Nat → ClassId) (dI : Nat → Nat → Nat) (cA : Nat → ClassId) (Q : Nat → Nat) (σ : xs_T) (n : nn_T) (co : co_T) (L : List Nat) (f : Nat → va_E) (ad : ad_T) (hR : re_A cA σ n co L f ad) (hT : n.2.2.2 < 100000) (x1 x2 : Int32) : Met l yX3_share wsX3_share ({ frames := 2, cells := 0, slots := 0, locals := 46 }) (va_Pc [.ref (Q 0), .int x1, .int x2] (ct_R (dC, dI) vwCl (ty_K cA) (xc_W Q cA σ ++ va_pl L f))) (vp_Sl (fun r => r = kc_share (σ, co) x1 x2)) 0 0 (fun _ => False) := by
  refine Met.ofW (cc := cX3_share) (maxL := 4) (ret := (some .long)) (by decide) rfl ?_
  intro p e s m args below meth c s₁ B hml hv
  obtain ⟨rfl, hP, hK⟩ := hv
  have hx := B.exec
  have hb := B.bytes
  have hr := B.returns
  have hts := atoms_spec (ws := wsX3_share) B.pre
  have hown : s.vm.findClass RX3 = some m.cls := findClass_of_methodNamed B.named
  have hlocks := B.notSynchronized
  have hl := lv_entry ([.ref (Q 0), .int x1, .int x2]) (n := 4) (Nat.le_of_ble_eq_true rfl)
  rw [lg_entry_eq]
  generalize (lg_sl ([.ref (Q 0), .int x1, .int x2]) ++ List.replicate (4 - (lg_sl ([.ref (Q 0), .int x1, .int x2])).length) Slot.unset).toArray = ls at hl ⊢
  have hl : lv_has ls 4 [(0, .ref (Q 0)), (1, .int x1), (2, .int x2)] := hl
  have lk0 := hts (.fieldLink RX3 120 "ClaimRows$Claim" "state" "I") (List.mem_cons_of_mem _ wd_129)
  have lk1 := hts (.fieldLink RX3 188 "ClaimRows$Claim" "item" "LClaimRows$Item;") (List.mem_cons_of_mem _ wd_123)
  have lk2 := hts (.fieldLink RX3 163 "ClaimRows$Claim" "paidSum" "J") (List.mem_cons_of_mem _ wd_140)
  have lk3 := hts (.constantLong RX3 186 (-102)) (List.mem_cons_of_mem _ wd_230)
  have lk4 := hts (.constantLong RX3 161 (-101)) (List.mem_cons_of_mem _ wd_197)
  have in0 : ∀ w ∈ u_ws RX0 TX0 13, w ∈ wsX3_share := fun w h => List.mem_cons_of_mem _ (wu_X0 w h)
  have hn0 : (σ.1 0).toNatClampNeg = n.1 := by rw [hR.1.1]; exact nI_clamp (by have := hR.1.2.1; omega)
  have hn1 : (σ.1 1).toNatClampNeg = n.2.1 := by rw [hR.1.2.2.1]; exact nI_clamp (by have := hR.1.2.2.2.1; omega)
  have hn2 : (σ.1 2).toNatClampNeg = n.2.2.1 := by rw [hR.1.2.2.2.2.1]; exact nI_clamp (by have := hR.1.2.2.2.2.2.1; omega)
  refine lv_aload_n hx hb dX3_share_0 rfl (lv_at hl 0 rfl) ?_
  refine lv_iload_n hx hb dX3_share_1 rfl (lv_at hl 1 rfl) ?_
  refine va_csq (va_Run.run (va_runV (As := [.int x1]) (rest := []) ⟨hx, hb, hml, hown, hts⟩ (mt_claimNumbered l dC dI cA Q σ n co L f ad hR x1) (cwV 1 hts (al_gV wd_105 wd_107 wd_106 wd_1 wd_108) rfl rfl rfl (by decide +kernel) ⟨Nat.le_of_ble_eq_true rfl, Nat.le_of_ble_eq_true rfl⟩) ⟨ct_blR, va_recv hK hP (ci := 3) (q0 := 0) rfl (xc_W_0 _ _), ct_atR hP hK⟩ rfl rfl hl.1 rfl (lv_room (Nat.le_of_ble_eq_true rfl)) dX3_share_2 ⟨Nat.le_of_ble_eq_true rfl, Nat.le_of_ble_eq_true rfl⟩)) (fun r2 hr2 => ?_)
  rcases hr2 with ⟨j2, hj2, hm2, ex2, rfl⟩ | ⟨hm2, rfl⟩
  · have hC1 := hR.2.2.1 j2 hj2
    have hC1v := hR.2.2.2.2.1.2.1 j2 hj2
    have hC1a : f (ad.2.2.1 j2) = .inr (0, [.int (nI (j2 + 1)), .int (co.2.1 6 j2), .ref (ad.1 (co.1 0 j2)), .int (co.2.1 7 j2), .int (co.2.1 8 j2), .int (co.2.1 9 j2), .int (co.2.1 10 j2), .int (co.2.1 11 j2), .int (co.2.1 12 j2), .int (co.2.1 13 j2), .int (co.2.1 14 j2), .int (co.2.1 15 j2), .long (co.2.2.1 2 j2)]) := hC1.2.2
    have hI2 := hR.2.1 (co.1 0 j2) hC1v.1
    have hI2a : f (ad.1 (co.1 0 j2)) = .inr (1, [.int (co.2.1 0 (co.1 0 j2)), .long (co.2.2.1 0 (co.1 0 j2)), .long (co.2.2.1 1 (co.1 0 j2)), .int (co.2.1 1 (co.1 0 j2)), .int (co.2.1 2 (co.1 0 j2)), .ref (ad.2.1 (co.1 0 j2)), .int (co.2.1 3 (co.1 0 j2)), .int (co.2.1 4 (co.1 0 j2)), .int (co.2.1 5 (co.1 0 j2))]) := hI2.2.2.1
    have hI2p : f (ad.2.1 (co.1 0 j2)) = .inl ((cA 0), 8, .inl (co.2.2.2 (co.1 0 j2))) := hI2.2.2.2.2
    refine lv_astore_n (lv' := [(3, .ref (ad.2.2.1 j2)), (0, .ref (Q 0)), (1, .int x1), (2, .int x2)]) hx hb dX3_share_5 rfl hl (by decide) rfl (fun ls hl => ?_)
    refine lv_aload_n hx hb dX3_share_6 rfl (lv_at hl 0 rfl) ?_
    refine lv_ifnonnull (tgt := 14) hx hb dX3_share_7 (by decide) ?_
    refine lv_iload_n hx hb dX3_share_14 rfl (lv_at hl 3 rfl) ?_
    refine lv_bipush (v := 6) hx hb dX3_share_15 (by decide) ?_
    refine vp_callSi (va_Run.run (va_runS (As := [.int x2, .int 6]) (rest := []) ⟨hx, hb, hml, hown, hts⟩ (mt_isBelow l x2 6) (va_cwS 2 hts (al_gS wd_41 wd_42 wd_1 wd_43) rfl rfl rfl (by decide +kernel) ⟨Nat.le_of_ble_eq_true rfl, Nat.le_of_ble_eq_true rfl⟩) ⟨ct_bl0, ct_at0⟩ rfl rfl hl.1 rfl (lv_room (Nat.le_of_ble_eq_true rfl)) dX3_share_17 ⟨Nat.le_of_ble_eq_true rfl, Nat.le_of_ble_eq_true rfl⟩)) (fun r17 hr17 => ?_)
    subst hr17
    refine lv_if_ne (tgt := 27) hx hb dX3_share_20 (by decide) (fun c20 => ?_) (fun c20 => ?_)
    · have c20 := of_decide_eq_true (bb_n.mp c20)
      refine lv_aload_n hx hb dX3_share_27 rfl (lv_at hl 0 rfl) ?_
      refine hp_get (D := (dC, dI)) (ci := 0) (v := .int (co.2.1 9 j2)) (C := RX0) (T := TX0) (N := 13) hx hb hts in0 hown hK hP hC1.2.1 hC1a rfl 5 (by decide) lk0 (fun _ h9 => h9) rfl dX3_share_28 ?_
      refine lv_iconst (v := 1) hx hb dX3_share_31 (by decide) ?_
      refine lv_icmp_ne (tgt := 50) hx hb dX3_share_32 (by decide) (fun c32 => ?_) (fun c32 => ?_)
      · refine lv_lconst (v := 0) hx hb dX3_share_50 (by decide) ?_
        exact W.lret (v := 0) hx hb hr (fun t ht hW => ⟨0, rfl, (by simp only [kc_share, hm2, if_pos c20, if_neg c32, Option.elim, hn1]), ht⟩) (fun q h => by cases h) dX3_share_51
      · refine lv_aload_n hx hb dX3_share_35 rfl (lv_at hl 0 rfl) ?_
        refine hp_get (D := (dC, dI)) (ci := 0) (v := .ref (ad.1 (co.1 0 j2))) (C := RX0) (T := TX0) (N := 13) hx hb hts in0 hown hK hP hC1.2.1 hC1a rfl 2 (by decide) lk1 (fun _ h9 => h9) rfl dX3_share_36 ?_
        refine lv_aload_n hx hb dX3_share_39 rfl (lv_at hl 0 rfl) ?_
        refine hp_get (D := (dC, dI)) (ci := 0) (v := .long (co.2.2.1 2 j2)) (C := RX0) (T := TX0) (N := 13) hx hb hts in0 hown hK hP hC1.2.1 hC1a rfl 12 (by decide) lk2 (fun _ h9 => h9) rfl dX3_share_40 ?_
        refine lv_iload_n hx hb dX3_share_43 rfl (lv_at hl 3 rfl) ?_
        obtain ⟨k8, w8, hk8, hw8, e38, e48⟩ := (hR.2.2.2.2.1.1 (co.1 0 j2) (hR.2.2.2.2.1.2.1 j2 hj2).1).2
        refine vp_callSl (va_Run.run (va_runV (As := [.long (co.2.2.1 2 j2), .int x2]) (rest := []) ⟨hx, hb, hml, hown, hts⟩ (mt_partOf l dC dI cA (xc_W Q cA σ) L f (ad.1 (co.1 0 j2)) (ad.2.1 (co.1 0 j2)) hI2.2.1 hI2.2.2.2.1 (co.2.1 0 (co.1 0 j2)) (co.2.2.1 0 (co.1 0 j2)) (co.2.2.1 1 (co.1 0 j2)) (co.2.1 1 (co.1 0 j2)) (co.2.1 2 (co.1 0 j2)) (co.2.1 3 (co.1 0 j2)) (co.2.1 4 (co.1 0 j2)) (co.2.1 5 (co.1 0 j2)) hI2a (co.2.2.2 (co.1 0 j2)) hI2p k8 w8 e38 e48 hk8 hw8 (co.2.2.1 2 j2) x2) (cwV 2 hts (al_gV wd_231 wd_232 wd_233 wd_3 wd_234) rfl rfl rfl (by decide +kernel) ⟨Nat.le_of_ble_eq_true rfl, Nat.le_of_ble_eq_true rfl⟩) ⟨ct_blR, hp_recv hK hP (ci := 1) rfl hI2.2.1 hI2a, ct_atR hP hK⟩ rfl rfl hl.1 rfl (lv_room (Nat.le_of_ble_eq_true rfl)) dX3_share_44 ⟨Nat.le_of_ble_eq_true rfl, Nat.le_of_ble_eq_true rfl⟩)) (fun r44 hr44 => ?_)
        subst hr44
        refine lv_goto (tgt := 51) hx hb dX3_share_47 (by decide) ?_
        exact W.lret (v := (pa_o co (co.1 0 j2) (co.2.2.1 2 j2) x2)) hx hb hr (fun t ht hW => ⟨(pa_o co (co.1 0 j2) (co.2.2.1 2 j2) x2), rfl, (by simp only [kc_share, hm2, if_pos c20, if_pos c32, Option.elim, hn1]), ht⟩) (fun q h => by cases h) dX3_share_51
    · have c20 := of_decide_eq_false (bb_0.mp c20)
      refine lv_ldc2 hx hb hown lk3 dX3_share_23 ?_
      exact W.lret (v := (-102)) hx hb hr (fun t ht hW => ⟨(-102), rfl, (by simp only [kc_share, hm2, if_neg c20, Option.elim, hn1]), ht⟩) (fun q h => by cases h) dX3_share_26
  · skip
    refine lv_astore_nN (lv' := [(3, .null), (0, .ref (Q 0)), (1, .int x1), (2, .int x2)]) hx hb dX3_share_5 rfl hl (by decide) rfl (fun ls hl => ?_)
    refine lv_aload_nN hx hb dX3_share_6 rfl (lv_at hl 0 rfl) ?_
    refine lv_ifnonnullN hx hb dX3_share_7 ?_
    refine lv_ldc2 hx hb hown lk4 dX3_share_10 ?_
    exact W.lret (v := (-101)) hx hb hr (fun t ht hW => ⟨(-101), rfl, (by simp only [kc_share, hm2, Option.elim, hn1]), ht⟩) (fun q h => by cases h) dX3_share_13
end
section
set_option maxHeartbeats 4000000 in
set_option maxRecDepth 100000 in
/-- mt_tick -/
theorem mt_tick (l : Launch) (dC : Nat → ClassId) (dI : Nat → Nat → Nat) (cA : Nat → ClassId) (sz : Nat) (Q : Nat → Nat) (σ : xs_T) (n : nn_T) (co : co_T) (L : List Nat) (f : Nat → va_E) (ad : ad_T) (hR : re_A cA σ n co L f ad) (hT : n.2.2.2 < 100000) (x1 : Int32) : Met l yX3_tick wsX3_tick ({ frames := 2, cells := 0, slots := 0, locals := 46 }) (va_Pc [.ref (Q 0), .int x1] (ct_M (dC, dI) vwCl (ty_K cA) (xc_W Q cA σ ++ va_pl L f) sz)) (va_Qi (fun r u => (r, u) = kc_tick (σ, co) x1) (fun u t => ∃ (ra : Nat → Nat → Option Nat) (n' : nn_T) (L' : List Nat) (f' : Nat → va_E) (ad' : ad_T), n'.2.2.2 ≤ n.2.2.2 + 1 ∧ re_A cA (xs_r u.1 ra) n' u.2 L' f' ad' ∧ ct_B (dC, dI) vwCl (ty_K cA) (va_A (xc_W Q cA σ ++ va_pl L f) sz) (xc_W Q cA (xs_r u.1 ra) ++ va_pl L' f') t) (va_A (xc_W Q cA σ ++ va_pl L f) sz)) 0 0 (va_A (xc_W Q cA σ ++ va_pl L f) sz) := by
  refine Met.ofW (cc := cX3_tick) (maxL := 5) (ret := (some .int)) (by decide) rfl ?_
  intro p e s m args below meth c s₁ B hml hv
  obtain ⟨rfl, hsz, hP, hK, hD0⟩ := hv
  have hx := B.exec
  have hb := B.bytes
  have hr := B.returns
  have hts := atoms_spec (ws := wsX3_tick) B.pre
  have hown : s.vm.findClass RX3 = some m.cls := findClass_of_methodNamed B.named
  have hlocks := B.notSynchronized
  subst hsz
  have hD := hD0.self (sz := s.heap.size)
  generalize hAe : va_A (xc_W Q cA σ ++ va_pl L f) s.heap.size = A at hD ⊢
  have hA : ∀ q : Nat, s.heap.size ≤ q → A q := fun q h => by rw [← hAe]; exact Or.inr h
  clear hAe hD0
  have hS : va_S A s.heap s.heap [] := va_S.rf
  have hl := lv_entry ([.ref (Q 0), .int x1]) (n := 5) (Nat.le_of_ble_eq_true rfl)
  rw [lg_entry_eq]
  generalize (lg_sl ([.ref (Q 0), .int x1]) ++ List.replicate (5 - (lg_sl ([.ref (Q 0), .int x1])).length) Slot.unset).toArray = ls at hl ⊢
  have hl : lv_has ls 5 [(0, .ref (Q 0)), (1, .int x1)] := hl
  have lk0 := hts (.fieldLink RX3 131 "ClaimRows" "clock" "I") (List.mem_cons_of_mem _ wd_31)
  have lk1 := hts (.constantLong RX3 84 200000) (List.mem_cons_of_mem _ wd_97)
  have lk2 := hts (.fieldLink RX3 137 "ClaimRows" "searchCount" "I") (List.mem_cons_of_mem _ wd_24)
  have lk3 := hts (.fieldLink RX3 150 "ClaimRows$Search" "unanswered" "Z") (List.mem_cons_of_mem _ wd_168)
  have lk4 := hts (.fieldLink RX3 158 "ClaimRows$Search" "due" "I") (List.mem_cons_of_mem _ wd_166)
  have in0 : ∀ w ∈ u_ws RX3 TX3 16, w ∈ wsX3_tick := fun w h => List.mem_cons_of_mem _ (wu_X3 w h)
  have in1 : ∀ w ∈ u_ws RX2 TX2 3, w ∈ wsX3_tick := fun w h => List.mem_cons_of_mem _ (wu_X2 w h)
  have hn0 : (σ.1 0).toNatClampNeg = n.1 := by rw [hR.1.1]; exact nI_clamp (by have := hR.1.2.1; omega)
  have hn1 : (σ.1 1).toNatClampNeg = n.2.1 := by rw [hR.1.2.2.1]; exact nI_clamp (by have := hR.1.2.2.2.1; omega)
  have hn2 : (σ.1 2).toNatClampNeg = n.2.2.1 := by rw [hR.1.2.2.2.2.1]; exact nI_clamp (by have := hR.1.2.2.2.2.2.1; omega)
  refine lv_iload_n hx hb dX3_tick_0 rfl (lv_at hl 1 rfl) ?_
  refine lv_i2l (v := (x1 : Int32).toInt64) hx hb dX3_tick_1 rfl ?_
  refine lv_aload_n hx hb dX3_tick_2 rfl (lv_at hl 0 rfl) ?_
  refine va_get (D := (dC, dI)) (ci := 3) (v := .int (σ.1 4)) (C := RX3) (T := TX3) (N := 16) hx hb hts in0 hown hK hP 0 (xc_W_0 _ _) rfl 12 (by decide) lk0 (fun _ h9 => h9) rfl dX3_tick_3 ?_
  refine lv_i2l (v := ((σ.1 4) : Int32).toInt64) hx hb dX3_tick_6 rfl ?_
  refine lv_ldc2 hx hb hown lk1 dX3_tick_7 ?_
  refine vp_callSi (va_Run.run (va_runS (As := [.long ((x1 : Int32).toInt64), .long (((σ.1 4) : Int32).toInt64), .long 200000]) (rest := []) ⟨hx, hb, hml, hown, hts⟩ (mt_isWithin l ((x1 : Int32).toInt64) (((σ.1 4) : Int32).toInt64) 200000) (va_cwS 3 hts (al_gS wd_48 wd_49 wd_1 wd_50) rfl rfl rfl (by decide +kernel) ⟨Nat.le_of_ble_eq_true rfl, Nat.le_of_ble_eq_true rfl⟩) ⟨ct_bl0, ct_at0⟩ rfl rfl hl.1 rfl (lv_room (Nat.le_of_ble_eq_true rfl)) dX3_tick_10 ⟨Nat.le_of_ble_eq_true rfl, Nat.le_of_ble_eq_true rfl⟩)) (fun r10 hr10 => ?_)
  subst hr10
  refine lv_if_ne (tgt := 19) hx hb dX3_tick_13 (by decide) (fun c13 => ?_) (fun c13 => ?_)
  · have c13 := of_decide_eq_true (bb_n.mp c13)
    refine lv_aload_n hx hb dX3_tick_19 rfl (lv_at hl 0 rfl) ?_
    refine lv_iload_n hx hb dX3_tick_20 rfl (lv_at hl 1 rfl) ?_
    refine va_put (D := (dC, dI)) (ci := 3) (v := .int x1) (ty := .int) (C := RX3) (T := TX3) (N := 16) hx hb hts in0 tyX3 tyX3_ok nmX3 hown hK hP hD hS 0 (xc_W_0 _ _) rfl 12 (by decide) lk0 (fun _ h9 => h9) rfl (by decide +kernel) rfl rfl (Nat.le_of_ble_eq_true rfl) dX3_tick_21 (fun H locs hP hD hS => ?_)
    have hP : va_P (dC, dI) vwCl (xc_W Q cA (xs_i σ 4 x1) ++ va_pl L f) H := hP
    have hD : va_D A (xc_W Q cA (xs_i σ 4 x1) ++ va_pl L f) := hD
    have hpost : ∀ (c : Int32) (k : co_T), (c, k) = ti_co x1 n.2.2.1 0 co 0 → (c, (xs_i σ 4 x1, k)) = kc_tick (σ, co) x1 := fun c k h => by simp only [kc_tick, if_pos c13, hn2, ← h]
    have hR4 : re_A cA (xs_i σ 4 x1) n co L f ad := re_x hR n.2.2.2 rfl rfl rfl hR.1.2.2.2.2.2.2 rfl
    obtain ⟨σ4, hσ4⟩ : ∃ z, z = xs_i σ 4 x1 := ⟨_, rfl⟩
    rw [← hσ4] at hP hD hR4 hpost
    clear hn0 hn1 hn2 hR hσ4
    refine lv_iconst (v := 0) hx hb dX3_tick_24 (by decide) ?_
    refine lv_istore_n (lv' := [(2, .int 0), (0, .ref (Q 0)), (1, .int x1)]) hx hb dX3_tick_25 rfl hl (by decide) rfl (fun ls hl => ?_)
    refine lv_iconst (v := 1) hx hb dX3_tick_26 (by decide) ?_
    refine lv_istore_n (lv' := [(3, .int 1), (2, .int 0), (0, .ref (Q 0)), (1, .int x1)]) hx hb dX3_tick_27 rfl hl (by decide) rfl (fun ls hl => ?_)
    refine wl_M (Inv := fun j (u : Int32 × co_T × (Nat → va_E)) H locs ls => lv_has ls 5 [(0, .ref (Q 0)), (1, .int x1), (2, .int u.1), (3, .int (nI (j + 1)))] ∧ re_A cA σ4 n u.2.1 L u.2.2 ad ∧ ti_co x1 n.2.2.1 0 co 0 = ti_co x1 (n.2.2.1 - j) j u.2.1 u.1 ∧ va_P (dC, dI) vwCl (xc_W Q cA σ4 ++ va_pl L u.2.2) H ∧ va_D A (xc_W Q cA σ4 ++ va_pl L u.2.2) ∧ va_S A s.heap H locs) (N := n.2.2.1) (fun j u H locs ls hj hin ih => ?_) (fun u H locs ls hin => ?_) 0 (0, co, f) H locs ls (Nat.zero_le _) ⟨lv_sub hl [2, 3, 1, 0] rfl, hR4, rfl, hP, hD, hS⟩
    · clear hR4 hP hD hS hl
      obtain ⟨cn, co, f⟩ := u
      obtain ⟨hl, hR, hin, hP, hD, hS⟩ := hin
      dsimp only at hl hR hin hP hD
      refine lv_iload_n hx hb dX3_tick_28 rfl (lv_at hl 3 rfl) ?_
      refine lv_aload_n hx hb dX3_tick_29 rfl (lv_at hl 0 rfl) ?_
      refine va_get (D := (dC, dI)) (ci := 3) (v := .int (σ4.1 2)) (C := RX3) (T := TX3) (N := 16) hx hb hts in0 hown hK hP 0 (xc_W_0 _ _) rfl 5 (by decide) lk2 (fun _ h9 => h9) rfl dX3_tick_30 ?_
      refine lv_icmp_gt (tgt := 80) hx hb dX3_tick_33 (by decide) (fun c33 => ?_) (fun c33 => ?_)
      · exact absurd c33 (by rw [hR.1.2.2.2.2.1]; exact nI_nlt (by omega) (by have := hR.1.2.2.2.2.2.1; omega))
      · refine lv_aload_n hx hb dX3_tick_36 rfl (lv_at hl 0 rfl) ?_
        refine lv_iload_n hx hb dX3_tick_37 rfl (lv_at hl 3 rfl) ?_
        refine va_csq (va_Run.run (va_runV (As := [.int (nI (j + 1))]) (rest := []) ⟨hx, hb, hml, hown, hts⟩ (mt_searchNumbered l dC dI cA Q σ4 n co L f ad hR (nI (j + 1))) (cwV 1 hts (al_gV wd_177 wd_179 wd_178 wd_1 wd_180) rfl rfl rfl (by decide +kernel) ⟨Nat.le_of_ble_eq_true rfl, Nat.le_of_ble_eq_true rfl⟩) ⟨ct_blR, va_recv hK hP (ci := 3) (q0 := 0) rfl (xc_W_0 _ _), ct_atR hP hK⟩ rfl rfl hl.1 rfl (lv_room (Nat.le_of_ble_eq_true rfl)) dX3_tick_38 ⟨Nat.le_of_ble_eq_true rfl, Nat.le_of_ble_eq_true rfl⟩)) (fun r38 hr38 => ?_)
        rcases hr38 with ⟨j38, hj38, hm38, ex38, rfl⟩ | ⟨hm38, rfl⟩
        · have ej38 : j = j38 := by rw [hR.1.2.2.2.2.1, nu_s hj (by have := hR.1.2.2.2.2.2.1; omega)] at hm38; exact Option.some.inj hm38
          subst ej38
          have hS1 := hR.2.2.2.1 j hj38
          have hS1v := hR.2.2.2.2.1.2.2 j hj38
          have hS1a : f (ad.2.2.2 j) = .inr (2, [.ref (ad.2.2.1 (co.1 1 j)), .int (co.2.1 17 j), .int (co.2.1 18 j)]) := hS1.2.2
          have hC2 := hR.2.2.1 (co.1 1 j) hS1v
          have hC2v := hR.2.2.2.2.1.2.1 (co.1 1 j) hS1v
          have hC2a : f (ad.2.2.1 (co.1 1 j)) = .inr (0, [.int (nI ((co.1 1 j) + 1)), .int (co.2.1 6 (co.1 1 j)), .ref (ad.1 (co.1 0 (co.1 1 j))), .int (co.2.1 7 (co.1 1 j)), .int (co.2.1 8 (co.1 1 j)), .int (co.2.1 9 (co.1 1 j)), .int (co.2.1 10 (co.1 1 j)), .int (co.2.1 11 (co.1 1 j)), .int (co.2.1 12 (co.1 1 j)), .int (co.2.1 13 (co.1 1 j)), .int (co.2.1 14 (co.1 1 j)), .int (co.2.1 15 (co.1 1 j)), .long (co.2.2.1 2 (co.1 1 j))]) := hC2.2.2
          have hI3 := hR.2.1 (co.1 0 (co.1 1 j)) hC2v.1
          have hI3a : f (ad.1 (co.1 0 (co.1 1 j))) = .inr (1, [.int (co.2.1 0 (co.1 0 (co.1 1 j))), .long (co.2.2.1 0 (co.1 0 (co.1 1 j))), .long (co.2.2.1 1 (co.1 0 (co.1 1 j))), .int (co.2.1 1 (co.1 0 (co.1 1 j))), .int (co.2.1 2 (co.1 0 (co.1 1 j))), .ref (ad.2.1 (co.1 0 (co.1 1 j))), .int (co.2.1 3 (co.1 0 (co.1 1 j))), .int (co.2.1 4 (co.1 0 (co.1 1 j))), .int (co.2.1 5 (co.1 0 (co.1 1 j)))]) := hI3.2.2.1
          have hI3p : f (ad.2.1 (co.1 0 (co.1 1 j))) = .inl ((cA 0), 8, .inl (co.2.2.2 (co.1 0 (co.1 1 j)))) := hI3.2.2.2.2
          refine lv_astore (lv' := [(4, .ref (ad.2.2.2 j)), (0, .ref (Q 0)), (1, .int x1), (2, .int cn), (3, .int (nI (j + 1)))]) hx hb dX3_tick_41 hl (by decide) rfl (fun ls hl => ?_)
          refine lv_aload hx hb dX3_tick_43 (lv_at hl 0 rfl) ?_
          refine lv_ifnull hx hb dX3_tick_45 ?_
          refine lv_aload hx hb dX3_tick_48 (lv_at hl 0 rfl) ?_
          refine hp_get (D := (dC, dI)) (ci := 2) (v := .int (co.2.1 18 j)) (C := RX2) (T := TX2) (N := 3) hx hb hts in1 hown hK hP hS1.2.1 hS1a rfl 2 (by decide) lk3 (fun _ h9 => h9) rfl dX3_tick_50 ?_
          refine lv_if_eq (tgt := 74) hx hb dX3_tick_53 (by decide) (fun c53 => ?_) (fun c53 => ?_)
          · refine lv_iinc (v := ((nI (j + 1)) + 1)) (lv' := [(3, .int ((nI (j + 1)) + 1)), (4, .ref (ad.2.2.2 j)), (0, .ref (Q 0)), (1, .int x1), (2, .int cn)]) hx hb dX3_tick_74 hl (k := 4) rfl rfl (by decide) rfl (fun ls hl => ?_)
            refine lv_goto (tgt := 28) hx hb dX3_tick_77 (by decide) ?_
            exact ih (cn, co, f) H locs ls ⟨lv_sub hl [2, 3, 4, 0] (by rw [nI_succ (j + 1)]; rfl), hR, by rw [hin, show n.2.2.1 - j = (n.2.2.1 - (j + 1)) + 1 by omega, ti_co, if_neg (fun q => q.1 c53)], hP, hD, hS⟩
          · refine lv_aload hx hb dX3_tick_56 (lv_at hl 0 rfl) ?_
            refine hp_get (D := (dC, dI)) (ci := 2) (v := .int (co.2.1 17 j)) (C := RX2) (T := TX2) (N := 3) hx hb hts in1 hown hK hP hS1.2.1 hS1a rfl 1 (by decide) lk4 (fun _ h9 => h9) rfl dX3_tick_58 ?_
            refine lv_iload_n hx hb dX3_tick_61 rfl (lv_at hl 2 rfl) ?_
            refine lv_icmp_ge (tgt := 74) hx hb dX3_tick_62 (by decide) (fun c62 => ?_) (fun c62 => ?_)
            · refine lv_iinc (v := ((nI (j + 1)) + 1)) (lv' := [(3, .int ((nI (j + 1)) + 1)), (4, .ref (ad.2.2.2 j)), (0, .ref (Q 0)), (1, .int x1), (2, .int cn)]) hx hb dX3_tick_74 hl (k := 4) rfl rfl (by decide) rfl (fun ls hl => ?_)
              refine lv_goto (tgt := 28) hx hb dX3_tick_77 (by decide) ?_
              exact ih (cn, co, f) H locs ls ⟨lv_sub hl [2, 3, 4, 0] (by rw [nI_succ (j + 1)]; rfl), hR, by rw [hin, show n.2.2.1 - j = (n.2.2.1 - (j + 1)) + 1 by omega, ti_co, if_neg (fun q => absurd q.2 (Int32.not_lt.mpr c62))], hP, hD, hS⟩
            · refine lv_aload hx hb dX3_tick_65 (lv_at hl 0 rfl) ?_
              refine lv_iconst (v := 0) hx hb dX3_tick_67 (by decide) ?_
              have hFc := ct_free hD hS hA
              refine va_callv (va_runV (As := [.int 0]) (rest := []) ⟨hx, hb, hml, hown, hts⟩ (mt_close l dC dI cA H.size (xc_W Q cA σ4) L f (ad.2.2.2 j) hS1.2.1 (ad.2.2.1 (co.1 1 j)) hC2.2.1 (co.2.1 17 j) (co.2.1 18 j) hS1a (nI ((co.1 1 j) + 1)) (co.2.1 6 (co.1 1 j)) (ad.1 (co.1 0 (co.1 1 j))) (co.2.1 7 (co.1 1 j)) (co.2.1 8 (co.1 1 j)) (co.2.1 9 (co.1 1 j)) (co.2.1 10 (co.1 1 j)) (co.2.1 11 (co.1 1 j)) (co.2.1 12 (co.1 1 j)) (co.2.1 13 (co.1 1 j)) (co.2.1 14 (co.1 1 j)) (co.2.1 15 (co.1 1 j)) (co.2.2.1 2 (co.1 1 j)) hC2a false) (cwV 1 hts (al_gV wd_181 wd_182 wd_183 wd_6 wd_184) rfl rfl rfl (by decide +kernel) ⟨Nat.le_of_ble_eq_true rfl, Nat.le_of_ble_eq_true rfl⟩) ⟨ct_blM, hp_recv hK hP (ci := 2) rfl hS1.2.1 hS1a, ct_atM hP hK hD⟩ rfl rfl hl.1 rfl (lv_room (Nat.le_of_ble_eq_true rfl)) dX3_tick_68 ⟨Nat.le_of_ble_eq_true rfl, Nat.le_of_ble_eq_true rfl⟩) hS (fun q _ h => hFc q h) hFc (fun u68 t H1 locs ht hvm hr68 hB hz1 hk1 hS => ?_)
              obtain ⟨hP, -, hD1⟩ := hB
              rw [ht] at hP
              have hD := hD1.weaken (fun _ _ _ h => hFc _ h)
              clear hD1 hk1 hz1 hFc hvm
              generalize H1 = H at hP hS ht ⊢
              clear ht
              refine W.widen (k := 0) (n := 0) (by decide) (by decide) ?_
              subst hr68
              have hP : va_P (dC, dI) vwCl (xc_W Q cA σ4 ++ va_pl L (va_up (va_up f (ad.2.2.2 j) (.inr (2, [.ref (ad.2.2.1 (co.1 1 j)), .int (co.2.1 17 j), .int 0]))) (ad.2.2.1 (co.1 1 j)) (.inr (0, [.int (nI ((co.1 1 j) + 1)), .int (co.2.1 6 (co.1 1 j)), .ref (ad.1 (co.1 0 (co.1 1 j))), .int (co.2.1 7 (co.1 1 j)), .int (co.2.1 8 (co.1 1 j)), .int (co.2.1 9 (co.1 1 j)), .int (co.2.1 10 (co.1 1 j)), .int (co.2.1 11 (co.1 1 j)), .int ((co.2.1 12 (co.1 1 j)) - 1), .int (if false then 1 else (co.2.1 13 (co.1 1 j))), .int (co.2.1 14 (co.1 1 j)), .int (co.2.1 15 (co.1 1 j)), .long (co.2.2.1 2 (co.1 1 j))])))) H := hP
              have hD : va_D A (xc_W Q cA σ4 ++ va_pl L (va_up (va_up f (ad.2.2.2 j) (.inr (2, [.ref (ad.2.2.1 (co.1 1 j)), .int (co.2.1 17 j), .int 0]))) (ad.2.2.1 (co.1 1 j)) (.inr (0, [.int (nI ((co.1 1 j) + 1)), .int (co.2.1 6 (co.1 1 j)), .ref (ad.1 (co.1 0 (co.1 1 j))), .int (co.2.1 7 (co.1 1 j)), .int (co.2.1 8 (co.1 1 j)), .int (co.2.1 9 (co.1 1 j)), .int (co.2.1 10 (co.1 1 j)), .int (co.2.1 11 (co.1 1 j)), .int ((co.2.1 12 (co.1 1 j)) - 1), .int (if false then 1 else (co.2.1 13 (co.1 1 j))), .int (co.2.1 14 (co.1 1 j)), .int (co.2.1 15 (co.1 1 j)), .long (co.2.2.1 2 (co.1 1 j))])))) := hD
              obtain ⟨f_1, ef_1⟩ : ∃ y9, y9 = va_up f (ad.2.2.2 j) (.inr (2, [.ref (ad.2.2.1 (co.1 1 j)), .int (co.2.1 17 j), .int 0])) := ⟨_, rfl⟩
              rw [← ef_1] at hP hD
              have hf_1_ad221co11j : f_1 (ad.2.2.1 (co.1 1 j)) = .inr (0, [.int (nI ((co.1 1 j) + 1)), .int (co.2.1 6 (co.1 1 j)), .ref (ad.1 (co.1 0 (co.1 1 j))), .int (co.2.1 7 (co.1 1 j)), .int (co.2.1 8 (co.1 1 j)), .int (co.2.1 9 (co.1 1 j)), .int (co.2.1 10 (co.1 1 j)), .int (co.2.1 11 (co.1 1 j)), .int (co.2.1 12 (co.1 1 j)), .int (co.2.1 13 (co.1 1 j)), .int (co.2.1 14 (co.1 1 j)), .int (co.2.1 15 (co.1 1 j)), .long (co.2.2.1 2 (co.1 1 j))]) := by rw [ef_1, va_up_ne _ _ (ct_ne hC2a hS1a (by simp))]; exact hC2a
              have hf_1_ad1co10co11j : f_1 (ad.1 (co.1 0 (co.1 1 j))) = .inr (1, [.int (co.2.1 0 (co.1 0 (co.1 1 j))), .long (co.2.2.1 0 (co.1 0 (co.1 1 j))), .long (co.2.2.1 1 (co.1 0 (co.1 1 j))), .int (co.2.1 1 (co.1 0 (co.1 1 j))), .int (co.2.1 2 (co.1 0 (co.1 1 j))), .ref (ad.2.1 (co.1 0 (co.1 1 j))), .int (co.2.1 3 (co.1 0 (co.1 1 j))), .int (co.2.1 4 (co.1 0 (co.1 1 j))), .int (co.2.1 5 (co.1 0 (co.1 1 j)))]) := by rw [ef_1, va_up_ne _ _ (ct_ne hI3a hS1a (by simp))]; exact hI3a
              have hf_1_ad21co10co11j : f_1 (ad.2.1 (co.1 0 (co.1 1 j))) = .inl ((cA 0), 8, .inl (co.2.2.2 (co.1 0 (co.1 1 j)))) := by rw [ef_1, va_up_ne _ _ (ct_ne hI3p hS1a (by simp))]; exact hI3p
              have hf_1_ad222j : f_1 (ad.2.2.2 j) = .inr (2, [.ref (ad.2.2.1 (co.1 1 j)), .int (co.2.1 17 j), .int 0]) := by rw [ef_1]; exact va_up_self _ _ _
              obtain ⟨f_2, ef_2⟩ : ∃ y9, y9 = va_up f_1 (ad.2.2.1 (co.1 1 j)) (.inr (0, [.int (nI ((co.1 1 j) + 1)), .int (co.2.1 6 (co.1 1 j)), .ref (ad.1 (co.1 0 (co.1 1 j))), .int (co.2.1 7 (co.1 1 j)), .int (co.2.1 8 (co.1 1 j)), .int (co.2.1 9 (co.1 1 j)), .int (co.2.1 10 (co.1 1 j)), .int (co.2.1 11 (co.1 1 j)), .int ((co.2.1 12 (co.1 1 j)) - 1), .int (if false then 1 else (co.2.1 13 (co.1 1 j))), .int (co.2.1 14 (co.1 1 j)), .int (co.2.1 15 (co.1 1 j)), .long (co.2.2.1 2 (co.1 1 j))])) := ⟨_, rfl⟩
              rw [← ef_2] at hP hD
              have hf_2_ad222j : f_2 (ad.2.2.2 j) = .inr (2, [.ref (ad.2.2.1 (co.1 1 j)), .int (co.2.1 17 j), .int 0]) := by rw [ef_2, va_up_ne _ _ (ct_ne hf_1_ad222j hf_1_ad221co11j (by simp))]; exact hf_1_ad222j
              have hf_2_ad1co10co11j : f_2 (ad.1 (co.1 0 (co.1 1 j))) = .inr (1, [.int (co.2.1 0 (co.1 0 (co.1 1 j))), .long (co.2.2.1 0 (co.1 0 (co.1 1 j))), .long (co.2.2.1 1 (co.1 0 (co.1 1 j))), .int (co.2.1 1 (co.1 0 (co.1 1 j))), .int (co.2.1 2 (co.1 0 (co.1 1 j))), .ref (ad.2.1 (co.1 0 (co.1 1 j))), .int (co.2.1 3 (co.1 0 (co.1 1 j))), .int (co.2.1 4 (co.1 0 (co.1 1 j))), .int (co.2.1 5 (co.1 0 (co.1 1 j)))]) := by rw [ef_2, va_up_ne _ _ (ct_ne hf_1_ad1co10co11j hf_1_ad221co11j (by simp))]; exact hf_1_ad1co10co11j
              have hf_2_ad21co10co11j : f_2 (ad.2.1 (co.1 0 (co.1 1 j))) = .inl ((cA 0), 8, .inl (co.2.2.2 (co.1 0 (co.1 1 j)))) := by rw [ef_2, va_up_ne _ _ (ct_ne hf_1_ad21co10co11j hf_1_ad221co11j (by simp))]; exact hf_1_ad21co10co11j
              have hf_2_ad221co11j : f_2 (ad.2.2.1 (co.1 1 j)) = .inr (0, [.int (nI ((co.1 1 j) + 1)), .int (co.2.1 6 (co.1 1 j)), .ref (ad.1 (co.1 0 (co.1 1 j))), .int (co.2.1 7 (co.1 1 j)), .int (co.2.1 8 (co.1 1 j)), .int (co.2.1 9 (co.1 1 j)), .int (co.2.1 10 (co.1 1 j)), .int (co.2.1 11 (co.1 1 j)), .int ((co.2.1 12 (co.1 1 j)) - 1), .int (if false then 1 else (co.2.1 13 (co.1 1 j))), .int (co.2.1 14 (co.1 1 j)), .int (co.2.1 15 (co.1 1 j)), .long (co.2.2.1 2 (co.1 1 j))]) := by rw [ef_2]; exact va_up_self _ _ _
              refine lv_iinc (v := (cn + 1)) (lv' := [(2, .int (cn + 1)), (4, .ref (ad.2.2.2 j)), (0, .ref (Q 0)), (1, .int x1), (3, .int (nI (j + 1)))]) hx hb dX3_tick_71 hl (k := 3) rfl rfl (by decide) rfl (fun ls hl => ?_)
              refine lv_iinc (v := ((nI (j + 1)) + 1)) (lv' := [(3, .int ((nI (j + 1)) + 1)), (2, .int (cn + 1)), (4, .ref (ad.2.2.2 j)), (0, .ref (Q 0)), (1, .int x1)]) hx hb dX3_tick_74 hl (k := 4) rfl rfl (by decide) rfl (fun ls hl => ?_)
              refine lv_goto (tgt := 28) hx hb dX3_tick_77 (by decide) ?_
              have hR5 : re_A cA σ4 n (cs_co co j false) L f_2 ad := by rw [ef_2, ef_1]; exact re_close hR hj38 rfl rfl
              exact ih (cn + 1, cs_co co j false, f_2) H locs ls ⟨lv_sub hl [3, 4, 1, 0] (by rw [nI_succ (j + 1)]; rfl), hR5, by rw [hin, show n.2.2.1 - j = (n.2.2.1 - (j + 1)) + 1 by omega, ti_co, if_pos ⟨c53, Int32.not_le.mp c62⟩], hP, hD, hS⟩
        · rw [hR.1.2.2.2.2.1, nu_s hj (by have := hR.1.2.2.2.2.2.1; omega)] at hm38; cases hm38
    · clear hR4 hP hD hS hl
      obtain ⟨cn, co, f⟩ := u
      obtain ⟨hl, hR, hin, hP, hD, hS⟩ := hin
      dsimp only at hl hR hin hP hD
      refine lv_iload_n hx hb dX3_tick_28 rfl (lv_at hl 3 rfl) ?_
      refine lv_aload_n hx hb dX3_tick_29 rfl (lv_at hl 0 rfl) ?_
      refine va_get (D := (dC, dI)) (ci := 3) (v := .int (σ4.1 2)) (C := RX3) (T := TX3) (N := 16) hx hb hts in0 hown hK hP 0 (xc_W_0 _ _) rfl 5 (by decide) lk2 (fun _ h9 => h9) rfl dX3_tick_30 ?_
      refine lv_icmp_gt (tgt := 80) hx hb dX3_tick_33 (by decide) (fun c33 => ?_) (fun c33 => ?_)
      · refine lv_iload_n hx hb dX3_tick_80 rfl (lv_at hl 2 rfl) ?_
        exact W.iret (v := cn) hx hb hr (fun t ht hW => ⟨⟨cn, (σ4, co), rfl, (hpost _ _ (by rw [hin, Nat.sub_self, ti_co])), σ4.2.2.2.2, n, L, f, ad, Nat.le_succ _, hR, by rw [ht]; exact hP, va_K.moved hW.alike hK, hD⟩, hS.F ht⟩) hS.2.2 dX3_tick_81
      · exact absurd (by rw [hR.1.2.2.2.2.1]; exact nI_lt (by omega) (by have := hR.1.2.2.2.2.2.1; omega)) c33
  · have c13 := of_decide_eq_false (bb_0.mp c13)
    refine lv_bipush (v := (-102)) hx hb dX3_tick_16 (by decide) ?_
    exact W.iret (v := (-102)) hx hb hr (fun t ht hW => ⟨⟨(-102), (σ, co), rfl, (by simp only [kc_tick, if_neg c13]), σ.2.2.2.2, n, L, f, ad, Nat.le_succ _, hR, by rw [ht]; exact hP, va_K.moved hW.alike hK, hD⟩, hS.F ht⟩) hS.2.2 dX3_tick_18
end
section
/-! The table of the proofs that a kind needs: a static array, reached from a nest mate. -/
def nd_t (j : Nat) : Int32 := if j = 0 then 1 else if j = 1 then 3 else if j = 2 then 5 else 13
theorem nd_ne {x : Int32} (h : 0 ≤ x ∧ x < 4) : nd_t x.toNatClampNeg = ne_ed x := by
  obtain ⟨v, hv, rfl⟩ := nu_4 h
  exact (show ∀ v, v < 4 → nd_t (nI v).toNatClampNeg = ne_ed (nI v) by decide +kernel) v hv
def sx_Z (tN : Nat) (A : Nat → Prop) (U : State) : Prop := va_Nw (.methodLinkNest RX0 35 yX3_isBelow "ClaimRows") U ∧ va_Nw (.fieldLinkNest RX0 31 "ClaimRows" "NEEDED" "[I" "ClaimRows") U ∧ va_Z "ClaimRows" "NEEDED" "[I" (.ref tN) A U U.heap ∧ va_T .int tN 4 (fun j => .int (nd_t j)) A U U.heap
theorem sx_bl {D : va_G} {cl : List vw_C} {tys : List (ClassId × FieldType)} {w : va_W} {sz tN : Nat} {av : List Value} : FrameBlind (va_Pc av (fun U => ct_M D cl tys w sz U ∧ sx_Z tN (va_A w sz) U)) := fun a U g mk q =>
  ⟨q.1, ⟨q.2.1.1, q.2.1.2.1, va_K.moved (u := U) (U := U.calling g mk a) (Vm.Alike.refl U.vm) q.2.1.2.2.1, q.2.1.2.2.2⟩, va_Nw.same (u := U) (U := U.calling g mk a) rfl rfl q.2.2.1, va_Nw.same (u := U) (U := U.calling g mk a) rfl rfl q.2.2.2.1, va_Z.moved (u := U) (U := U.calling g mk a) (Vm.Alike.refl U.vm) q.2.2.2.2.1, va_T.moved (u := U) (U := U.calling g mk a) (Vm.Alike.refl U.vm) q.2.2.2.2.2⟩
theorem sx_at {D : va_G} {cl : List vw_C} {tys : List (ClassId × FieldType)} {w : va_W} {A : Nat → Prop} {s : State} {H : Heap} {locs : List Loc} {tN : Nat} {av : List Value} (hP : va_P D cl w H) (hK : va_K D cl tys s) (hD : va_D A w) (hS : va_S A s.heap H locs) (hA : ∀ q, s.heap.size ≤ q → A q)
    (h1 : va_Nw (.methodLinkNest RX0 35 yX3_isBelow "ClaimRows") s) (h2 : va_Nw (.fieldLinkNest RX0 31 "ClaimRows" "NEEDED" "[I" "ClaimRows") s) (hZ : va_Z "ClaimRows" "NEEDED" "[I" (.ref tN) A s s.heap) (hT : va_T .int tN 4 (fun j => .int (nd_t j)) A s s.heap) :
    ∀ U : State, U.heap = H → s.WarmedH U.vm → va_Pc av (fun U => ct_M D cl tys w H.size U ∧ sx_Z tN (va_A w H.size) U) av.toArray U := fun U hU hW => by
  have hF := ct_free hD hS hA
  have hz : va_Z "ClaimRows" "NEEDED" "[I" (.ref tN) (va_A w H.size) U H := ((hZ.kept hS.2.1).narrow hF).moved hW.alike
  have ht : va_T .int tN 4 (fun j => .int (nd_t j)) (va_A w H.size) U H := ((hT.kept hS.2.1).narrow hF).moved hW.alike
  subst hU
  exact ⟨rfl, ⟨rfl, hP, va_K.moved hW.alike hK, hD.weaken (fun _ _ _ _ => trivial)⟩, va_Nw.warmM hW h1, va_Nw.warmF hW h2, hz, ht⟩
theorem nc_ce {co : co_T} {m i a : Nat} {c x kd ea : Int32} (hc : c = nI m) (hx : x = nI (i + 1)) : (Sum.inr (0, [.int (c + 1), .int x, .ref a, .int kd, .int ea, .int 0, .int (ne_ed kd), .int 0, .int 0, .int 0, .int 0, .int 0, .long 0]) : va_E) = ce_C (nc_co co m i (nI (i + 1)) kd ea).2.1 (nc_co co m i (nI (i + 1)) kd ea).2.2.1 m a := by
  rw [hc, hx, nI_1]
  simp [ce_C, nc_co, up_2, va_up]
/-- a new object's state -/
def xs_0 : xs_T := (fun _ => 0, fun _ => 0, fun _ _ => 0, fun _ _ => 0, fun _ _ => none)
theorem sn_ar (σ : xs_T) (k : Nat) (v : Nat → Option Nat) (y x z : Int32) : se_nd (xs_i (xs_ar σ k v) 1 y) x z = xs_r (se_nd (xs_i σ 1 y) x z) (va_up σ.2.2.2.2 k v) := by
  unfold se_nd
  by_cases h : (xs_i σ 1 y).1 3 < 200
  · rw [if_pos h, if_pos (show (xs_i (xs_ar σ k v) 1 y).1 3 < 200 from h)]; rfl
  · rw [if_neg h, if_neg (show ¬ (xs_i (xs_ar σ k v) 1 y).1 3 < 200 from h)]; rfl
end
section
set_option maxHeartbeats 4000000 in
set_option maxRecDepth 100000 in
/-- mt_Claim_init -/
theorem mt_Claim_init (l : Launch) (dC : Nat → ClassId) (dI : Nat → Nat → Nat) (cA : Nat → ClassId) (sz : Nat) (X : va_W) (L : List Nat) (f : Nat → va_E) (tN : Nat) (a : Nat) (ha : a ∈ L) (hf : f a = .inr (0, [.int 0, .int 0, .null, .int 0, .int 0, .int 0, .int 0, .int 0, .int 0, .int 0, .int 0, .int 0, .long 0])) (x1 x2 : Int32) (x3 : Nat) (x4 x5 : Int32) (hx4 : 0 ≤ x4 ∧ x4 < 4) : Met l yX0_init wsX0_init ({ frames := 1, cells := 0, slots := 0, locals := 21 }) (va_Pc [.ref a, .int x1, .int x2, .ref x3, .int x4, .int x5] (fun U => ct_M (dC, dI) vwCl (ty_K cA) (X ++ va_pl L f) sz U ∧ sx_Z tN (va_A (X ++ va_pl L f) sz) U)) (va_Qv (fun u => u = (L, va_up f a (.inr (0, [.int x1, .int x2, .ref x3, .int x4, .int x5, .int 0, .int (ne_ed x4), .int 0, .int 0, .int 0, .int 0, .int 0, .long 0])))) (fun u t => ct_B (dC, dI) vwCl (ty_K cA) (va_A (X ++ va_pl L f) sz) (X ++ va_pl u.1 u.2) t) (va_A (X ++ va_pl L f) sz)) 0 0 (va_A (X ++ va_pl L f) sz) := by
  refine Met.ofW (cc := cX0_init) (maxL := 6) (ret := none) (by decide) rfl ?_
  intro p e s m args below meth c s₁ B hml hv
  obtain ⟨rfl, ⟨hsz, hP, hK, hD0⟩, hN1, hN2, hZ, hTN⟩ := hv
  have hx := B.exec
  have hb := B.bytes
  have hr := B.returns
  have hts := atoms_spec (ws := wsX0_init) B.pre
  have hown : s.vm.findClass RX0 = some m.cls := findClass_of_methodNamed B.named
  have hlocks := B.notSynchronized
  have hin : meth.name = "<init>" := (name_of_methodNamed B.named B.method).1
  subst hsz
  have hD := hD0.self (sz := s.heap.size)
  generalize hAe : va_A (X ++ va_pl L f) s.heap.size = A at hD hZ hTN ⊢
  have hA : ∀ q : Nat, s.heap.size ≤ q → A q := fun q h => by rw [← hAe]; exact Or.inr h
  clear hAe hD0
  have hS : va_S A s.heap s.heap [] := va_S.rf
  have hl := lv_entry ([.ref a, .int x1, .int x2, .ref x3, .int x4, .int x5]) (n := 6) (Nat.le_of_ble_eq_true rfl)
  rw [lg_entry_eq]
  generalize (lg_sl ([.ref a, .int x1, .int x2, .ref x3, .int x4, .int x5]) ++ List.replicate (6 - (lg_sl ([.ref a, .int x1, .int x2, .ref x3, .int x4, .int x5])).length) Slot.unset).toArray = ls at hl ⊢
  have hl : lv_has ls 6 [(0, .ref a), (1, .int x1), (2, .int x2), (3, .ref x3), (4, .int x4), (5, .int x5)] := hl
  have lk0 := hts (.methodLink RX0 3 objectInit) (List.mem_cons_of_mem _ wd_117)
  have lk1 := hts (.instanceMethod objectInit) (List.mem_cons_of_mem _ wd_14)
  have lk2 := hts (.code objectInit ⟨#[0xb1]⟩ 1 none) (List.mem_cons_of_mem _ wd_15)
  have lk3 := hts (.fieldLink RX0 9 "ClaimRows$Claim" "state" "I") (List.mem_cons_of_mem _ wd_128)
  have lk4 := hts (.fieldLink RX0 15 "ClaimRows$Claim" "number" "I") (List.mem_cons_of_mem _ wd_118)
  have lk5 := hts (.fieldLink RX0 18 "ClaimRows$Claim" "itemNumber" "I") (List.mem_cons_of_mem _ wd_120)
  have lk6 := hts (.fieldLink RX0 21 "ClaimRows$Claim" "item" "LClaimRows$Item;") (List.mem_cons_of_mem _ wd_122)
  have lk7 := hts (.fieldLink RX0 25 "ClaimRows$Claim" "kind" "I") (List.mem_cons_of_mem _ wd_124)
  have lk8 := hts (.fieldLink RX0 28 "ClaimRows$Claim" "earlier" "I") (List.mem_cons_of_mem _ wd_126)
  have lk9 := hts (.initialized RX3) (List.mem_cons_of_mem _ wd_1)
  have lk10 := hts (.static yX3_isBelow) (List.mem_cons_of_mem _ wd_42)
  have lk11 := hts (.fieldLink RX0 39 "ClaimRows$Claim" "lacking" "I") (List.mem_cons_of_mem _ wd_130)
  have in0 : ∀ w ∈ u_ws RX0 TX0 13, w ∈ wsX0_init := fun w h => List.mem_cons_of_mem _ (wu_X0 w h)
  refine lv_aload_n hx hb dX0_init_0 rfl (lv_at hl 0 rfl) ?_
  refine W.objInit hx hb hown lk0 lk1 lk2 rfl (by rw [hml]; exact hl.1) rfl dX0_init_1 (Nat.le_of_ble_eq_true rfl) (Nat.le_of_ble_eq_true rfl) ?_
  refine W.eq (g2 := F0 m 4 ls []) rfl ?_
  refine lv_aload_n hx hb dX0_init_4 rfl (lv_at hl 0 rfl) ?_
  refine lv_iconst (v := 0) hx hb dX0_init_5 (by decide) ?_
  refine hp_put (D := (dC, dI)) (ci := 0) (v := .int 0) (ty := .int) (C := RX0) (T := TX0) (N := 13) hx hb hts in0 tyX0 tyX0_ok nmX0 hown hK hP hD hS ha hf rfl 5 (by decide) lk3 (fun _ h9 => h9) rfl (by decide +kernel) rfl rfl (Nat.le_of_ble_eq_true rfl) dX0_init_6 (fs' := [.int 0, .int 0, .null, .int 0, .int 0, .int 0, .int 0, .int 0, .int 0, .int 0, .int 0, .int 0, .long 0]) rfl (fun H locs hP hD hS => ?_)
  obtain ⟨f_1, ef_1⟩ : ∃ y9, y9 = va_up f a (.inr (0, [.int 0, .int 0, .null, .int 0, .int 0, .int 0, .int 0, .int 0, .int 0, .int 0, .int 0, .int 0, .long 0])) := ⟨_, rfl⟩
  rw [← ef_1] at hP hD
  have hf_1_a : f_1 a = .inr (0, [.int 0, .int 0, .null, .int 0, .int 0, .int 0, .int 0, .int 0, .int 0, .int 0, .int 0, .int 0, .long 0]) := by rw [ef_1]; exact va_up_self _ _ _
  refine lv_aload_n hx hb dX0_init_9 rfl (lv_at hl 0 rfl) ?_
  refine lv_iload_n hx hb dX0_init_10 rfl (lv_at hl 1 rfl) ?_
  refine hp_putF (D := (dC, dI)) (ci := 0) (v := .int x1) (ty := .int) (C := RX0) (T := TX0) (N := 13) hx hb hts in0 tyX0 tyX0_ok nmX0 hown hK hP hD hS ha hf_1_a rfl 0 (by decide) lk4 (fun _ h9 => h9) rfl hin rfl (by decide +kernel) rfl rfl (Nat.le_of_ble_eq_true rfl) dX0_init_11 (fs' := [.int x1, .int 0, .null, .int 0, .int 0, .int 0, .int 0, .int 0, .int 0, .int 0, .int 0, .int 0, .long 0]) rfl (fun H locs hP hD hS => ?_)
  obtain ⟨f_2, ef_2⟩ : ∃ y9, y9 = va_up f_1 a (.inr (0, [.int x1, .int 0, .null, .int 0, .int 0, .int 0, .int 0, .int 0, .int 0, .int 0, .int 0, .int 0, .long 0])) := ⟨_, rfl⟩
  rw [← ef_2] at hP hD
  have hf_2_a : f_2 a = .inr (0, [.int x1, .int 0, .null, .int 0, .int 0, .int 0, .int 0, .int 0, .int 0, .int 0, .int 0, .int 0, .long 0]) := by rw [ef_2]; exact va_up_self _ _ _
  refine lv_aload_n hx hb dX0_init_14 rfl (lv_at hl 0 rfl) ?_
  refine lv_iload_n hx hb dX0_init_15 rfl (lv_at hl 2 rfl) ?_
  refine hp_putF (D := (dC, dI)) (ci := 0) (v := .int x2) (ty := .int) (C := RX0) (T := TX0) (N := 13) hx hb hts in0 tyX0 tyX0_ok nmX0 hown hK hP hD hS ha hf_2_a rfl 1 (by decide) lk5 (fun _ h9 => h9) rfl hin rfl (by decide +kernel) rfl rfl (Nat.le_of_ble_eq_true rfl) dX0_init_16 (fs' := [.int x1, .int x2, .null, .int 0, .int 0, .int 0, .int 0, .int 0, .int 0, .int 0, .int 0, .int 0, .long 0]) rfl (fun H locs hP hD hS => ?_)
  obtain ⟨f_3, ef_3⟩ : ∃ y9, y9 = va_up f_2 a (.inr (0, [.int x1, .int x2, .null, .int 0, .int 0, .int 0, .int 0, .int 0, .int 0, .int 0, .int 0, .int 0, .long 0])) := ⟨_, rfl⟩
  rw [← ef_3] at hP hD
  have hf_3_a : f_3 a = .inr (0, [.int x1, .int x2, .null, .int 0, .int 0, .int 0, .int 0, .int 0, .int 0, .int 0, .int 0, .int 0, .long 0]) := by rw [ef_3]; exact va_up_self _ _ _
  refine lv_aload_n hx hb dX0_init_19 rfl (lv_at hl 0 rfl) ?_
  refine lv_aload_n hx hb dX0_init_20 rfl (lv_at hl 3 rfl) ?_
  refine hp_putF (D := (dC, dI)) (ci := 0) (v := .ref x3) (ty := .object "ClaimRows$Item") (C := RX0) (T := TX0) (N := 13) hx hb hts in0 tyX0 tyX0_ok nmX0 hown hK hP hD hS ha hf_3_a rfl 2 (by decide) lk6 (fun _ h9 => h9) rfl hin rfl (by decide +kernel) rfl rfl (Nat.le_of_ble_eq_true rfl) dX0_init_21 (fs' := [.int x1, .int x2, .ref x3, .int 0, .int 0, .int 0, .int 0, .int 0, .int 0, .int 0, .int 0, .int 0, .long 0]) rfl (fun H locs hP hD hS => ?_)
  obtain ⟨f_4, ef_4⟩ : ∃ y9, y9 = va_up f_3 a (.inr (0, [.int x1, .int x2, .ref x3, .int 0, .int 0, .int 0, .int 0, .int 0, .int 0, .int 0, .int 0, .int 0, .long 0])) := ⟨_, rfl⟩
  rw [← ef_4] at hP hD
  have hf_4_a : f_4 a = .inr (0, [.int x1, .int x2, .ref x3, .int 0, .int 0, .int 0, .int 0, .int 0, .int 0, .int 0, .int 0, .int 0, .long 0]) := by rw [ef_4]; exact va_up_self _ _ _
  refine lv_aload_n hx hb dX0_init_24 rfl (lv_at hl 0 rfl) ?_
  refine lv_iload hx hb dX0_init_25 (lv_at hl 4 rfl) ?_
  refine hp_putF (D := (dC, dI)) (ci := 0) (v := .int x4) (ty := .int) (C := RX0) (T := TX0) (N := 13) hx hb hts in0 tyX0 tyX0_ok nmX0 hown hK hP hD hS ha hf_4_a rfl 3 (by decide) lk7 (fun _ h9 => h9) rfl hin rfl (by decide +kernel) rfl rfl (Nat.le_of_ble_eq_true rfl) dX0_init_27 (fs' := [.int x1, .int x2, .ref x3, .int x4, .int 0, .int 0, .int 0, .int 0, .int 0, .int 0, .int 0, .int 0, .long 0]) rfl (fun H locs hP hD hS => ?_)
  obtain ⟨f_5, ef_5⟩ : ∃ y9, y9 = va_up f_4 a (.inr (0, [.int x1, .int x2, .ref x3, .int x4, .int 0, .int 0, .int 0, .int 0, .int 0, .int 0, .int 0, .int 0, .long 0])) := ⟨_, rfl⟩
  rw [← ef_5] at hP hD
  have hf_5_a : f_5 a = .inr (0, [.int x1, .int x2, .ref x3, .int x4, .int 0, .int 0, .int 0, .int 0, .int 0, .int 0, .int 0, .int 0, .long 0]) := by rw [ef_5]; exact va_up_self _ _ _
  refine lv_aload_n hx hb dX0_init_30 rfl (lv_at hl 0 rfl) ?_
  refine lv_iload hx hb dX0_init_31 (lv_at hl 5 rfl) ?_
  refine hp_putF (D := (dC, dI)) (ci := 0) (v := .int x5) (ty := .int) (C := RX0) (T := TX0) (N := 13) hx hb hts in0 tyX0 tyX0_ok nmX0 hown hK hP hD hS ha hf_5_a rfl 4 (by decide) lk8 (fun _ h9 => h9) rfl hin rfl (by decide +kernel) rfl rfl (Nat.le_of_ble_eq_true rfl) dX0_init_33 (fs' := [.int x1, .int x2, .ref x3, .int x4, .int x5, .int 0, .int 0, .int 0, .int 0, .int 0, .int 0, .int 0, .long 0]) rfl (fun H locs hP hD hS => ?_)
  obtain ⟨f_6, ef_6⟩ : ∃ y9, y9 = va_up f_5 a (.inr (0, [.int x1, .int x2, .ref x3, .int x4, .int x5, .int 0, .int 0, .int 0, .int 0, .int 0, .int 0, .int 0, .long 0])) := ⟨_, rfl⟩
  rw [← ef_6] at hP hD
  have hf_6_a : f_6 a = .inr (0, [.int x1, .int x2, .ref x3, .int x4, .int x5, .int 0, .int 0, .int 0, .int 0, .int 0, .int 0, .int 0, .long 0]) := by rw [ef_6]; exact va_up_self _ _ _
  refine lv_aload_n hx hb dX0_init_36 rfl (lv_at hl 0 rfl) ?_
  refine lv_iload hx hb dX0_init_37 (lv_at hl 4 rfl) ?_
  refine va_getsN hx hb hZ hS hown (va_Nw.use rfl hN2) (fun _ h9 => h9) dX0_init_39 ?_
  refine va_tlen (v := 4) hx hb hTN hS rfl dX0_init_42 ?_
  refine vp_callSi (va_Run.run (va_runSN (As := [.int x4, .int 4]) (rest := [.ref a]) ⟨hx, hb, hml, hown, hts⟩ (mt_isBelow l x4 4) ⟨va_cnB 2 hts (al_g wd_43) rfl rfl rfl hN1 lk9 (by decide +kernel) ⟨Nat.le_of_ble_eq_true rfl, Nat.le_of_ble_eq_true rfl⟩, lk10, trivial⟩ ⟨ct_bl0, ct_at0⟩ rfl rfl hl.1 rfl (lv_room (Nat.le_of_ble_eq_true rfl)) dX0_init_43 ⟨Nat.le_of_ble_eq_true rfl, Nat.le_of_ble_eq_true rfl⟩)) (fun r43 hr43 => ?_)
  subst hr43
  refine lv_if_eq (tgt := 58) hx hb dX0_init_46 (by decide) (fun c46 => ?_) (fun c46 => ?_)
  · exact absurd hx4 (of_decide_eq_false (bb_0.mp c46))
  · have c46 := of_decide_eq_true (bb_n.mp c46)
    refine va_getsN hx hb hZ hS hown (va_Nw.use rfl hN2) (fun _ h9 => h9) dX0_init_49 ?_
    refine lv_iload hx hb dX0_init_52 (lv_at hl 4 rfl) ?_
    refine va_ti hx hb hTN hS (nu_b (b := 4) hx4) rfl dX0_init_54 ?_
    refine lv_goto (tgt := 59) hx hb dX0_init_55 (by decide) ?_
    refine hp_put (D := (dC, dI)) (ci := 0) (v := .int (nd_t (x4).toNatClampNeg)) (ty := .int) (C := RX0) (T := TX0) (N := 13) hx hb hts in0 tyX0 tyX0_ok nmX0 hown hK hP hD hS ha hf_6_a rfl 6 (by decide) lk11 (fun _ h9 => h9) rfl (by decide +kernel) rfl rfl (Nat.le_of_ble_eq_true rfl) dX0_init_59 (fs' := [.int x1, .int x2, .ref x3, .int x4, .int x5, .int 0, .int (nd_t (x4).toNatClampNeg), .int 0, .int 0, .int 0, .int 0, .int 0, .long 0]) rfl (fun H locs hP hD hS => ?_)
    obtain ⟨f_7, ef_7⟩ : ∃ y9, y9 = va_up f_6 a (.inr (0, [.int x1, .int x2, .ref x3, .int x4, .int x5, .int 0, .int (nd_t (x4).toNatClampNeg), .int 0, .int 0, .int 0, .int 0, .int 0, .long 0])) := ⟨_, rfl⟩
    rw [← ef_7] at hP hD
    have hf_7_a : f_7 a = .inr (0, [.int x1, .int x2, .ref x3, .int x4, .int x5, .int 0, .int (nd_t (x4).toNatClampNeg), .int 0, .int 0, .int 0, .int 0, .int 0, .long 0]) := by rw [ef_7]; exact va_up_self _ _ _
    exact W.vret hx hb hr (fun t ht hW => ⟨⟨(L, f_7), rfl, (by rw [ef_7, ef_6, ef_5, ef_4, ef_3, ef_2, ef_1]; simp only [bx_uu, nd_ne hx4]), by rw [ht]; exact hP, va_K.moved hW.alike hK, hD⟩, hS.F ht⟩) hS.2.2 dX0_init_62
set_option maxHeartbeats 4000000 in
set_option maxRecDepth 100000 in
/-- mt_claim -/
theorem mt_claim (l : Launch) (dC : Nat → ClassId) (dI : Nat → Nat → Nat) (cA : Nat → ClassId) (sz : Nat) (Q : Nat → Nat) (σ : xs_T) (n : nn_T) (co : co_T) (L : List Nat) (f : Nat → va_E) (ad : ad_T) (hR : re_A cA σ n co L f ad) (hT : n.2.2.2 < 100000) (tN : Nat) (x1 x2 x3 x4 : Int32) : Met l yX3_claim wsX3_claim ({ frames := 3, cells := 1, slots := 13, locals := 70 }) (va_Pc [.ref (Q 0), .int x1, .int x2, .int x3, .int x4] (fun U => ct_M (dC, dI) vwCl (ty_K cA) (xc_W Q cA σ ++ va_pl L f) sz U ∧ sx_Z tN (va_A (xc_W Q cA σ ++ va_pl L f) sz) U)) (va_Qi (fun r u => (r, u) = kc_claim (σ, co) x1 x2 x3 x4) (fun u t => ∃ (ra : Nat → Nat → Option Nat) (n' : nn_T) (L' : List Nat) (f' : Nat → va_E) (ad' : ad_T), n'.2.2.2 ≤ n.2.2.2 + 1 ∧ re_A cA (xs_r u.1 ra) n' u.2 L' f' ad' ∧ ct_B (dC, dI) vwCl (ty_K cA) (va_A (xc_W Q cA σ ++ va_pl L f) sz) (xc_W Q cA (xs_r u.1 ra) ++ va_pl L' f') t) (va_A (xc_W Q cA σ ++ va_pl L f) sz)) 1 13 (va_A (xc_W Q cA σ ++ va_pl L f) sz) := by
  refine Met.ofW (cc := cX3_claim) (maxL := 7) (ret := (some .int)) (by decide) rfl ?_
  intro p e s m args below meth c s₁ B hml hv
  obtain ⟨rfl, ⟨hsz, hP, hK, hD0⟩, hN1, hN2, hZ, hTN⟩ := hv
  have hx := B.exec
  have hb := B.bytes
  have hr := B.returns
  have hts := atoms_spec (ws := wsX3_claim) B.pre
  have hown : s.vm.findClass RX3 = some m.cls := findClass_of_methodNamed B.named
  have hlocks := B.notSynchronized
  subst hsz
  have hD := hD0.self (sz := s.heap.size)
  generalize hAe : va_A (xc_W Q cA σ ++ va_pl L f) s.heap.size = A at hD hZ hTN ⊢
  have hA : ∀ q : Nat, s.heap.size ≤ q → A q := fun q h => by rw [← hAe]; exact Or.inr h
  clear hAe hD0
  have hS : va_S A s.heap s.heap [] := va_S.rf
  have hl := lv_entry ([.ref (Q 0), .int x1, .int x2, .int x3, .int x4]) (n := 7) (Nat.le_of_ble_eq_true rfl)
  rw [lg_entry_eq]
  generalize (lg_sl ([.ref (Q 0), .int x1, .int x2, .int x3, .int x4]) ++ List.replicate (7 - (lg_sl ([.ref (Q 0), .int x1, .int x2, .int x3, .int x4])).length) Slot.unset).toArray = ls at hl ⊢
  have hl : lv_has ls 7 [(0, .ref (Q 0)), (1, .int x1), (2, .int x2), (3, .int x3), (4, .int x4)] := hl
  have lk0 := hts (.constantLong RX3 82 2) (List.mem_cons_of_mem _ wd_96)
  have lk1 := hts (.constantLong RX3 84 200000) (List.mem_cons_of_mem _ wd_97)
  have lk2 := hts (.fieldLink RX3 89 "ClaimRows$Item" "day" "I") (List.mem_cons_of_mem _ wd_64)
  have lk3 := hts (.fieldLink RX3 31 "ClaimRows" "tableDays" "[I") (List.mem_cons_of_mem _ wd_26)
  have lk4 := hts (.fieldLink RX3 92 "ClaimRows$Item" "service" "I") (List.mem_cons_of_mem _ wd_58)
  have lk5 := hts (.fieldLink RX3 99 "ClaimRows" "claimCount" "I") (List.mem_cons_of_mem _ wd_22)
  have lk6 := hts (.fieldLink RX3 102 "ClaimRows$Item" "sender" "I") (List.mem_cons_of_mem _ wd_66)
  have lk7 := hts (.fieldLink RX3 17 "ClaimRows" "claims" "[LClaimRows$Claim;") (List.mem_cons_of_mem _ wd_21)
  have lk8 := hts (.classLink RX3 15 RX0) (List.mem_cons_of_mem _ wd_17)
  have lk9 := hts (.instantiable RX0 13) (List.mem_cons_of_mem _ wd_113)
  have lk10 := hts (.initialized RX0) (List.mem_cons_of_mem _ wd_4)
  have lk11 := hts (.methodLink RX3 109 yX0_init) (List.mem_cons_of_mem _ wd_114)
  have lk12 := hts (.instanceMethod yX0_init) (List.mem_cons_of_mem _ wd_115)
  have in0 : ∀ w ∈ u_ws RX1 TX1 9, w ∈ wsX3_claim := fun w h => List.mem_cons_of_mem _ (wu_X1 w h)
  have in1 : ∀ w ∈ u_ws RX3 TX3 16, w ∈ wsX3_claim := fun w h => List.mem_cons_of_mem _ (wu_X3 w h)
  have in2 : ∀ w ∈ u_ws RX0 TX0 13, w ∈ wsX3_claim := fun w h => List.mem_cons_of_mem _ (wu_X0 w h)
  have hn0 : (σ.1 0).toNatClampNeg = n.1 := by rw [hR.1.1]; exact nI_clamp (by have := hR.1.2.1; omega)
  have hn1 : (σ.1 1).toNatClampNeg = n.2.1 := by rw [hR.1.2.2.1]; exact nI_clamp (by have := hR.1.2.2.2.1; omega)
  have hn2 : (σ.1 2).toNatClampNeg = n.2.2.1 := by rw [hR.1.2.2.2.2.1]; exact nI_clamp (by have := hR.1.2.2.2.2.2.1; omega)
  refine lv_aload_n hx hb dX3_claim_0 rfl (lv_at hl 0 rfl) ?_
  refine lv_iload_n hx hb dX3_claim_1 rfl (lv_at hl 1 rfl) ?_
  refine va_csq (va_Run.run (va_runV (As := [.int x1]) (rest := []) ⟨hx, hb, hml, hown, hts⟩ (mt_itemNumbered l dC dI cA Q σ n co L f ad hR x1) (cwV 1 hts (al_gV wd_76 wd_78 wd_77 wd_1 wd_79) rfl rfl rfl (by decide +kernel) ⟨Nat.le_of_ble_eq_true rfl, Nat.le_of_ble_eq_true rfl⟩) ⟨ct_blR, va_recv hK hP (ci := 3) (q0 := 0) rfl (xc_W_0 _ _), ct_atR hP hK⟩ rfl rfl hl.1 rfl (lv_room (Nat.le_of_ble_eq_true rfl)) dX3_claim_2 ⟨Nat.le_of_ble_eq_true rfl, Nat.le_of_ble_eq_true rfl⟩)) (fun r2 hr2 => ?_)
  rcases hr2 with ⟨j2, hj2, hm2, ex2, rfl⟩ | ⟨hm2, rfl⟩
  · have hI1 := hR.2.1 j2 hj2
    have hI1a : f (ad.1 j2) = .inr (1, [.int (co.2.1 0 j2), .long (co.2.2.1 0 j2), .long (co.2.2.1 1 j2), .int (co.2.1 1 j2), .int (co.2.1 2 j2), .ref (ad.2.1 j2), .int (co.2.1 3 j2), .int (co.2.1 4 j2), .int (co.2.1 5 j2)]) := hI1.2.2.1
    have hI1p : f (ad.2.1 j2) = .inl ((cA 0), 8, .inl (co.2.2.2 j2)) := hI1.2.2.2.2
    refine lv_astore (lv' := [(5, .ref (ad.1 j2)), (0, .ref (Q 0)), (1, .int x1), (2, .int x2), (3, .int x3), (4, .int x4)]) hx hb dX3_claim_5 hl (by decide) rfl (fun ls hl => ?_)
    refine lv_aload hx hb dX3_claim_7 (lv_at hl 0 rfl) ?_
    refine lv_ifnonnull (tgt := 15) hx hb dX3_claim_9 (by decide) ?_
    refine lv_iload_n hx hb dX3_claim_15 rfl (lv_at hl 3 rfl) ?_
    refine lv_iconst (v := 4) hx hb dX3_claim_16 (by decide) ?_
    refine vp_callSi (va_Run.run (va_runS (As := [.int x2, .int 4]) (rest := []) ⟨hx, hb, hml, hown, hts⟩ (mt_isBelow l x2 4) (va_cwS 2 hts (al_gS wd_41 wd_42 wd_1 wd_43) rfl rfl rfl (by decide +kernel) ⟨Nat.le_of_ble_eq_true rfl, Nat.le_of_ble_eq_true rfl⟩) ⟨ct_bl0, ct_at0⟩ rfl rfl hl.1 rfl (lv_room (Nat.le_of_ble_eq_true rfl)) dX3_claim_17 ⟨Nat.le_of_ble_eq_true rfl, Nat.le_of_ble_eq_true rfl⟩)) (fun r17 hr17 => ?_)
    subst hr17
    refine lv_if_eq (tgt := 48) hx hb dX3_claim_20 (by decide) (fun c20 => ?_) (fun c20 => ?_)
    · have c20 := of_decide_eq_false (bb_0.mp c20)
      refine lv_bipush (v := (-102)) hx hb dX3_claim_48 (by decide) ?_
      refine W.widen (k := 1) (n := 13) (by decide) (by decide) ?_
      exact W.iret (v := (-102)) hx hb hr (fun t ht hW => ⟨⟨(-102), (σ, co), rfl, (by simp only [kc_claim, hm2, if_neg c20, Option.elim, hn0, hn1, hn2]), σ.2.2.2.2, n, L, f, ad, Nat.le_succ _, hR, by rw [ht]; exact hP, va_K.moved hW.alike hK, hD⟩, hS.F ht⟩) hS.2.2 dX3_claim_50
    · have c20 := of_decide_eq_true (bb_n.mp c20)
      refine lv_iload_n hx hb dX3_claim_23 rfl (lv_at hl 4 rfl) ?_
      refine lv_i2l (v := (x3 : Int32).toInt64) hx hb dX3_claim_24 rfl ?_
      refine lv_lconst (v := 0) hx hb dX3_claim_25 (by decide) ?_
      refine lv_ldc2 hx hb hown lk0 dX3_claim_26 ?_
      refine vp_callSi (va_Run.run (va_runS (As := [.long ((x3 : Int32).toInt64), .long 0, .long 2]) (rest := []) ⟨hx, hb, hml, hown, hts⟩ (mt_isWithin l ((x3 : Int32).toInt64) 0 2) (va_cwS 3 hts (al_gS wd_48 wd_49 wd_1 wd_50) rfl rfl rfl (by decide +kernel) ⟨Nat.le_of_ble_eq_true rfl, Nat.le_of_ble_eq_true rfl⟩) ⟨ct_bl0, ct_at0⟩ rfl rfl hl.1 rfl (lv_room (Nat.le_of_ble_eq_true rfl)) dX3_claim_29 ⟨Nat.le_of_ble_eq_true rfl, Nat.le_of_ble_eq_true rfl⟩)) (fun r29 hr29 => ?_)
      subst hr29
      refine lv_if_eq (tgt := 48) hx hb dX3_claim_32 (by decide) (fun c32 => ?_) (fun c32 => ?_)
      · have c32 := of_decide_eq_false (bb_0.mp c32)
        refine lv_bipush (v := (-102)) hx hb dX3_claim_48 (by decide) ?_
        refine W.widen (k := 1) (n := 13) (by decide) (by decide) ?_
        exact W.iret (v := (-102)) hx hb hr (fun t ht hW => ⟨⟨(-102), (σ, co), rfl, (by simp only [kc_claim, hm2, if_pos c20, if_neg c32, Option.elim, hn0, hn1, hn2]), σ.2.2.2.2, n, L, f, ad, Nat.le_succ _, hR, by rw [ht]; exact hP, va_K.moved hW.alike hK, hD⟩, hS.F ht⟩) hS.2.2 dX3_claim_50
      · have c32 := of_decide_eq_true (bb_n.mp c32)
        refine lv_iload hx hb dX3_claim_35 (lv_at hl 5 rfl) ?_
        refine lv_i2l (v := (x4 : Int32).toInt64) hx hb dX3_claim_37 rfl ?_
        refine lv_lconst (v := 0) hx hb dX3_claim_38 (by decide) ?_
        refine lv_ldc2 hx hb hown lk1 dX3_claim_39 ?_
        refine vp_callSi (va_Run.run (va_runS (As := [.long ((x4 : Int32).toInt64), .long 0, .long 200000]) (rest := []) ⟨hx, hb, hml, hown, hts⟩ (mt_isWithin l ((x4 : Int32).toInt64) 0 200000) (va_cwS 3 hts (al_gS wd_48 wd_49 wd_1 wd_50) rfl rfl rfl (by decide +kernel) ⟨Nat.le_of_ble_eq_true rfl, Nat.le_of_ble_eq_true rfl⟩) ⟨ct_bl0, ct_at0⟩ rfl rfl hl.1 rfl (lv_room (Nat.le_of_ble_eq_true rfl)) dX3_claim_42 ⟨Nat.le_of_ble_eq_true rfl, Nat.le_of_ble_eq_true rfl⟩)) (fun r42 hr42 => ?_)
        subst hr42
        refine lv_if_ne (tgt := 51) hx hb dX3_claim_45 (by decide) (fun c45 => ?_) (fun c45 => ?_)
        · have c45 := of_decide_eq_true (bb_n.mp c45)
          refine lv_iload_n hx hb dX3_claim_51 rfl (lv_at hl 3 rfl) ?_
          refine lv_iload_n hx hb dX3_claim_52 rfl (lv_at hl 4 rfl) ?_
          refine vp_callSi (va_Run.run (va_runS (As := [.int x2, .int x3]) (rest := []) ⟨hx, hb, hml, hown, hts⟩ (mt_mayClaim l x2 x3) (va_cwS 2 hts (al_gS wd_98 wd_99 wd_1 wd_100) rfl rfl rfl (by decide +kernel) ⟨Nat.le_of_ble_eq_true rfl, Nat.le_of_ble_eq_true rfl⟩) ⟨ct_bl0, ct_at0⟩ rfl rfl hl.1 rfl (lv_room (Nat.le_of_ble_eq_true rfl)) dX3_claim_53 ⟨Nat.le_of_ble_eq_true rfl, Nat.le_of_ble_eq_true rfl⟩)) (fun r53 hr53 => ?_)
          subst hr53
          refine lv_if_ne (tgt := 62) hx hb dX3_claim_56 (by decide) (fun c56 => ?_) (fun c56 => ?_)
          · have c56 := of_decide_eq_true (bb_n.mp c56)
            refine lv_iload hx hb dX3_claim_62 (lv_at hl 5 rfl) ?_
            refine lv_aload hx hb dX3_claim_64 (lv_at hl 0 rfl) ?_
            refine hp_get (D := (dC, dI)) (ci := 1) (v := .int (co.2.1 1 j2)) (C := RX1) (T := TX1) (N := 9) hx hb hts in0 hown hK hP hI1.2.1 hI1a rfl 3 (by decide) lk2 (fun _ h9 => h9) rfl dX3_claim_66 ?_
            refine lv_aload_n hx hb dX3_claim_69 rfl (lv_at hl 1 rfl) ?_
            refine va_get (D := (dC, dI)) (ci := 3) (v := .ref (Q 5)) (C := RX3) (T := TX3) (N := 16) hx hb hts in1 hown hK hP 0 (xc_W_0 _ _) rfl 7 (by decide) lk3 (fun _ h9 => h9) rfl dX3_claim_70 ?_
            refine lv_aload hx hb dX3_claim_73 (lv_at hl 0 rfl) ?_
            refine hp_get (D := (dC, dI)) (ci := 1) (v := .int (co.2.1 0 j2)) (C := RX1) (T := TX1) (N := 9) hx hb hts in0 hown hK hP hI1.2.1 hI1a rfl 0 (by decide) lk4 (fun _ h9 => h9) rfl dX3_claim_75 ?_
            refine lv_iload_n hx hb dX3_claim_78 rfl (lv_at hl 3 rfl) ?_
            refine vp_callSi (va_Run.run (va_runS (As := [.int (co.2.1 0 j2), .int x2]) (rest := [.ref (Q 5), .int (co.2.1 1 j2), .int x4]) ⟨hx, hb, hml, hown, hts⟩ (mt_rowOf l (co.2.1 0 j2) x2) (va_cwS 2 hts (al_gS wd_89 wd_90 wd_1 wd_91) rfl rfl rfl (by decide +kernel) ⟨Nat.le_of_ble_eq_true rfl, Nat.le_of_ble_eq_true rfl⟩) ⟨ct_bl0, ct_at0⟩ rfl rfl hl.1 rfl (lv_room (Nat.le_of_ble_eq_true rfl)) dX3_claim_79 ⟨Nat.le_of_ble_eq_true rfl, Nat.le_of_ble_eq_true rfl⟩)) (fun r79 hr79 => ?_)
            subst hr79
            refine va_iald hx hb hK hP 5 0 (xc_W_5 _ _) rfl (rw_in (hR.2.2.2.2.1.1 j2 hj2).1 (nu_4 c20)) dX3_claim_82 ?_
            refine lv_iadd hx hb dX3_claim_83 ?_
            refine lv_icmp_le (tgt := 90) hx hb dX3_claim_84 (by decide) (fun c84 => ?_) (fun c84 => ?_)
            · refine lv_aload_n hx hb dX3_claim_90 rfl (lv_at hl 1 rfl) ?_
              refine lv_iload_n hx hb dX3_claim_91 rfl (lv_at hl 2 rfl) ?_
              refine lv_iload_n hx hb dX3_claim_92 rfl (lv_at hl 3 rfl) ?_
              refine va_csq (va_Run.run (va_runV (As := [.int x1, .int x2]) (rest := []) ⟨hx, hb, hml, hown, hts⟩ (mt_standingClaim l dC dI cA Q σ n co L f ad hR x1 x2) (cwV 2 hts (al_gV wd_101 wd_103 wd_102 wd_1 wd_104) rfl rfl rfl (by decide +kernel) ⟨Nat.le_of_ble_eq_true rfl, Nat.le_of_ble_eq_true rfl⟩) ⟨ct_blR, va_recv hK hP (ci := 3) (q0 := 0) rfl (xc_W_0 _ _), ct_atR hP hK⟩ rfl rfl hl.1 rfl (lv_room (Nat.le_of_ble_eq_true rfl)) dX3_claim_93 ⟨Nat.le_of_ble_eq_true rfl, Nat.le_of_ble_eq_true rfl⟩)) (fun r93 hr93 => ?_)
              rcases hr93 with ⟨j93, hj93, hm93, rfl⟩ | ⟨hm93, rfl⟩
              · have hC2 := hR.2.2.1 j93 hj93
                have hC2v := hR.2.2.2.2.1.2.1 j93 hj93
                have hC2a : f (ad.2.2.1 j93) = .inr (0, [.int (nI (j93 + 1)), .int (co.2.1 6 j93), .ref (ad.1 (co.1 0 j93)), .int (co.2.1 7 j93), .int (co.2.1 8 j93), .int (co.2.1 9 j93), .int (co.2.1 10 j93), .int (co.2.1 11 j93), .int (co.2.1 12 j93), .int (co.2.1 13 j93), .int (co.2.1 14 j93), .int (co.2.1 15 j93), .long (co.2.2.1 2 j93)]) := hC2.2.2
                have hI3 := hR.2.1 (co.1 0 j93) hC2v.1
                have hI3a : f (ad.1 (co.1 0 j93)) = .inr (1, [.int (co.2.1 0 (co.1 0 j93)), .long (co.2.2.1 0 (co.1 0 j93)), .long (co.2.2.1 1 (co.1 0 j93)), .int (co.2.1 1 (co.1 0 j93)), .int (co.2.1 2 (co.1 0 j93)), .ref (ad.2.1 (co.1 0 j93)), .int (co.2.1 3 (co.1 0 j93)), .int (co.2.1 4 (co.1 0 j93)), .int (co.2.1 5 (co.1 0 j93))]) := hI3.2.2.1
                have hI3p : f (ad.2.1 (co.1 0 j93)) = .inl ((cA 0), 8, .inl (co.2.2.2 (co.1 0 j93))) := hI3.2.2.2.2
                refine lv_ifnull hx hb dX3_claim_96 ?_
                refine lv_bipush (v := (-103)) hx hb dX3_claim_99 (by decide) ?_
                refine W.widen (k := 1) (n := 13) (by decide) (by decide) ?_
                exact W.iret (v := (-103)) hx hb hr (fun t ht hW => ⟨⟨(-103), (σ, co), rfl, (by simp only [kc_claim, hm2, if_pos c20, if_pos c32, if_pos c45, if_pos c56, if_pos c84, hm93, Option.elim, hn0, hn1, hn2]), σ.2.2.2.2, n, L, f, ad, Nat.le_succ _, hR, by rw [ht]; exact hP, va_K.moved hW.alike hK, hD⟩, hS.F ht⟩) hS.2.2 dX3_claim_101
              · skip
                refine lv_ifnullN (tgt := 102) hx hb dX3_claim_96 (by decide) ?_
                refine lv_aload_n hx hb dX3_claim_102 rfl (lv_at hl 1 rfl) ?_
                refine va_get (D := (dC, dI)) (ci := 3) (v := .int (σ.1 1)) (C := RX3) (T := TX3) (N := 16) hx hb hts in1 hown hK hP 0 (xc_W_0 _ _) rfl 3 (by decide) lk5 (fun _ h9 => h9) rfl dX3_claim_103 ?_
                refine lv_bipush (v := 60) hx hb dX3_claim_106 (by decide) ?_
                refine lv_icmp_lt (tgt := 114) hx hb dX3_claim_108 (by decide) (fun c108 => ?_) (fun c108 => ?_)
                · refine lv_aload_n hx hb dX3_claim_114 rfl (lv_at hl 1 rfl) ?_
                  refine lv_aload hx hb dX3_claim_115 (lv_at hl 0 rfl) ?_
                  refine hp_get (D := (dC, dI)) (ci := 1) (v := .int (co.2.1 2 j2)) (C := RX1) (T := TX1) (N := 9) hx hb hts in0 hown hK hP hI1.2.1 hI1a rfl 4 (by decide) lk6 (fun _ h9 => h9) rfl dX3_claim_117 ?_
                  refine vp_callSi (va_Run.run (va_runV (As := [.int (co.2.1 2 j2)]) (rest := []) ⟨hx, hb, hml, hown, hts⟩ (mt_claimsOfSender l dC dI cA Q σ n co L f ad hR (co.2.1 2 j2)) (cwV 1 hts (al_gV wd_109 wd_111 wd_110 wd_1 wd_112) rfl rfl rfl (by decide +kernel) ⟨Nat.le_of_ble_eq_true rfl, Nat.le_of_ble_eq_true rfl⟩) ⟨ct_blR, va_recv hK hP (ci := 3) (q0 := 0) rfl (xc_W_0 _ _), ct_atR hP hK⟩ rfl rfl hl.1 rfl (lv_room (Nat.le_of_ble_eq_true rfl)) dX3_claim_120 ⟨Nat.le_of_ble_eq_true rfl, Nat.le_of_ble_eq_true rfl⟩)) (fun r120 hr120 => ?_)
                  subst hr120
                  refine lv_istore (lv' := [(6, .int (se_cl co (co.2.1 2 j2) n.2.1)), (5, .ref (ad.1 j2)), (0, .ref (Q 0)), (1, .int x1), (2, .int x2), (3, .int x3), (4, .int x4)]) hx hb dX3_claim_123 hl (by decide) rfl (fun ls hl => ?_)
                  refine lv_aload_n hx hb dX3_claim_125 rfl (lv_at hl 2 rfl) ?_
                  refine va_get (D := (dC, dI)) (ci := 3) (v := .ref (Q 2)) (C := RX3) (T := TX3) (N := 16) hx hb hts in1 hown hK hP 0 (xc_W_0 _ _) rfl 2 (by decide) lk7 (fun _ h9 => h9) rfl dX3_claim_126 ?_
                  refine lv_aload_n hx hb dX3_claim_129 rfl (lv_at hl 2 rfl) ?_
                  refine va_get (D := (dC, dI)) (ci := 3) (v := .int (σ.1 1)) (C := RX3) (T := TX3) (N := 16) hx hb hts in1 hown hK hP 0 (xc_W_0 _ _) rfl 3 (by decide) lk5 (fun _ h9 => h9) rfl dX3_claim_130 ?_
                  refine hp_new (ci := 0) (fs := [.int 0, .int 0, .null, .int 0, .int 0, .int 0, .int 0, .int 0, .int 0, .int 0, .int 0, .int 0, .long 0]) (C := RX0) (T := TX0) (N := 13) hx hb hts in2 tyX0 tyX0_ok hown lk8 lk9 lk10 hK hP hD hS hA rfl (fun j hj => by rcases (show j = 0 ∨ j = 1 ∨ j = 2 ∨ j = 3 ∨ j = 4 ∨ j = 5 ∨ j = 6 ∨ j = 7 ∨ j = 8 ∨ j = 9 ∨ j = 10 ∨ j = 11 ∨ j = 12 by omega) with rfl | rfl | rfl | rfl | rfl | rfl | rfl | rfl | rfl | rfl | rfl | rfl | rfl <;> rfl) (Nat.le_of_ble_eq_true rfl) (Nat.le_of_ble_eq_true rfl) dX3_claim_133 (fun q133 H hq133 hP hD hS => ?_)
                  obtain ⟨f_1, ef_1⟩ : ∃ y9, y9 = va_up f q133 (.inr (0, [.int 0, .int 0, .null, .int 0, .int 0, .int 0, .int 0, .int 0, .int 0, .int 0, .int 0, .int 0, .long 0])) := ⟨_, rfl⟩
                  rw [← ef_1] at hP hD
                  have hf_1_ad1j2 : f_1 (ad.1 j2) = .inr (1, [.int (co.2.1 0 j2), .long (co.2.2.1 0 j2), .long (co.2.2.1 1 j2), .int (co.2.1 1 j2), .int (co.2.1 2 j2), .ref (ad.2.1 j2), .int (co.2.1 3 j2), .int (co.2.1 4 j2), .int (co.2.1 5 j2)]) := by rw [ef_1, va_up_ne _ _ (ct_nq hI1.2.1 hq133)]; exact hI1a
                  have hf_1_ad21j2 : f_1 (ad.2.1 j2) = .inl ((cA 0), 8, .inl (co.2.2.2 j2)) := by rw [ef_1, va_up_ne _ _ (ct_nq hI1.2.2.2.1 hq133)]; exact hI1p
                  have hf_1_q133 : f_1 q133 = .inr (0, [.int 0, .int 0, .null, .int 0, .int 0, .int 0, .int 0, .int 0, .int 0, .int 0, .int 0, .int 0, .long 0]) := by rw [ef_1]; exact va_up_self _ _ _
                  refine W.widen (k := 1) (n := 13) (by decide) (by decide) ?_
                  refine lv_dup hx hb dX3_claim_136 rfl ?_
                  refine lv_aload_n hx hb dX3_claim_137 rfl (lv_at hl 2 rfl) ?_
                  refine va_get (D := (dC, dI)) (ci := 3) (v := .int (σ.1 1)) (C := RX3) (T := TX3) (N := 16) hx hb hts in1 hown hK hP 0 (xc_W_0 _ _) rfl 3 (by decide) lk5 (fun _ h9 => h9) rfl dX3_claim_138 ?_
                  refine lv_iconst (v := 1) hx hb dX3_claim_141 (by decide) ?_
                  refine lv_iadd hx hb dX3_claim_142 ?_
                  refine lv_iload_n hx hb dX3_claim_143 rfl (lv_at hl 3 rfl) ?_
                  refine lv_aload hx hb dX3_claim_144 (lv_at hl 1 rfl) ?_
                  refine lv_iload_n hx hb dX3_claim_146 rfl (lv_at hl 4 rfl) ?_
                  refine lv_iload hx hb dX3_claim_147 (lv_at hl 0 rfl) ?_
                  have hFc := ct_free hD hS hA
                  refine va_callv (va_runI (As := [.int ((σ.1 1) + 1), .int x1, .ref (ad.1 j2), .int x2, .int (se_cl co (co.2.1 2 j2) n.2.1)]) (rest := [.ref q133, .int (σ.1 1), .ref (Q 2)]) ⟨hx, hb, hml, hown, hts⟩ (mt_Claim_init l dC dI cA H.size (xc_W Q cA σ) (L ++ [q133]) f_1 tN q133 (List.mem_append_right _ (List.mem_singleton.mpr rfl)) hf_1_q133 ((σ.1 1) + 1) x1 (ad.1 j2) x2 (se_cl co (co.2.1 2 j2) n.2.1) c20) (cwI 5 hts (al_g wd_116) rfl rfl rfl lk10 lk11 lk12 rfl (by decide +kernel) ⟨Nat.le_of_ble_eq_true rfl, Nat.le_of_ble_eq_true rfl⟩) ⟨sx_bl, sx_at hP hK hD hS hA hN1 hN2 hZ hTN⟩ rfl rfl hl.1 rfl (lv_room (Nat.le_of_ble_eq_true rfl)) dX3_claim_149 ⟨Nat.le_of_ble_eq_true rfl, Nat.le_of_ble_eq_true rfl⟩) hS (fun q _ h => hFc q h) hFc (fun u149 t H1 locs ht hvm hr149 hB hz1 hk1 hS => ?_)
                  obtain ⟨hP, -, hD1⟩ := hB
                  rw [ht] at hP
                  have hD := hD1.weaken (fun _ _ _ h => hFc _ h)
                  clear hD1 hk1 hz1 hFc hvm
                  generalize H1 = H at hP hS ht ⊢
                  clear ht
                  refine W.widen (k := 1) (n := 13) (by decide) (by decide) ?_
                  subst hr149
                  have hP : va_P (dC, dI) vwCl (xc_W Q cA σ ++ va_pl (L ++ [q133]) (va_up f_1 q133 (.inr (0, [.int ((σ.1 1) + 1), .int x1, .ref (ad.1 j2), .int x2, .int (se_cl co (co.2.1 2 j2) n.2.1), .int 0, .int (ne_ed x2), .int 0, .int 0, .int 0, .int 0, .int 0, .long 0])))) H := hP
                  have hD : va_D A (xc_W Q cA σ ++ va_pl (L ++ [q133]) (va_up f_1 q133 (.inr (0, [.int ((σ.1 1) + 1), .int x1, .ref (ad.1 j2), .int x2, .int (se_cl co (co.2.1 2 j2) n.2.1), .int 0, .int (ne_ed x2), .int 0, .int 0, .int 0, .int 0, .int 0, .long 0])))) := hD
                  obtain ⟨f_2, ef_2⟩ : ∃ y9, y9 = va_up f_1 q133 (.inr (0, [.int ((σ.1 1) + 1), .int x1, .ref (ad.1 j2), .int x2, .int (se_cl co (co.2.1 2 j2) n.2.1), .int 0, .int (ne_ed x2), .int 0, .int 0, .int 0, .int 0, .int 0, .long 0])) := ⟨_, rfl⟩
                  rw [← ef_2] at hP hD
                  have hf_2_ad1j2 : f_2 (ad.1 j2) = .inr (1, [.int (co.2.1 0 j2), .long (co.2.2.1 0 j2), .long (co.2.2.1 1 j2), .int (co.2.1 1 j2), .int (co.2.1 2 j2), .ref (ad.2.1 j2), .int (co.2.1 3 j2), .int (co.2.1 4 j2), .int (co.2.1 5 j2)]) := by rw [ef_2, va_up_ne _ _ (ct_nq hI1.2.1 hq133)]; exact hf_1_ad1j2
                  have hf_2_ad21j2 : f_2 (ad.2.1 j2) = .inl ((cA 0), 8, .inl (co.2.2.2 j2)) := by rw [ef_2, va_up_ne _ _ (ct_nq hI1.2.2.2.1 hq133)]; exact hf_1_ad21j2
                  have hf_2_q133 : f_2 q133 = .inr (0, [.int ((σ.1 1) + 1), .int x1, .ref (ad.1 j2), .int x2, .int (se_cl co (co.2.1 2 j2) n.2.1), .int 0, .int (ne_ed x2), .int 0, .int 0, .int 0, .int 0, .int 0, .long 0]) := by rw [ef_2]; exact va_up_self _ _ _
                  obtain ⟨k9, hk9⟩ := va_pl_get (X := xc_W Q cA σ) (f := f_2) (List.mem_append_right _ (List.mem_singleton.mpr rfl))
                  rw [hf_2_q133] at hk9
                  refine va_astq hx hb hK hP hD hS 2 4 k9 0 (xc_W_2 _ _) rfl hk9 rfl (nu_ix hR.1.2.2.1 (nu_lt hR.1.2.2.1 hR.1.2.2.2.1 c108) (by decide)) dX3_claim_152 (fun H locs hP hD hS => ?_)
                  have hP : va_P (dC, dI) vwCl (xc_W Q cA (xs_ar σ 1 (va_up (σ.2.2.2.2 1) ((σ.1 1)).toNatClampNeg (some q133))) ++ va_pl (L ++ [q133]) f_2) H := hP
                  have hD : va_D A (xc_W Q cA (xs_ar σ 1 (va_up (σ.2.2.2.2 1) ((σ.1 1)).toNatClampNeg (some q133))) ++ va_pl (L ++ [q133]) f_2) := hD
                  refine lv_aload_n hx hb dX3_claim_153 rfl (lv_at hl 2 rfl) ?_
                  refine lv_dup hx hb dX3_claim_154 rfl ?_
                  refine va_get (D := (dC, dI)) (ci := 3) (v := .int (σ.1 1)) (C := RX3) (T := TX3) (N := 16) hx hb hts in1 hown hK hP 0 (xc_W_0 _ _) rfl 3 (by decide) lk5 (fun _ h9 => h9) rfl dX3_claim_155 ?_
                  refine lv_iconst (v := 1) hx hb dX3_claim_158 (by decide) ?_
                  refine lv_iadd hx hb dX3_claim_159 ?_
                  refine va_put (D := (dC, dI)) (ci := 3) (v := .int ((σ.1 1) + 1)) (ty := .int) (C := RX3) (T := TX3) (N := 16) hx hb hts in1 tyX3 tyX3_ok nmX3 hown hK hP hD hS 0 (xc_W_0 _ _) rfl 3 (by decide) lk5 (fun _ h9 => h9) rfl (by decide +kernel) rfl rfl (Nat.le_of_ble_eq_true rfl) dX3_claim_160 (fun H locs hP hD hS => ?_)
                  have hP : va_P (dC, dI) vwCl (xc_W Q cA (xs_i (xs_ar σ 1 (va_up (σ.2.2.2.2 1) ((σ.1 1)).toNatClampNeg (some q133))) 1 ((σ.1 1) + 1)) ++ va_pl (L ++ [q133]) f_2) H := hP
                  have hD : va_D A (xc_W Q cA (xs_i (xs_ar σ 1 (va_up (σ.2.2.2.2 1) ((σ.1 1)).toNatClampNeg (some q133))) 1 ((σ.1 1) + 1)) ++ va_pl (L ++ [q133]) f_2) := hD
                  refine lv_aload_n hx hb dX3_claim_163 rfl (lv_at hl 2 rfl) ?_
                  refine lv_aload_n hx hb dX3_claim_164 rfl (lv_at hl 2 rfl) ?_
                  refine va_get (D := (dC, dI)) (ci := 3) (v := .int ((σ.1 1) + 1)) (C := RX3) (T := TX3) (N := 16) hx hb hts in1 hown hK hP 0 (xc_W_0 _ _) rfl 3 (by decide) lk5 (fun _ h9 => h9) rfl dX3_claim_165 ?_
                  refine lv_iconst (v := 1) hx hb dX3_claim_168 (by decide) ?_
                  have hFc := ct_free hD hS hA
                  refine va_callv (va_runV (As := [.int ((σ.1 1) + 1), .int 1]) (rest := []) ⟨hx, hb, hml, hown, hts⟩ (mt_send l dC dI cA H.size Q (xs_i (xs_ar σ 1 (va_up (σ.2.2.2.2 1) ((σ.1 1)).toNatClampNeg (some q133))) 1 ((σ.1 1) + 1)) (L ++ [q133]) f_2 n.2.2.2 (show (xs_i (xs_ar σ 1 (va_up (σ.2.2.2.2 1) ((σ.1 1)).toNatClampNeg (some q133))) 1 ((σ.1 1) + 1)).1 3 = nI n.2.2.2 from hR.1.2.2.2.2.2.2) (by omega) ((σ.1 1) + 1) 1) (cwV 2 hts (al_gV wd_141 wd_143 wd_142 wd_1 wd_144) rfl rfl rfl (by decide +kernel) ⟨Nat.le_of_ble_eq_true rfl, Nat.le_of_ble_eq_true rfl⟩) ⟨ct_blM, va_recv hK hP (ci := 3) (q0 := 0) rfl (xc_W_0 _ _), ct_atM hP hK hD⟩ rfl rfl hl.1 rfl (lv_room (Nat.le_of_ble_eq_true rfl)) dX3_claim_169 ⟨Nat.le_of_ble_eq_true rfl, Nat.le_of_ble_eq_true rfl⟩) hS (fun q _ h => hFc q h) hFc (fun u169 t H1 locs ht hvm hr169 hB hz1 hk1 hS => ?_)
                  obtain ⟨hP, -, hD1⟩ := hB
                  rw [ht] at hP
                  have hD := hD1.weaken (fun _ _ _ h => hFc _ h)
                  clear hD1 hk1 hz1 hFc hvm
                  generalize H1 = H at hP hS ht ⊢
                  clear ht
                  refine W.widen (k := 1) (n := 13) (by decide) (by decide) ?_
                  subst hr169
                  have hP : va_P (dC, dI) vwCl (xc_W Q cA (se_nd (xs_i (xs_ar σ 1 (va_up (σ.2.2.2.2 1) ((σ.1 1)).toNatClampNeg (some q133))) 1 ((σ.1 1) + 1)) ((σ.1 1) + 1) 1) ++ va_pl (L ++ [q133]) f_2) H := hP
                  have hD : va_D A (xc_W Q cA (se_nd (xs_i (xs_ar σ 1 (va_up (σ.2.2.2.2 1) ((σ.1 1)).toNatClampNeg (some q133))) 1 ((σ.1 1) + 1)) ((σ.1 1) + 1) 1) ++ va_pl (L ++ [q133]) f_2) := hD
                  rw [sn_ar] at hP hD
                  have hP : va_P (dC, dI) vwCl (xc_W Q cA (xs_r (se_nd (xs_i σ 1 (σ.1 1 + 1)) (σ.1 1 + 1) 1) (va_up σ.2.2.2.2 1 (va_up (σ.2.2.2.2 1) (σ.1 1).toNatClampNeg (some q133)))) ++ va_pl (L ++ [q133]) f_2) H := hP
                  have hD : va_D A (xc_W Q cA (xs_r (se_nd (xs_i σ 1 (σ.1 1 + 1)) (σ.1 1 + 1) 1) (va_up σ.2.2.2.2 1 (va_up (σ.2.2.2.2 1) (σ.1 1).toNatClampNeg (some q133)))) ++ va_pl (L ++ [q133]) f_2) := hD
                  refine lv_aload_n hx hb dX3_claim_172 rfl (lv_at hl 2 rfl) ?_
                  refine va_get (D := (dC, dI)) (ci := 3) (v := .int ((xs_r (se_nd (xs_i σ 1 (σ.1 1 + 1)) (σ.1 1 + 1) 1) (va_up σ.2.2.2.2 1 (va_up (σ.2.2.2.2 1) (σ.1 1).toNatClampNeg (some q133)))).1 1)) (C := RX3) (T := TX3) (N := 16) hx hb hts in1 hown hK hP 0 (xc_W_0 _ _) rfl 3 (by decide) lk5 (fun _ h9 => h9) rfl dX3_claim_173 ?_
                  exact W.iret (v := ((xs_r (se_nd (xs_i σ 1 (σ.1 1 + 1)) (σ.1 1 + 1) 1) (va_up σ.2.2.2.2 1 (va_up (σ.2.2.2.2 1) (σ.1 1).toNatClampNeg (some q133)))).1 1)) hx hb hr (fun t ht hW => ⟨⟨((xs_r (se_nd (xs_i σ 1 (σ.1 1 + 1)) (σ.1 1 + 1) 1) (va_up σ.2.2.2.2 1 (va_up (σ.2.2.2.2 1) (σ.1 1).toNatClampNeg (some q133)))).1 1), (se_nd (xs_i σ 1 (σ.1 1 + 1)) (σ.1 1 + 1) 1, nc_co co n.2.1 j2 x1 x2 (se_cl co (co.2.1 2 j2) n.2.1)), rfl, (by rw [show ((xs_r (se_nd (xs_i σ 1 (σ.1 1 + 1)) (σ.1 1 + 1) 1) (va_up σ.2.2.2.2 1 (va_up (σ.2.2.2.2 1) (σ.1 1).toNatClampNeg (some q133)))).1 1) = σ.1 1 + 1 from sn_0 (xs_i σ 1 (σ.1 1 + 1)) (σ.1 1 + 1) 1 1 (by decide)]; simp only [kc_claim, hm2, if_pos c20, if_pos c32, if_pos c45, if_pos c56, if_pos c84, hm93, if_pos c108, Option.elim, hn1]), va_up σ.2.2.2.2 1 (va_up (σ.2.2.2.2 1) (σ.1 1).toNatClampNeg (some q133)), (n.1, n.2.1 + 1, n.2.2.1, n.2.2.2 + 1), L ++ [q133], f_2, (ad.1, ad.2.1, va_up ad.2.2.1 n.2.1 q133, ad.2.2.2), Nat.le_refl _, re_x (σ := xs_i (xs_ar σ 1 (va_up (σ.2.2.2.2 1) (σ.1 1).toNatClampNeg (some q133))) 1 (σ.1 1 + 1)) (n := (n.1, n.2.1 + 1, n.2.2)) (by rw [ex2]; exact re_newC (σ' := xs_i (xs_ar σ 1 (va_up (σ.2.2.2.2 1) (σ.1 1).toNatClampNeg (some q133))) 1 (σ.1 1 + 1)) (f' := f_2) (L' := L ++ [q133]) hR hq133 (fun a h => List.mem_append_left _ h) (List.mem_append_right _ (List.mem_singleton.mpr rfl)) (fun a h => by rw [ef_2, va_up_ne _ _ (ct_nq h hq133), ef_1, va_up_ne _ _ (ct_nq h hq133)]) hj2 (nu_4 c20) (by rw [hf_2_q133]; exact nc_ce hR.1.2.2.1 ex2) (nu_lt hR.1.2.2.1 hR.1.2.2.2.1 c108) rfl (by show σ.1 1 + 1 = _; rw [hR.1.2.2.1]; exact nI_1 _) rfl rfl rfl (by show va_up (σ.2.2.2.2 1) (σ.1 1).toNatClampNeg (some q133) = _; rw [hn1]) rfl) (n.2.2.2 + 1) (sn_0 (xs_i σ 1 (σ.1 1 + 1)) _ _ 0 (by decide)) (sn_0 (xs_i σ 1 (σ.1 1 + 1)) _ _ 1 (by decide)) (sn_0 (xs_i σ 1 (σ.1 1 + 1)) _ _ 2 (by decide)) (sn_3 (σ := (xs_i σ 1 (σ.1 1 + 1))) hR.1.2.2.2.2.2.2 _ _) rfl, by rw [ht]; exact hP, va_K.moved hW.alike hK, hD⟩, hS.F ht⟩) hS.2.2 dX3_claim_176
                · refine lv_bipush (v := (-104)) hx hb dX3_claim_111 (by decide) ?_
                  refine W.widen (k := 1) (n := 13) (by decide) (by decide) ?_
                  exact W.iret (v := (-104)) hx hb hr (fun t ht hW => ⟨⟨(-104), (σ, co), rfl, (by simp only [kc_claim, hm2, if_pos c20, if_pos c32, if_pos c45, if_pos c56, if_pos c84, hm93, if_neg c108, Option.elim, hn0, hn1, hn2]), σ.2.2.2.2, n, L, f, ad, Nat.le_succ _, hR, by rw [ht]; exact hP, va_K.moved hW.alike hK, hD⟩, hS.F ht⟩) hS.2.2 dX3_claim_113
            · refine lv_bipush (v := (-106)) hx hb dX3_claim_87 (by decide) ?_
              refine W.widen (k := 1) (n := 13) (by decide) (by decide) ?_
              exact W.iret (v := (-106)) hx hb hr (fun t ht hW => ⟨⟨(-106), (σ, co), rfl, (by simp only [kc_claim, hm2, if_pos c20, if_pos c32, if_pos c45, if_pos c56, if_neg c84, Option.elim, hn0, hn1, hn2]), σ.2.2.2.2, n, L, f, ad, Nat.le_succ _, hR, by rw [ht]; exact hP, va_K.moved hW.alike hK, hD⟩, hS.F ht⟩) hS.2.2 dX3_claim_89
          · have c56 := of_decide_eq_false (bb_0.mp c56)
            refine lv_bipush (v := (-105)) hx hb dX3_claim_59 (by decide) ?_
            refine W.widen (k := 1) (n := 13) (by decide) (by decide) ?_
            exact W.iret (v := (-105)) hx hb hr (fun t ht hW => ⟨⟨(-105), (σ, co), rfl, (by simp only [kc_claim, hm2, if_pos c20, if_pos c32, if_pos c45, if_neg c56, Option.elim, hn0, hn1, hn2]), σ.2.2.2.2, n, L, f, ad, Nat.le_succ _, hR, by rw [ht]; exact hP, va_K.moved hW.alike hK, hD⟩, hS.F ht⟩) hS.2.2 dX3_claim_61
        · have c45 := of_decide_eq_false (bb_0.mp c45)
          refine lv_bipush (v := (-102)) hx hb dX3_claim_48 (by decide) ?_
          refine W.widen (k := 1) (n := 13) (by decide) (by decide) ?_
          exact W.iret (v := (-102)) hx hb hr (fun t ht hW => ⟨⟨(-102), (σ, co), rfl, (by simp only [kc_claim, hm2, if_pos c20, if_pos c32, if_neg c45, Option.elim, hn0, hn1, hn2]), σ.2.2.2.2, n, L, f, ad, Nat.le_succ _, hR, by rw [ht]; exact hP, va_K.moved hW.alike hK, hD⟩, hS.F ht⟩) hS.2.2 dX3_claim_50
  · skip
    refine lv_astoreN (lv' := [(5, .null), (0, .ref (Q 0)), (1, .int x1), (2, .int x2), (3, .int x3), (4, .int x4)]) hx hb dX3_claim_5 hl (by decide) rfl (fun ls hl => ?_)
    refine lv_aloadN hx hb dX3_claim_7 (lv_at hl 0 rfl) ?_
    refine lv_ifnonnullN hx hb dX3_claim_9 ?_
    refine lv_bipush (v := (-101)) hx hb dX3_claim_12 (by decide) ?_
    refine W.widen (k := 1) (n := 13) (by decide) (by decide) ?_
    exact W.iret (v := (-101)) hx hb hr (fun t ht hW => ⟨⟨(-101), (σ, co), rfl, (by simp only [kc_claim, hm2, Option.elim, hn0, hn1, hn2]), σ.2.2.2.2, n, L, f, ad, Nat.le_succ _, hR, by rw [ht]; exact hP, va_K.moved hW.alike hK, hD⟩, hS.F ht⟩) hS.2.2 dX3_claim_14
end
section
set_option maxHeartbeats 4000000 in
set_option maxRecDepth 100000 in
theorem mt_ClaimRows_init (l : Launch) (dC : Nat → ClassId) (dI : Nat → Nat → Nat) (cA : Nat → ClassId) (sz : Nat) (o : Nat) : Met l yX3_init wsX3_init ({ frames := 1, cells := 8, slots := 702, locals := 12 }) (va_Pc [.ref o] (fun U => ct_M (dC, dI) vwCl (ty_K cA) [(o, .inr (3, [.null, .int 0, .null, .int 0, .null, .int 0, .null, .null, .null, .null, .null, .int 0, .int 0, .long 0, .long 0, .int 0]))] sz U ∧ va_AO "ClaimRows$Item" U ∧ va_AO "ClaimRows$Claim" U ∧ va_AO "ClaimRows$Search" U)) (va_Qv (fun Q : Nat → Nat => Q 0 = o) (fun Q t => ct_B (dC, dI) vwCl (ty_K cA) (va_A [(o, .inr (3, [.null, .int 0, .null, .int 0, .null, .int 0, .null, .null, .null, .null, .null, .int 0, .int 0, .long 0, .long 0, .int 0]))] sz) (xc_W Q cA xs_0) t) (va_A [(o, .inr (3, [.null, .int 0, .null, .int 0, .null, .int 0, .null, .null, .null, .null, .null, .int 0, .int 0, .long 0, .long 0, .int 0]))] sz)) 8 702 (va_A [(o, .inr (3, [.null, .int 0, .null, .int 0, .null, .int 0, .null, .null, .null, .null, .null, .int 0, .int 0, .long 0, .long 0, .int 0]))] sz) := by
  refine Met.ofW (cc := cX3_init) (maxL := 1) (ret := none) (by decide) rfl ?_
  intro p e s m args below meth c s₁ B hml hv
  obtain ⟨rfl, ⟨hsz, hP, hK, hD0⟩, hAO_X1, hAO_X0, hAO_X2⟩ := hv
  have hx := B.exec
  have hb := B.bytes
  have hr := B.returns
  have hts := atoms_spec (ws := wsX3_init) B.pre
  have hown : s.vm.findClass RX3 = some m.cls := findClass_of_methodNamed B.named
  have hlocks := B.notSynchronized
  have hin : meth.name = "<init>" := (name_of_methodNamed B.named B.method).1
  subst hsz
  have hD := hD0.self (sz := s.heap.size)
  generalize hAe : va_A [(o, .inr (3, [.null, .int 0, .null, .int 0, .null, .int 0, .null, .null, .null, .null, .null, .int 0, .int 0, .long 0, .long 0, .int 0]))] s.heap.size = A at hD ⊢
  have hA : ∀ q : Nat, s.heap.size ≤ q → A q := fun q h => by rw [← hAe]; exact Or.inr h
  clear hAe hD0
  have hS : va_S A s.heap s.heap [] := va_S.rf
  have hl := lv_entry ([.ref o]) (n := 1) (Nat.le_of_ble_eq_true rfl)
  rw [lg_entry_eq]
  generalize (lg_sl ([.ref o]) ++ List.replicate (1 - (lg_sl ([.ref o])).length) Slot.unset).toArray = ls at hl ⊢
  have hl : lv_has ls 1 [(0, .ref o)] := hl
  have lk0 := hts (.methodLink RX3 1 objectInit) (List.mem_cons_of_mem _ wd_13)
  have lk1 := hts (.instanceMethod objectInit) (List.mem_cons_of_mem _ wd_14)
  have lk2 := hts (.code objectInit ⟨#[0xb1]⟩ 1 none) (List.mem_cons_of_mem _ wd_15)
  have lk3 := hts (.classLink RX3 9 RX1) (List.mem_cons_of_mem _ wd_16)
  have lk4 := hts (.fieldLink RX3 11 "ClaimRows" "items" "[LClaimRows$Item;") (List.mem_cons_of_mem _ wd_19)
  have lk5 := hts (.classLink RX3 15 RX0) (List.mem_cons_of_mem _ wd_17)
  have lk6 := hts (.fieldLink RX3 17 "ClaimRows" "claims" "[LClaimRows$Claim;") (List.mem_cons_of_mem _ wd_21)
  have lk7 := hts (.classLink RX3 21 RX2) (List.mem_cons_of_mem _ wd_18)
  have lk8 := hts (.fieldLink RX3 23 "ClaimRows" "searches" "[LClaimRows$Search;") (List.mem_cons_of_mem _ wd_23)
  have lk9 := hts (.arrayClass .long) (List.mem_cons_of_mem _ wd_35)
  have lk10 := hts (.fieldLink RX3 27 "ClaimRows" "tableMost" "[J") (List.mem_cons_of_mem _ wd_25)
  have lk11 := hts (.arrayClass .int) (List.mem_cons_of_mem _ wd_36)
  have lk12 := hts (.fieldLink RX3 31 "ClaimRows" "tableDays" "[I") (List.mem_cons_of_mem _ wd_26)
  have lk13 := hts (.fieldLink RX3 35 "ClaimRows" "limits" "[J") (List.mem_cons_of_mem _ wd_27)
  have lk14 := hts (.fieldLink RX3 38 "ClaimRows" "letterClaims" "[I") (List.mem_cons_of_mem _ wd_28)
  have lk15 := hts (.fieldLink RX3 41 "ClaimRows" "letterKinds" "[I") (List.mem_cons_of_mem _ wd_29)
  have in0 : ∀ w ∈ u_ws RX3 TX3 16, w ∈ wsX3_init := fun w h => List.mem_cons_of_mem _ (wu_X3 w h)
  refine lv_aload_n hx hb dX3_init_0 rfl (lv_at hl 0 rfl) ?_
  refine W.objInit hx hb hown lk0 lk1 lk2 rfl (by rw [hml]; exact hl.1) rfl dX3_init_1 (Nat.le_of_ble_eq_true rfl) (Nat.le_of_ble_eq_true rfl) ?_
  refine W.eq (g2 := F0 m 4 ls []) rfl ?_
  refine lv_aload_n hx hb dX3_init_4 rfl (lv_at hl 0 rfl) ?_
  refine lv_bipush (v := 100) hx hb dX3_init_5 (by decide) ?_
  refine va_newq hx hb hown lk3 (hAO_X1) hK hP hD hS hA (by decide) rfl (by decide) (Nat.le_of_ble_eq_true rfl) (Nat.le_of_ble_eq_true rfl) dX3_init_7 (fun q7 cB H hK1 hP hD hS => ?_)
  obtain rfl : cB = cA 3 := ct_K1 hK1 (i := 6) (j := 3) rfl rfl
  clear hK1
  have hP : va_P (dC, dI) vwCl [(o, .inr (3, [.null, .int 0, .null, .int 0, .null, .int 0, .null, .null, .null, .null, .null, .int 0, .int 0, .long 0, .long 0, .int 0])), (q7, .inl (cA 3, 100, .inr (.inr (.inr (.inr (fun _ => none))))))] H := hP
  have hD : va_D A [(o, .inr (3, [.null, .int 0, .null, .int 0, .null, .int 0, .null, .null, .null, .null, .null, .int 0, .int 0, .long 0, .long 0, .int 0])), (q7, .inl (cA 3, 100, .inr (.inr (.inr (.inr (fun _ => none))))))] := hD
  refine W.widen (k := 1) (n := 100) (by decide) (by decide) ?_
  refine va_putF (D := (dC, dI)) (ci := 3) (v := .ref q7) (ty := .array (.object "ClaimRows$Item")) (C := RX3) (T := TX3) (N := 16) hx hb hts in0 tyX3 tyX3_ok nmX3 hown hK hP hD hS 0 rfl rfl 0 (by decide) lk4 (fun _ h9 => h9) rfl hin rfl (by decide +kernel) rfl rfl (Nat.le_of_ble_eq_true rfl) dX3_init_10 (fun H locs hP hD hS => ?_)
  have hP : va_P (dC, dI) vwCl [(o, .inr (3, [.ref q7, .int 0, .null, .int 0, .null, .int 0, .null, .null, .null, .null, .null, .int 0, .int 0, .long 0, .long 0, .int 0])), (q7, .inl (cA 3, 100, .inr (.inr (.inr (.inr (fun _ => none))))))] H := hP
  have hD : va_D A [(o, .inr (3, [.ref q7, .int 0, .null, .int 0, .null, .int 0, .null, .null, .null, .null, .null, .int 0, .int 0, .long 0, .long 0, .int 0])), (q7, .inl (cA 3, 100, .inr (.inr (.inr (.inr (fun _ => none))))))] := hD
  refine lv_aload_n hx hb dX3_init_13 rfl (lv_at hl 0 rfl) ?_
  refine lv_bipush (v := 60) hx hb dX3_init_14 (by decide) ?_
  refine va_newq hx hb hown lk5 (hAO_X0) hK hP hD hS hA (by decide) rfl (by decide) (Nat.le_of_ble_eq_true rfl) (Nat.le_of_ble_eq_true rfl) dX3_init_16 (fun q16 cB H hK1 hP hD hS => ?_)
  obtain rfl : cB = cA 4 := ct_K1 hK1 (i := 6) (j := 4) rfl rfl
  clear hK1
  have hP : va_P (dC, dI) vwCl [(o, .inr (3, [.ref q7, .int 0, .null, .int 0, .null, .int 0, .null, .null, .null, .null, .null, .int 0, .int 0, .long 0, .long 0, .int 0])), (q7, .inl (cA 3, 100, .inr (.inr (.inr (.inr (fun _ => none)))))), (q16, .inl (cA 4, 60, .inr (.inr (.inr (.inr (fun _ => none))))))] H := hP
  have hD : va_D A [(o, .inr (3, [.ref q7, .int 0, .null, .int 0, .null, .int 0, .null, .null, .null, .null, .null, .int 0, .int 0, .long 0, .long 0, .int 0])), (q7, .inl (cA 3, 100, .inr (.inr (.inr (.inr (fun _ => none)))))), (q16, .inl (cA 4, 60, .inr (.inr (.inr (.inr (fun _ => none))))))] := hD
  refine W.widen (k := 2) (n := 160) (by decide) (by decide) ?_
  refine va_putF (D := (dC, dI)) (ci := 3) (v := .ref q16) (ty := .array (.object "ClaimRows$Claim")) (C := RX3) (T := TX3) (N := 16) hx hb hts in0 tyX3 tyX3_ok nmX3 hown hK hP hD hS 0 rfl rfl 2 (by decide) lk6 (fun _ h9 => h9) rfl hin rfl (by decide +kernel) rfl rfl (Nat.le_of_ble_eq_true rfl) dX3_init_19 (fun H locs hP hD hS => ?_)
  have hP : va_P (dC, dI) vwCl [(o, .inr (3, [.ref q7, .int 0, .ref q16, .int 0, .null, .int 0, .null, .null, .null, .null, .null, .int 0, .int 0, .long 0, .long 0, .int 0])), (q7, .inl (cA 3, 100, .inr (.inr (.inr (.inr (fun _ => none)))))), (q16, .inl (cA 4, 60, .inr (.inr (.inr (.inr (fun _ => none))))))] H := hP
  have hD : va_D A [(o, .inr (3, [.ref q7, .int 0, .ref q16, .int 0, .null, .int 0, .null, .null, .null, .null, .null, .int 0, .int 0, .long 0, .long 0, .int 0])), (q7, .inl (cA 3, 100, .inr (.inr (.inr (.inr (fun _ => none)))))), (q16, .inl (cA 4, 60, .inr (.inr (.inr (.inr (fun _ => none))))))] := hD
  refine lv_aload_n hx hb dX3_init_22 rfl (lv_at hl 0 rfl) ?_
  refine lv_bipush (v := 100) hx hb dX3_init_23 (by decide) ?_
  refine va_newq hx hb hown lk7 (hAO_X2) hK hP hD hS hA (by decide) rfl (by decide) (Nat.le_of_ble_eq_true rfl) (Nat.le_of_ble_eq_true rfl) dX3_init_25 (fun q25 cB H hK1 hP hD hS => ?_)
  obtain rfl : cB = cA 5 := ct_K1 hK1 (i := 6) (j := 5) rfl rfl
  clear hK1
  have hP : va_P (dC, dI) vwCl [(o, .inr (3, [.ref q7, .int 0, .ref q16, .int 0, .null, .int 0, .null, .null, .null, .null, .null, .int 0, .int 0, .long 0, .long 0, .int 0])), (q7, .inl (cA 3, 100, .inr (.inr (.inr (.inr (fun _ => none)))))), (q16, .inl (cA 4, 60, .inr (.inr (.inr (.inr (fun _ => none)))))), (q25, .inl (cA 5, 100, .inr (.inr (.inr (.inr (fun _ => none))))))] H := hP
  have hD : va_D A [(o, .inr (3, [.ref q7, .int 0, .ref q16, .int 0, .null, .int 0, .null, .null, .null, .null, .null, .int 0, .int 0, .long 0, .long 0, .int 0])), (q7, .inl (cA 3, 100, .inr (.inr (.inr (.inr (fun _ => none)))))), (q16, .inl (cA 4, 60, .inr (.inr (.inr (.inr (fun _ => none)))))), (q25, .inl (cA 5, 100, .inr (.inr (.inr (.inr (fun _ => none))))))] := hD
  refine W.widen (k := 3) (n := 260) (by decide) (by decide) ?_
  refine va_putF (D := (dC, dI)) (ci := 3) (v := .ref q25) (ty := .array (.object "ClaimRows$Search")) (C := RX3) (T := TX3) (N := 16) hx hb hts in0 tyX3 tyX3_ok nmX3 hown hK hP hD hS 0 rfl rfl 4 (by decide) lk8 (fun _ h9 => h9) rfl hin rfl (by decide +kernel) rfl rfl (Nat.le_of_ble_eq_true rfl) dX3_init_28 (fun H locs hP hD hS => ?_)
  have hP : va_P (dC, dI) vwCl [(o, .inr (3, [.ref q7, .int 0, .ref q16, .int 0, .ref q25, .int 0, .null, .null, .null, .null, .null, .int 0, .int 0, .long 0, .long 0, .int 0])), (q7, .inl (cA 3, 100, .inr (.inr (.inr (.inr (fun _ => none)))))), (q16, .inl (cA 4, 60, .inr (.inr (.inr (.inr (fun _ => none)))))), (q25, .inl (cA 5, 100, .inr (.inr (.inr (.inr (fun _ => none))))))] H := hP
  have hD : va_D A [(o, .inr (3, [.ref q7, .int 0, .ref q16, .int 0, .ref q25, .int 0, .null, .null, .null, .null, .null, .int 0, .int 0, .long 0, .long 0, .int 0])), (q7, .inl (cA 3, 100, .inr (.inr (.inr (.inr (fun _ => none)))))), (q16, .inl (cA 4, 60, .inr (.inr (.inr (.inr (fun _ => none)))))), (q25, .inl (cA 5, 100, .inr (.inr (.inr (.inr (fun _ => none))))))] := hD
  refine lv_aload_n hx hb dX3_init_31 rfl (lv_at hl 0 rfl) ?_
  refine lv_bipush (v := 16) hx hb dX3_init_32 (by decide) ?_
  refine va_newa (atype := .long) (ty := .long) hx hb lk9 rfl hK hP hD hS hA (a0 := (16, .inr (.inl (fun _ => 0)))) (fun _ => rfl) (by decide) rfl (by decide) (Nat.le_of_ble_eq_true rfl) (Nat.le_of_ble_eq_true rfl) dX3_init_34 (fun q34 cB H hK1 hP hD hS => ?_)
  obtain rfl : cB = cA 1 := ct_K1 hK1 (i := 6) (j := 1) rfl rfl
  clear hK1
  have hP : va_P (dC, dI) vwCl [(o, .inr (3, [.ref q7, .int 0, .ref q16, .int 0, .ref q25, .int 0, .null, .null, .null, .null, .null, .int 0, .int 0, .long 0, .long 0, .int 0])), (q7, .inl (cA 3, 100, .inr (.inr (.inr (.inr (fun _ => none)))))), (q16, .inl (cA 4, 60, .inr (.inr (.inr (.inr (fun _ => none)))))), (q25, .inl (cA 5, 100, .inr (.inr (.inr (.inr (fun _ => none)))))), (q34, .inl (cA 1, 16, .inr (.inl (fun _ => 0))))] H := hP
  have hD : va_D A [(o, .inr (3, [.ref q7, .int 0, .ref q16, .int 0, .ref q25, .int 0, .null, .null, .null, .null, .null, .int 0, .int 0, .long 0, .long 0, .int 0])), (q7, .inl (cA 3, 100, .inr (.inr (.inr (.inr (fun _ => none)))))), (q16, .inl (cA 4, 60, .inr (.inr (.inr (.inr (fun _ => none)))))), (q25, .inl (cA 5, 100, .inr (.inr (.inr (.inr (fun _ => none)))))), (q34, .inl (cA 1, 16, .inr (.inl (fun _ => 0))))] := hD
  refine W.widen (k := 4) (n := 276) (by decide) (by decide) ?_
  refine va_putF (D := (dC, dI)) (ci := 3) (v := .ref q34) (ty := .array .long) (C := RX3) (T := TX3) (N := 16) hx hb hts in0 tyX3 tyX3_ok nmX3 hown hK hP hD hS 0 rfl rfl 6 (by decide) lk10 (fun _ h9 => h9) rfl hin rfl (by decide +kernel) rfl rfl (Nat.le_of_ble_eq_true rfl) dX3_init_36 (fun H locs hP hD hS => ?_)
  have hP : va_P (dC, dI) vwCl [(o, .inr (3, [.ref q7, .int 0, .ref q16, .int 0, .ref q25, .int 0, .ref q34, .null, .null, .null, .null, .int 0, .int 0, .long 0, .long 0, .int 0])), (q7, .inl (cA 3, 100, .inr (.inr (.inr (.inr (fun _ => none)))))), (q16, .inl (cA 4, 60, .inr (.inr (.inr (.inr (fun _ => none)))))), (q25, .inl (cA 5, 100, .inr (.inr (.inr (.inr (fun _ => none)))))), (q34, .inl (cA 1, 16, .inr (.inl (fun _ => 0))))] H := hP
  have hD : va_D A [(o, .inr (3, [.ref q7, .int 0, .ref q16, .int 0, .ref q25, .int 0, .ref q34, .null, .null, .null, .null, .int 0, .int 0, .long 0, .long 0, .int 0])), (q7, .inl (cA 3, 100, .inr (.inr (.inr (.inr (fun _ => none)))))), (q16, .inl (cA 4, 60, .inr (.inr (.inr (.inr (fun _ => none)))))), (q25, .inl (cA 5, 100, .inr (.inr (.inr (.inr (fun _ => none)))))), (q34, .inl (cA 1, 16, .inr (.inl (fun _ => 0))))] := hD
  refine lv_aload_n hx hb dX3_init_39 rfl (lv_at hl 0 rfl) ?_
  refine lv_bipush (v := 16) hx hb dX3_init_40 (by decide) ?_
  refine va_newa (atype := .int) (ty := .int) hx hb lk11 rfl hK hP hD hS hA (a0 := (16, .inl (fun _ => 0))) (fun _ => rfl) (by decide) rfl (by decide) (Nat.le_of_ble_eq_true rfl) (Nat.le_of_ble_eq_true rfl) dX3_init_42 (fun q42 cB H hK1 hP hD hS => ?_)
  obtain rfl : cB = cA 0 := ct_K1 hK1 (i := 6) (j := 0) rfl rfl
  clear hK1
  have hP : va_P (dC, dI) vwCl [(o, .inr (3, [.ref q7, .int 0, .ref q16, .int 0, .ref q25, .int 0, .ref q34, .null, .null, .null, .null, .int 0, .int 0, .long 0, .long 0, .int 0])), (q7, .inl (cA 3, 100, .inr (.inr (.inr (.inr (fun _ => none)))))), (q16, .inl (cA 4, 60, .inr (.inr (.inr (.inr (fun _ => none)))))), (q25, .inl (cA 5, 100, .inr (.inr (.inr (.inr (fun _ => none)))))), (q34, .inl (cA 1, 16, .inr (.inl (fun _ => 0)))), (q42, .inl (cA 0, 16, .inl (fun _ => 0)))] H := hP
  have hD : va_D A [(o, .inr (3, [.ref q7, .int 0, .ref q16, .int 0, .ref q25, .int 0, .ref q34, .null, .null, .null, .null, .int 0, .int 0, .long 0, .long 0, .int 0])), (q7, .inl (cA 3, 100, .inr (.inr (.inr (.inr (fun _ => none)))))), (q16, .inl (cA 4, 60, .inr (.inr (.inr (.inr (fun _ => none)))))), (q25, .inl (cA 5, 100, .inr (.inr (.inr (.inr (fun _ => none)))))), (q34, .inl (cA 1, 16, .inr (.inl (fun _ => 0)))), (q42, .inl (cA 0, 16, .inl (fun _ => 0)))] := hD
  refine W.widen (k := 5) (n := 292) (by decide) (by decide) ?_
  refine va_putF (D := (dC, dI)) (ci := 3) (v := .ref q42) (ty := .array .int) (C := RX3) (T := TX3) (N := 16) hx hb hts in0 tyX3 tyX3_ok nmX3 hown hK hP hD hS 0 rfl rfl 7 (by decide) lk12 (fun _ h9 => h9) rfl hin rfl (by decide +kernel) rfl rfl (Nat.le_of_ble_eq_true rfl) dX3_init_44 (fun H locs hP hD hS => ?_)
  have hP : va_P (dC, dI) vwCl [(o, .inr (3, [.ref q7, .int 0, .ref q16, .int 0, .ref q25, .int 0, .ref q34, .ref q42, .null, .null, .null, .int 0, .int 0, .long 0, .long 0, .int 0])), (q7, .inl (cA 3, 100, .inr (.inr (.inr (.inr (fun _ => none)))))), (q16, .inl (cA 4, 60, .inr (.inr (.inr (.inr (fun _ => none)))))), (q25, .inl (cA 5, 100, .inr (.inr (.inr (.inr (fun _ => none)))))), (q34, .inl (cA 1, 16, .inr (.inl (fun _ => 0)))), (q42, .inl (cA 0, 16, .inl (fun _ => 0)))] H := hP
  have hD : va_D A [(o, .inr (3, [.ref q7, .int 0, .ref q16, .int 0, .ref q25, .int 0, .ref q34, .ref q42, .null, .null, .null, .int 0, .int 0, .long 0, .long 0, .int 0])), (q7, .inl (cA 3, 100, .inr (.inr (.inr (.inr (fun _ => none)))))), (q16, .inl (cA 4, 60, .inr (.inr (.inr (.inr (fun _ => none)))))), (q25, .inl (cA 5, 100, .inr (.inr (.inr (.inr (fun _ => none)))))), (q34, .inl (cA 1, 16, .inr (.inl (fun _ => 0)))), (q42, .inl (cA 0, 16, .inl (fun _ => 0)))] := hD
  refine lv_aload_n hx hb dX3_init_47 rfl (lv_at hl 0 rfl) ?_
  refine lv_bipush (v := 10) hx hb dX3_init_48 (by decide) ?_
  refine va_newa (atype := .long) (ty := .long) hx hb lk9 rfl hK hP hD hS hA (a0 := (10, .inr (.inl (fun _ => 0)))) (fun _ => rfl) (by decide) rfl (by decide) (Nat.le_of_ble_eq_true rfl) (Nat.le_of_ble_eq_true rfl) dX3_init_50 (fun q50 cB H hK1 hP hD hS => ?_)
  obtain rfl : cB = cA 1 := ct_K1 hK1 (i := 6) (j := 1) rfl rfl
  clear hK1
  have hP : va_P (dC, dI) vwCl [(o, .inr (3, [.ref q7, .int 0, .ref q16, .int 0, .ref q25, .int 0, .ref q34, .ref q42, .null, .null, .null, .int 0, .int 0, .long 0, .long 0, .int 0])), (q7, .inl (cA 3, 100, .inr (.inr (.inr (.inr (fun _ => none)))))), (q16, .inl (cA 4, 60, .inr (.inr (.inr (.inr (fun _ => none)))))), (q25, .inl (cA 5, 100, .inr (.inr (.inr (.inr (fun _ => none)))))), (q34, .inl (cA 1, 16, .inr (.inl (fun _ => 0)))), (q42, .inl (cA 0, 16, .inl (fun _ => 0))), (q50, .inl (cA 1, 10, .inr (.inl (fun _ => 0))))] H := hP
  have hD : va_D A [(o, .inr (3, [.ref q7, .int 0, .ref q16, .int 0, .ref q25, .int 0, .ref q34, .ref q42, .null, .null, .null, .int 0, .int 0, .long 0, .long 0, .int 0])), (q7, .inl (cA 3, 100, .inr (.inr (.inr (.inr (fun _ => none)))))), (q16, .inl (cA 4, 60, .inr (.inr (.inr (.inr (fun _ => none)))))), (q25, .inl (cA 5, 100, .inr (.inr (.inr (.inr (fun _ => none)))))), (q34, .inl (cA 1, 16, .inr (.inl (fun _ => 0)))), (q42, .inl (cA 0, 16, .inl (fun _ => 0))), (q50, .inl (cA 1, 10, .inr (.inl (fun _ => 0))))] := hD
  refine W.widen (k := 6) (n := 302) (by decide) (by decide) ?_
  refine va_putF (D := (dC, dI)) (ci := 3) (v := .ref q50) (ty := .array .long) (C := RX3) (T := TX3) (N := 16) hx hb hts in0 tyX3 tyX3_ok nmX3 hown hK hP hD hS 0 rfl rfl 8 (by decide) lk13 (fun _ h9 => h9) rfl hin rfl (by decide +kernel) rfl rfl (Nat.le_of_ble_eq_true rfl) dX3_init_52 (fun H locs hP hD hS => ?_)
  have hP : va_P (dC, dI) vwCl [(o, .inr (3, [.ref q7, .int 0, .ref q16, .int 0, .ref q25, .int 0, .ref q34, .ref q42, .ref q50, .null, .null, .int 0, .int 0, .long 0, .long 0, .int 0])), (q7, .inl (cA 3, 100, .inr (.inr (.inr (.inr (fun _ => none)))))), (q16, .inl (cA 4, 60, .inr (.inr (.inr (.inr (fun _ => none)))))), (q25, .inl (cA 5, 100, .inr (.inr (.inr (.inr (fun _ => none)))))), (q34, .inl (cA 1, 16, .inr (.inl (fun _ => 0)))), (q42, .inl (cA 0, 16, .inl (fun _ => 0))), (q50, .inl (cA 1, 10, .inr (.inl (fun _ => 0))))] H := hP
  have hD : va_D A [(o, .inr (3, [.ref q7, .int 0, .ref q16, .int 0, .ref q25, .int 0, .ref q34, .ref q42, .ref q50, .null, .null, .int 0, .int 0, .long 0, .long 0, .int 0])), (q7, .inl (cA 3, 100, .inr (.inr (.inr (.inr (fun _ => none)))))), (q16, .inl (cA 4, 60, .inr (.inr (.inr (.inr (fun _ => none)))))), (q25, .inl (cA 5, 100, .inr (.inr (.inr (.inr (fun _ => none)))))), (q34, .inl (cA 1, 16, .inr (.inl (fun _ => 0)))), (q42, .inl (cA 0, 16, .inl (fun _ => 0))), (q50, .inl (cA 1, 10, .inr (.inl (fun _ => 0))))] := hD
  refine lv_aload_n hx hb dX3_init_55 rfl (lv_at hl 0 rfl) ?_
  refine lv_sipush (v := 200) hx hb dX3_init_56 (by decide) ?_
  refine va_newa (atype := .int) (ty := .int) hx hb lk11 rfl hK hP hD hS hA (a0 := (200, .inl (fun _ => 0))) (fun _ => rfl) (by decide) rfl (by decide) (Nat.le_of_ble_eq_true rfl) (Nat.le_of_ble_eq_true rfl) dX3_init_59 (fun q59 cB H hK1 hP hD hS => ?_)
  obtain rfl : cB = cA 0 := ct_K1 hK1 (i := 6) (j := 0) rfl rfl
  clear hK1
  have hP : va_P (dC, dI) vwCl [(o, .inr (3, [.ref q7, .int 0, .ref q16, .int 0, .ref q25, .int 0, .ref q34, .ref q42, .ref q50, .null, .null, .int 0, .int 0, .long 0, .long 0, .int 0])), (q7, .inl (cA 3, 100, .inr (.inr (.inr (.inr (fun _ => none)))))), (q16, .inl (cA 4, 60, .inr (.inr (.inr (.inr (fun _ => none)))))), (q25, .inl (cA 5, 100, .inr (.inr (.inr (.inr (fun _ => none)))))), (q34, .inl (cA 1, 16, .inr (.inl (fun _ => 0)))), (q42, .inl (cA 0, 16, .inl (fun _ => 0))), (q50, .inl (cA 1, 10, .inr (.inl (fun _ => 0)))), (q59, .inl (cA 0, 200, .inl (fun _ => 0)))] H := hP
  have hD : va_D A [(o, .inr (3, [.ref q7, .int 0, .ref q16, .int 0, .ref q25, .int 0, .ref q34, .ref q42, .ref q50, .null, .null, .int 0, .int 0, .long 0, .long 0, .int 0])), (q7, .inl (cA 3, 100, .inr (.inr (.inr (.inr (fun _ => none)))))), (q16, .inl (cA 4, 60, .inr (.inr (.inr (.inr (fun _ => none)))))), (q25, .inl (cA 5, 100, .inr (.inr (.inr (.inr (fun _ => none)))))), (q34, .inl (cA 1, 16, .inr (.inl (fun _ => 0)))), (q42, .inl (cA 0, 16, .inl (fun _ => 0))), (q50, .inl (cA 1, 10, .inr (.inl (fun _ => 0)))), (q59, .inl (cA 0, 200, .inl (fun _ => 0)))] := hD
  refine W.widen (k := 7) (n := 502) (by decide) (by decide) ?_
  refine va_putF (D := (dC, dI)) (ci := 3) (v := .ref q59) (ty := .array .int) (C := RX3) (T := TX3) (N := 16) hx hb hts in0 tyX3 tyX3_ok nmX3 hown hK hP hD hS 0 rfl rfl 9 (by decide) lk14 (fun _ h9 => h9) rfl hin rfl (by decide +kernel) rfl rfl (Nat.le_of_ble_eq_true rfl) dX3_init_61 (fun H locs hP hD hS => ?_)
  have hP : va_P (dC, dI) vwCl [(o, .inr (3, [.ref q7, .int 0, .ref q16, .int 0, .ref q25, .int 0, .ref q34, .ref q42, .ref q50, .ref q59, .null, .int 0, .int 0, .long 0, .long 0, .int 0])), (q7, .inl (cA 3, 100, .inr (.inr (.inr (.inr (fun _ => none)))))), (q16, .inl (cA 4, 60, .inr (.inr (.inr (.inr (fun _ => none)))))), (q25, .inl (cA 5, 100, .inr (.inr (.inr (.inr (fun _ => none)))))), (q34, .inl (cA 1, 16, .inr (.inl (fun _ => 0)))), (q42, .inl (cA 0, 16, .inl (fun _ => 0))), (q50, .inl (cA 1, 10, .inr (.inl (fun _ => 0)))), (q59, .inl (cA 0, 200, .inl (fun _ => 0)))] H := hP
  have hD : va_D A [(o, .inr (3, [.ref q7, .int 0, .ref q16, .int 0, .ref q25, .int 0, .ref q34, .ref q42, .ref q50, .ref q59, .null, .int 0, .int 0, .long 0, .long 0, .int 0])), (q7, .inl (cA 3, 100, .inr (.inr (.inr (.inr (fun _ => none)))))), (q16, .inl (cA 4, 60, .inr (.inr (.inr (.inr (fun _ => none)))))), (q25, .inl (cA 5, 100, .inr (.inr (.inr (.inr (fun _ => none)))))), (q34, .inl (cA 1, 16, .inr (.inl (fun _ => 0)))), (q42, .inl (cA 0, 16, .inl (fun _ => 0))), (q50, .inl (cA 1, 10, .inr (.inl (fun _ => 0)))), (q59, .inl (cA 0, 200, .inl (fun _ => 0)))] := hD
  refine lv_aload_n hx hb dX3_init_64 rfl (lv_at hl 0 rfl) ?_
  refine lv_sipush (v := 200) hx hb dX3_init_65 (by decide) ?_
  refine va_newa (atype := .int) (ty := .int) hx hb lk11 rfl hK hP hD hS hA (a0 := (200, .inl (fun _ => 0))) (fun _ => rfl) (by decide) rfl (by decide) (Nat.le_of_ble_eq_true rfl) (Nat.le_of_ble_eq_true rfl) dX3_init_68 (fun q68 cB H hK1 hP hD hS => ?_)
  obtain rfl : cB = cA 0 := ct_K1 hK1 (i := 6) (j := 0) rfl rfl
  clear hK1
  have hP : va_P (dC, dI) vwCl [(o, .inr (3, [.ref q7, .int 0, .ref q16, .int 0, .ref q25, .int 0, .ref q34, .ref q42, .ref q50, .ref q59, .null, .int 0, .int 0, .long 0, .long 0, .int 0])), (q7, .inl (cA 3, 100, .inr (.inr (.inr (.inr (fun _ => none)))))), (q16, .inl (cA 4, 60, .inr (.inr (.inr (.inr (fun _ => none)))))), (q25, .inl (cA 5, 100, .inr (.inr (.inr (.inr (fun _ => none)))))), (q34, .inl (cA 1, 16, .inr (.inl (fun _ => 0)))), (q42, .inl (cA 0, 16, .inl (fun _ => 0))), (q50, .inl (cA 1, 10, .inr (.inl (fun _ => 0)))), (q59, .inl (cA 0, 200, .inl (fun _ => 0))), (q68, .inl (cA 0, 200, .inl (fun _ => 0)))] H := hP
  have hD : va_D A [(o, .inr (3, [.ref q7, .int 0, .ref q16, .int 0, .ref q25, .int 0, .ref q34, .ref q42, .ref q50, .ref q59, .null, .int 0, .int 0, .long 0, .long 0, .int 0])), (q7, .inl (cA 3, 100, .inr (.inr (.inr (.inr (fun _ => none)))))), (q16, .inl (cA 4, 60, .inr (.inr (.inr (.inr (fun _ => none)))))), (q25, .inl (cA 5, 100, .inr (.inr (.inr (.inr (fun _ => none)))))), (q34, .inl (cA 1, 16, .inr (.inl (fun _ => 0)))), (q42, .inl (cA 0, 16, .inl (fun _ => 0))), (q50, .inl (cA 1, 10, .inr (.inl (fun _ => 0)))), (q59, .inl (cA 0, 200, .inl (fun _ => 0))), (q68, .inl (cA 0, 200, .inl (fun _ => 0)))] := hD
  refine W.widen (k := 8) (n := 702) (by decide) (by decide) ?_
  refine va_putF (D := (dC, dI)) (ci := 3) (v := .ref q68) (ty := .array .int) (C := RX3) (T := TX3) (N := 16) hx hb hts in0 tyX3 tyX3_ok nmX3 hown hK hP hD hS 0 rfl rfl 10 (by decide) lk15 (fun _ h9 => h9) rfl hin rfl (by decide +kernel) rfl rfl (Nat.le_of_ble_eq_true rfl) dX3_init_70 (fun H locs hP hD hS => ?_)
  have hP : va_P (dC, dI) vwCl [(o, .inr (3, [.ref q7, .int 0, .ref q16, .int 0, .ref q25, .int 0, .ref q34, .ref q42, .ref q50, .ref q59, .ref q68, .int 0, .int 0, .long 0, .long 0, .int 0])), (q7, .inl (cA 3, 100, .inr (.inr (.inr (.inr (fun _ => none)))))), (q16, .inl (cA 4, 60, .inr (.inr (.inr (.inr (fun _ => none)))))), (q25, .inl (cA 5, 100, .inr (.inr (.inr (.inr (fun _ => none)))))), (q34, .inl (cA 1, 16, .inr (.inl (fun _ => 0)))), (q42, .inl (cA 0, 16, .inl (fun _ => 0))), (q50, .inl (cA 1, 10, .inr (.inl (fun _ => 0)))), (q59, .inl (cA 0, 200, .inl (fun _ => 0))), (q68, .inl (cA 0, 200, .inl (fun _ => 0)))] H := hP
  have hD : va_D A [(o, .inr (3, [.ref q7, .int 0, .ref q16, .int 0, .ref q25, .int 0, .ref q34, .ref q42, .ref q50, .ref q59, .ref q68, .int 0, .int 0, .long 0, .long 0, .int 0])), (q7, .inl (cA 3, 100, .inr (.inr (.inr (.inr (fun _ => none)))))), (q16, .inl (cA 4, 60, .inr (.inr (.inr (.inr (fun _ => none)))))), (q25, .inl (cA 5, 100, .inr (.inr (.inr (.inr (fun _ => none)))))), (q34, .inl (cA 1, 16, .inr (.inl (fun _ => 0)))), (q42, .inl (cA 0, 16, .inl (fun _ => 0))), (q50, .inl (cA 1, 10, .inr (.inl (fun _ => 0)))), (q59, .inl (cA 0, 200, .inl (fun _ => 0))), (q68, .inl (cA 0, 200, .inl (fun _ => 0)))] := hD
  exact W.vret hx hb hr (fun t ht hW => ⟨⟨(fun k => if k = 0 then o else if k = 1 then q7 else if k = 2 then q16 else if k = 3 then q25 else if k = 4 then q34 else if k = 5 then q42 else if k = 6 then q50 else if k = 7 then q59 else q68), rfl, rfl, by rw [ht]; exact hP, va_K.moved hW.alike hK, hD⟩, hS.F ht⟩) hS.2.2 dX3_init_73
end
