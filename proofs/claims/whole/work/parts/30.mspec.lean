/-! The reference: its state (an object and 25 arrays), and what each call answers and does. -/
def xf_M (Q : Nat → Nat) (σ : xs_T) : List Value := [.int (σ.1 0), .ref (Q 1), .ref (Q 2), .ref (Q 3), .ref (Q 4), .ref (Q 5), .ref (Q 6), .ref (Q 7), .ref (Q 8), .ref (Q 9), .ref (Q 10), .ref (Q 11), .int (σ.1 1), .ref (Q 12), .ref (Q 13), .ref (Q 14), .ref (Q 15), .ref (Q 16), .ref (Q 17), .ref (Q 18), .int (σ.1 2), .ref (Q 19), .ref (Q 20), .ref (Q 21), .ref (Q 22), .int (σ.1 3), .ref (Q 23), .int (σ.1 4), .ref (Q 24), .ref (Q 25), .long (σ.2.1 0), .long (σ.2.1 1), .int (σ.1 5)]
def xm_W (Q : Nat → Nat) (cA : Nat → ClassId) (σ : xs_T) : va_W := [(Q 0, .inr (4, xf_M Q σ)), (Q 1, .inl (cA 0, 101, .inl (σ.2.2.1 0))), (Q 2, .inl (cA 1, 101, .inr (.inl (σ.2.2.2.1 0)))), (Q 3, .inl (cA 1, 101, .inr (.inl (σ.2.2.2.1 1)))), (Q 4, .inl (cA 0, 101, .inl (σ.2.2.1 1))), (Q 5, .inl (cA 0, 101, .inl (σ.2.2.1 2))), (Q 6, .inl (cA 0, 101, .inl (σ.2.2.1 3))), (Q 7, .inl (cA 0, 808, .inl (σ.2.2.1 4))), (Q 8, .inl (cA 2, 808, .inl (σ.2.2.1 5))), (Q 9, .inl (cA 2, 101, .inl (σ.2.2.1 6))), (Q 10, .inl (cA 1, 16, .inr (.inl (σ.2.2.2.1 2)))), (Q 11, .inl (cA 0, 16, .inl (σ.2.2.1 7))), (Q 12, .inl (cA 0, 61, .inl (σ.2.2.1 8))), (Q 13, .inl (cA 0, 61, .inl (σ.2.2.1 9))), (Q 14, .inl (cA 0, 61, .inl (σ.2.2.1 10))), (Q 15, .inl (cA 2, 244, .inl (σ.2.2.1 11))), (Q 16, .inl (cA 2, 61, .inl (σ.2.2.1 12))), (Q 17, .inl (cA 2, 61, .inl (σ.2.2.1 13))), (Q 18, .inl (cA 1, 61, .inr (.inl (σ.2.2.2.1 3)))), (Q 19, .inl (cA 0, 101, .inl (σ.2.2.1 14))), (Q 20, .inl (cA 0, 101, .inl (σ.2.2.1 15))), (Q 21, .inl (cA 0, 101, .inl (σ.2.2.1 16))), (Q 22, .inl (cA 2, 101, .inl (σ.2.2.1 17))), (Q 23, .inl (cA 1, 10, .inr (.inl (σ.2.2.2.1 4)))), (Q 24, .inl (cA 0, 200, .inl (σ.2.2.1 18))), (Q 25, .inl (cA 0, 200, .inl (σ.2.2.1 19)))]
theorem xm_W_0 {Q : Nat → Nat} {cA : Nat → ClassId} {σ : xs_T} (L : List Nat) (f : Nat → va_E) : (xm_W Q cA σ ++ va_pl L f)[0]? = some (Q 0, .inr (4, xf_M Q σ)) := rfl
theorem xm_W_1 {Q : Nat → Nat} {cA : Nat → ClassId} {σ : xs_T} (L : List Nat) (f : Nat → va_E) : (xm_W Q cA σ ++ va_pl L f)[1]? = some (Q 1, .inl (cA 0, 101, .inl (σ.2.2.1 0))) := rfl
theorem xm_W_2 {Q : Nat → Nat} {cA : Nat → ClassId} {σ : xs_T} (L : List Nat) (f : Nat → va_E) : (xm_W Q cA σ ++ va_pl L f)[2]? = some (Q 2, .inl (cA 1, 101, .inr (.inl (σ.2.2.2.1 0)))) := rfl
theorem xm_W_3 {Q : Nat → Nat} {cA : Nat → ClassId} {σ : xs_T} (L : List Nat) (f : Nat → va_E) : (xm_W Q cA σ ++ va_pl L f)[3]? = some (Q 3, .inl (cA 1, 101, .inr (.inl (σ.2.2.2.1 1)))) := rfl
theorem xm_W_4 {Q : Nat → Nat} {cA : Nat → ClassId} {σ : xs_T} (L : List Nat) (f : Nat → va_E) : (xm_W Q cA σ ++ va_pl L f)[4]? = some (Q 4, .inl (cA 0, 101, .inl (σ.2.2.1 1))) := rfl
theorem xm_W_5 {Q : Nat → Nat} {cA : Nat → ClassId} {σ : xs_T} (L : List Nat) (f : Nat → va_E) : (xm_W Q cA σ ++ va_pl L f)[5]? = some (Q 5, .inl (cA 0, 101, .inl (σ.2.2.1 2))) := rfl
theorem xm_W_6 {Q : Nat → Nat} {cA : Nat → ClassId} {σ : xs_T} (L : List Nat) (f : Nat → va_E) : (xm_W Q cA σ ++ va_pl L f)[6]? = some (Q 6, .inl (cA 0, 101, .inl (σ.2.2.1 3))) := rfl
theorem xm_W_7 {Q : Nat → Nat} {cA : Nat → ClassId} {σ : xs_T} (L : List Nat) (f : Nat → va_E) : (xm_W Q cA σ ++ va_pl L f)[7]? = some (Q 7, .inl (cA 0, 808, .inl (σ.2.2.1 4))) := rfl
theorem xm_W_8 {Q : Nat → Nat} {cA : Nat → ClassId} {σ : xs_T} (L : List Nat) (f : Nat → va_E) : (xm_W Q cA σ ++ va_pl L f)[8]? = some (Q 8, .inl (cA 2, 808, .inl (σ.2.2.1 5))) := rfl
theorem xm_W_9 {Q : Nat → Nat} {cA : Nat → ClassId} {σ : xs_T} (L : List Nat) (f : Nat → va_E) : (xm_W Q cA σ ++ va_pl L f)[9]? = some (Q 9, .inl (cA 2, 101, .inl (σ.2.2.1 6))) := rfl
theorem xm_W_10 {Q : Nat → Nat} {cA : Nat → ClassId} {σ : xs_T} (L : List Nat) (f : Nat → va_E) : (xm_W Q cA σ ++ va_pl L f)[10]? = some (Q 10, .inl (cA 1, 16, .inr (.inl (σ.2.2.2.1 2)))) := rfl
theorem xm_W_11 {Q : Nat → Nat} {cA : Nat → ClassId} {σ : xs_T} (L : List Nat) (f : Nat → va_E) : (xm_W Q cA σ ++ va_pl L f)[11]? = some (Q 11, .inl (cA 0, 16, .inl (σ.2.2.1 7))) := rfl
theorem xm_W_12 {Q : Nat → Nat} {cA : Nat → ClassId} {σ : xs_T} (L : List Nat) (f : Nat → va_E) : (xm_W Q cA σ ++ va_pl L f)[12]? = some (Q 12, .inl (cA 0, 61, .inl (σ.2.2.1 8))) := rfl
theorem xm_W_13 {Q : Nat → Nat} {cA : Nat → ClassId} {σ : xs_T} (L : List Nat) (f : Nat → va_E) : (xm_W Q cA σ ++ va_pl L f)[13]? = some (Q 13, .inl (cA 0, 61, .inl (σ.2.2.1 9))) := rfl
theorem xm_W_14 {Q : Nat → Nat} {cA : Nat → ClassId} {σ : xs_T} (L : List Nat) (f : Nat → va_E) : (xm_W Q cA σ ++ va_pl L f)[14]? = some (Q 14, .inl (cA 0, 61, .inl (σ.2.2.1 10))) := rfl
theorem xm_W_15 {Q : Nat → Nat} {cA : Nat → ClassId} {σ : xs_T} (L : List Nat) (f : Nat → va_E) : (xm_W Q cA σ ++ va_pl L f)[15]? = some (Q 15, .inl (cA 2, 244, .inl (σ.2.2.1 11))) := rfl
theorem xm_W_16 {Q : Nat → Nat} {cA : Nat → ClassId} {σ : xs_T} (L : List Nat) (f : Nat → va_E) : (xm_W Q cA σ ++ va_pl L f)[16]? = some (Q 16, .inl (cA 2, 61, .inl (σ.2.2.1 12))) := rfl
theorem xm_W_17 {Q : Nat → Nat} {cA : Nat → ClassId} {σ : xs_T} (L : List Nat) (f : Nat → va_E) : (xm_W Q cA σ ++ va_pl L f)[17]? = some (Q 17, .inl (cA 2, 61, .inl (σ.2.2.1 13))) := rfl
theorem xm_W_18 {Q : Nat → Nat} {cA : Nat → ClassId} {σ : xs_T} (L : List Nat) (f : Nat → va_E) : (xm_W Q cA σ ++ va_pl L f)[18]? = some (Q 18, .inl (cA 1, 61, .inr (.inl (σ.2.2.2.1 3)))) := rfl
theorem xm_W_19 {Q : Nat → Nat} {cA : Nat → ClassId} {σ : xs_T} (L : List Nat) (f : Nat → va_E) : (xm_W Q cA σ ++ va_pl L f)[19]? = some (Q 19, .inl (cA 0, 101, .inl (σ.2.2.1 14))) := rfl
theorem xm_W_20 {Q : Nat → Nat} {cA : Nat → ClassId} {σ : xs_T} (L : List Nat) (f : Nat → va_E) : (xm_W Q cA σ ++ va_pl L f)[20]? = some (Q 20, .inl (cA 0, 101, .inl (σ.2.2.1 15))) := rfl
theorem xm_W_21 {Q : Nat → Nat} {cA : Nat → ClassId} {σ : xs_T} (L : List Nat) (f : Nat → va_E) : (xm_W Q cA σ ++ va_pl L f)[21]? = some (Q 21, .inl (cA 0, 101, .inl (σ.2.2.1 16))) := rfl
theorem xm_W_22 {Q : Nat → Nat} {cA : Nat → ClassId} {σ : xs_T} (L : List Nat) (f : Nat → va_E) : (xm_W Q cA σ ++ va_pl L f)[22]? = some (Q 22, .inl (cA 2, 101, .inl (σ.2.2.1 17))) := rfl
theorem xm_W_23 {Q : Nat → Nat} {cA : Nat → ClassId} {σ : xs_T} (L : List Nat) (f : Nat → va_E) : (xm_W Q cA σ ++ va_pl L f)[23]? = some (Q 23, .inl (cA 1, 10, .inr (.inl (σ.2.2.2.1 4)))) := rfl
theorem xm_W_24 {Q : Nat → Nat} {cA : Nat → ClassId} {σ : xs_T} (L : List Nat) (f : Nat → va_E) : (xm_W Q cA σ ++ va_pl L f)[24]? = some (Q 24, .inl (cA 0, 200, .inl (σ.2.2.1 18))) := rfl
theorem xm_W_25 {Q : Nat → Nat} {cA : Nat → ClassId} {σ : xs_T} (L : List Nat) (f : Nat → va_E) : (xm_W Q cA σ ++ va_pl L f)[25]? = some (Q 25, .inl (cA 0, 200, .inl (σ.2.2.1 19))) := rfl
def rm_V (σ : xs_T) (n : nn_T) : Prop :=
  (σ.1 0 = nI n.1 ∧ n.1 ≤ 100 ∧ σ.1 1 = nI n.2.1 ∧ n.2.1 ≤ 60 ∧ σ.1 2 = nI n.2.2.1 ∧ n.2.2.1 ≤ 100 ∧ σ.1 4 = nI n.2.2.2 ∧ n.2.2.2 < 100000) ∧
  (∀ i, 1 ≤ i → i ≤ n.1 → (∃ v : Nat, v < 4 ∧ σ.2.2.1 0 i = nI v) ∧ ∃ v : Nat, v ≤ 8 ∧ σ.2.2.1 3 i = nI v) ∧
  (∀ c, 1 ≤ c → c ≤ n.2.1 → (∃ k : Nat, 1 ≤ k ∧ k ≤ n.1 ∧ σ.2.2.1 8 c = nI k) ∧ ∃ v : Nat, v < 4 ∧ σ.2.2.1 9 c = nI v)
def sm_nd (σ : xs_T) (c k : Int32) : xs_T := if σ.1 4 < 200 then xs_i (xs_ai (xs_ai σ 18 (upd (σ.2.2.1 18) (σ.1 4).toNatClampNeg c)) 19 (upd (σ.2.2.1 19) (σ.1 4).toNatClampNeg k)) 4 (σ.1 4 + 1) else xs_i σ 4 (σ.1 4 + 1)
def kr_item (σ : xs_T) (sv : Int32) (v w : Int64) (dy se : Int32) : Int32 × xs_T :=
  if (0 : Int64) ≤ sv.toInt64 ∧ sv.toInt64 ≤ 3 then if 0 ≤ v ∧ v ≤ 10000000 then if 0 ≤ w ∧ w ≤ 10000000 then
  if (0 : Int64) ≤ dy.toInt64 ∧ dy.toInt64 ≤ 100000 then if (0 : Int64) ≤ se.toInt64 ∧ se.toInt64 ≤ 19 then
  if σ.1 0 = 100 then (-104, σ) else
    (σ.1 0 + 1, xs_ai (xs_ai (xs_al (xs_al (xs_ai (xs_i σ 0 (σ.1 0 + 1)) 0 (upd (σ.2.2.1 0) (σ.1 0 + 1).toNatClampNeg sv)) 0 (vp_updL (σ.2.2.2.1 0) (σ.1 0 + 1).toNatClampNeg v)) 1 (vp_updL (σ.2.2.2.1 1) (σ.1 0 + 1).toNatClampNeg w)) 1 (upd (σ.2.2.1 1) (σ.1 0 + 1).toNatClampNeg dy)) 2 (upd (σ.2.2.1 2) (σ.1 0 + 1).toNatClampNeg se))
  else (-102, σ) else (-102, σ) else (-102, σ) else (-102, σ) else (-102, σ)
def pm_at (σ : xs_T) (x : Int32) : Nat := (8 * x - 8 + σ.2.2.1 3 x.toNatClampNeg).toNatClampNeg
def kr_pass (σ : xs_T) (x post : Int32) (b : Bool) : Int32 × xs_T :=
  if 1 ≤ x ∧ x ≤ σ.1 0 then if (0 : Int64) ≤ post.toInt64 ∧ post.toInt64 ≤ 5 then if σ.2.2.1 3 x.toNatClampNeg = 8 then (-104, σ) else
    (upd (σ.2.2.1 3) x.toNatClampNeg (σ.2.2.1 3 x.toNatClampNeg + 1) x.toNatClampNeg, xs_ai (xs_ai (xs_ai σ 4 (upd (σ.2.2.1 4) (pm_at σ x) post)) 5 (upd (σ.2.2.1 5) (pm_at σ x) (bb_v b))) 3 (upd (σ.2.2.1 3) x.toNatClampNeg (σ.2.2.1 3 x.toNatClampNeg + 1)))
  else (-102, σ) else (-101, σ)
def kr_table (σ : xs_T) (sv kd : Int32) (most : Int64) (days : Int32) : Int32 × xs_T :=
  if (0 : Int64) ≤ sv.toInt64 ∧ sv.toInt64 ≤ 3 then if (0 : Int64) ≤ kd.toInt64 ∧ kd.toInt64 ≤ 3 then if 0 ≤ most ∧ most ≤ 10000000 then if (0 : Int64) ≤ days.toInt64 ∧ days.toInt64 ≤ 10000 then
    (1, xs_ai (xs_al σ 2 (vp_updL (σ.2.2.2.1 2) (4 * sv + kd).toNatClampNeg most)) 7 (upd (σ.2.2.1 7) (4 * sv + kd).toNatClampNeg days))
  else (-102, σ) else (-102, σ) else (-102, σ) else (-102, σ)
def ot_r (σ : xs_T) (x kd but : Int32) : Nat → Int32
  | 0 => 0
  | j + 1 => if ¬ nI (j + 1) = but ∧ σ.2.2.1 8 (nI (j + 1)).toNatClampNeg = x ∧ σ.2.2.1 9 (nI (j + 1)).toNatClampNeg = kd ∧ ¬ σ.2.2.1 10 (nI (j + 1)).toNatClampNeg = 2 then nI (j + 1) else ot_r σ x kd but j
def kr_claim (σ : xs_T) (x kd who dy : Int32) : Int32 × xs_T :=
  if 1 ≤ x ∧ x ≤ σ.1 0 then if (0 : Int64) ≤ kd.toInt64 ∧ kd.toInt64 ≤ 3 then if (0 : Int64) ≤ who.toInt64 ∧ who.toInt64 ≤ 2 then if (0 : Int64) ≤ dy.toInt64 ∧ dy.toInt64 ≤ 200000 then
  if who = 2 ∨ (who = 1 ∧ ¬ (kd = 1 ∨ kd = 2)) then (-105, σ) else
  if dy ≤ σ.2.2.1 1 x.toNatClampNeg + σ.2.2.1 7 (4 * σ.2.2.1 0 x.toNatClampNeg + kd).toNatClampNeg then
  if ot_r σ x kd 0 (σ.1 1).toNatClampNeg ≤ 0 then if σ.1 1 = 60 then (-104, σ) else
    (σ.1 1 + 1, sm_nd (xs_ai (xs_ai (xs_ai (xs_i σ 1 (σ.1 1 + 1)) 8 (upd (σ.2.2.1 8) (σ.1 1 + 1).toNatClampNeg x)) 9 (upd (σ.2.2.1 9) (σ.1 1 + 1).toNatClampNeg kd)) 10 (upd (σ.2.2.1 10) (σ.1 1 + 1).toNatClampNeg 0)) (σ.1 1 + 1) 1)
  else (-103, σ) else (-106, σ) else (-102, σ) else (-102, σ) else (-102, σ) else (-101, σ)
def ne_m (kd p : Int32) : Prop := p = 0 ∨ (kd = 1 ∧ p = 1) ∨ (kd = 2 ∧ p = 2) ∨ (kd = 3 ∧ 2 ≤ p)
def la_r (σ : xs_T) (x : Int32) : Nat → Int32
  | 0 => 0
  | j + 1 => if (nI j = 0 ∨ (σ.2.2.1 9 x.toNatClampNeg = 1 ∧ nI j = 1) ∨ (σ.2.2.1 9 x.toNatClampNeg = 2 ∧ nI j = 2) ∨ (σ.2.2.1 9 x.toNatClampNeg = 3 ∧ 2 ≤ nI j)) ∧ σ.2.2.1 11 (4 * x - 4 + nI j).toNatClampNeg = 0 then la_r σ x j + 1 else la_r σ x j
def pr_m (σ : xs_T) (x p : Int32) : xs_T := xs_ai σ 11 (upd (σ.2.2.1 11) (4 * x - 4 + p).toNatClampNeg 1)
def kr_proof (σ : xs_T) (x p : Int32) : Int32 × xs_T :=
  if 1 ≤ x ∧ x ≤ σ.1 1 then if (0 : Int64) ≤ p.toInt64 ∧ p.toInt64 ≤ 3 then if σ.2.2.1 10 x.toNatClampNeg = 0 then
  if p = 0 ∨ (σ.2.2.1 9 x.toNatClampNeg = 1 ∧ p = 1) ∨ (σ.2.2.1 9 x.toNatClampNeg = 2 ∧ p = 2) ∨ (σ.2.2.1 9 x.toNatClampNeg = 3 ∧ 2 ≤ p) then if σ.2.2.1 11 (4 * x - 4 + p).toNatClampNeg = 0 then
    if 0 < la_r (pr_m σ x p) x 4 then (la_r (pr_m σ x p) x 4, sm_nd (pr_m σ x p) x 2) else (la_r (pr_m σ x p) x 4, pr_m σ x p)
  else (-103, σ) else (-103, σ) else (-103, σ) else (-102, σ) else (-101, σ)
def kr_search (σ : xs_T) (x pl due : Int32) : Int32 × xs_T :=
  if 1 ≤ x ∧ x ≤ σ.1 1 then if (0 : Int64) ≤ pl.toInt64 ∧ pl.toInt64 ≤ 49 then if (σ.1 3).toInt64 ≤ due.toInt64 ∧ due.toInt64 ≤ 200000 then
  if σ.2.2.1 10 x.toNatClampNeg = 0 then if σ.2.2.1 9 x.toNatClampNeg = 0 then if σ.1 2 = 100 then (-104, σ) else
    (σ.1 2 + 1, xs_ai (xs_ai (xs_ai (xs_ai (xs_i σ 2 (σ.1 2 + 1)) 14 (upd (σ.2.2.1 14) (σ.1 2 + 1).toNatClampNeg x)) 15 (upd (σ.2.2.1 15) (σ.1 2 + 1).toNatClampNeg due)) 16 (upd (σ.2.2.1 16) (σ.1 2 + 1).toNatClampNeg 0)) 17 (upd (σ.2.2.1 17) (σ.1 2 + 1).toNatClampNeg 1))
  else (-103, σ) else (-103, σ) else (-102, σ) else (-102, σ) else (-101, σ)
def kr_answer (σ : xs_T) (x : Int32) (b : Bool) : Int32 × xs_T :=
  if x < 1 then (-101, σ) else if σ.1 2 < x then (-101, σ) else if σ.2.2.1 16 x.toNatClampNeg = 0 then (1, xs_ai σ 16 (upd (σ.2.2.1 16) x.toNatClampNeg (if b then 1 else 2))) else (-103, σ)
def ti_r (σ : xs_T) (dy : Int32) : Nat → Int32 × xs_T
  | 0 => (0, xs_i σ 3 dy)
  | j + 1 => if (ti_r σ dy j).2.2.2.1 16 (nI (j + 1)).toNatClampNeg = 0 ∧ (ti_r σ dy j).2.2.2.1 15 (nI (j + 1)).toNatClampNeg < (ti_r σ dy j).2.1 3 then
      ((ti_r σ dy j).1 + 1, xs_ai (ti_r σ dy j).2 16 (upd ((ti_r σ dy j).2.2.2.1 16) (nI (j + 1)).toNatClampNeg 2)) else ti_r σ dy j
def kr_tick (σ : xs_T) (dy : Int32) : Int32 × xs_T :=
  if (σ.1 3).toInt64 ≤ dy.toInt64 ∧ dy.toInt64 ≤ 200000 then ti_r σ dy (σ.1 2).toNatClampNeg else (-102, σ)
def ma_r (σ : xs_T) (x w : Int32) : Nat → Int32
  | 0 => 0
  | j + 1 => if σ.2.2.1 14 (nI (j + 1)).toNatClampNeg = x ∧ ¬ σ.2.2.1 17 (nI (j + 1)).toNatClampNeg = 0 ∧ σ.2.2.1 16 (nI (j + 1)).toNatClampNeg = w then ma_r σ x w j + 1 else ma_r σ x w j
def sm_n (σ : xs_T) (x : Int32) : Int64 :=
  let i := (σ.2.2.1 8 x.toNatClampNeg).toNatClampNeg
  let bound := if 0 < σ.2.2.2.1 1 i then σ.2.2.2.1 1 i else σ.2.2.2.1 2 (4 * σ.2.2.1 0 i + σ.2.2.1 9 x.toNatClampNeg).toNatClampNeg
  let base := if σ.2.2.2.1 0 i < bound then σ.2.2.2.1 0 i else bound
  if σ.2.2.1 9 x.toNatClampNeg = 1 then base / 10 else if σ.2.2.1 9 x.toNatClampNeg = 2 then base / 2 else base
def kr_sum (σ : xs_T) (x : Int32) : Int64 := if 1 ≤ x ∧ x ≤ σ.1 1 then if σ.2.2.1 10 x.toNatClampNeg = 1 then σ.2.2.2.1 3 x.toNatClampNeg else sm_n σ x else -101
def kr_limit (σ : xs_T) (p : Int32) (c : Int64) : Int32 × xs_T :=
  if (0 : Int64) ≤ p.toInt64 ∧ p.toInt64 ≤ 9 then if 0 ≤ c ∧ c ≤ 10000000 then (1, xs_al σ 4 (vp_updL (σ.2.2.2.1 4) p.toNatClampNeg c)) else (-102, σ) else (-102, σ)
def rf_m (σ : xs_T) (x : Int32) : xs_T := sm_nd (xs_i (xs_ai σ 10 (upd (σ.2.2.1 10) x.toNatClampNeg 2)) 5 (σ.1 5 + 1)) x 4
def py_m (σ : xs_T) (x : Int32) : xs_T := sm_nd (xs_l (xs_al (xs_ai σ 10 (upd (σ.2.2.1 10) x.toNatClampNeg 1)) 3 (vp_updL (σ.2.2.2.1 3) x.toNatClampNeg (sm_n σ x))) 0 (σ.2.1 0 + sm_n σ x)) x 3
def dp_m (σ : xs_T) (x p : Int32) : Int32 × xs_T := if σ.2.2.2.1 4 p.toNatClampNeg < sm_n σ x then (-107, σ) else (1, py_m σ x)
def kr_decide (σ : xs_T) (x p : Int32) : Int32 × xs_T :=
  if 1 ≤ x ∧ x ≤ σ.1 1 then if (0 : Int64) ≤ p.toInt64 ∧ p.toInt64 ≤ 9 then if σ.2.2.1 10 x.toNatClampNeg = 0 then if la_r σ x 4 ≤ 0 then
  if σ.2.2.1 9 x.toNatClampNeg = 0 then
    if ma_r σ x 0 (σ.1 2).toNatClampNeg ≤ 0 then
      if ma_r σ x 1 (σ.1 2).toNatClampNeg + ma_r σ x 2 (σ.1 2).toNatClampNeg = 0 then (-103, σ) else
        if ma_r σ x 1 (σ.1 2).toNatClampNeg ≤ 0 then dp_m σ x p else (2, rf_m σ x)
    else (-103, σ)
  else dp_m σ x p
  else (-103, σ) else (-103, σ) else (-102, σ) else (-101, σ)
def fi_r (σ : xs_T) (it : Int32) : Nat → Int32
  | 0 => 0
  | k + 1 => if σ.2.2.1 5 (8 * it - 8 + nI k).toNatClampNeg = 0 then fi_r σ it k else nI k
def sr_r (σ : xs_T) (it first : Int32) (each over : Int64) (post : Int32) : Nat → Int64
  | 0 => 0
  | j + 1 => if σ.2.2.1 4 (8 * it - 8 + (first + nI j)).toNatClampNeg = post then (if (first + nI j - first).toInt64 < over then sr_r σ it first each over post j + (each + 1) else sr_r σ it first each over post j + each) else sr_r σ it first each over post j
def kr_share (σ : xs_T) (x post : Int32) : Int64 :=
  if 1 ≤ x ∧ x ≤ σ.1 1 then if (0 : Int64) ≤ post.toInt64 ∧ post.toInt64 ≤ 5 then
    let it := σ.2.2.1 8 x.toNatClampNeg
    let n := σ.2.2.1 3 it.toNatClampNeg
    if σ.2.2.1 10 x.toNatClampNeg = 1 then if n = 0 then 0 else
      let first := fi_r σ it n.toNatClampNeg
      let each := σ.2.2.2.1 3 x.toNatClampNeg / (n - first).toInt64
      sr_r σ it first each (σ.2.2.2.1 3 x.toNatClampNeg - each * (n - first).toInt64) post (n - first).toNatClampNeg
    else 0
  else -102 else -101
def kr_found (σ : xs_T) (x : Int32) : Int32 × xs_T :=
  if 1 ≤ x ∧ x ≤ σ.1 0 then
    if ot_r σ x 0 0 (σ.1 1).toNatClampNeg = 0 then (-103, σ) else if σ.2.2.1 10 (ot_r σ x 0 0 (σ.1 1).toNatClampNeg).toNatClampNeg = 1 then if σ.2.2.1 6 x.toNatClampNeg = 0 then
      (ot_r σ x 0 0 (σ.1 1).toNatClampNeg, xs_ai σ 6 (upd (σ.2.2.1 6) x.toNatClampNeg 1)) else (-103, σ) else (-103, σ)
  else (-101, σ)
def kr_back (σ : xs_T) (x : Int32) (b : Bool) : Int32 × xs_T :=
  if 1 ≤ x ∧ x ≤ σ.1 1 then if σ.2.2.1 10 x.toNatClampNeg = 1 then if σ.2.2.1 9 x.toNatClampNeg = 0 then if σ.2.2.1 6 (σ.2.2.1 8 x.toNatClampNeg).toNatClampNeg = 0 then (-103, σ) else if σ.2.2.1 13 x.toNatClampNeg = 0 then
    (1, if b then sm_nd (xs_l (xs_ai σ 13 (upd (σ.2.2.1 13) x.toNatClampNeg 1)) 1 (σ.2.1 1 + σ.2.2.2.1 3 x.toNatClampNeg)) x 5 else xs_ai σ 13 (upd (σ.2.2.1 13) x.toNatClampNeg 1))
  else (-103, σ) else (-103, σ) else (-103, σ) else (-101, σ)
def ap_r (σ : xs_T) (x : Int32) : Nat → xs_T
  | 0 => xs_ai (xs_ai σ 12 (upd (σ.2.2.1 12) x.toNatClampNeg 1)) 10 (upd (σ.2.2.1 10) x.toNatClampNeg 0)
  | j + 1 => if (ap_r σ x j).2.2.1 14 (nI (j + 1)).toNatClampNeg = x then xs_ai (ap_r σ x j) 17 (upd ((ap_r σ x j).2.2.1 17) (nI (j + 1)).toNatClampNeg 0) else ap_r σ x j
def kr_appeal (σ : xs_T) (x : Int32) : Int32 × xs_T :=
  if 1 ≤ x ∧ x ≤ σ.1 1 then if σ.2.2.1 10 x.toNatClampNeg = 2 then if σ.2.2.1 12 x.toNatClampNeg = 0 then
    if ot_r σ (σ.2.2.1 8 x.toNatClampNeg) (σ.2.2.1 9 x.toNatClampNeg) x (σ.1 1).toNatClampNeg ≤ 0 then (1, sm_nd (ap_r σ x (σ.1 2).toNatClampNeg) x 6) else (-103, σ)
  else (-103, σ) else (-103, σ) else (-101, σ)
def pd_r (σ : xs_T) (x kd : Int32) : Nat → Int32
  | 0 => 0
  | j + 1 => if ¬ pd_r σ x kd j = 0 ∨ (σ.2.2.1 8 (nI (j + 1)).toNatClampNeg = x ∧ σ.2.2.1 9 (nI (j + 1)).toNatClampNeg = kd ∧ σ.2.2.1 10 (nI (j + 1)).toNatClampNeg = 1) then 1 else 0
def be_r (σ : xs_T) (x : Int32) : Nat → Int32
  | 0 => 0
  | j + 1 => if σ.2.2.1 2 (σ.2.2.1 8 (nI (j + 1)).toNatClampNeg).toNatClampNeg = σ.2.2.1 2 (σ.2.2.1 8 x.toNatClampNeg).toNatClampNeg then be_r σ x j + 1 else be_r σ x j
def kr_about (σ : xs_T) (x w : Int32) : Int32 :=
  if 1 ≤ x ∧ x ≤ σ.1 1 then if w = 0 then σ.2.2.1 10 x.toNatClampNeg else if w = 1 then σ.2.2.1 8 x.toNatClampNeg else if w = 2 then σ.2.2.1 9 x.toNatClampNeg else if w = 3 then la_r σ x 4 else if w = 4 then ma_r σ x 0 (σ.1 2).toNatClampNeg else if w = 5 then be_r σ x (x - 1).toNatClampNeg else -102 else -101
def kr_letter (σ : xs_T) (i w : Int32) : Int32 :=
  if i < 0 then -1 else if σ.1 4 ≤ i then -1 else if 200 ≤ i then -1 else if w = 0 then σ.2.2.1 18 i.toNatClampNeg else if w = 1 then σ.2.2.1 19 i.toNatClampNeg else -1
def kr_all (σ : xs_T) (w : Int32) : Int64 := if w = 0 then σ.2.1 0 else if w = 1 then σ.2.1 1 else if w = 2 then (σ.1 5).toInt64 else if w = 3 then (σ.1 4).toInt64 else -102
