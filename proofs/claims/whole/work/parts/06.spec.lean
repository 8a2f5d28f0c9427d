/-! What each call of the class answers and does, in the words of its state (a line of Java is a line here). -/
abbrev as_T : Type := xs_T × co_T
def na_m (x : Int32) (c : Int32) : Option Nat := if 1 ≤ x ∧ x ≤ c then some (x - 1).toNatClampNeg else none
def se_nd (σ : xs_T) (c k : Int32) : xs_T := if σ.1 3 < 200 then xs_i (xs_ai (xs_ai σ 1 (upd (σ.2.2.1 1) (σ.1 3).toNatClampNeg c)) 2 (upd (σ.2.2.1 2) (σ.1 3).toNatClampNeg k)) 3 (σ.1 3 + 1) else xs_i σ 3 (σ.1 3 + 1)
def co_g (co : co_T) (g : Nat → Nat → Int32) : co_T := (co.1, g, co.2.2)
def ni_co (co : co_T) (i : Nat) (sv : Int32) (v w : Int64) (dy se : Int32) : co_T :=
  (co.1, up_2 (up_2 (up_2 (up_2 (up_2 (up_2 co.2.1 0 i sv) 1 i dy) 2 i se) 3 i 0) 4 i 0) 5 i 0, up_2 (up_2 co.2.2.1 0 i v) 1 i w, va_up co.2.2.2 i (fun _ => 0))
def kc_item (a : as_T) (sv : Int32) (v w : Int64) (dy se : Int32) : Int32 × as_T :=
  if 0 ≤ sv ∧ sv < 4 then if 0 ≤ v ∧ v ≤ 10000000 then if 0 ≤ w ∧ w ≤ 10000000 then
  if (0 : Int64) ≤ dy.toInt64 ∧ dy.toInt64 ≤ 100000 then if 0 ≤ se ∧ se < 20 then
  if a.1.1 0 < 100 then (a.1.1 0 + 1, (xs_i a.1 0 (a.1.1 0 + 1), ni_co a.2 (a.1.1 0).toNatClampNeg sv v w dy se)) else (-104, a)
  else (-102, a) else (-102, a) else (-102, a) else (-102, a) else (-102, a)
def ps_co (co : co_T) (i : Nat) (post : Int32) (b : Bool) : co_T :=
  (co.1, up_2 (if b then up_2 co.2.1 4 i (co.2.1 3 i) else co.2.1) 3 i (co.2.1 3 i + 1), co.2.2.1, va_up co.2.2.2 i (upd (co.2.2.2 i) (co.2.1 3 i).toNatClampNeg post))
def kc_pass (a : as_T) (x post : Int32) (b : Bool) : Int32 × as_T :=
  (na_m x (a.1.1 0)).elim (-101, a) (fun i => if 0 ≤ post ∧ post < 6 then if a.2.2.1 3 i < 8 then (a.2.2.1 3 i + 1, (a.1, ps_co a.2 i post b)) else (-104, a) else (-102, a))
def kc_table (a : as_T) (sv kd : Int32) (most : Int64) (days : Int32) : Int32 × as_T :=
  if 0 ≤ sv ∧ sv < 4 then if 0 ≤ kd ∧ kd < 4 then if 0 ≤ most ∧ most ≤ 10000000 then if (0 : Int64) ≤ days.toInt64 ∧ days.toInt64 ≤ 10000 then
    (1, (xs_ai (xs_al a.1 0 (vp_updL (a.1.2.2.2.1 0) (sv * 4 + kd).toNatClampNeg most)) 0 (upd (a.1.2.2.1 0) (sv * 4 + kd).toNatClampNeg days), a.2))
  else (-102, a) else (-102, a) else (-102, a) else (-102, a)
/-- the first claim from number j on that stands for an item and a kind: fuel n -/
def st_cl (co : co_T) (x kd : Int32) : Nat → Nat → Option Nat
  | 0, _ => none
  | n + 1, j => if co.2.1 6 j = x ∧ co.2.1 7 j = kd ∧ ¬ co.2.1 9 j = 2 then some j else st_cl co x kd n (j + 1)
/-- how many of the first n claims are of a sender's items -/
def se_cl (co : co_T) (se : Int32) : Nat → Int32
  | 0 => 0
  | n + 1 => if co.2.1 2 (co.1 0 n) = se then se_cl co se n + 1 else se_cl co se n
def ne_ed (kd : Int32) : Int32 := if kd = 0 then 1 else if kd = 1 then 3 else if kd = 2 then 5 else 13
def nc_co (co : co_T) (j i : Nat) (x kd ea : Int32) : co_T :=
  (up_2 co.1 0 j i, up_2 (up_2 (up_2 (up_2 (up_2 (up_2 (up_2 (up_2 (up_2 (up_2 co.2.1 6 j x) 7 j kd) 8 j ea) 9 j 0) 10 j (ne_ed kd)) 11 j 0) 12 j 0) 13 j 0) 14 j 0) 15 j 0, up_2 co.2.2.1 2 j 0, co.2.2.2)
def kc_claim (a : as_T) (x kd who dy : Int32) : Int32 × as_T :=
  (na_m x (a.1.1 0)).elim (-101, a) (fun i =>
    if 0 ≤ kd ∧ kd < 4 then if (0 : Int64) ≤ who.toInt64 ∧ who.toInt64 ≤ 2 then if (0 : Int64) ≤ dy.toInt64 ∧ dy.toInt64 ≤ 200000 then
    if who = 0 ∨ (who = 1 ∧ (kd = 1 ∨ kd = 2)) then
    if dy ≤ a.2.2.1 1 i + a.1.2.2.1 0 (a.2.2.1 0 i * 4 + kd).toNatClampNeg then
    (st_cl a.2 x kd (a.1.1 1).toNatClampNeg 0).elim
      (if a.1.1 1 < 60 then (a.1.1 1 + 1, (se_nd (xs_i a.1 1 (a.1.1 1 + 1)) (a.1.1 1 + 1) 1, nc_co a.2 (a.1.1 1).toNatClampNeg i x kd (se_cl a.2 (a.2.2.1 2 i) (a.1.1 1).toNatClampNeg))) else (-104, a))
      (fun _ => (-103, a))
    else (-106, a) else (-105, a) else (-102, a) else (-102, a) else (-102, a))
def bi_ct (x : Int32) : Int32 := nI ((x.toBitVec.toNat % 2) + (x.toBitVec.toNat / 2 % 2) + (x.toBitVec.toNat / 4 % 2) + (x.toBitVec.toNat / 8 % 2))
def pr_lk (co : co_T) (j : Nat) (p : Int32) : Int32 := co.2.1 10 j &&& (((1 : Int32) <<< (p &&& 31)) ^^^ (-1))
def kc_proof (a : as_T) (x p : Int32) : Int32 × as_T :=
  (na_m x (a.1.1 1)).elim (-101, a) (fun j => if 0 ≤ p ∧ p < 4 then if a.2.2.1 9 j = 0 then if a.2.2.1 10 j &&& ((1 : Int32) <<< (p &&& 31)) = 0 then (-103, a) else
    (bi_ct (pr_lk a.2 j p), (if 0 < bi_ct (pr_lk a.2 j p) then se_nd a.1 x 2 else a.1, co_g a.2 (up_2 a.2.2.1 10 j (pr_lk a.2 j p))))
    else (-103, a) else (-102, a))
def ns_co (co : co_T) (k j : Nat) (due : Int32) : co_T :=
  (up_2 co.1 1 k j, up_2 (up_2 (up_2 (up_2 co.2.1 17 k due) 18 k 1) 11 j (co.2.1 11 j + 1)) 12 j (co.2.1 12 j + 1), co.2.2)
def kc_search (a : as_T) (x pl due : Int32) : Int32 × as_T :=
  (na_m x (a.1.1 1)).elim (-101, a) (fun j => if 0 ≤ pl ∧ pl < 50 then if (a.1.1 4).toInt64 ≤ due.toInt64 ∧ due.toInt64 ≤ 200000 then
    if a.2.2.1 9 j = 0 then if a.2.2.1 7 j = 0 then if a.1.1 2 < 100 then (a.1.1 2 + 1, (xs_i a.1 2 (a.1.1 2 + 1), ns_co a.2 (a.1.1 2).toNatClampNeg j due)) else (-104, a)
    else (-103, a) else (-103, a) else (-102, a) else (-102, a))
/-- a search is closed: found whole or not -/
def cs_co (co : co_T) (k : Nat) (b : Bool) : co_T :=
  co_g co (up_2 (up_2 (up_2 co.2.1 18 k 0) 12 (co.1 1 k) (co.2.1 12 (co.1 1 k) - 1)) 13 (co.1 1 k) (if b then 1 else co.2.1 13 (co.1 1 k)))
def kc_answer (a : as_T) (x : Int32) (b : Bool) : Int32 × as_T :=
  (na_m x (a.1.1 2)).elim (-101, a) (fun k => if a.2.2.1 18 k = 0 then (-103, a) else (1, (a.1, cs_co a.2 k b)))
/-- searches from k on that are unanswered and due before a day are closed: fuel n; how many -/
def ti_co (dy : Int32) : Nat → Nat → co_T → Int32 → Int32 × co_T
  | 0, _, co, c => (c, co)
  | n + 1, k, co, c => if ¬ co.2.1 18 k = 0 ∧ co.2.1 17 k < dy then ti_co dy n (k + 1) (cs_co co k false) (c + 1) else ti_co dy n (k + 1) co c
def kc_tick (a : as_T) (dy : Int32) : Int32 × as_T :=
  if (a.1.1 4).toInt64 ≤ dy.toInt64 ∧ dy.toInt64 ≤ 200000 then
    ((ti_co dy (a.1.1 2).toNatClampNeg 0 a.2 0).1, (xs_i a.1 4 dy, (ti_co dy (a.1.1 2).toNatClampNeg 0 a.2 0).2)) else (-102, a)
def su_m (σ : xs_T) (co : co_T) (j : Nat) : Int64 :=
  let i := co.1 0 j
  let most := if 0 < co.2.2.1 1 i then co.2.2.1 1 i else σ.2.2.2.1 0 (co.2.1 0 i * 4 + co.2.1 7 j).toNatClampNeg
  let base := if most < co.2.2.1 0 i then most else co.2.2.1 0 i
  if co.2.1 7 j = 1 then base / 10 else if co.2.1 7 j = 2 then base / 2 else base
def kc_sum (a : as_T) (x : Int32) : Int64 :=
  (na_m x (a.1.1 1)).elim (-101) (fun j => if a.2.2.1 9 j = 1 then a.2.2.2.1 2 j else su_m a.1 a.2 j)
def kc_limit (a : as_T) (p : Int32) (c : Int64) : Int32 × as_T :=
  if 0 ≤ p ∧ p < 10 then if 0 ≤ c ∧ c ≤ 10000000 then (1, (xs_al a.1 1 (vp_updL (a.1.2.2.2.1 1) p.toNatClampNeg c), a.2)) else (-102, a) else (-102, a)
def rd_y (co : co_T) (j : Nat) : Prop := co.2.1 9 j = 0 ∧ co.2.1 10 j = 0 ∧ (¬ co.2.1 7 j = 0 ∨ (0 < co.2.1 11 j ∧ co.2.1 12 j = 0))
def kc_decide (a : as_T) (x p : Int32) : Int32 × as_T :=
  (na_m x (a.1.1 1)).elim (-101, a) (fun j => if 0 ≤ p ∧ p < 10 then
    if a.2.2.1 9 j = 0 ∧ a.2.2.1 10 j = 0 ∧ (¬ a.2.2.1 7 j = 0 ∨ (0 < a.2.2.1 11 j ∧ a.2.2.1 12 j = 0)) then
    if a.2.2.1 13 j = 0 then
      if a.1.2.2.2.1 1 p.toNatClampNeg < su_m a.1 a.2 j then (-107, a) else
        (1, (se_nd (xs_l a.1 0 (a.1.2.1 0 + su_m a.1 a.2 j)) (nI (j + 1)) 3, (a.2.1, up_2 a.2.2.1 9 j 1, up_2 a.2.2.2.1 2 j (su_m a.1 a.2 j), a.2.2.2.2)))
    else (2, (se_nd (xs_i a.1 5 (a.1.1 5 + 1)) (nI (j + 1)) 4, co_g a.2 (up_2 a.2.2.1 9 j 2)))
    else (-103, a) else (-102, a))
/-- what a post has of the first i sharers: 'each', or one more -/
def sh_s (po : Nat → Int32) (w : Nat) (each left : Int64) (post : Int32) : Nat → Int64
  | 0 => 0
  | i + 1 => if po (w + i) = post then (if (nI i).toInt64 < left then sh_s po w each left post i + (each + 1) else sh_s po w each left post i + each) else sh_s po w each left post i
def pa_o (co : co_T) (i : Nat) (s : Int64) (post : Int32) : Int64 :=
  if 0 < co.2.1 3 i - co.2.1 4 i then sh_s (co.2.2.2 i) (co.2.1 4 i).toNatClampNeg (s / (co.2.1 3 i - co.2.1 4 i).toInt64) (s - s / (co.2.1 3 i - co.2.1 4 i).toInt64 * (co.2.1 3 i - co.2.1 4 i).toInt64) post (co.2.1 3 i - co.2.1 4 i).toNatClampNeg else 0
def kc_share (a : as_T) (x post : Int32) : Int64 :=
  (na_m x (a.1.1 1)).elim (-101) (fun j => if 0 ≤ post ∧ post < 6 then if a.2.2.1 9 j = 1 then pa_o a.2 (a.2.1 0 j) (a.2.2.2.1 2 j) post else 0 else -102)
def kc_found (a : as_T) (x : Int32) : Int32 × as_T :=
  (na_m x (a.1.1 0)).elim (-101, a) (fun i => (st_cl a.2 x 0 (a.1.1 1).toNatClampNeg 0).elim (-103, a) (fun j => if a.2.2.1 9 j = 1 then if a.2.2.1 5 i = 0 then
    (nI (j + 1), (a.1, co_g a.2 (up_2 a.2.2.1 5 i 1))) else (-103, a) else (-103, a)))
def kc_back (a : as_T) (x : Int32) (b : Bool) : Int32 × as_T :=
  (na_m x (a.1.1 1)).elim (-101, a) (fun j => if a.2.2.1 7 j = 0 then if a.2.2.1 9 j = 1 then if a.2.2.1 5 (a.2.1 0 j) = 0 then (-103, a) else if a.2.2.1 15 j = 0 then
    (1, (if b then se_nd (xs_l a.1 1 (a.1.2.1 1 + a.2.2.2.1 2 j)) x 5 else a.1, co_g a.2 (up_2 a.2.2.1 15 j 1)))
    else (-103, a) else (-103, a) else (-103, a))
def ap_co (co : co_T) (j : Nat) : co_T := co_g co (up_2 (up_2 (up_2 (up_2 co.2.1 9 j 0) 14 j 1) 11 j 0) 13 j 0)
def kc_appeal (a : as_T) (x : Int32) : Int32 × as_T :=
  (na_m x (a.1.1 1)).elim (-101, a) (fun j => if a.2.2.1 9 j = 2 then if a.2.2.1 14 j = 0 then
    (st_cl a.2 (a.2.2.1 6 j) (a.2.2.1 7 j) (a.1.1 1).toNatClampNeg 0).elim (1, (se_nd a.1 x 6, ap_co a.2 j)) (fun _ => (-103, a)) else (-103, a) else (-103, a))
def kc_paid (a : as_T) (x kd : Int32) : Bool := (st_cl a.2 x kd (a.1.1 1).toNatClampNeg 0).elim false (fun j => decide (a.2.2.1 9 j = 1))
def kc_about (a : as_T) (x w : Int32) : Int32 :=
  (na_m x (a.1.1 1)).elim (-101) (fun j => if w = 0 then a.2.2.1 9 j else if w = 1 then a.2.2.1 6 j else if w = 2 then a.2.2.1 7 j else if w = 3 then bi_ct (a.2.2.1 10 j) else if w = 4 then a.2.2.1 12 j else if w = 5 then a.2.2.1 8 j else -102)
def kc_letter (a : as_T) (i w : Int32) : Int32 :=
  if 0 ≤ i ∧ i < (if 200 < a.1.1 3 then 200 else a.1.1 3) then if w = 0 then a.1.2.2.1 1 i.toNatClampNeg else if w = 1 then a.1.2.2.1 2 i.toNatClampNeg else -1 else -1
def kc_all (a : as_T) (w : Int32) : Int64 := if w = 0 then a.1.2.1 0 else if w = 1 then a.1.2.1 1 else if w = 2 then (a.1.1 5).toInt64 else if w = 3 then (a.1.1 3).toInt64 else -102
