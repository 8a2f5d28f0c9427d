/-! The class's state: its fixed cells out of (ints, longs, int arrays, long arrays, reference arrays); its pooled objects out of columns. -/
abbrev xs_T : Type := (Nat → Int32) × (Nat → Int64) × (Nat → Nat → Int32) × (Nat → Nat → Int64) × (Nat → Nat → Option Nat)
def xs_i (σ : xs_T) (k : Nat) (v : Int32) : xs_T := (va_up σ.1 k v, σ.2)
def xs_l (σ : xs_T) (k : Nat) (v : Int64) : xs_T := (σ.1, va_up σ.2.1 k v, σ.2.2)
def xs_ai (σ : xs_T) (k : Nat) (v : Nat → Int32) : xs_T := (σ.1, σ.2.1, va_up σ.2.2.1 k v, σ.2.2.2)
def xs_al (σ : xs_T) (k : Nat) (v : Nat → Int64) : xs_T := (σ.1, σ.2.1, σ.2.2.1, va_up σ.2.2.2.1 k v, σ.2.2.2.2)
def xs_ar (σ : xs_T) (k : Nat) (v : Nat → Option Nat) : xs_T := (σ.1, σ.2.1, σ.2.2.1, σ.2.2.2.1, va_up σ.2.2.2.2 k v)
def ty_K (cA : Nat → ClassId) : List (ClassId × FieldType) := [(cA 0, .int), (cA 1, .long), (cA 2, .boolean), (cA 3, .object "ClaimRows$Item"), (cA 4, .object "ClaimRows$Claim"), (cA 5, .object "ClaimRows$Search")]
def xf_C (Q : Nat → Nat) (σ : xs_T) : List Value := [.ref (Q 1), .int (σ.1 0), .ref (Q 2), .int (σ.1 1), .ref (Q 3), .int (σ.1 2), .ref (Q 4), .ref (Q 5), .ref (Q 6), .ref (Q 7), .ref (Q 8), .int (σ.1 3), .int (σ.1 4), .long (σ.2.1 0), .long (σ.2.1 1), .int (σ.1 5)]
def xc_W (Q : Nat → Nat) (cA : Nat → ClassId) (σ : xs_T) : va_W := [(Q 0, .inr (3, xf_C Q σ)), (Q 1, .inl (cA 3, 100, .inr (.inr (.inr (.inr (σ.2.2.2.2 0)))))), (Q 2, .inl (cA 4, 60, .inr (.inr (.inr (.inr (σ.2.2.2.2 1)))))), (Q 3, .inl (cA 5, 100, .inr (.inr (.inr (.inr (σ.2.2.2.2 2)))))), (Q 4, .inl (cA 1, 16, .inr (.inl (σ.2.2.2.1 0)))), (Q 5, .inl (cA 0, 16, .inl (σ.2.2.1 0))), (Q 6, .inl (cA 1, 10, .inr (.inl (σ.2.2.2.1 1)))), (Q 7, .inl (cA 0, 200, .inl (σ.2.2.1 1))), (Q 8, .inl (cA 0, 200, .inl (σ.2.2.1 2)))]
theorem xc_W_0 {Q : Nat → Nat} {cA : Nat → ClassId} {σ : xs_T} (L : List Nat) (f : Nat → va_E) : (xc_W Q cA σ ++ va_pl L f)[0]? = some (Q 0, .inr (3, xf_C Q σ)) := rfl
theorem xc_W_1 {Q : Nat → Nat} {cA : Nat → ClassId} {σ : xs_T} (L : List Nat) (f : Nat → va_E) : (xc_W Q cA σ ++ va_pl L f)[1]? = some (Q 1, .inl (cA 3, 100, .inr (.inr (.inr (.inr (σ.2.2.2.2 0)))))) := rfl
theorem xc_W_2 {Q : Nat → Nat} {cA : Nat → ClassId} {σ : xs_T} (L : List Nat) (f : Nat → va_E) : (xc_W Q cA σ ++ va_pl L f)[2]? = some (Q 2, .inl (cA 4, 60, .inr (.inr (.inr (.inr (σ.2.2.2.2 1)))))) := rfl
theorem xc_W_3 {Q : Nat → Nat} {cA : Nat → ClassId} {σ : xs_T} (L : List Nat) (f : Nat → va_E) : (xc_W Q cA σ ++ va_pl L f)[3]? = some (Q 3, .inl (cA 5, 100, .inr (.inr (.inr (.inr (σ.2.2.2.2 2)))))) := rfl
theorem xc_W_4 {Q : Nat → Nat} {cA : Nat → ClassId} {σ : xs_T} (L : List Nat) (f : Nat → va_E) : (xc_W Q cA σ ++ va_pl L f)[4]? = some (Q 4, .inl (cA 1, 16, .inr (.inl (σ.2.2.2.1 0)))) := rfl
theorem xc_W_5 {Q : Nat → Nat} {cA : Nat → ClassId} {σ : xs_T} (L : List Nat) (f : Nat → va_E) : (xc_W Q cA σ ++ va_pl L f)[5]? = some (Q 5, .inl (cA 0, 16, .inl (σ.2.2.1 0))) := rfl
theorem xc_W_6 {Q : Nat → Nat} {cA : Nat → ClassId} {σ : xs_T} (L : List Nat) (f : Nat → va_E) : (xc_W Q cA σ ++ va_pl L f)[6]? = some (Q 6, .inl (cA 1, 10, .inr (.inl (σ.2.2.2.1 1)))) := rfl
theorem xc_W_7 {Q : Nat → Nat} {cA : Nat → ClassId} {σ : xs_T} (L : List Nat) (f : Nat → va_E) : (xc_W Q cA σ ++ va_pl L f)[7]? = some (Q 7, .inl (cA 0, 200, .inl (σ.2.2.1 1))) := rfl
theorem xc_W_8 {Q : Nat → Nat} {cA : Nat → ClassId} {σ : xs_T} (L : List Nat) (f : Nat → va_E) : (xc_W Q cA σ ++ va_pl L f)[8]? = some (Q 8, .inl (cA 0, 200, .inl (σ.2.2.1 2))) := rfl
/-- the cells of the pooled objects -/
def ce_I (g : Nat → Nat → Int32) (h : Nat → Nat → Int64) (i p : Nat) : va_E := .inr (1, [.int (g 0 i), .long (h 0 i), .long (h 1 i), .int (g 1 i), .int (g 2 i), .ref p, .int (g 3 i), .int (g 4 i), .int (g 5 i)])
def ce_C (g : Nat → Nat → Int32) (h : Nat → Nat → Int64) (j a : Nat) : va_E := .inr (0, [.int (nI (j + 1)), .int (g 6 j), .ref a, .int (g 7 j), .int (g 8 j), .int (g 9 j), .int (g 10 j), .int (g 11 j), .int (g 12 j), .int (g 13 j), .int (g 14 j), .int (g 15 j), .long (h 2 j)])
def ce_S (g : Nat → Nat → Int32) (k c : Nat) : va_E := .inr (2, [.ref c, .int (g 17 k), .int (g 18 k)])
def ce_P (cA : Nat → ClassId) (po : Nat → Nat → Int32) (i : Nat) : va_E := .inl (cA 0, 8, .inl (po i))
/-- a column's value set at a row -/
def up_2 {α : Type} (g : Nat → Nat → α) (k i : Nat) (v : α) : Nat → Nat → α := va_up g k (va_up (g k) i v)
theorem up_2s {α : Type} (g : Nat → Nat → α) (k i : Nat) (v : α) : up_2 g k i v k i = v := by simp [up_2, va_up]
theorem up_2k {α : Type} (g : Nat → Nat → α) {k k' : Nat} (i : Nat) (v : α) (j : Nat) (h : k' ≠ k) : up_2 g k i v k' j = g k' j := by simp [up_2, va_up, h]
theorem up_2i {α : Type} (g : Nat → Nat → α) (k k' : Nat) {i j : Nat} (v : α) (h : j ≠ i) : up_2 g k i v k' j = g k' j := by
  by_cases e : k' = k
  · subst e; simp [up_2, va_up, h]
  · simp [up_2, va_up, e]
/-- addresses of the pooled objects: items, their posts, claims, searches -/
abbrev ad_T : Type := (Nat → Nat) × (Nat → Nat) × (Nat → Nat) × (Nat → Nat)
/-- how many: items, claims, searches, letters -/
abbrev nn_T : Type := Nat × Nat × Nat × Nat
/-- columns -/
abbrev co_T : Type := (Nat → Nat → Nat) × (Nat → Nat → Int32) × (Nat → Nat → Int64) × (Nat → Nat → Int32)
def re_X (σ : xs_T) (n : nn_T) : Prop := σ.1 0 = nI n.1 ∧ n.1 ≤ 100 ∧ σ.1 1 = nI n.2.1 ∧ n.2.1 ≤ 60 ∧ σ.1 2 = nI n.2.2.1 ∧ n.2.2.1 ≤ 100 ∧ σ.1 3 = nI n.2.2.2
def re_I (cA : Nat → ClassId) (σ : xs_T) (L : List Nat) (f : Nat → va_E) (ad : ad_T) (co : co_T) (i : Nat) : Prop :=
  σ.2.2.2.2 0 i = some (ad.1 i) ∧ ad.1 i ∈ L ∧ f (ad.1 i) = ce_I co.2.1 co.2.2.1 i (ad.2.1 i) ∧ ad.2.1 i ∈ L ∧ f (ad.2.1 i) = ce_P cA co.2.2.2 i
def re_C (σ : xs_T) (L : List Nat) (f : Nat → va_E) (ad : ad_T) (co : co_T) (j : Nat) : Prop :=
  σ.2.2.2.2 1 j = some (ad.2.2.1 j) ∧ ad.2.2.1 j ∈ L ∧ f (ad.2.2.1 j) = ce_C co.2.1 co.2.2.1 j (ad.1 (co.1 0 j))
def re_S (σ : xs_T) (L : List Nat) (f : Nat → va_E) (ad : ad_T) (co : co_T) (k : Nat) : Prop :=
  σ.2.2.2.2 2 k = some (ad.2.2.2 k) ∧ ad.2.2.2 k ∈ L ∧ f (ad.2.2.2 k) = ce_S co.2.1 k (ad.2.2.1 (co.1 1 k))
/-- the pure side of it: what is always so of the columns -/
def re_V (n : nn_T) (co : co_T) : Prop :=
  (∀ i, i < n.1 → (∃ v : Nat, v < 4 ∧ co.2.1 0 i = nI v) ∧ (∃ v w : Nat, v ≤ 8 ∧ w ≤ v ∧ co.2.1 3 i = nI v ∧ co.2.1 4 i = nI w)) ∧
  (∀ j, j < n.2.1 → co.1 0 j < n.1 ∧ co.2.1 6 j = nI (co.1 0 j + 1) ∧ (∃ v : Nat, v < 4 ∧ co.2.1 7 j = nI v) ∧ ∃ v : Nat, v < 16 ∧ co.2.1 10 j = nI v) ∧
  (∀ k, k < n.2.2.1 → co.1 1 k < n.2.1)
def re_J (n : nn_T) (ad : ad_T) : Prop :=
  (∀ i j, i < n.1 → j < n.1 → ad.1 i = ad.1 j → i = j) ∧ (∀ i j, i < n.1 → j < n.1 → ad.2.1 i = ad.2.1 j → i = j) ∧
  (∀ i j, i < n.2.1 → j < n.2.1 → ad.2.2.1 i = ad.2.2.1 j → i = j) ∧ (∀ i j, i < n.2.2.1 → j < n.2.2.1 → ad.2.2.2 i = ad.2.2.2 j → i = j)
/-- THE CLASS'S STATE -/
def re_A (cA : Nat → ClassId) (σ : xs_T) (n : nn_T) (co : co_T) (L : List Nat) (f : Nat → va_E) (ad : ad_T) : Prop :=
  re_X σ n ∧ (∀ i, i < n.1 → re_I cA σ L f ad co i) ∧ (∀ j, j < n.2.1 → re_C σ L f ad co j) ∧ (∀ k, k < n.2.2.1 → re_S σ L f ad co k) ∧ re_V n co ∧ re_J n ad
