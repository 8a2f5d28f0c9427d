/-! The class's state under changes of one cell. -/
def xs_r (σ : xs_T) (ra : Nat → Nat → Option Nat) : xs_T := (σ.1, σ.2.1, σ.2.2.1, σ.2.2.2.1, ra)
theorem ce_Ie {g g' : Nat → Nat → Int32} {h h' : Nat → Nat → Int64} {i p : Nat} (hg : ∀ k, k < 6 → g' k i = g k i) (hh : ∀ k, k < 2 → h' k i = h k i) : ce_I g' h' i p = ce_I g h i p := by
  simp only [ce_I, hg 0 (by decide), hg 1 (by decide), hg 2 (by decide), hg 3 (by decide), hg 4 (by decide), hg 5 (by decide), hh 0 (by decide), hh 1 (by decide)]
theorem ce_Ce {g g' : Nat → Nat → Int32} {h h' : Nat → Nat → Int64} {j a : Nat} (hg : ∀ k, 6 ≤ k → k < 16 → g' k j = g k j) (hh : h' 2 j = h 2 j) : ce_C g' h' j a = ce_C g h j a := by
  simp only [ce_C, hg 6 (by decide) (by decide), hg 7 (by decide) (by decide), hg 8 (by decide) (by decide), hg 9 (by decide) (by decide), hg 10 (by decide) (by decide), hg 11 (by decide) (by decide), hg 12 (by decide) (by decide), hg 13 (by decide) (by decide), hg 14 (by decide) (by decide), hg 15 (by decide) (by decide), hh]
theorem ce_Se {g g' : Nat → Nat → Int32} {k c : Nat} (h1 : g' 17 k = g 17 k) (h2 : g' 18 k = g 18 k) : ce_S g' k c = ce_S g k c := by
  simp only [ce_S, h1, h2]
theorem ce_IC {g g' : Nat → Nat → Int32} {h h' : Nat → Nat → Int64} {i p j a : Nat} : ce_I g h i p ≠ ce_C g' h' j a := by simp [ce_I, ce_C]
theorem ce_IS {g g' : Nat → Nat → Int32} {h : Nat → Nat → Int64} {i p k c : Nat} : ce_I g h i p ≠ ce_S g' k c := by simp [ce_I, ce_S]
theorem ce_CS {g g' : Nat → Nat → Int32} {h : Nat → Nat → Int64} {j a k c : Nat} : ce_C g h j a ≠ ce_S g' k c := by simp [ce_C, ce_S]
theorem ce_PI {cA : Nat → ClassId} {po : Nat → Nat → Int32} {q : Nat} {g : Nat → Nat → Int32} {h : Nat → Nat → Int64} {i p : Nat} : ce_P cA po q ≠ ce_I g h i p := by simp [ce_P, ce_I]
theorem ce_PC {cA : Nat → ClassId} {po : Nat → Nat → Int32} {q : Nat} {g : Nat → Nat → Int32} {h : Nat → Nat → Int64} {j a : Nat} : ce_P cA po q ≠ ce_C g h j a := by simp [ce_P, ce_C]
theorem ce_PS {cA : Nat → ClassId} {po : Nat → Nat → Int32} {q : Nat} {g : Nat → Nat → Int32} {k c : Nat} : ce_P cA po q ≠ ce_S g k c := by simp [ce_P, ce_S]
section REP
variable {cA : Nat → ClassId} {σ σ' : xs_T} {n : nn_T} {co co' : co_T} {L : List Nat} {f : Nat → va_E} {ad : ad_T}
/-- the fixed cells change, the counts of items, claims, searches and the arrays of references don't -/
theorem re_x (hR : re_A cA σ n co L f ad) (m : Nat) (h0 : σ'.1 0 = σ.1 0) (h1 : σ'.1 1 = σ.1 1) (h2 : σ'.1 2 = σ.1 2) (h3 : σ'.1 3 = nI m) (hr : σ'.2.2.2.2 = σ.2.2.2.2) : re_A cA σ' (n.1, n.2.1, n.2.2.1, m) co L f ad := by
  obtain ⟨⟨a1, a2, a3, a4, a5, a6, -⟩, hI, hC, hS, hV, hJ⟩ := hR
  refine ⟨⟨h0.trans a1, a2, h1.trans a3, a4, h2.trans a5, a6, h3⟩, fun i hi => ?_, fun j hj => ?_, fun k hk => ?_, hV, hJ⟩
  · have := hI i hi; unfold re_I at this ⊢; rw [hr]; exact this
  · have := hC j hj; unfold re_C at this ⊢; rw [hr]; exact this
  · have := hS k hk; unfold re_S at this ⊢; rw [hr]; exact this
/-- the columns agree but for claim j's own, whose item and kind stay -/
def ag_C (co co' : co_T) (j : Nat) : Prop := co'.1 = co.1 ∧ co'.2.2.2 = co.2.2.2 ∧ (∀ k i, k < 6 ∨ 16 ≤ k ∨ i ≠ j → co'.2.1 k i = co.2.1 k i) ∧ (∀ k i, k ≠ 2 ∨ i ≠ j → co'.2.2.1 k i = co.2.2.1 k i) ∧ co'.2.1 6 j = co.2.1 6 j ∧ co'.2.1 7 j = co.2.1 7 j ∧ ∃ v : Nat, v < 16 ∧ co'.2.1 10 j = nI v
theorem re_setC (hR : re_A cA σ n co L f ad) {j : Nat} (hj : j < n.2.1) (hc : ag_C co co' j) {e : va_E} (he : e = ce_C co'.2.1 co'.2.2.1 j (ad.1 (co.1 0 j))) : re_A cA σ n co' L (va_up f (ad.2.2.1 j) e) ad := by
  obtain ⟨hX, hI, hC, hS, ⟨v1, v2, v3⟩, hJ⟩ := hR
  obtain ⟨c1, c2, c3, c4, c5, c6, c7⟩ := hc
  have hj' := hC j hj
  refine ⟨hX, fun i hi => ?_, fun i hi => ?_, fun k hk => ?_, ⟨fun i hi => ?_, fun i hi => ?_, fun k hk => ?_⟩, hJ⟩
  · obtain ⟨b1, b2, b3, b4, b5⟩ := hI i hi
    refine ⟨b1, b2, ?_, b4, ?_⟩
    · rw [va_up_ne _ _ (ct_ne b3 hj'.2.2 ce_IC), b3]
      exact (ce_Ie (fun k h => c3 k i (Or.inl h)) (fun k h => c4 k i (Or.inl (by omega)))).symm
    · rw [va_up_ne _ _ (ct_ne b5 hj'.2.2 ce_PC), b5, ce_P, ce_P, c2]
  · obtain ⟨b1, b2, b3⟩ := hC i hi
    refine ⟨b1, b2, ?_⟩
    rw [c1]
    by_cases q : i = j
    · subst q; rw [va_up_self, he]
    · rw [va_up_ne _ _ (fun z => q (hJ.2.2.1 i j hi hj z)), b3]
      exact (ce_Ce (fun k h1 h2 => c3 k i (Or.inr (Or.inr q))) (c4 2 i (Or.inr q))).symm
  · obtain ⟨b1, b2, b3⟩ := hS k hk
    refine ⟨b1, b2, ?_⟩
    rw [c1, va_up_ne _ _ (ct_ne b3 hj'.2.2 (fun z => ce_CS z.symm)), b3]
    exact (ce_Se (c3 17 k (Or.inr (Or.inl (by decide)))) (c3 18 k (Or.inr (Or.inl (by decide))))).symm
  · rw [c3 0 i (Or.inl (by decide)), c3 3 i (Or.inl (by decide)), c3 4 i (Or.inl (by decide))]; exact v1 i hi
  · rw [c1]
    by_cases q : i = j
    · subst q; rw [c5, c6]; exact ⟨(v2 i hi).1, (v2 i hi).2.1, (v2 i hi).2.2.1, c7⟩
    · rw [c3 6 i (Or.inr (Or.inr q)), c3 7 i (Or.inr (Or.inr q)), c3 10 i (Or.inr (Or.inr q))]; exact v2 i hi
  · rw [c1]; exact v3 k hk
/-- the columns agree but for item i's own, whose service stays -/
def ag_I (co co' : co_T) (i : Nat) : Prop := co'.1 = co.1 ∧ (∀ j, j ≠ i → co'.2.2.2 j = co.2.2.2 j) ∧ (∀ k j, 6 ≤ k ∨ j ≠ i → co'.2.1 k j = co.2.1 k j) ∧ (∀ k j, co'.2.2.1 k j = co.2.2.1 k j) ∧ co'.2.1 0 i = co.2.1 0 i ∧ ∃ v w : Nat, v ≤ 8 ∧ w ≤ v ∧ co'.2.1 3 i = nI v ∧ co'.2.1 4 i = nI w
theorem re_setI (hR : re_A cA σ n co L f ad) {i : Nat} (hi : i < n.1) (hc : ag_I co co' i) {f' : Nat → va_E} (h1 : f' (ad.1 i) = ce_I co'.2.1 co'.2.2.1 i (ad.2.1 i)) (h2 : f' (ad.2.1 i) = ce_P cA co'.2.2.2 i) (h3 : ∀ a, a ≠ ad.1 i → a ≠ ad.2.1 i → f' a = f a) : re_A cA σ n co' L f' ad := by
  obtain ⟨hX, hI, hC, hS, ⟨v1, v2, v3⟩, hJ⟩ := hR
  obtain ⟨c1, c2, c3, c4, c5, c6⟩ := hc
  have hi' := hI i hi
  refine ⟨hX, fun j hj => ?_, fun j hj => ?_, fun k hk => ?_, ⟨fun j hj => ?_, fun j hj => ?_, fun k hk => ?_⟩, hJ⟩
  · obtain ⟨b1, b2, b3, b4, b5⟩ := hI j hj
    by_cases q : j = i
    · subst q; exact ⟨b1, b2, h1, b4, h2⟩
    · refine ⟨b1, b2, ?_, b4, ?_⟩
      · rw [h3 _ (fun z => q (hJ.1 j i hj hi z)) (ct_ne b3 hi'.2.2.2.2 (fun z => ce_PI z.symm)), b3]
        exact (ce_Ie (fun k _ => c3 k j (Or.inr q)) (fun k _ => c4 k j)).symm
      · rw [h3 _ (ct_ne b5 hi'.2.2.1 ce_PI) (fun z => q (hJ.2.1 j i hj hi z)), b5, ce_P, ce_P, c2 j q]
  · obtain ⟨b1, b2, b3⟩ := hC j hj
    refine ⟨b1, b2, ?_⟩
    rw [c1, h3 _ (ct_ne b3 hi'.2.2.1 (fun z => ce_IC z.symm)) (ct_ne b3 hi'.2.2.2.2 (fun z => ce_PC z.symm)), b3]
    exact (ce_Ce (fun k h _ => c3 k j (Or.inl h)) (c4 2 j)).symm
  · obtain ⟨b1, b2, b3⟩ := hS k hk
    refine ⟨b1, b2, ?_⟩
    rw [c1, h3 _ (ct_ne b3 hi'.2.2.1 (fun z => ce_IS z.symm)) (ct_ne b3 hi'.2.2.2.2 (fun z => ce_PS z.symm)), b3]
    exact (ce_Se (c3 17 k (Or.inl (by decide))) (c3 18 k (Or.inl (by decide)))).symm
  · by_cases q : j = i
    · subst q; rw [c5]; exact ⟨(v1 j hj).1, c6⟩
    · rw [c3 0 j (Or.inr q), c3 3 j (Or.inr q), c3 4 j (Or.inr q)]; exact v1 j hj
  · rw [c1, c3 6 j (Or.inl (by decide)), c3 7 j (Or.inl (by decide)), c3 10 j (Or.inl (by decide))]; exact v2 j hj
  · rw [c1]; exact v3 k hk
/-- a search's cell -/
theorem re_setS (hR : re_A cA σ n co L f ad) {k : Nat} (hk : k < n.2.2.1) {x : Int32} {e : va_E} (he : e = ce_S (up_2 co.2.1 18 k x) k (ad.2.2.1 (co.1 1 k))) : re_A cA σ n (co_g co (up_2 co.2.1 18 k x)) L (va_up f (ad.2.2.2 k) e) ad := by
  obtain ⟨hX, hI, hC, hS, ⟨v1, v2, v3⟩, hJ⟩ := hR
  have hk' := hS k hk
  have g : ∀ c i, c ≠ 18 → up_2 co.2.1 18 k x c i = co.2.1 c i := fun c i h => up_2k _ _ _ _ h
  refine ⟨hX, fun i hi => ?_, fun j hj => ?_, fun i hi => ?_, ⟨fun i hi => ?_, fun i hi => ?_, fun k hk => v3 k hk⟩, hJ⟩
  · obtain ⟨b1, b2, b3, b4, b5⟩ := hI i hi
    refine ⟨b1, b2, ?_, b4, ?_⟩
    · rw [va_up_ne _ _ (ct_ne b3 hk'.2.2 ce_IS), b3]
      exact (ce_Ie (fun c h => g c i (by omega)) (fun c h => rfl)).symm
    · rw [va_up_ne _ _ (ct_ne b5 hk'.2.2 ce_PS), b5]; rfl
  · obtain ⟨b1, b2, b3⟩ := hC j hj
    refine ⟨b1, b2, ?_⟩
    rw [va_up_ne _ _ (ct_ne b3 hk'.2.2 ce_CS), b3]
    exact (ce_Ce (fun c h1 h2 => g c j (by omega)) rfl).symm
  · obtain ⟨b1, b2, b3⟩ := hS i hi
    refine ⟨b1, b2, ?_⟩
    by_cases q : i = k
    · subst q; rw [va_up_self, he]; rfl
    · rw [va_up_ne _ _ (fun z => q (hJ.2.2.2 i k hi hk z)), b3]
      exact (ce_Se (g 17 i (by decide)) (up_2i _ _ _ _ q)).symm
  · show (∃ v : Nat, v < 4 ∧ up_2 co.2.1 18 k x 0 i = nI v) ∧ (∃ v w : Nat, v ≤ 8 ∧ w ≤ v ∧ up_2 co.2.1 18 k x 3 i = nI v ∧ up_2 co.2.1 18 k x 4 i = nI w)
    rw [g 0 i (by decide), g 3 i (by decide), g 4 i (by decide)]; exact v1 i hi
  · show co.1 0 i < n.1 ∧ up_2 co.2.1 18 k x 6 i = nI (co.1 0 i + 1) ∧ (∃ v : Nat, v < 4 ∧ up_2 co.2.1 18 k x 7 i = nI v) ∧ ∃ v : Nat, v < 16 ∧ up_2 co.2.1 18 k x 10 i = nI v
    rw [g 6 i (by decide), g 7 i (by decide), g 10 i (by decide)]; exact v2 i hi
/-- a new item -/
theorem re_newI (hR : re_A cA σ n co L f ad) {q r : Nat} (hq : q ∉ L) (hr : r ∉ L) {L' : List Nat} (hL : ∀ a, a ∈ L → a ∈ L') (hqL : q ∈ L') (hrL : r ∈ L') {f' : Nat → va_E} (hf : ∀ a, a ∈ L → f' a = f a) {sv dy se : Int32} {v w : Int64} (hsv : ∃ x : Nat, x < 4 ∧ sv = nI x)
    (h1 : f' q = ce_I (ni_co co n.1 sv v w dy se).2.1 (ni_co co n.1 sv v w dy se).2.2.1 n.1 r) (h2 : f' r = ce_P cA (ni_co co n.1 sv v w dy se).2.2.2 n.1) (hn : n.1 < 100) (s0 : σ'.1 0 = nI (n.1 + 1)) (s1 : σ'.1 1 = σ.1 1) (s2 : σ'.1 2 = σ.1 2) (s3 : σ'.1 3 = σ.1 3)
    (r0 : σ'.2.2.2.2 0 = va_up (σ.2.2.2.2 0) n.1 (some q)) (r1 : σ'.2.2.2.2 1 = σ.2.2.2.2 1) (r2 : σ'.2.2.2.2 2 = σ.2.2.2.2 2) :
    re_A cA σ' (n.1 + 1, n.2) (ni_co co n.1 sv v w dy se) L' f' (va_up ad.1 n.1 q, va_up ad.2.1 n.1 r, ad.2.2) := by
  obtain ⟨⟨a1, a2, a3, a4, a5, a6, a7⟩, hI, hC, hS, ⟨v1, v2, v3⟩, hJ⟩ := hR
  have g6 : ∀ k i, 6 ≤ k ∨ i ≠ n.1 → (ni_co co n.1 sv v w dy se).2.1 k i = co.2.1 k i := by
    intro k i h
    show up_2 (up_2 (up_2 (up_2 (up_2 (up_2 co.2.1 0 n.1 sv) 1 n.1 dy) 2 n.1 se) 3 n.1 0) 4 n.1 0) 5 n.1 0 k i = _
    rcases h with h | h
    · rw [up_2k _ _ _ _ (by omega), up_2k _ _ _ _ (by omega), up_2k _ _ _ _ (by omega), up_2k _ _ _ _ (by omega), up_2k _ _ _ _ (by omega), up_2k _ _ _ _ (by omega)]
    · rw [up_2i _ _ _ _ h, up_2i _ _ _ _ h, up_2i _ _ _ _ h, up_2i _ _ _ _ h, up_2i _ _ _ _ h, up_2i _ _ _ _ h]
  have h6 : ∀ k i, 2 ≤ k ∨ i ≠ n.1 → (ni_co co n.1 sv v w dy se).2.2.1 k i = co.2.2.1 k i := by
    intro k i h
    show up_2 (up_2 co.2.2.1 0 n.1 v) 1 n.1 w k i = _
    rcases h with h | h
    · rw [up_2k _ _ _ _ (by omega), up_2k _ _ _ _ (by omega)]
    · rw [up_2i _ _ _ _ h, up_2i _ _ _ _ h]
  refine ⟨⟨s0, by show n.1 + 1 ≤ 100; omega, s1.trans a3, a4, s2.trans a5, a6, s3.trans a7⟩, fun i hi => ?_, fun j hj => ?_, fun k hk => ?_, ⟨fun i hi => ?_, fun j hj => ?_, fun k hk => v3 k hk⟩, ⟨fun i j hi hj e => ?_, fun i j hi hj e => ?_, hJ.2.2.1, hJ.2.2.2⟩⟩
  · have hi : i < n.1 + 1 := hi
    show σ'.2.2.2.2 0 i = some (va_up ad.1 n.1 q i) ∧ va_up ad.1 n.1 q i ∈ L' ∧ f' (va_up ad.1 n.1 q i) = ce_I _ _ i (va_up ad.2.1 n.1 r i) ∧ va_up ad.2.1 n.1 r i ∈ L' ∧ f' (va_up ad.2.1 n.1 r i) = _
    rw [r0]
    by_cases z : i = n.1
    · subst z; rw [va_up_self, va_up_self, va_up_self]; exact ⟨rfl, hqL, h1, hrL, h2⟩
    · obtain ⟨b1, b2, b3, b4, b5⟩ := hI i (by omega)
      rw [va_up_ne _ _ z, va_up_ne _ _ z, va_up_ne _ _ z]
      refine ⟨b1, hL _ b2, ?_, hL _ b4, ?_⟩
      · rw [hf _ b2, b3]; exact (ce_Ie (fun k _ => g6 k i (Or.inr z)) (fun k _ => h6 k i (Or.inr z))).symm
      · rw [hf _ b4, b5]; show ce_P cA co.2.2.2 i = ce_P cA (va_up co.2.2.2 n.1 (fun _ => 0)) i; rw [ce_P, ce_P, va_up_ne _ _ z]
  · obtain ⟨b1, b2, b3⟩ := hC j hj
    have hlt := (v2 j hj).1
    show σ'.2.2.2.2 1 j = some (ad.2.2.1 j) ∧ ad.2.2.1 j ∈ L' ∧ f' (ad.2.2.1 j) = ce_C _ _ j (va_up ad.1 n.1 q (co.1 0 j))
    rw [r1, va_up_ne _ _ (Nat.ne_of_lt hlt)]
    refine ⟨b1, hL _ b2, ?_⟩
    rw [hf _ b2, b3]; exact (ce_Ce (fun k h _ => g6 k j (Or.inl h)) (h6 2 j (Or.inl (by decide)))).symm
  · obtain ⟨b1, b2, b3⟩ := hS k hk
    show σ'.2.2.2.2 2 k = some (ad.2.2.2 k) ∧ ad.2.2.2 k ∈ L' ∧ f' (ad.2.2.2 k) = ce_S _ k (ad.2.2.1 (co.1 1 k))
    rw [r2]
    refine ⟨b1, hL _ b2, ?_⟩
    rw [hf _ b2, b3]; exact (ce_Se (g6 17 k (Or.inl (by decide))) (g6 18 k (Or.inl (by decide)))).symm
  · have hi : i < n.1 + 1 := hi
    by_cases z : i = n.1
    · subst z
      show (∃ v : Nat, v < 4 ∧ up_2 (up_2 (up_2 (up_2 (up_2 (up_2 co.2.1 0 n.1 sv) 1 n.1 dy) 2 n.1 se) 3 n.1 0) 4 n.1 0) 5 n.1 0 0 n.1 = nI v) ∧ (∃ v w : Nat, v ≤ 8 ∧ w ≤ v ∧ up_2 (up_2 (up_2 (up_2 (up_2 (up_2 co.2.1 0 n.1 sv) 1 n.1 dy) 2 n.1 se) 3 n.1 0) 4 n.1 0) 5 n.1 0 3 n.1 = nI v ∧ up_2 (up_2 (up_2 (up_2 (up_2 (up_2 co.2.1 0 n.1 sv) 1 n.1 dy) 2 n.1 se) 3 n.1 0) 4 n.1 0) 5 n.1 0 4 n.1 = nI w)
      refine ⟨?_, 0, 0, by decide, by decide, ?_, ?_⟩
      · rw [up_2k _ _ _ _ (by decide), up_2k _ _ _ _ (by decide), up_2k _ _ _ _ (by decide), up_2k _ _ _ _ (by decide), up_2k _ _ _ _ (by decide), up_2s]; exact hsv
      · rw [up_2k _ _ _ _ (by decide), up_2k _ _ _ _ (by decide), up_2s]; rfl
      · rw [up_2k _ _ _ _ (by decide), up_2s]; rfl
    · rw [g6 0 i (Or.inr z), g6 3 i (Or.inr z), g6 4 i (Or.inr z)]; exact v1 i (by omega)
  · rw [g6 6 j (Or.inl (by decide)), g6 7 j (Or.inl (by decide)), g6 10 j (Or.inl (by decide))]
    exact ⟨Nat.lt_succ_of_lt (v2 j hj).1, (v2 j hj).2⟩
  · have hi : i < n.1 + 1 := hi
    have hj : j < n.1 + 1 := hj
    have e : va_up ad.1 n.1 q i = va_up ad.1 n.1 q j := e
    by_cases z : i = n.1 <;> by_cases y : j = n.1
    · omega
    · rw [z, va_up_self, va_up_ne _ _ y] at e; exact absurd (e ▸ (hI j (by omega)).2.1) hq
    · rw [y, va_up_self, va_up_ne _ _ z] at e; exact absurd (e ▸ (hI i (by omega)).2.1) hq
    · rw [va_up_ne _ _ z, va_up_ne _ _ y] at e; exact hJ.1 i j (by omega) (by omega) e
  · have hi : i < n.1 + 1 := hi
    have hj : j < n.1 + 1 := hj
    have e : va_up ad.2.1 n.1 r i = va_up ad.2.1 n.1 r j := e
    by_cases z : i = n.1 <;> by_cases y : j = n.1
    · omega
    · rw [z, va_up_self, va_up_ne _ _ y] at e; exact absurd (e ▸ (hI j (by omega)).2.2.2.1) hr
    · rw [y, va_up_self, va_up_ne _ _ z] at e; exact absurd (e ▸ (hI i (by omega)).2.2.2.1) hr
    · rw [va_up_ne _ _ z, va_up_ne _ _ y] at e; exact hJ.2.1 i j (by omega) (by omega) e
/-- a new claim -/
theorem re_newC (hR : re_A cA σ n co L f ad) {q : Nat} (hq : q ∉ L) {L' : List Nat} (hL : ∀ a, a ∈ L → a ∈ L') (hqL : q ∈ L') {f' : Nat → va_E} (hf : ∀ a, a ∈ L → f' a = f a) {i : Nat} (hi : i < n.1) {kd ea : Int32} (hkd : ∃ x : Nat, x < 4 ∧ kd = nI x)
    (h1 : f' q = ce_C (nc_co co n.2.1 i (nI (i + 1)) kd ea).2.1 (nc_co co n.2.1 i (nI (i + 1)) kd ea).2.2.1 n.2.1 (ad.1 i)) (hn : n.2.1 < 60) (s0 : σ'.1 0 = σ.1 0) (s1 : σ'.1 1 = nI (n.2.1 + 1)) (s2 : σ'.1 2 = σ.1 2) (s3 : σ'.1 3 = σ.1 3)
    (r0 : σ'.2.2.2.2 0 = σ.2.2.2.2 0) (r1 : σ'.2.2.2.2 1 = va_up (σ.2.2.2.2 1) n.2.1 (some q)) (r2 : σ'.2.2.2.2 2 = σ.2.2.2.2 2) :
    re_A cA σ' (n.1, n.2.1 + 1, n.2.2) (nc_co co n.2.1 i (nI (i + 1)) kd ea) L' f' (ad.1, ad.2.1, va_up ad.2.2.1 n.2.1 q, ad.2.2.2) := by
  obtain ⟨⟨a1, a2, a3, a4, a5, a6, a7⟩, hI, hC, hS, ⟨v1, v2, v3⟩, hJ⟩ := hR
  have g6 : ∀ k j, k < 6 ∨ 16 ≤ k ∨ j ≠ n.2.1 → (nc_co co n.2.1 i (nI (i + 1)) kd ea).2.1 k j = co.2.1 k j := by
    intro k j h
    show up_2 (up_2 (up_2 (up_2 (up_2 (up_2 (up_2 (up_2 (up_2 (up_2 co.2.1 6 n.2.1 (nI (i + 1))) 7 n.2.1 kd) 8 n.2.1 ea) 9 n.2.1 0) 10 n.2.1 (ne_ed kd)) 11 n.2.1 0) 12 n.2.1 0) 13 n.2.1 0) 14 n.2.1 0) 15 n.2.1 0 k j = _
    by_cases z : j = n.2.1
    · rw [up_2k _ _ _ _ (by omega), up_2k _ _ _ _ (by omega), up_2k _ _ _ _ (by omega), up_2k _ _ _ _ (by omega), up_2k _ _ _ _ (by omega), up_2k _ _ _ _ (by omega), up_2k _ _ _ _ (by omega), up_2k _ _ _ _ (by omega), up_2k _ _ _ _ (by omega), up_2k _ _ _ _ (by omega)]
    · rw [up_2i _ _ _ _ z, up_2i _ _ _ _ z, up_2i _ _ _ _ z, up_2i _ _ _ _ z, up_2i _ _ _ _ z, up_2i _ _ _ _ z, up_2i _ _ _ _ z, up_2i _ _ _ _ z, up_2i _ _ _ _ z, up_2i _ _ _ _ z]
  have h6 : ∀ k j, k ≠ 2 ∨ j ≠ n.2.1 → (nc_co co n.2.1 i (nI (i + 1)) kd ea).2.2.1 k j = co.2.2.1 k j := by
    intro k j h
    show up_2 co.2.2.1 2 n.2.1 0 k j = _
    rcases h with h | h
    · rw [up_2k _ _ _ _ h]
    · rw [up_2i _ _ _ _ h]
  have x0 : ∀ j, j ≠ n.2.1 → (nc_co co n.2.1 i (nI (i + 1)) kd ea).1 0 j = co.1 0 j := fun j h => up_2i co.1 0 0 (i := n.2.1) i h
  have x0s : (nc_co co n.2.1 i (nI (i + 1)) kd ea).1 0 n.2.1 = i := up_2s co.1 0 n.2.1 i
  have x1 : ∀ j, (nc_co co n.2.1 i (nI (i + 1)) kd ea).1 1 j = co.1 1 j := fun j => up_2k co.1 (k := 0) (k' := 1) n.2.1 i j (by decide)
  refine ⟨⟨s0.trans a1, a2, s1, by show n.2.1 + 1 ≤ 60; omega, s2.trans a5, a6, s3.trans a7⟩, fun j hj => ?_, fun j hj => ?_, fun k hk => ?_, ⟨fun j hj => ?_, fun j hj => ?_, fun k hk => ?_⟩, ⟨hJ.1, hJ.2.1, fun j k hj hk e => ?_, hJ.2.2.2⟩⟩
  · obtain ⟨b1, b2, b3, b4, b5⟩ := hI j hj
    show σ'.2.2.2.2 0 j = _ ∧ _ ∧ f' (ad.1 j) = ce_I _ _ j (ad.2.1 j) ∧ _ ∧ f' (ad.2.1 j) = _
    rw [r0]
    refine ⟨b1, hL _ b2, ?_, hL _ b4, ?_⟩
    · rw [hf _ b2, b3]; exact (ce_Ie (fun k h => g6 k j (Or.inl h)) (fun k h => h6 k j (Or.inl (by omega)))).symm
    · rw [hf _ b4, b5]; rfl
  · have hj : j < n.2.1 + 1 := hj
    show σ'.2.2.2.2 1 j = some (va_up ad.2.2.1 n.2.1 q j) ∧ va_up ad.2.2.1 n.2.1 q j ∈ L' ∧ f' (va_up ad.2.2.1 n.2.1 q j) = ce_C _ _ j (ad.1 ((nc_co co n.2.1 i (nI (i + 1)) kd ea).1 0 j))
    rw [r1]
    by_cases z : j = n.2.1
    · subst z; rw [va_up_self, va_up_self, x0s]; exact ⟨rfl, hqL, h1⟩
    · obtain ⟨b1, b2, b3⟩ := hC j (by omega)
      rw [va_up_ne _ _ z, va_up_ne _ _ z, x0 j z]
      refine ⟨b1, hL _ b2, ?_⟩
      rw [hf _ b2, b3]; exact (ce_Ce (fun k _ _ => g6 k j (Or.inr (Or.inr z))) (h6 2 j (Or.inr z))).symm
  · obtain ⟨b1, b2, b3⟩ := hS k hk
    have hlt := v3 k hk
    show σ'.2.2.2.2 2 k = some (ad.2.2.2 k) ∧ ad.2.2.2 k ∈ L' ∧ f' (ad.2.2.2 k) = ce_S _ k (va_up ad.2.2.1 n.2.1 q ((nc_co co n.2.1 i (nI (i + 1)) kd ea).1 1 k))
    rw [r2, x1, va_up_ne _ _ (Nat.ne_of_lt hlt)]
    refine ⟨b1, hL _ b2, ?_⟩
    rw [hf _ b2, b3]; exact (ce_Se (g6 17 k (Or.inr (Or.inl (by decide)))) (g6 18 k (Or.inr (Or.inl (by decide))))).symm
  · rw [g6 0 j (Or.inl (by decide)), g6 3 j (Or.inl (by decide)), g6 4 j (Or.inl (by decide))]; exact v1 j hj
  · have hj : j < n.2.1 + 1 := hj
    by_cases z : j = n.2.1
    · subst z
      rw [x0s]
      refine ⟨hi, ?_, ?_, ?_⟩
      · show up_2 (up_2 (up_2 (up_2 (up_2 (up_2 (up_2 (up_2 (up_2 (up_2 co.2.1 6 n.2.1 (nI (i + 1))) 7 n.2.1 kd) 8 n.2.1 ea) 9 n.2.1 0) 10 n.2.1 (ne_ed kd)) 11 n.2.1 0) 12 n.2.1 0) 13 n.2.1 0) 14 n.2.1 0) 15 n.2.1 0 6 n.2.1 = _
        rw [up_2k _ _ _ _ (by decide), up_2k _ _ _ _ (by decide), up_2k _ _ _ _ (by decide), up_2k _ _ _ _ (by decide), up_2k _ _ _ _ (by decide), up_2k _ _ _ _ (by decide), up_2k _ _ _ _ (by decide), up_2k _ _ _ _ (by decide), up_2k _ _ _ _ (by decide), up_2s]
      · show ∃ v : Nat, v < 4 ∧ up_2 (up_2 (up_2 (up_2 (up_2 (up_2 (up_2 (up_2 (up_2 (up_2 co.2.1 6 n.2.1 (nI (i + 1))) 7 n.2.1 kd) 8 n.2.1 ea) 9 n.2.1 0) 10 n.2.1 (ne_ed kd)) 11 n.2.1 0) 12 n.2.1 0) 13 n.2.1 0) 14 n.2.1 0) 15 n.2.1 0 7 n.2.1 = nI v
        rw [up_2k _ _ _ _ (by decide), up_2k _ _ _ _ (by decide), up_2k _ _ _ _ (by decide), up_2k _ _ _ _ (by decide), up_2k _ _ _ _ (by decide), up_2k _ _ _ _ (by decide), up_2k _ _ _ _ (by decide), up_2k _ _ _ _ (by decide), up_2s]; exact hkd
      · show ∃ v : Nat, v < 16 ∧ up_2 (up_2 (up_2 (up_2 (up_2 (up_2 (up_2 (up_2 (up_2 (up_2 co.2.1 6 n.2.1 (nI (i + 1))) 7 n.2.1 kd) 8 n.2.1 ea) 9 n.2.1 0) 10 n.2.1 (ne_ed kd)) 11 n.2.1 0) 12 n.2.1 0) 13 n.2.1 0) 14 n.2.1 0) 15 n.2.1 0 10 n.2.1 = nI v
        rw [up_2k _ _ _ _ (by decide), up_2k _ _ _ _ (by decide), up_2k _ _ _ _ (by decide), up_2k _ _ _ _ (by decide), up_2k _ _ _ _ (by decide), up_2s]
        unfold ne_ed
        split
        · exact ⟨1, by decide, rfl⟩
        · split
          · exact ⟨3, by decide, rfl⟩
          · split
            · exact ⟨5, by decide, rfl⟩
            · exact ⟨13, by decide, rfl⟩
    · rw [x0 j z, g6 6 j (Or.inr (Or.inr z)), g6 7 j (Or.inr (Or.inr z)), g6 10 j (Or.inr (Or.inr z))]; exact v2 j (by omega)
  · rw [x1]; exact Nat.lt_succ_of_lt (v3 k hk)
  · have hj : j < n.2.1 + 1 := hj
    have hk : k < n.2.1 + 1 := hk
    have e : va_up ad.2.2.1 n.2.1 q j = va_up ad.2.2.1 n.2.1 q k := e
    by_cases z : j = n.2.1 <;> by_cases y : k = n.2.1
    · omega
    · rw [z, va_up_self, va_up_ne _ _ y] at e; exact absurd (e ▸ (hC k (by omega)).2.1) hq
    · rw [y, va_up_self, va_up_ne _ _ z] at e; exact absurd (e ▸ (hC j (by omega)).2.1) hq
    · rw [va_up_ne _ _ z, va_up_ne _ _ y] at e; exact hJ.2.2.1 j k (by omega) (by omega) e
/-- a new search (its claim's own columns are set apart) -/
theorem re_newS (hR : re_A cA σ n co L f ad) {q : Nat} (hq : q ∉ L) {L' : List Nat} (hL : ∀ a, a ∈ L → a ∈ L') (hqL : q ∈ L') {f' : Nat → va_E} (hf : ∀ a, a ∈ L → f' a = f a) {j : Nat} (hj : j < n.2.1) {due : Int32}
    (h1 : f' q = ce_S (up_2 (up_2 co.2.1 17 n.2.2.1 due) 18 n.2.2.1 1) n.2.2.1 (ad.2.2.1 j)) (hn : n.2.2.1 < 100) (s0 : σ'.1 0 = σ.1 0) (s1 : σ'.1 1 = σ.1 1) (s2 : σ'.1 2 = nI (n.2.2.1 + 1)) (s3 : σ'.1 3 = σ.1 3)
    (r0 : σ'.2.2.2.2 0 = σ.2.2.2.2 0) (r1 : σ'.2.2.2.2 1 = σ.2.2.2.2 1) (r2 : σ'.2.2.2.2 2 = va_up (σ.2.2.2.2 2) n.2.2.1 (some q)) :
    re_A cA σ' (n.1, n.2.1, n.2.2.1 + 1, n.2.2.2) (up_2 co.1 1 n.2.2.1 j, up_2 (up_2 co.2.1 17 n.2.2.1 due) 18 n.2.2.1 1, co.2.2) L' f' (ad.1, ad.2.1, ad.2.2.1, va_up ad.2.2.2 n.2.2.1 q) := by
  obtain ⟨⟨a1, a2, a3, a4, a5, a6, a7⟩, hI, hC, hS, ⟨v1, v2, v3⟩, hJ⟩ := hR
  have g6 : ∀ k i, k < 17 ∨ i ≠ n.2.2.1 → up_2 (up_2 co.2.1 17 n.2.2.1 due) 18 n.2.2.1 1 k i = co.2.1 k i := by
    intro k i h
    rcases h with h | h
    · rw [up_2k _ _ _ _ (by omega), up_2k _ _ _ _ (by omega)]
    · rw [up_2i _ _ _ _ h, up_2i _ _ _ _ h]
  have x0 : ∀ i, up_2 co.1 1 n.2.2.1 j 0 i = co.1 0 i := fun i => up_2k _ _ _ _ (by decide)
  refine ⟨⟨s0.trans a1, a2, s1.trans a3, a4, s2, by show n.2.2.1 + 1 ≤ 100; omega, s3.trans a7⟩, fun i hi => ?_, fun i hi => ?_, fun k hk => ?_, ⟨fun i hi => ?_, fun i hi => ?_, fun k hk => ?_⟩, ⟨hJ.1, hJ.2.1, hJ.2.2.1, fun i k hi hk e => ?_⟩⟩
  · obtain ⟨b1, b2, b3, b4, b5⟩ := hI i hi
    show σ'.2.2.2.2 0 i = _ ∧ _ ∧ f' (ad.1 i) = ce_I _ _ i (ad.2.1 i) ∧ _ ∧ f' (ad.2.1 i) = _
    rw [r0]
    refine ⟨b1, hL _ b2, ?_, hL _ b4, ?_⟩
    · rw [hf _ b2, b3]; exact (ce_Ie (fun k h => g6 k i (Or.inl (by omega))) (fun k h => rfl)).symm
    · rw [hf _ b4, b5]
  · obtain ⟨b1, b2, b3⟩ := hC i hi
    show σ'.2.2.2.2 1 i = _ ∧ _ ∧ f' (ad.2.2.1 i) = ce_C _ _ i (ad.1 (up_2 co.1 1 n.2.2.1 j 0 i))
    rw [r1, x0]
    refine ⟨b1, hL _ b2, ?_⟩
    rw [hf _ b2, b3]; exact (ce_Ce (fun k _ h => g6 k i (Or.inl (by omega))) rfl).symm
  · have hk : k < n.2.2.1 + 1 := hk
    show σ'.2.2.2.2 2 k = some (va_up ad.2.2.2 n.2.2.1 q k) ∧ va_up ad.2.2.2 n.2.2.1 q k ∈ L' ∧ f' (va_up ad.2.2.2 n.2.2.1 q k) = ce_S _ k (ad.2.2.1 (up_2 co.1 1 n.2.2.1 j 1 k))
    rw [r2]
    by_cases z : k = n.2.2.1
    · subst z; rw [va_up_self, va_up_self, up_2s]; exact ⟨rfl, hqL, h1⟩
    · obtain ⟨b1, b2, b3⟩ := hS k (by omega)
      rw [va_up_ne _ _ z, va_up_ne _ _ z, up_2i _ _ _ _ z]
      refine ⟨b1, hL _ b2, ?_⟩
      rw [hf _ b2, b3]; exact (ce_Se (g6 17 k (Or.inr z)) (g6 18 k (Or.inr z))).symm
  · show (∃ v : Nat, v < 4 ∧ up_2 (up_2 co.2.1 17 n.2.2.1 due) 18 n.2.2.1 1 0 i = nI v) ∧ (∃ v w : Nat, v ≤ 8 ∧ w ≤ v ∧ up_2 (up_2 co.2.1 17 n.2.2.1 due) 18 n.2.2.1 1 3 i = nI v ∧ up_2 (up_2 co.2.1 17 n.2.2.1 due) 18 n.2.2.1 1 4 i = nI w)
    rw [g6 0 i (Or.inl (by decide)), g6 3 i (Or.inl (by decide)), g6 4 i (Or.inl (by decide))]; exact v1 i hi
  · show up_2 co.1 1 n.2.2.1 j 0 i < n.1 ∧ up_2 (up_2 co.2.1 17 n.2.2.1 due) 18 n.2.2.1 1 6 i = nI (up_2 co.1 1 n.2.2.1 j 0 i + 1) ∧ (∃ v : Nat, v < 4 ∧ up_2 (up_2 co.2.1 17 n.2.2.1 due) 18 n.2.2.1 1 7 i = nI v) ∧ ∃ v : Nat, v < 16 ∧ up_2 (up_2 co.2.1 17 n.2.2.1 due) 18 n.2.2.1 1 10 i = nI v
    rw [x0, g6 6 i (Or.inl (by decide)), g6 7 i (Or.inl (by decide)), g6 10 i (Or.inl (by decide))]; exact v2 i hi
  · have hk : k < n.2.2.1 + 1 := hk
    show up_2 co.1 1 n.2.2.1 j 1 k < n.2.1
    by_cases z : k = n.2.2.1
    · subst z; rw [up_2s]; exact hj
    · rw [up_2i _ _ _ _ z]; exact v3 k (by omega)
  · have hi : i < n.2.2.1 + 1 := hi
    have hk : k < n.2.2.1 + 1 := hk
    have e : va_up ad.2.2.2 n.2.2.1 q i = va_up ad.2.2.2 n.2.2.1 q k := e
    by_cases z : i = n.2.2.1 <;> by_cases y : k = n.2.2.1
    · omega
    · rw [z, va_up_self, va_up_ne _ _ y] at e; exact absurd (e ▸ (hS k (by omega)).2.1) hq
    · rw [y, va_up_self, va_up_ne _ _ z] at e; exact absurd (e ▸ (hS i (by omega)).2.1) hq
    · rw [va_up_ne _ _ z, va_up_ne _ _ y] at e; exact hJ.2.2.2 i k (by omega) (by omega) e
end REP
/-! A number that names a row. -/
theorem nu_64 {x y : Int32} : x.toInt64 ≤ y.toInt64 ↔ x ≤ y := by
  rw [Int64.le_iff_toInt_le, Int32.le_iff_toInt_le, Int32.toInt_toInt64, Int32.toInt_toInt64]
theorem nu_1 {x c : Int32} : ((1 : Int64) ≤ x.toInt64 ∧ x.toInt64 ≤ c.toInt64) ↔ (1 ≤ x ∧ x ≤ c) := by
  rw [nu_64, show (1 : Int64) = (1 : Int32).toInt64 from by decide, nu_64]
theorem nu_f {x c : Int32} (h : ¬ ((1 : Int64) ≤ x.toInt64 ∧ x.toInt64 ≤ c.toInt64)) : na_m x c = none := by
  rw [nu_1] at h; exact if_neg h
theorem nu_j {x c : Int32} {m : Nat} (hc : c = nI m) (hm : m ≤ 100) (h : 1 ≤ x ∧ x ≤ c) : ∃ j : Nat, j < m ∧ x = nI (j + 1) ∧ (x - 1).toNatClampNeg = j := by
  obtain ⟨h1, h2⟩ := h
  rw [hc, Int32.le_iff_toInt_le, nI_toInt (by omega)] at h2
  rw [Int32.le_iff_toInt_le, show (1 : Int32).toInt = 1 from rfl] at h1
  have e : x = nI (x.toInt.toNat - 1 + 1) := Int32.toInt_inj.mp (by rw [nI_toInt (by omega)]; omega)
  obtain ⟨j, hj, hm2⟩ : ∃ j : Nat, x = nI (j + 1) ∧ j < m := ⟨_, e, by omega⟩
  subst hj
  exact ⟨j, hm2, rfl, by rw [nI_pred]; exact nI_clamp (by omega)⟩
theorem nu_t {x c : Int32} {m : Nat} (hc : c = nI m) (hm : m ≤ 100) (h : (1 : Int64) ≤ x.toInt64 ∧ x.toInt64 ≤ c.toInt64) : ∃ j : Nat, j < m ∧ na_m x c = some j ∧ x = nI (j + 1) ∧ (x - 1).toNatClampNeg = j := by
  rw [nu_1] at h
  obtain ⟨j, h1, h2, h3⟩ := nu_j hc hm h
  exact ⟨j, h1, by rw [na_m, if_pos h, h3], h2, h3⟩
theorem nu_in {x c : Int32} {m N : Nat} (hc : c = nI m) (hm : m ≤ N) (hN : N ≤ 100) (h : (1 : Int64) ≤ x.toInt64 ∧ x.toInt64 ≤ c.toInt64) : vp_in (x - 1) N := by
  obtain ⟨j, h1, -, h3, -⟩ := nu_t hc (by omega) h
  rw [h3, nI_pred]
  exact vp_in_nI (by omega) (by omega)
theorem nu_s {m j : Nat} (hj : j < m) (hm : m ≤ 100) : na_m (nI (j + 1)) (nI m) = some j := by
  have h : 1 ≤ nI (j + 1) ∧ nI (j + 1) ≤ nI m := ⟨nI_le (a := 1) (by omega) (by omega), nI_le (by omega) (by omega)⟩
  rw [na_m, if_pos h, nI_pred, nI_clamp (by omega)]
theorem rw_in {x y : Int32} (hx : ∃ v : Nat, v < 4 ∧ x = nI v) (hy : ∃ v : Nat, v < 4 ∧ y = nI v) : vp_in (x * 4 + y) 16 := by
  obtain ⟨v, h1, rfl⟩ := hx
  obtain ⟨w, h2, rfl⟩ := hy
  rw [show (4 : Int32) = nI 4 from rfl, pk_mul, nI_add]
  exact vp_in_nI (by omega) (by decide)
theorem sd_in {x : Int32} {m : Nat} (hm : x = nI m) (hb : m < 1000000) (h : ¬ (200 : Int32) ≤ x) : vp_in x 200 := by
  subst hm
  refine vp_in_nI ?_ (by decide)
  rcases Nat.lt_or_ge m 200 with q | q
  · exact q
  · exact absurd (nI_le (a := 200) q (by omega)) h
/-! Rows that the public calls' ends stand on. -/
theorem nu_4 {x : Int32} (h : 0 ≤ x ∧ x < 4) : ∃ v : Nat, v < 4 ∧ x = nI v := by
  obtain ⟨h1, h2⟩ := h
  obtain ⟨j, hj, rfl⟩ := nI_of (Int32.not_lt.mpr h1)
  refine ⟨j, ?_, rfl⟩
  rw [Int32.lt_iff_toInt_lt, nI_toInt hj, show (4 : Int32).toInt = 4 from rfl] at h2
  omega
theorem nu_ix {x : Int32} {m N : Nat} (hx : x = nI m) (h : m < N) (hN : N < 2 ^ 31) : vp_in x N := by rw [hx]; exact vp_in_nI h hN
theorem nu_lt {x y : Int32} {m N : Nat} (hx : x = nI m) (hm : m ≤ N) (c : x < y) (hy : y = nI N := by rfl) (hN : N < 2 ^ 31 := by decide) : m < N := by
  rw [hx, hy, Int32.lt_iff_toInt_lt, nI_toInt (by omega), nI_toInt hN] at c
  omega
theorem nu_l8 {x : Int32} {k : Nat} (hx : x = nI k) (hm : k ≤ 8) (c : x < 8) : k < 8 := nu_lt hx hm c
theorem nu_b {x : Int32} {b : Nat} (h : 0 ≤ x ∧ x < nI b) (hb : b < 2 ^ 31 := by decide) : vp_in x b := by
  obtain ⟨h1, h2⟩ := h
  obtain ⟨j, hj, rfl⟩ := nI_of (Int32.not_lt.mpr h1)
  refine vp_in_nI ?_ hb
  rw [Int32.lt_iff_toInt_lt, nI_toInt hj, nI_toInt hb] at h2
  omega
theorem ni_ce (co : co_T) (i : Nat) (sv : Int32) (v w : Int64) (dy se : Int32) (p : Nat) : ce_I (ni_co co i sv v w dy se).2.1 (ni_co co i sv v w dy se).2.2.1 i p = .inr (1, [.int sv, .long v, .long w, .int dy, .int se, .ref p, .int 0, .int 0, .int 0]) := by
  simp [ce_I, ni_co, up_2, va_up]
theorem ni_cp (cA : Nat → ClassId) (co : co_T) (i : Nat) (sv : Int32) (v w : Int64) (dy se : Int32) : ce_P cA (ni_co co i sv v w dy se).2.2.2 i = .inl (cA 0, 8, .inl (fun _ => 0)) := by
  simp [ce_P, ni_co, va_up]
theorem ps_ce (co : co_T) (i : Nat) (post : Int32) (b : Bool) (p : Nat) : ce_I (ps_co co i post b).2.1 (ps_co co i post b).2.2.1 i p = .inr (1, [.int (co.2.1 0 i), .long (co.2.2.1 0 i), .long (co.2.2.1 1 i), .int (co.2.1 1 i), .int (co.2.1 2 i), .ref p, .int (co.2.1 3 i + 1), .int (if b then co.2.1 3 i else co.2.1 4 i), .int (co.2.1 5 i)]) := by
  cases b <;> simp [ce_I, ps_co, up_2, va_up]
theorem ps_cp (cA : Nat → ClassId) (co : co_T) (i : Nat) (post : Int32) (b : Bool) : ce_P cA (ps_co co i post b).2.2.2 i = .inl (cA 0, 8, .inl (upd (co.2.2.2 i) (co.2.1 3 i).toNatClampNeg post)) := by
  simp [ce_P, ps_co, va_up]
theorem ps_ag {co : co_T} {i : Nat} {post : Int32} {b : Bool} {k w : Nat} (hk : k ≤ 8) (hw : w ≤ k) (h8 : k < 8) (e3 : co.2.1 3 i = nI k) (e4 : co.2.1 4 i = nI w) : ag_I co (ps_co co i post b) i := by
  refine ⟨rfl, fun j hj => va_up_ne _ _ hj, fun c j h => ?_, fun _ _ => rfl, ?_, ?_⟩
  · show up_2 (if b then up_2 co.2.1 4 i (co.2.1 3 i) else co.2.1) 3 i (co.2.1 3 i + 1) c j = co.2.1 c j
    rcases h with h | h
    · rw [up_2k _ _ _ _ (by omega)]
      split
      · rw [up_2k _ _ _ _ (by omega)]
      · rfl
    · rw [up_2i _ _ _ _ h]
      split
      · rw [up_2i _ _ _ _ h]
      · rfl
  · show up_2 (if b then up_2 co.2.1 4 i (co.2.1 3 i) else co.2.1) 3 i (co.2.1 3 i + 1) 0 i = co.2.1 0 i
    rw [up_2k _ _ _ _ (by decide)]
    split
    · rw [up_2k _ _ _ _ (by decide)]
    · rfl
  · show ∃ v w : Nat, v ≤ 8 ∧ w ≤ v ∧ up_2 (if b then up_2 co.2.1 4 i (co.2.1 3 i) else co.2.1) 3 i (co.2.1 3 i + 1) 3 i = nI v ∧ up_2 (if b then up_2 co.2.1 4 i (co.2.1 3 i) else co.2.1) 3 i (co.2.1 3 i + 1) 4 i = nI w
    rw [up_2s, up_2k _ _ _ _ (by decide), e3, nI_1]
    cases b
    · exact ⟨k + 1, w, by omega, by omega, rfl, e4⟩
    · exact ⟨k + 1, k, by omega, by omega, rfl, by simp [up_2, va_up]⟩
theorem ns_ce (co : co_T) (k : Nat) (due : Int32) (c : Nat) : ce_S (up_2 (up_2 co.2.1 17 k due) 18 k 1) k c = .inr (2, [.ref c, .int due, .int 1]) := by
  simp [ce_S, up_2, va_up]
/-- one column of a claim -/
theorem cg_ag {co : co_T} {j k : Nat} (h1 : 8 ≤ k) (h2 : k < 16) (h3 : k ≠ 10) (h : ∃ v : Nat, v < 16 ∧ co.2.1 10 j = nI v) (x : Int32) : ag_C co (co_g co (up_2 co.2.1 k j x)) j := by
  refine ⟨rfl, rfl, fun c i h => ?_, fun _ _ _ => rfl, up_2k _ _ _ _ (by omega), up_2k _ _ _ _ (by omega), ?_⟩
  · show up_2 co.2.1 k j x c i = _
    rcases h with h | h | h
    · exact up_2k _ _ _ _ (by omega)
    · exact up_2k _ _ _ _ (by omega)
    · exact up_2i _ _ _ _ h
  · show ∃ v : Nat, v < 16 ∧ up_2 co.2.1 k j x 10 j = nI v
    rw [up_2k _ _ _ _ (fun q => h3 q.symm)]; exact h
theorem ag_tr {co co1 co2 : co_T} {j : Nat} (h1 : ag_C co co1 j) (h2 : ag_C co1 co2 j) : ag_C co co2 j := by
  obtain ⟨a1, a2, a3, a4, a5, a6, -⟩ := h1
  obtain ⟨b1, b2, b3, b4, b5, b6, b7⟩ := h2
  exact ⟨b1.trans a1, b2.trans a2, fun k i h => (b3 k i h).trans (a3 k i h), fun k i h => (b4 k i h).trans (a4 k i h), b5.trans a5, b6.trans a6, b7⟩
theorem st_ag {co : co_T} {j : Nat} (h : ∃ v : Nat, v < 16 ∧ co.2.1 10 j = nI v) (x : Int32) : ag_C co (co_g co (up_2 co.2.1 9 j x)) j := cg_ag (by decide) (by decide) (by decide) h x
theorem bk_ag {co : co_T} {j : Nat} (h : ∃ v : Nat, v < 16 ∧ co.2.1 10 j = nI v) (x : Int32) : ag_C co (co_g co (up_2 co.2.1 15 j x)) j := cg_ag (by decide) (by decide) (by decide) h x
theorem py_ag {co : co_T} {j : Nat} (h : ∃ v : Nat, v < 16 ∧ co.2.1 10 j = nI v) (z : Int64) : ag_C co (co.1, up_2 co.2.1 9 j 1, up_2 co.2.2.1 2 j z, co.2.2.2) j := by
  obtain ⟨a1, a2, a3, a4, a5, a6, a7⟩ := st_ag h 1
  refine ⟨a1, a2, a3, fun k i h => ?_, a5, a6, a7⟩
  show up_2 co.2.2.1 2 j z k i = _
  rcases h with h | h
  · exact up_2k _ _ _ _ h
  · exact up_2i _ _ _ _ h
theorem ap_ag {co : co_T} {j : Nat} (h : ∃ v : Nat, v < 16 ∧ co.2.1 10 j = nI v) : ag_C co (ap_co co j) j := by
  have h1 := cg_ag (k := 9) (by decide) (by decide) (by decide) h 0
  have h2 := cg_ag (k := 14) (by decide) (by decide) (by decide) h1.2.2.2.2.2.2 1
  have h3 := cg_ag (k := 11) (by decide) (by decide) (by decide) h2.2.2.2.2.2.2 0
  have h4 := cg_ag (k := 13) (by decide) (by decide) (by decide) h3.2.2.2.2.2.2 0
  exact ag_tr (ag_tr (ag_tr h1 h2) h3) h4
theorem an_16 {u : Nat} (hu : u < 16) (y : Int32) : ∃ w : Nat, w < 16 ∧ nI u &&& y = nI w := by
  have e : nI u &&& y = (nI u &&& y) &&& 15 := by
    have h15 : nI u &&& 15 = nI u := by
      have := pk_andN (n := u) (by omega) (m := 15) 4 (by decide)
      rw [this, Nat.mod_eq_of_lt (by omega)]
    rw [Int32.and_assoc, Int32.and_comm y 15, ← Int32.and_assoc, h15]
  obtain ⟨j, h1, h2⟩ := pk_andE (nI u &&& y) (m := 15) 4 (by decide)
  exact ⟨j, h1, e.trans h2⟩
theorem an_17 {x : Int32} (h : ∃ u : Nat, u < 16 ∧ x = nI u) (y : Int32) : ∃ w : Nat, w < 16 ∧ x &&& y = nI w := by
  obtain ⟨u, hu, rfl⟩ := h
  exact an_16 hu y
theorem pf_ag {co : co_T} {j : Nat} (h : ∃ v : Nat, v < 16 ∧ co.2.1 10 j = nI v) (p : Int32) : ag_C co (co_g co (up_2 co.2.1 10 j (pr_lk co j p))) j := by
  refine ⟨rfl, rfl, fun c i h => ?_, fun _ _ _ => rfl, up_2k co.2.1 (k := 10) (k' := 6) j (pr_lk co j p) j (by decide), up_2k co.2.1 (k := 10) (k' := 7) j (pr_lk co j p) j (by decide), ?_⟩
  · show up_2 co.2.1 10 j _ c i = _
    rcases h with h | h | h
    · exact up_2k _ _ _ _ (by omega)
    · exact up_2k _ _ _ _ (by omega)
    · exact up_2i _ _ _ _ h
  · obtain ⟨u, h1, h2⟩ := h
    show ∃ v : Nat, v < 16 ∧ up_2 co.2.1 10 j (pr_lk co j p) 10 j = nI v
    rw [up_2s, pr_lk, h2]; exact an_16 h1 _
theorem fo_ag {co : co_T} {i : Nat} (h : ∃ v w : Nat, v ≤ 8 ∧ w ≤ v ∧ co.2.1 3 i = nI v ∧ co.2.1 4 i = nI w) : ag_I co (co_g co (up_2 co.2.1 5 i 1)) i := by
  refine ⟨rfl, fun _ _ => rfl, fun c j h => ?_, fun _ _ => rfl, up_2k co.2.1 (k := 5) (k' := 0) i 1 i (by decide), ?_⟩
  · show up_2 co.2.1 5 i 1 c j = _
    rcases h with h | h
    · exact up_2k _ _ _ _ (by omega)
    · exact up_2i _ _ _ _ h
  · show ∃ v w : Nat, v ≤ 8 ∧ w ≤ v ∧ up_2 co.2.1 5 i 1 3 i = nI v ∧ up_2 co.2.1 5 i 1 4 i = nI w
    rw [up_2k _ _ _ _ (by decide), up_2k _ _ _ _ (by decide)]; exact h
theorem fo_ce (co : co_T) (i p : Nat) : ce_I (co_g co (up_2 co.2.1 5 i 1)).2.1 (co_g co (up_2 co.2.1 5 i 1)).2.2.1 i p = .inr (1, [.int (co.2.1 0 i), .long (co.2.2.1 0 i), .long (co.2.2.1 1 i), .int (co.2.1 1 i), .int (co.2.1 2 i), .ref p, .int (co.2.1 3 i), .int (co.2.1 4 i), .int 1]) := by
  simp [ce_I, co_g, up_2, va_up]
theorem pf_ce (co : co_T) (j : Nat) (p : Int32) (a : Nat) : (Sum.inr (0, [.int (nI (j + 1)), .int (co.2.1 6 j), .ref a, .int (co.2.1 7 j), .int (co.2.1 8 j), .int (co.2.1 9 j), .int (co.2.1 10 j &&& (((1 : Int32) <<< (p &&& 31)) ^^^ (-1))), .int (co.2.1 11 j), .int (co.2.1 12 j), .int (co.2.1 13 j), .int (co.2.1 14 j), .int (co.2.1 15 j), .long (co.2.2.1 2 j)]) : va_E) = ce_C (co_g co (up_2 co.2.1 10 j (pr_lk co j p))).2.1 (co_g co (up_2 co.2.1 10 j (pr_lk co j p))).2.2.1 j a := by
  simp [ce_C, co_g, ap_co, pr_lk, up_2, va_up]
theorem st_ce (co : co_T) (j : Nat) (x : Int32) (a : Nat) : (Sum.inr (0, [.int (nI (j + 1)), .int (co.2.1 6 j), .ref a, .int (co.2.1 7 j), .int (co.2.1 8 j), .int x, .int (co.2.1 10 j), .int (co.2.1 11 j), .int (co.2.1 12 j), .int (co.2.1 13 j), .int (co.2.1 14 j), .int (co.2.1 15 j), .long (co.2.2.1 2 j)]) : va_E) = ce_C (co_g co (up_2 co.2.1 9 j x)).2.1 (co_g co (up_2 co.2.1 9 j x)).2.2.1 j a := by
  simp [ce_C, co_g, ap_co, pr_lk, up_2, va_up]
theorem bk_ce (co : co_T) (j : Nat) (x : Int32) (a : Nat) : (Sum.inr (0, [.int (nI (j + 1)), .int (co.2.1 6 j), .ref a, .int (co.2.1 7 j), .int (co.2.1 8 j), .int (co.2.1 9 j), .int (co.2.1 10 j), .int (co.2.1 11 j), .int (co.2.1 12 j), .int (co.2.1 13 j), .int (co.2.1 14 j), .int x, .long (co.2.2.1 2 j)]) : va_E) = ce_C (co_g co (up_2 co.2.1 15 j x)).2.1 (co_g co (up_2 co.2.1 15 j x)).2.2.1 j a := by
  simp [ce_C, co_g, ap_co, pr_lk, up_2, va_up]
theorem py_ce (co : co_T) (j : Nat) (z : Int64) (a : Nat) : (Sum.inr (0, [.int (nI (j + 1)), .int (co.2.1 6 j), .ref a, .int (co.2.1 7 j), .int (co.2.1 8 j), .int 1, .int (co.2.1 10 j), .int (co.2.1 11 j), .int (co.2.1 12 j), .int (co.2.1 13 j), .int (co.2.1 14 j), .int (co.2.1 15 j), .long z]) : va_E) = ce_C ((co.1, up_2 co.2.1 9 j 1, up_2 co.2.2.1 2 j z, co.2.2.2)).2.1 ((co.1, up_2 co.2.1 9 j 1, up_2 co.2.2.1 2 j z, co.2.2.2)).2.2.1 j a := by
  simp [ce_C, co_g, ap_co, pr_lk, up_2, va_up]
theorem ap_ce (co : co_T) (j : Nat) (a : Nat) : (Sum.inr (0, [.int (nI (j + 1)), .int (co.2.1 6 j), .ref a, .int (co.2.1 7 j), .int (co.2.1 8 j), .int 0, .int (co.2.1 10 j), .int 0, .int (co.2.1 12 j), .int 0, .int 1, .int (co.2.1 15 j), .long (co.2.2.1 2 j)]) : va_E) = ce_C (ap_co co j).2.1 (ap_co co j).2.2.1 j a := by
  simp [ce_C, co_g, ap_co, pr_lk, up_2, va_up]
theorem ns_cc (d1 : Nat → Nat) (co : co_T) (k j : Nat) (due : Int32) : (Sum.inr (0, [.int (nI (j + 1)), .int (co.2.1 6 j), .ref (d1 (co.1 0 j)), .int (co.2.1 7 j), .int (co.2.1 8 j), .int (co.2.1 9 j), .int (co.2.1 10 j), .int (co.2.1 11 j + 1), .int (co.2.1 12 j + 1), .int (co.2.1 13 j), .int (co.2.1 14 j), .int (co.2.1 15 j), .long (co.2.2.1 2 j)]) : va_E) = ce_C (ns_co co k j due).2.1 (ns_co co k j due).2.2.1 j (d1 (up_2 co.1 1 k j 0 j)) := by
  simp [ce_C, ns_co, up_2, va_up]
theorem ns_ag {co : co_T} {k j : Nat} {due : Int32} (h : ∃ v : Nat, v < 16 ∧ co.2.1 10 j = nI v) : ag_C (up_2 co.1 1 k j, up_2 (up_2 co.2.1 17 k due) 18 k 1, co.2.2) (ns_co co k j due) j := by
  have h0 : ∃ v : Nat, v < 16 ∧ ((up_2 co.1 1 k j, up_2 (up_2 co.2.1 17 k due) 18 k 1, co.2.2) : co_T).2.1 10 j = nI v := by
    show ∃ v : Nat, v < 16 ∧ up_2 (up_2 co.2.1 17 k due) 18 k 1 10 j = nI v
    rw [up_2k _ _ _ _ (by decide), up_2k _ _ _ _ (by decide)]; exact h
  have h1 := cg_ag (k := 11) (by decide) (by decide) (by decide) h0 (co.2.1 11 j + 1)
  exact ag_tr h1 (cg_ag (k := 12) (by decide) (by decide) (by decide) h1.2.2.2.2.2.2 (co.2.1 12 j + 1))
theorem cs_ag {co : co_T} {k : Nat} {b : Bool} (h : ∃ v : Nat, v < 16 ∧ co.2.1 10 (co.1 1 k) = nI v) : ag_C (co_g co (up_2 co.2.1 18 k 0)) (cs_co co k b) (co.1 1 k) := by
  have h0 : ∃ v : Nat, v < 16 ∧ (co_g co (up_2 co.2.1 18 k 0)).2.1 10 (co.1 1 k) = nI v := by
    show ∃ v : Nat, v < 16 ∧ up_2 co.2.1 18 k 0 10 (co.1 1 k) = nI v
    rw [up_2k _ _ _ _ (by decide)]; exact h
  have h1 := cg_ag (k := 12) (by decide) (by decide) (by decide) h0 (co.2.1 12 (co.1 1 k) - 1)
  exact ag_tr h1 (cg_ag (k := 13) (by decide) (by decide) (by decide) h1.2.2.2.2.2.2 (if b then 1 else co.2.1 13 (co.1 1 k)))
theorem re_close {cA : Nat → ClassId} {σ : xs_T} {n : nn_T} {co : co_T} {L : List Nat} {f : Nat → va_E} {ad : ad_T} (hR : re_A cA σ n co L f ad) {k : Nat} (hk : k < n.2.2.1) {b : Bool} {e1 e2 : va_E}
    (h1 : e1 = .inr (2, [.ref (ad.2.2.1 (co.1 1 k)), .int (co.2.1 17 k), .int 0])) (h2 : e2 = .inr (0, [.int (nI ((co.1 1 k) + 1)), .int (co.2.1 6 (co.1 1 k)), .ref (ad.1 (co.1 0 (co.1 1 k))), .int (co.2.1 7 (co.1 1 k)), .int (co.2.1 8 (co.1 1 k)), .int (co.2.1 9 (co.1 1 k)), .int (co.2.1 10 (co.1 1 k)), .int (co.2.1 11 (co.1 1 k)), .int (co.2.1 12 (co.1 1 k) - 1), .int (if b then 1 else co.2.1 13 (co.1 1 k)), .int (co.2.1 14 (co.1 1 k)), .int (co.2.1 15 (co.1 1 k)), .long (co.2.2.1 2 (co.1 1 k))])) :
    re_A cA σ n (cs_co co k b) L (va_up (va_up f (ad.2.2.2 k) e1) (ad.2.2.1 (co.1 1 k)) e2) ad := by
  have hj := hR.2.2.2.2.1.2.2 k hk
  have hv := (hR.2.2.2.2.1.2.1 _ hj).2.2.2
  refine re_setC (re_setS hR hk (x := 0) (by rw [h1]; simp [ce_S, up_2, va_up])) hj (cs_ag hv) ?_
  rw [h2]
  simp [ce_C, cs_co, co_g, up_2, va_up]
theorem sn_0 (σ : xs_T) (x k : Int32) (i : Nat) (h : i ≠ 3) : (se_nd σ x k).1 i = σ.1 i := by
  unfold se_nd
  split
  · simp [xs_i, xs_ai, va_up, h]
  · simp [xs_i, va_up, h]
theorem sn_3 {σ : xs_T} {m : Nat} (h : σ.1 3 = nI m) (x k : Int32) : (se_nd σ x k).1 3 = nI (m + 1) := by
  unfold se_nd
  split
  · simp [xs_i, xs_ai, va_up, h, nI_1]
  · simp [xs_i, va_up, h, nI_1]
theorem sn_r (σ : xs_T) (x k : Int32) : (se_nd σ x k).2.2.2.2 = σ.2.2.2.2 := by
  unfold se_nd
  split <;> rfl
theorem po_nz {x : Int32} {d : Nat} (hs : x = nI d) (hd : d < 2 ^ 31) (c : 0 < x) : ¬ x.toInt64 = 0 := by
  intro h
  have h2 := congrArg Int64.toInt h
  rw [Int32.toInt_toInt64, Int64.toInt_zero] at h2
  rw [Int32.lt_iff_toInt_lt, Int32.toInt_zero] at c
  omega
theorem le_in {x y : Int32} {m : Nat} (hm : y = nI m) (hb : m < 2 ^ 31) (h : 0 ≤ x ∧ x < (if 200 < y then 200 else y)) : vp_in x 200 := by
  obtain ⟨h1, h2⟩ := h
  obtain ⟨j, hj, rfl⟩ := nI_of (Int32.not_lt.mpr h1)
  refine vp_in_nI ?_ (by decide)
  split at h2
  · rw [Int32.lt_iff_toInt_lt, nI_toInt hj, show (200 : Int32).toInt = 200 from rfl] at h2
    omega
  · rename_i h3
    rw [Int32.lt_iff_toInt_lt] at h2 h3
    rw [nI_toInt hj] at h2
    rw [show (200 : Int32).toInt = 200 from rfl] at h3
    omega
