/-! names, for every int -/
def zN (a : Int32) : Bool := decide (0 ≤ a.toInt ∧ a.toInt < 125) && zNm a.toInt.toNat
theorem zN_nI {k : Nat} (h : zNm k = true) : zN (nI k) = true := by
  have hk : k < 125 := by simp only [zNm, decide_eq_true_eq] at h; omega
  have e : (nI k).toInt = (k : Int) := nI_toInt (by omega)
  simp only [zN, e, Int.toNat_natCast, h, Bool.and_true, decide_eq_true_eq]
  omega
theorem zN_of {a : Int32} (h : zN a = true) : ∃ k : Nat, k < 125 ∧ zNm k = true ∧ a = nI k := by
  simp only [zN, Bool.and_eq_true, decide_eq_true_eq] at h
  obtain ⟨⟨h0, h1⟩, h2⟩ := h
  obtain ⟨k, hk, e⟩ := z_of (n := 125) h0 (by omega) (by omega)
  refine ⟨k, hk, ?_, e⟩
  rw [e, nI_toInt (by omega), Int.toNat_natCast] at h2
  exact h2
theorem zN_tab {k : Nat} (hk : k < 125) (S : qS) : fX2_isName (nI k) S = some (zNm k) ∧ fX9_isName (nI k) S = some (zNm k) ∧ fX2_isPattern (nI k) S = some (zPat k) ∧ fX9_isPattern (nI k) S = some (zPat k) ∧ fX2_lastWeight (nI k) S = some (nI (zW k)) ∧ fX9_labels (nI k) S = some (nI (zLab k)) ∧ fX2_patternFor (nI k) S = some (nI (zPF k)) ∧ fX9_patternFor (nI k) S = some (nI (zPF k)) := by
  have h := z_all zX_name_t hk
  simp only [Bool.and_eq_true, beq_iff_eq] at h
  obtain ⟨⟨⟨⟨⟨⟨⟨h1, h2⟩, h3⟩, h4⟩, h5⟩, h6⟩, h7⟩, h8⟩ := h
  exact ⟨h1, h2, h3, h4, h5, h6, h7, h8⟩
theorem zX_isName (a : Int32) (S : qS) : fX2_isName a S = some (zN a) := by
  by_cases h : 0 ≤ a.toInt ∧ a.toInt < 125
  · obtain ⟨k, hk, e⟩ := z_of (n := 125) h.1 (by omega) (by omega)
    rw [e, (zN_tab hk S).1]
    simp only [zN, nI_toInt (show k < 2 ^ 31 by omega), Int.toNat_natCast]
    rw [decide_eq_true (by omega), Bool.true_and]
  · have e1 : zN a = false := by simp only [zN, decide_eq_false h, Bool.false_and]
    have e2 : (1 : Int32).toInt = 1 := by decide
    have e3 : (124 : Int32).toInt = 124 := by decide
    rw [e1]
    unfold fX2_isName
    by_cases h1 : a < 1
    · rw [if_pos h1]
    · rw [if_neg h1, if_pos]
      rw [z_lt] at h1 ⊢
      omega
theorem zM_isName (a : Int32) (S : qS) : fX9_isName a S = some (zN a) := by
  by_cases h : 0 ≤ a.toInt ∧ a.toInt < 125
  · obtain ⟨k, hk, e⟩ := z_of (n := 125) h.1 (by omega) (by omega)
    rw [e, (zN_tab hk S).2.1]
    simp only [zN, nI_toInt (show k < 2 ^ 31 by omega), Int.toNat_natCast]
    rw [decide_eq_true (by omega), Bool.true_and]
  · have e1 : zN a = false := by simp only [zN, decide_eq_false h, Bool.false_and]
    have e2 : (1 : Int32).toInt = 1 := by decide
    have e3 : (124 : Int32).toInt = 124 := by decide
    rw [e1]
    unfold fX9_isName fX9_in
    by_cases h1 : a < 1
    · rw [if_pos h1]; rfl
    · rw [if_neg h1, if_pos]
      · rfl
      · rw [z_lt] at h1 ⊢
        omega
theorem zNames_mem {k : Nat} (h : zNm k = true) : k ∈ zNames := by
  refine List.mem_filter.mpr ⟨List.mem_range.mpr ?_, h⟩
  simp only [zNm, decide_eq_true_eq] at h
  omega
theorem zN_tab2 {k j : Nat} (hk : zNm k = true) (hj : zNm j = true) (S : qS) : fX2_isAt (nI k) (nI j) S = some (zAt k j) ∧ fX9_isAt (nI k) (nI j) S = some (zAt k j) ∧ fX2_isBelow (nI k) (nI j) S = some (zBl k j) ∧ fX9_isBelow (nI k) (nI j) S = some (zBl k j) := by
  have h := List.all_eq_true.mp (List.all_eq_true.mp zX_at_t k (zNames_mem hk)) j (zNames_mem hj)
  simp only [Bool.and_eq_true, beq_iff_eq] at h
  obtain ⟨⟨⟨h1, h2⟩, h3⟩, h4⟩ := h
  exact ⟨h1, h2, h3, h4⟩
/-! rows -/
def nr (r : Nat → Int32) (i : Nat) : Nat := (r i).toNatClampNeg
def isN (r : Nat → Int32) (i b : Nat) : Prop := r i = nI (nr r i) ∧ nr r i ≤ b
theorem isN_mk {r : Nat → Int32} {i b k : Nat} (h : r i = nI k) (hk : k ≤ b) (hb : b < 2 ^ 31) : isN r i b := by
  have e : nr r i = k := by rw [nr, h, nI_clamp (by omega)]
  exact ⟨by rw [e]; exact h, by rw [e]; exact hk⟩
theorem nr_mk {r : Nat → Int32} {i k : Nat} (h : r i = nI k) (hk : k < 2 ^ 31) : nr r i = k := by rw [nr, h, nI_clamp hk]
def spOK (T : Nat) (rf ru : Nat → Int32) (i : Nat) : Prop := isN rf i T ∧ isN ru i 10000 ∧ (nr ru i ≤ T ∨ nr ru i = 10000)
def W0 (r0 : Nat → Int32) : Prop := isN r0 6 9999
def Wn (T : Nat) (r2 r3 r4 r5 : Nat → Int32) : Prop := r2 2 = 10 ∧ isN r2 3 10 ∧ ∀ i, i < nr r2 3 → spOK T r3 r4 i ∧ isN r5 i 3 ∧ 1 ≤ nr r5 i
def Wz (T : Nat) (r10 r11 r12 r13 r14 : Nat → Int32) : Prop := r10 2 = 10 ∧ isN r10 3 10 ∧ (∀ i, i < nr r10 3 → spOK T r11 r12 i ∧ isN r13 i 3 ∧ isN r14 i 124 ∧ zNm (nr r14 i) = true) ∧ ∀ i j, i < j → j < nr r10 3 → r13 i = r13 j → r14 i = r14 j → nr r12 i ≤ nr r11 j
def sameK (r19 r20 r21 : Nat → Int32) (c e : Nat) : Prop := r19 c = r19 e ∧ r20 c = r20 e ∧ r21 c = r21 e
def Wc (T nZ : Nat) (r16 r17 r18 r19 r20 r21 r22 : Nat → Int32) : Prop := r16 2 = 70 ∧ isN r16 3 70 ∧
  (∀ c, c < nr r16 3 → isN r17 c T ∧ isN r18 c 10000 ∧ (nr r18 c ≤ T ∨ nr r18 c = 10000) ∧ isN r19 c 9 ∧ nr r19 c < nZ ∧ isN r20 c 124 ∧ zNm (nr r20 c) = true ∧ isN r21 c 2 ∧ (r22 c = -1 ∨ (isN r22 c 999 ∧ (nr r21 c = 1 → zNm (nr r22 c) = true)))) ∧
  (∀ c e, c < e → e < nr r16 3 → nr r17 c ≤ nr r17 e) ∧
  (∀ c e, c < e → e < nr r16 3 → sameK r19 r20 r21 c e → nr r18 c ≤ nr r17 e) ∧
  (∀ c, c < nr r16 3 → r22 c = -1 → r18 c = r17 c) ∧
  (∀ c, c < nr r16 3 → ¬ r22 c = -1 → nr r18 c = 10000 ∨ ∃ e, c < e ∧ e < nr r16 3 ∧ sameK r19 r20 r21 c e ∧ nr r18 c = nr r17 e)
def Wk (r23 r24 r25 r26 : Nat → Int32) : Prop := isN r23 5 6 ∧ (∀ k, k < nr r23 5 → isN r24 k 255 ∧ isN r25 k 124 ∧ zNm (nr r25 k) = true ∧ isN r26 k 2) ∧ ∀ i j, i < j → j < nr r23 5 → ¬ (r24 i = r24 j ∧ r25 i = r25 j ∧ r26 i = r26 j)
def Wt (r29 : Nat → Int32) : Prop := isN r29 1 60
def toU (u : Int32) : Int32 := if u = 10000 then -1 else u
def Mn (n : Nat) (r3 r4 r5 r6 r7 m : Nat → Int32) : Prop := ∀ i, i < n → m (5 * i) = r5 i ∧ m (5 * i + 1) = r6 i ∧ m (5 * i + 2) = r7 i ∧ m (5 * i + 3) = r3 i ∧ m (5 * i + 4) = toU (r4 i)
def Mz (n : Nat) (r11 r12 r13 r14 m : Nat → Int32) : Prop := ∀ i, i < n → m (4 * i) = r13 i ∧ m (4 * i + 1) = r14 i ∧ m (4 * i + 2) = r11 i ∧ m (4 * i + 3) = toU (r12 i)
def Mc (n : Nat) (r17 r19 r20 r21 r22 m : Nat → Int32) : Prop := ∀ i, i < n → m (5 * i) = r19 i ∧ m (5 * i + 1) = r17 i ∧ m (5 * i + 2) = r20 i ∧ m (5 * i + 3) = r21 i ∧ m (5 * i + 4) = r22 i
def Mk (n : Nat) (r24 r25 r26 r27 r28 m : Nat → Int32) : Prop := ∀ i, i < n → m (5 * i) = r24 i ∧ m (5 * i + 1) = r25 i ∧ m (5 * i + 2) = r26 i ∧ m (5 * i + 3) = r27 i ∧ m (5 * i + 4) = r28 i
def Mt (n : Nat) (r30 m : Nat → Int32) : Prop := ∀ i, i < n → m i = r30 i
def WX (X : qS) : Prop := W0 (X 0) ∧ Wn (nr (X 0) 6) (X 2) (X 3) (X 4) (X 5) ∧ Wz (nr (X 0) 6) (X 10) (X 11) (X 12) (X 13) (X 14) ∧ Wc (nr (X 0) 6) (nr (X 10) 3) (X 16) (X 17) (X 18) (X 19) (X 20) (X 21) (X 22) ∧ Wk (X 23) (X 24) (X 25) (X 26) ∧ Wt (X 29)
def RM (X S : qS) : Prop := (S 34 0 = X 0 6 ∧ S 34 2 = X 2 3 ∧ S 34 4 = X 10 3 ∧ S 34 6 = X 16 3 ∧ S 34 8 = X 23 5 ∧ S 34 9 = X 23 7 ∧ S 34 10 = X 23 6 ∧ S 34 12 = X 29 1) ∧ Mn (nr (X 2) 3) (X 3) (X 4) (X 5) (X 6) (X 7) (S 35) ∧ Mz (nr (X 10) 3) (X 11) (X 12) (X 13) (X 14) (S 36) ∧ Mc (nr (X 16) 3) (X 17) (X 19) (X 20) (X 21) (X 22) (S 37) ∧ Mk (nr (X 23) 5) (X 24) (X 25) (X 26) (X 27) (X 28) (S 38) ∧ Mt (nr (X 29) 1) (X 30) (S 39)
/-! loops -/
def itr {σ R : Type} (step : σ → Nat → R ⊕ σ) (fin : σ → R) : Nat → Nat → σ → R
  | 0, _, s => fin s
  | r + 1, i, s => match step s i with
    | .inl x => x
    | .inr s' => itr step fin r (i + 1) s'
theorem itr_of {σ R ρ : Type} {step : σ → Nat → R ⊕ σ} {fin : σ → R} (n : Nat) (L : Nat → σ → Nat → ρ) (up : R → ρ) (I : σ → Nat → Prop)
    (h1 : ∀ f s i, i < n → I s i → L (f + 1) s i = (match step s i with
      | .inl x => up x
      | .inr s' => L f s' (i + 1)) ∧ ∀ s', step s i = .inr s' → I s' (i + 1))
    (h2 : ∀ f s, I s n → L (f + 1) s n = up (fin s)) : ∀ (r i : Nat) (s : σ) (f : Nat), i + r = n → r < f → I s i → L f s i = up (itr step fin r i s) := by
  intro r
  induction r with
  | zero =>
    intro i s f hi hf hI
    obtain ⟨f, rfl⟩ : ∃ g, f = g + 1 := ⟨f - 1, by omega⟩
    have hi2 : i = n := by omega
    subst hi2
    exact h2 f s hI
  | succ r ih =>
    intro i s f hi hf hI
    obtain ⟨f, rfl⟩ : ∃ g, f = g + 1 := ⟨f - 1, by omega⟩
    obtain ⟨e1, e2⟩ := h1 f s i (by omega) hI
    rw [e1]
    show _ = up (match step s i with
      | .inl x => x
      | .inr s' => itr step fin r (i + 1) s')
    cases hc : step s i with
    | inl x => rfl
    | inr s' => exact ih (i + 1) s' f (by omega) (by omega) (e2 s' hc)
theorem itr_congr {σ R : Type} {step step' : σ → Nat → R ⊕ σ} {fin fin' : σ → R} (hf : ∀ s, fin s = fin' s) : ∀ (r i : Nat) (s : σ), (∀ j s, i ≤ j → j < i + r → step s j = step' s j) → itr step fin r i s = itr step' fin' r i s := by
  intro r
  induction r with
  | zero => intro i s _; exact hf s
  | succ r ih =>
    intro i s h
    have e := h i s (Nat.le_refl _) (by omega)
    show (match step s i with
      | .inl x => x
      | .inr s' => itr step fin r (i + 1) s') = (match step' s i with
      | .inl x => x
      | .inr s' => itr step' fin' r (i + 1) s')
    rw [e]
    cases step' s i with
    | inl x => rfl
    | inr s' => exact ih (i + 1) s' (fun j s h1 h2 => h j s (by omega) (by omega))
