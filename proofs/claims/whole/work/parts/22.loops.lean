def cnt (P : Nat → Bool) : Nat → Nat
  | 0 => 0
  | n + 1 => if P n = true then cnt P n + 1 else cnt P n
def fst1 (P : Nat → Bool) : Nat → Option Nat
  | 0 => none
  | n + 1 => match fst1 P n with
    | some i => some i
    | none => if P n = true then some n else none
def fld {σ : Type} (g : σ → Nat → σ) (s : σ) : Nat → σ
  | 0 => s
  | n + 1 => g (fld g s n) n
theorem cnt_le (P : Nat → Bool) : ∀ n, cnt P n ≤ n := by
  intro n
  induction n with
  | zero => exact Nat.le_refl _
  | succ n ih => unfold cnt; split <;> omega
theorem cnt_congr {P P' : Nat → Bool} : ∀ n, (∀ i, i < n → P i = P' i) → cnt P n = cnt P' n := by
  intro n
  induction n with
  | zero => intro _; rfl
  | succ n ih =>
    intro h
    unfold cnt
    rw [h n (by omega), ih (fun i hi => h i (by omega))]
theorem fst1_congr {P P' : Nat → Bool} : ∀ n, (∀ i, i < n → P i = P' i) → fst1 P n = fst1 P' n := by
  intro n
  induction n with
  | zero => intro _; rfl
  | succ n ih =>
    intro h
    unfold fst1
    rw [h n (by omega), ih (fun i hi => h i (by omega))]
theorem fst1_none {P : Nat → Bool} : ∀ n, fst1 P n = none ↔ ∀ i, i < n → P i = false := by
  intro n
  induction n with
  | zero => exact ⟨fun _ i hi => absurd hi (by omega), fun _ => rfl⟩
  | succ n ih =>
    unfold fst1
    constructor
    · intro h i hi
      cases hc : fst1 P n with
      | some j => rw [hc] at h; cases h
      | none =>
        rw [hc] at h
        by_cases hp : P n = true
        · simp [hp] at h
        · rcases Nat.lt_or_ge i n with q | q
          · exact ih.mp hc i q
          · have : i = n := by omega
            subst this
            simpa using hp
    · intro h
      rw [ih.mpr (fun i hi => h i (by omega))]
      simp [h n (by omega)]
theorem fst1_some {P : Nat → Bool} : ∀ n i, fst1 P n = some i ↔ i < n ∧ P i = true ∧ ∀ j, j < i → P j = false := by
  intro n
  induction n with
  | zero => intro i; exact ⟨fun h => (by cases h), fun h => absurd h.1 (by omega)⟩
  | succ n ih =>
    intro i
    unfold fst1
    constructor
    · intro h
      cases hc : fst1 P n with
      | some j =>
        rw [hc] at h
        cases h
        obtain ⟨a, b, c⟩ := (ih i).mp hc
        exact ⟨by omega, b, c⟩
      | none =>
        rw [hc] at h
        by_cases hp : P n = true
        · simp [hp] at h
          subst h
          exact ⟨by omega, hp, (fst1_none n).mp hc⟩
        · simp [hp] at h
    · intro ⟨a, b, c⟩
      rcases Nat.lt_or_ge i n with q | q
      · rw [(ih i).mpr ⟨q, b, c⟩]
      · have : i = n := by omega
        subst this
        rw [(fst1_none i).mpr c]
        simp [b]
theorem fld_congr {σ : Type} {g g' : σ → Nat → σ} {s : σ} : ∀ n, (∀ i, i < n → ∀ s, g s i = g' s i) → fld g s n = fld g' s n := by
  intro n
  induction n with
  | zero => intro _; rfl
  | succ n ih =>
    intro h
    unfold fld
    rw [ih (fun i hi => h i (by omega)), h n (by omega)]
/-- a loop that counts -/
theorem lp_cnt {ρ : Type} (n : Nat) (P : Nat → Bool) (L : Nat → Int32 → Int32 → ρ) (fin : Int32 → ρ)
    (h1 : ∀ f c i, i < n → L (f + 1) (nI c) (nI i) = L f (nI (if P i = true then c + 1 else c)) (nI (i + 1))) (h2 : ∀ f c, L (f + 1) (nI c) (nI n) = fin (nI c)) :
    ∀ f, n < f → L f 0 0 = fin (nI (cnt P n)) := by
  have key : ∀ r i f, i + r = n → r < f → L f (nI (cnt P i)) (nI i) = fin (nI (cnt P n)) := by
    intro r
    induction r with
    | zero =>
      intro i f hi hf
      obtain ⟨f, rfl⟩ : ∃ g, f = g + 1 := ⟨f - 1, by omega⟩
      have : i = n := by omega
      subst this
      exact h2 f _
    | succ r ih =>
      intro i f hi hf
      obtain ⟨f, rfl⟩ : ∃ g, f = g + 1 := ⟨f - 1, by omega⟩
      rw [h1 f _ i (by omega)]
      exact ih (i + 1) f (by omega) (by omega)
  intro f hf
  exact key n 0 f (by omega) hf
/-- a loop that looks for the first -/
theorem lp_fst {ρ : Type} (n : Nat) (P : Nat → Bool) (L : Nat → Int32 → ρ) (yes : Nat → ρ) (no : ρ)
    (h1 : ∀ f i, i < n → L (f + 1) (nI i) = if P i = true then yes i else L f (nI (i + 1))) (h2 : ∀ f, L (f + 1) (nI n) = no) :
    ∀ f, n < f → L f 0 = match fst1 P n with
      | some i => yes i
      | none => no := by
  have key : ∀ r i f, i + r = n → r < f → fst1 P i = none → L f (nI i) = match fst1 P n with
      | some i => yes i
      | none => no := by
    intro r
    induction r with
    | zero =>
      intro i f hi hf hn
      obtain ⟨f, rfl⟩ : ∃ g, f = g + 1 := ⟨f - 1, by omega⟩
      have : i = n := by omega
      subst this
      rw [h2, hn]
    | succ r ih =>
      intro i f hi hf hn
      obtain ⟨f, rfl⟩ : ∃ g, f = g + 1 := ⟨f - 1, by omega⟩
      rw [h1 f i (by omega)]
      by_cases hp : P i = true
      · rw [if_pos hp, (fst1_some n i).mpr ⟨by omega, hp, (fst1_none i).mp hn⟩]
      · rw [if_neg hp]
        refine ih (i + 1) f (by omega) (by omega) ?_
        unfold fst1
        rw [hn]
        simp [hp]
  intro f hf
  exact key n 0 f (by omega) hf rfl
/-- a loop that folds -/
theorem lp_fld {ρ σ : Type} (n : Nat) (g : σ → Nat → σ) (s0 : σ) (L : Nat → σ → Int32 → ρ) (fin : σ → ρ) (I : σ → Nat → Prop) (h0 : I s0 0)
    (h1 : ∀ f s i, i < n → I s i → L (f + 1) s (nI i) = L f (g s i) (nI (i + 1)) ∧ I (g s i) (i + 1)) (h2 : ∀ f s, I s n → L (f + 1) s (nI n) = fin s) :
    ∀ f, n < f → L f s0 0 = fin (fld g s0 n) ∧ I (fld g s0 n) n := by
  have key : ∀ r i f, i + r = n → r < f → I (fld g s0 i) i → L f (fld g s0 i) (nI i) = fin (fld g s0 n) ∧ I (fld g s0 n) n := by
    intro r
    induction r with
    | zero =>
      intro i f hi hf hI
      obtain ⟨f, rfl⟩ : ∃ g, f = g + 1 := ⟨f - 1, by omega⟩
      have : i = n := by omega
      subst this
      exact ⟨h2 f _ hI, hI⟩
    | succ r ih =>
      intro i f hi hf hI
      obtain ⟨f, rfl⟩ : ∃ g, f = g + 1 := ⟨f - 1, by omega⟩
      obtain ⟨e1, e2⟩ := h1 f _ i (by omega) hI
      rw [e1]
      exact ih (i + 1) f (by omega) (by omega) e2
  intro f hf
  exact key n 0 f (by omega) hf h0
/-! the spans -/
def cMd (n : Nat) (a : Int32) : Bool := decide (0 ≤ a.toInt ∧ a.toInt < (n : Int))
theorem cMd_of {n : Nat} {a : Int32} (h : cMd n a = true) (hn : n < 2 ^ 31) : ∃ i : Nat, i < n ∧ a = nI i := by
  simp only [cMd, decide_eq_true_eq] at h
  exact z_of h.1 h.2 hn
theorem cMd_nI {n i : Nat} (h : i < n) (hn : n < 2 ^ 31) : cMd n (nI i) = true := by
  simp only [cMd, nI_toInt (show i < 2 ^ 31 by omega), decide_eq_true_eq]
  omega
def cTh (f u t : Int32) : Bool := decide (f ≤ t) && decide (t < u)
theorem zz0 : (0 : Int32).toInt = 0 := by decide
theorem cTh_t {f u t : Int32} : cTh f u t = true ↔ f ≤ t ∧ t < u := by simp [cTh]
theorem z_nlt {a b : Int32} : ¬ a < b ↔ b ≤ a := by rw [z_lt, z_le]; omega
theorem z_nle {a b : Int32} : ¬ a ≤ b ↔ b < a := by rw [z_lt, z_le]; omega
