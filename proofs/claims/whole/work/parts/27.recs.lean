/-! records: what the class finds -/
def cKey (r19 r20 r21 : Nat → Int32) (z n ty : Int32) (i : Nat) : Bool := decide (r19 i = z) && decide (r20 i = n) && decide (r21 i = ty)
def cFd (N : Nat) (r17 r18 r19 r20 r21 : Nat → Int32) (z n ty t : Int32) : Option Nat := fst1 (fun i => cKey r19 r20 r21 z n ty i && cTh (r17 i) (r18 i) t) N
def anyB (P : Nat → Bool) (n : Nat) : Bool := (fst1 P n).isSome
theorem anyB_iff {P : Nat → Bool} {n : Nat} : anyB P n = true ↔ ∃ i, i < n ∧ P i = true := by
  unfold anyB
  cases h : fst1 P n with
  | none =>
    have := (fst1_none n).mp h
    simp only [Option.isSome_none, Bool.false_eq_true, false_iff]
    intro ⟨i, hi, hp⟩
    rw [this i hi] at hp
    cases hp
  | some i =>
    obtain ⟨a, b, _⟩ := (fst1_some n i).mp h
    simp only [Option.isSome_some, true_iff]
    exact ⟨i, a, b⟩
def cEx (N : Nat) (r17 r18 r19 r20 : Nat → Int32) (z : Int32) (k : Nat) (t : Int32) : Bool := anyB (fun i => decide (r19 i = z) && zAt (nr r20 i) k && cTh (r17 i) (r18 i) t) N
theorem zX4_find {S : qS} (h3 : isN (S 16) 3 70) (z n ty t : Int32) : fX4_find z n ty t S = some (o2i (cFd (nr (S 16) 3) (S 17) (S 18) (S 19) (S 20) (S 21) z n ty t)) := by
  have hb := h3.2
  unfold fX4_find
  rw [lp_fst (nr (S 16) 3) (fun i => cKey (S 19) (S 20) (S 21) z n ty i && cTh (S 17 i) (S 18 i) t) (fun f i => fX4_find_3 z n ty t f i S) (fun i => some (nI i)) (some (-1)) ?_ ?_ 20000 (by omega)]
  · unfold cFd
    cases fst1 _ (nr (S 16) 3) <;> rfl
  · intro f i hi
    show fX4_find_3 z n ty t (f + 1) (nI i) S = _
    rw [fX4_find_3, h3.1, if_neg (nI_ge hi (by omega))]
    simp only [if_pos (z_inb (show i < 70 by omega) (show 70 < 2 ^ 31 by omega)), nI_clamp (show i < 2 ^ 31 by omega), nI_1]
    rw [zX5_isThere_16 h3 hi, Option.bind_some]
    unfold cKey
    by_cases q1 : S 20 i = n
    · rw [if_pos q1]
      by_cases q2 : S 21 i = ty
      · rw [if_pos q2]
        by_cases q3 : S 19 i = z
        · rw [if_pos q3]; simp only [q1, q2, q3, decide_true, Bool.true_and]
        · rw [if_neg q3]; simp [q3]
      · rw [if_neg q2]; simp [q2]
    · rw [if_neg q1]; simp [q1]
  · intro f
    show fX4_find_3 z n ty t (f + 1) (nI (nr (S 16) 3)) S = _
    rw [fX4_find_3, h3.1, if_pos (nI_le (Nat.le_refl _) (by omega))]
theorem zX4_exists {S : qS} (h3 : isN (S 16) 3 70) (hN : ∀ i, i < nr (S 16) 3 → isN (S 20) i 124 ∧ zNm (nr (S 20) i) = true) (z : Int32) {k : Nat} (hk : zNm k = true) (t : Int32) : fX4_exists z (nI k) t S = some (cEx (nr (S 16) 3) (S 17) (S 18) (S 19) (S 20) z k t) := by
  have hb := h3.2
  unfold fX4_exists
  rw [lp_fst (nr (S 16) 3) (fun i => decide (S 19 i = z) && zAt (nr (S 20) i) k && cTh (S 17 i) (S 18 i) t) (fun f i => fX4_exists_3 z (nI k) t f i S) (fun _ => some true) (some false) ?_ ?_ 20000 (by omega)]
  · unfold cEx anyB
    cases fst1 _ (nr (S 16) 3) <;> rfl
  · intro f i hi
    show fX4_exists_3 z (nI k) t (f + 1) (nI i) S = _
    rw [fX4_exists_3, h3.1, if_neg (nI_ge hi (by omega))]
    simp only [if_pos (z_inb (show i < 70 by omega) (show 70 < 2 ^ 31 by omega)), nI_clamp (show i < 2 ^ 31 by omega), nI_1]
    have eAt : fX2_isAt (S 20 i) (nI k) S = some (zAt (nr (S 20) i) k) := by
      have := (zN_tab2 (hN i hi).2 hk S).1
      rw [← (hN i hi).1.1] at this
      exact this
    rw [eAt, zX5_isThere_16 h3 hi]
    simp only [Option.bind_some]
    by_cases q1 : S 19 i = z
    · rw [if_pos q1]
      by_cases q2 : zAt (nr (S 20) i) k = true
      · rw [if_pos q2]; simp only [q1, q2, decide_true, Bool.true_and]
      · rw [if_neg q2]; simp [q2]
    · rw [if_neg q1]; simp [q1]
  · intro f
    show fX4_exists_3 z (nI k) t (f + 1) (nI (nr (S 16) 3)) S = _
    rw [fX4_exists_3, h3.1, if_pos (nI_le (Nat.le_refl _) (by omega))]
def cCI (N : Nat) (r17 r18 r19 : Nat → Int32) (z t : Int32) : Nat := cnt (fun i => decide (r19 i = z) && cTh (r17 i) (r18 i) t) N
theorem zX4_countIn {S : qS} (h3 : isN (S 16) 3 70) (z t : Int32) : fX4_countIn z t S = some (nI (cCI (nr (S 16) 3) (S 17) (S 18) (S 19) z t)) := by
  have hb := h3.2
  unfold fX4_countIn
  refine lp_cnt (nr (S 16) 3) (fun i => decide (S 19 i = z) && cTh (S 17 i) (S 18 i) t) (fun f c i => fX4_countIn_5 z t f c i S) some ?_ ?_ 20000 (by omega)
  · intro f c i hi
    show fX4_countIn_5 z t (f + 1) (nI c) (nI i) S = _
    rw [fX4_countIn_5, h3.1, if_neg (nI_ge hi (by omega)), if_pos (z_inb (by omega) (by omega)), nI_clamp (by omega), zX5_isThere_16 h3 hi, Option.bind_some, nI_1, nI_1]
    by_cases q1 : S 19 i = z
    · rw [if_pos q1]
      by_cases q2 : cTh (S 17 i) (S 18 i) t = true
      · rw [if_pos q2, if_pos (by simp [q1, q2])]
      · rw [if_neg q2, if_neg (by simp [q2])]
    · rw [if_neg q1, if_neg (by simp [q1])]
  · intro f c
    show fX4_countIn_5 z t (f + 1) (nI c) (nI (nr (S 16) 3)) S = _
    rw [fX4_countIn_5, h3.1, if_pos (nI_le (Nat.le_refl _) (by omega))]
def cCC (N : Nat) (r17 r19 : Nat → Int32) (z t : Int32) : Nat := cnt (fun i => decide (r19 i = z) && decide (r17 i ≤ t)) N
theorem zX4_countChanges {S : qS} (h3 : isN (S 16) 3 70) (z t : Int32) : fX4_countChanges z t S = some (nI (cCC (nr (S 16) 3) (S 17) (S 19) z t)) := by
  have hb := h3.2
  unfold fX4_countChanges
  refine lp_cnt (nr (S 16) 3) (fun i => decide (S 19 i = z) && decide (S 17 i ≤ t)) (fun f c i => fX4_countChanges_5 z t f c i S) some ?_ ?_ 20000 (by omega)
  · intro f c i hi
    show fX4_countChanges_5 z t (f + 1) (nI c) (nI i) S = _
    rw [fX4_countChanges_5, h3.1, if_neg (nI_ge hi (by omega))]
    simp only [if_pos (z_inb (show i < 70 by omega) (show 70 < 2 ^ 31 by omega)), nI_clamp (show i < 2 ^ 31 by omega), nI_1]
    by_cases q1 : S 19 i = z
    · rw [if_pos q1]
      by_cases q2 : t < S 17 i
      · rw [if_pos q2, if_neg (by simp [z_nle.mpr q2])]
      · rw [if_neg q2, if_pos (by simp [q1, z_nlt.mp q2])]
    · rw [if_neg q1, if_neg (by simp [q1])]
  · intro f c
    show fX4_countChanges_5 z t (f + 1) (nI c) (nI (nr (S 16) 3)) S = _
    rw [fX4_countChanges_5, h3.1, if_pos (nI_le (Nat.le_refl _) (by omega))]
/-! records: what the reference finds -/
theorem zM_part {S : qS} {N : Nat} {r17 r19 r20 r21 r22 : Nat → Int32} (hn : N ≤ 70) (hM : Mc N r17 r19 r20 r21 r22 (S 37)) {i : Nat} (hi : i < N) : fX9_part (nI i) 0 S = some (r19 i) ∧ fX9_part (nI i) 1 S = some (r17 i) ∧ fX9_part (nI i) 2 S = some (r20 i) ∧ fX9_part (nI i) 3 S = some (r21 i) ∧ fX9_part (nI i) 4 S = some (r22 i) := by
  obtain ⟨e0, e1, e2, e3, e4⟩ := hM i hi
  unfold fX9_part
  simp only [z_5, z_p0, z_p1, z_p2, z_p3, z_p4]
  refine ⟨?_, ?_, ?_, ?_, ?_⟩
  · rw [if_pos (z_inb (by omega) (by omega)), nI_clamp (by omega), e0]
  · rw [if_pos (z_inb (by omega) (by omega)), nI_clamp (by omega), e1]
  · rw [if_pos (z_inb (by omega) (by omega)), nI_clamp (by omega), e2]
  · rw [if_pos (z_inb (by omega) (by omega)), nI_clamp (by omega), e3]
  · rw [if_pos (z_inb (by omega) (by omega)), nI_clamp (by omega), e4]
def lst1 (P : Nat → Bool) : Nat → Option Nat
  | 0 => none
  | n + 1 => if P n = true then some n else lst1 P n
theorem lst1_none {P : Nat → Bool} : ∀ n, lst1 P n = none ↔ ∀ i, i < n → P i = false := by
  intro n
  induction n with
  | zero => exact ⟨fun _ i hi => absurd hi (by omega), fun _ => rfl⟩
  | succ n ih =>
    unfold lst1
    by_cases hp : P n = true
    · rw [if_pos hp]
      constructor
      · intro h; cases h
      · intro h
        rw [h n (by omega)] at hp
        cases hp
    · rw [if_neg hp, ih]
      constructor
      · intro h i hi
        rcases Nat.lt_or_ge i n with q | q
        · exact h i q
        · have : i = n := by omega
          subst this
          simpa using hp
      · intro h i hi
        exact h i (by omega)
theorem lst1_some {P : Nat → Bool} : ∀ n c, lst1 P n = some c → c < n ∧ P c = true ∧ ∀ e, c < e → e < n → P e = false := by
  intro n
  induction n with
  | zero => intro c h; cases h
  | succ n ih =>
    intro c h
    unfold lst1 at h
    by_cases hp : P n = true
    · rw [if_pos hp] at h
      cases h
      exact ⟨by omega, hp, fun e h1 h2 => absurd h1 (by omega)⟩
    · rw [if_neg hp] at h
      obtain ⟨a, b, d⟩ := ih c h
      refine ⟨by omega, b, fun e h1 h2 => ?_⟩
      rcases Nat.lt_or_ge e n with q | q
      · exact d e h1 q
      · have : e = n := by omega
        subst this
        simpa using hp
def oV (r22 : Nat → Int32) (o : Option Nat) : Int32 := match o with
  | some c => r22 c
  | none => -1
def vaStep (r17 r19 r20 r21 r22 : Nat → Int32) (z n ty t : Int32) (v : Int32) (c : Nat) : Int32 := if (cKey r19 r20 r21 z n ty c && decide (r17 c ≤ t)) = true then r22 c else v
theorem fld_lst {r17 r19 r20 r21 r22 : Nat → Int32} {z n ty t : Int32} : ∀ N, fld (vaStep r17 r19 r20 r21 r22 z n ty t) (-1) N = oV r22 (lst1 (fun c => cKey r19 r20 r21 z n ty c && decide (r17 c ≤ t)) N) := by
  intro N
  induction N with
  | zero => rfl
  | succ N ih =>
    unfold fld lst1 vaStep
    by_cases h : (cKey r19 r20 r21 z n ty N && decide (r17 N ≤ t)) = true
    · rw [if_pos h, if_pos h]; rfl
    · rw [if_neg h, if_neg h]; exact ih
theorem cKey_iff {r19 r20 r21 : Nat → Int32} {z n ty : Int32} {i : Nat} : cKey r19 r20 r21 z n ty i = true ↔ r19 i = z ∧ r20 i = n ∧ r21 i = ty := by
  simp [cKey, and_assoc]
/-- the last change of a record up to a tick that sets it is the record that is there -/
theorem lst_fd {T nZ : Nat} {r16 r17 r18 r19 r20 r21 r22 : Nat → Int32} (hT : T ≤ 9999) (hW : Wc T nZ r16 r17 r18 r19 r20 r21 r22) {z n ty : Int32} {τ : Nat} (ht : τ ≤ T) : oV r22 (lst1 (fun c => cKey r19 r20 r21 z n ty c && decide (r17 c ≤ nI τ)) (nr r16 3)) = oV r22 (cFd (nr r16 3) r17 r18 r19 r20 r21 z n ty (nI τ)) ∧ ∀ c, cFd (nr r16 3) r17 r18 r19 r20 r21 z n ty (nI τ) = some c → c < nr r16 3 ∧ ¬ r22 c = -1 := by
  obtain ⟨w1, w2, w3, w4, w5, w6, w7⟩ := hW
  have et : (nI τ).toInt = (τ : Int) := nI_toInt (by omega)
  have le17 : ∀ c, c < nr r16 3 → (r17 c ≤ nI τ ↔ nr r17 c ≤ τ) := fun c hc => by
    rw [z_le, isN_int (w3 c hc).1 (by omega), et]; omega
  have lt18 : ∀ c, c < nr r16 3 → (nI τ < r18 c ↔ τ < nr r18 c) := fun c hc => by
    rw [z_lt, isN_int (w3 c hc).2.1 (by omega), et]; omega
  have same : ∀ c e, cKey r19 r20 r21 z n ty c = true → cKey r19 r20 r21 z n ty e = true → sameK r19 r20 r21 c e := fun c e h1 h2 => by
    rw [cKey_iff] at h1 h2
    exact ⟨h1.1.trans h2.1.symm, h1.2.1.trans h2.2.1.symm, h1.2.2.trans h2.2.2.symm⟩
  have found : ∀ c, cFd (nr r16 3) r17 r18 r19 r20 r21 z n ty (nI τ) = some c → c < nr r16 3 ∧ ¬ r22 c = -1 := by
    intro c h
    obtain ⟨hc, hp, _⟩ := (fst1_some _ _).mp h
    simp only [Bool.and_eq_true, cTh_t] at hp
    refine ⟨hc, fun hv => ?_⟩
    have h1 := (le17 c hc).mp hp.2.1
    have h2 := (lt18 c hc).mp hp.2.2
    have h3 : nr r18 c = nr r17 c := by unfold nr; rw [w6 c hc hv]
    omega
  refine ⟨?_, found⟩
  cases hl : lst1 (fun c => cKey r19 r20 r21 z n ty c && decide (r17 c ≤ nI τ)) (nr r16 3) with
  | none =>
    have hn := (lst1_none _).mp hl
    have : cFd (nr r16 3) r17 r18 r19 r20 r21 z n ty (nI τ) = none := by
      refine (fst1_none _).mpr (fun i hi => ?_)
      have := hn i hi
      simp only [Bool.and_eq_false_iff, decide_eq_false_iff_not] at this
      rcases this with q | q
      · simp [q]
      · simp [cTh, q]
    rw [this]
  | some c =>
    obtain ⟨hc, hp, hlast⟩ := lst1_some _ _ hl
    simp only [Bool.and_eq_true, decide_eq_true_eq] at hp
    obtain ⟨hk, ht17⟩ := hp
    have ht17' := (le17 c hc).mp ht17
    -- no earlier one is there
    have early : ∀ j, j < c → (cKey r19 r20 r21 z n ty j && cTh (r17 j) (r18 j) (nI τ)) = false := by
      intro j hj
      by_cases kj : cKey r19 r20 r21 z n ty j = true
      · have := w5 j c hj hc (same j c kj hk)
        have h2 : ¬ nI τ < r18 j := fun q => by
          have := (lt18 j (by omega)).mp q
          omega
        simp [cTh, h2]
      · simp [kj]
    by_cases hv : r22 c = -1
    · have : cFd (nr r16 3) r17 r18 r19 r20 r21 z n ty (nI τ) = none := by
        refine (fst1_none _).mpr (fun i hi => ?_)
        rcases Nat.lt_trichotomy i c with q | q | q
        · exact early i q
        · subst q
          have h3 : nr r18 i = nr r17 i := by unfold nr; rw [w6 i hc hv]
          have h2 : ¬ nI τ < r18 i := fun q => by
            have := (lt18 i hc).mp q
            omega
          simp [cTh, h2]
        · have := hlast i q hi
          simp only [Bool.and_eq_false_iff, decide_eq_false_iff_not] at this
          rcases this with q | q
          · simp [q]
          · simp [cTh, q]
      rw [this]
      exact hv
    · have : cFd (nr r16 3) r17 r18 r19 r20 r21 z n ty (nI τ) = some c := by
        refine (fst1_some _ _).mpr ⟨hc, ?_, early⟩
        have h2 : nI τ < r18 c := by
          rw [lt18 c hc]
          rcases w7 c hc hv with q | ⟨e, h1, h2, h3, h4⟩
          · omega
          · have hq := hlast e h1 h2
            have ke : cKey r19 r20 r21 z n ty e = true := by
              rw [cKey_iff] at hk ⊢
              exact ⟨h3.1.symm.trans hk.1, h3.2.1.symm.trans hk.2.1, h3.2.2.symm.trans hk.2.2⟩
            simp only [ke, Bool.true_and, decide_eq_false_iff_not] at hq
            rw [le17 e h2] at hq
            omega
        simp [hk, cTh, ht17, h2]
      rw [this]
theorem zM_valueAt {S : qS} {T nZ : Nat} {r16 r17 r18 r19 r20 r21 r22 : Nat → Int32} (hT : T ≤ 9999) (h34 : S 34 6 = r16 3) (hW : Wc T nZ r16 r17 r18 r19 r20 r21 r22) (hM : Mc (nr r16 3) r17 r19 r20 r21 r22 (S 37)) (z n ty : Int32) {τ : Nat} (ht : τ ≤ T) : fX9_valueAt z n ty (nI τ) S = some (oV r22 (cFd (nr r16 3) r17 r18 r19 r20 r21 z n ty (nI τ))) := by
  have h3 := hW.2.1
  have hb := h3.2
  rw [← (lst_fd hT hW ht).1, ← fld_lst]
  unfold fX9_valueAt
  refine (lp_fld (nr r16 3) (vaStep r17 r19 r20 r21 r22 z n ty (nI τ)) (-1) (fun f v c => fX9_valueAt_6 z n ty (nI τ) f v c S) (fun v => some v) (fun _ _ => True) trivial ?_ ?_ 20000 (by omega)).1
  · intro f v c hc _
    refine ⟨?_, trivial⟩
    show fX9_valueAt_6 z n ty (nI τ) (f + 1) v (nI c) S = _
    obtain ⟨p0, p1, p2, p3, p4⟩ := zM_part hb hM hc
    rw [fX9_valueAt_6, h34, h3.1, if_neg (nI_ge hc (by omega)), p0, p1, p2, p3, p4]
    simp only [Option.bind_some, nI_1]
    unfold vaStep cKey
    by_cases q1 : r19 c = z
    · rw [if_pos q1]
      by_cases q2 : nI τ < r17 c
      · rw [if_pos q2, if_neg (by simp [z_nle.mpr q2])]
      · rw [if_neg q2]
        have q2' := z_nlt.mp q2
        by_cases q3 : r20 c = n
        · rw [if_pos q3]
          by_cases q4 : r21 c = ty
          · rw [if_pos q4, if_pos (by simp [q1, q2', q3, q4])]
          · rw [if_neg q4, if_neg (by simp [q4])]
        · rw [if_neg q3, if_neg (by simp [q3])]
    · rw [if_neg q1, if_neg (by simp [q1])]
  · intro f v _
    show fX9_valueAt_6 z n ty (nI τ) (f + 1) v (nI (nr r16 3)) S = _
    rw [fX9_valueAt_6, h34, if_pos (show r16 3 ≤ nI (nr r16 3) by rw [← h3.1]; exact (z_le _ _).mpr (Int.le_refl _))]
