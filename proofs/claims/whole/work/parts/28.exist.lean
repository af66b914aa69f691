/-- facts of the records together, for the reference at a state S -/
def MR (T nZ : Nat) (r16 r17 r18 r19 r20 r21 r22 : Nat → Int32) (S : qS) : Prop := T ≤ 9999 ∧ S 34 6 = r16 3 ∧ Wc T nZ r16 r17 r18 r19 r20 r21 r22 ∧ Mc (nr r16 3) r17 r19 r20 r21 r22 (S 37)
theorem oV_ge {T nZ : Nat} {r16 r17 r18 r19 r20 r21 r22 : Nat → Int32} (hT : T ≤ 9999) (hW : Wc T nZ r16 r17 r18 r19 r20 r21 r22) (z n ty : Int32) {τ : Nat} (ht : τ ≤ T) : 0 ≤ oV r22 (cFd (nr r16 3) r17 r18 r19 r20 r21 z n ty (nI τ)) ↔ (cFd (nr r16 3) r17 r18 r19 r20 r21 z n ty (nI τ)).isSome = true := by
  have h := (lst_fd hT hW (z := z) (n := n) (ty := ty) ht).2
  cases hc : cFd (nr r16 3) r17 r18 r19 r20 r21 z n ty (nI τ) with
  | none => simp only [oV, Option.isSome_none, Bool.false_eq_true, iff_false]; decide
  | some c =>
    obtain ⟨h1, h2⟩ := h c hc
    simp only [oV, Option.isSome_some, iff_true]
    have := (hW.2.2.1 c h1).2.2.2.2.2.2.2.2
    rcases this with q | q
    · exact absurd q h2
    · rw [z_le, zz0, isN_int q.1 (by omega)]; omega
theorem oV_lt {T nZ : Nat} {r16 r17 r18 r19 r20 r21 r22 : Nat → Int32} (hT : T ≤ 9999) (hW : Wc T nZ r16 r17 r18 r19 r20 r21 r22) (z n ty : Int32) {τ : Nat} (ht : τ ≤ T) : oV r22 (cFd (nr r16 3) r17 r18 r19 r20 r21 z n ty (nI τ)) < 0 ↔ cFd (nr r16 3) r17 r18 r19 r20 r21 z n ty (nI τ) = none := by
  have := oV_ge hT hW z n ty ht
  rw [← z_nle, this]
  cases cFd (nr r16 3) r17 r18 r19 r20 r21 z n ty (nI τ) <;> simp
def cHT (N : Nat) (r17 r18 r19 r20 : Nat → Int32) (z n t : Int32) : Bool := anyB (fun i => decide (r19 i = z) && decide (r20 i = n) && cTh (r17 i) (r18 i) t) N
theorem cFd_some_iff {N : Nat} {r17 r18 r19 r20 r21 : Nat → Int32} {z n ty t : Int32} : (cFd N r17 r18 r19 r20 r21 z n ty t).isSome = true ↔ ∃ i, i < N ∧ cKey r19 r20 r21 z n ty i = true ∧ cTh (r17 i) (r18 i) t = true := by
  have : (cFd N r17 r18 r19 r20 r21 z n ty t).isSome = anyB (fun i => cKey r19 r20 r21 z n ty i && cTh (r17 i) (r18 i) t) N := rfl
  rw [this, anyB_iff]
  simp only [Bool.and_eq_true]
theorem cHT_iff {N : Nat} {r17 r18 r19 r20 : Nat → Int32} {z n t : Int32} : cHT N r17 r18 r19 r20 z n t = true ↔ ∃ i, i < N ∧ r19 i = z ∧ r20 i = n ∧ cTh (r17 i) (r18 i) t = true := by
  unfold cHT
  rw [anyB_iff]
  simp only [Bool.and_eq_true, decide_eq_true_eq, and_assoc]
theorem cEx_iff {N : Nat} {r17 r18 r19 r20 : Nat → Int32} {z : Int32} {k : Nat} {t : Int32} : cEx N r17 r18 r19 r20 z k t = true ↔ ∃ i, i < N ∧ r19 i = z ∧ zAt (nr r20 i) k = true ∧ cTh (r17 i) (r18 i) t = true := by
  unfold cEx
  rw [anyB_iff]
  simp only [Bool.and_eq_true, decide_eq_true_eq, and_assoc]
theorem bool_eq {a b : Bool} (h : a = true ↔ b = true) : a = b := by cases a <;> cases b <;> simp_all
theorem zM_hasType {S : qS} {T nZ : Nat} {r16 r17 r18 r19 r20 r21 r22 : Nat → Int32} (hR : MR T nZ r16 r17 r18 r19 r20 r21 r22 S) (z n : Int32) {τ : Nat} (ht : τ ≤ T) : fX9_hasType z n (nI τ) S = some (cHT (nr r16 3) r17 r18 r19 r20 z n (nI τ)) := by
  obtain ⟨hT, h34, hW, hM⟩ := hR
  unfold fX9_hasType
  rw [zM_valueAt hT h34 hW hM z n 0 ht, zM_valueAt hT h34 hW hM z n 1 ht, zM_valueAt hT h34 hW hM z n 2 ht]
  simp only [Option.bind_some]
  have g0 := oV_ge hT hW z n 0 ht
  have g1 := oV_ge hT hW z n 1 ht
  have g2 := oV_ge hT hW z n 2 ht
  have g2' := oV_lt hT hW z n 2 ht
  have key : cHT (nr r16 3) r17 r18 r19 r20 z n (nI τ) = ((cFd (nr r16 3) r17 r18 r19 r20 r21 z n 0 (nI τ)).isSome || ((cFd (nr r16 3) r17 r18 r19 r20 r21 z n 1 (nI τ)).isSome || (cFd (nr r16 3) r17 r18 r19 r20 r21 z n 2 (nI τ)).isSome)) := by
    apply bool_eq
    rw [Bool.or_eq_true, Bool.or_eq_true, cFd_some_iff, cFd_some_iff, cFd_some_iff, cHT_iff]
    constructor
    · intro ⟨i, hi, h1, h2, h3⟩
      have hty := (hW.2.2.1 i hi).2.2.2.2.2.2.2.1
      have := hty.2
      have e := hty.1
      rcases (show nr r21 i = 0 ∨ nr r21 i = 1 ∨ nr r21 i = 2 by omega) with q | q | q
      · exact Or.inl ⟨i, hi, cKey_iff.mpr ⟨h1, h2, by rw [e, q]; rfl⟩, h3⟩
      · exact Or.inr (Or.inl ⟨i, hi, cKey_iff.mpr ⟨h1, h2, by rw [e, q]; rfl⟩, h3⟩)
      · exact Or.inr (Or.inr ⟨i, hi, cKey_iff.mpr ⟨h1, h2, by rw [e, q]; rfl⟩, h3⟩)
    · intro h
      rcases h with ⟨i, hi, h1, h2⟩ | ⟨i, hi, h1, h2⟩ | ⟨i, hi, h1, h2⟩ <;> exact ⟨i, hi, (cKey_iff.mp h1).1, (cKey_iff.mp h1).2.1, h2⟩
  rw [key]
  by_cases q0 : (cFd (nr r16 3) r17 r18 r19 r20 r21 z n 0 (nI τ)).isSome = true
  · rw [if_pos (g0.mpr q0), q0]; rfl
  · rw [if_neg (fun h => q0 (g0.mp h))]
    by_cases q1 : (cFd (nr r16 3) r17 r18 r19 r20 r21 z n 1 (nI τ)).isSome = true
    · rw [if_pos (g1.mpr q1), q1]; simp
    · rw [if_neg (fun h => q1 (g1.mp h))]
      have e0 := Bool.eq_false_iff.mpr q0
      have e1 := Bool.eq_false_iff.mpr q1
      rw [e0, e1]
      by_cases q2 : cFd (nr r16 3) r17 r18 r19 r20 r21 z n 2 (nI τ) = none
      · rw [if_pos (g2'.mpr q2), q2]; rfl
      · rw [if_neg (fun h => q2 (g2'.mp h))]
        cases hc : cFd (nr r16 3) r17 r18 r19 r20 r21 z n 2 (nI τ) with
        | none => exact absurd hc q2
        | some c => rfl
theorem zAt_self {k : Nat} (h : zNm k = true) : zAt k k = true := by
  unfold zAt
  simp only [zNm, decide_eq_true_eq] at h
  split
  · simp only [beq_iff_eq]; omega
  · split
    · simp only [beq_iff_eq]; omega
    · simp
theorem zM_exists {S : qS} {T nZ : Nat} {r16 r17 r18 r19 r20 r21 r22 : Nat → Int32} (hR : MR T nZ r16 r17 r18 r19 r20 r21 r22 S) (z : Int32) {k : Nat} (hk : zNm k = true) {τ : Nat} (ht : τ ≤ T) : fX9_exists z (nI k) (nI τ) S = some (cEx (nr r16 3) r17 r18 r19 r20 z k (nI τ)) := by
  have hR' := hR
  obtain ⟨hT, h34, hW, hM⟩ := hR
  have h3 := hW.2.1
  have hb := h3.2
  have w3 := hW.2.2.1
  have hk125 : k < 125 := by simp only [zNm, decide_eq_true_eq] at hk; omega
  unfold fX9_exists
  rw [zM_hasType hR' z (nI k) ht, Option.bind_some]
  -- the loop from a false start
  have loop : fX9_exists_12 z (nI k) (nI τ) 20000 false 0 S = some (anyB (fun i => decide (r19 i = z) && zBl (nr r20 i) k && cHT (nr r16 3) r17 r18 r19 r20 z (r20 i) (nI τ)) (nr r16 3)) := by
    have := lp_fst (nr r16 3) (fun i => decide (r19 i = z) && zBl (nr r20 i) k && cHT (nr r16 3) r17 r18 r19 r20 z (r20 i) (nI τ)) (fun f i => fX9_exists_12 z (nI k) (nI τ) (f + 1) false i S) (fun _ => some true) (some false) ?_ ?_ 19999 (by omega)
    · rw [show (20000 : Nat) = 19999 + 1 from rfl, this]
      unfold anyB
      cases fst1 _ (nr r16 3) <;> rfl
    · intro f i hi
      show fX9_exists_12 z (nI k) (nI τ) (f + 1 + 1) false (nI i) S = _
      obtain ⟨p0, p1, p2, p3, p4⟩ := zM_part hb hM hi
      have eN := (w3 i hi).2.2.2.2.2.1
      have eV := (w3 i hi).2.2.2.2.2.2.1
      have eBl : fX9_isBelow (r20 i) (nI k) S = some (zBl (nr r20 i) k) := by
        have := (zN_tab2 eV hk S).2.2.2
        rw [← eN.1] at this
        exact this
      rw [fX9_exists_12, h34, h3.1, if_neg (nI_ge hi (by omega)), if_neg (by decide), p0, p2]
      simp only [Option.bind_some, eBl, zM_hasType hR' z (r20 i) ht, nI_1]
      have tt : ∀ g, fX9_exists_12 z (nI k) (nI τ) (g + 1) true (nI (i + 1)) S = some true := by
        intro g
        rw [fX9_exists_12]
        split
        · rfl
        · rfl
      by_cases q1 : r19 i = z
      · rw [if_pos q1]
        by_cases q2 : zBl (nr r20 i) k = true
        · rw [if_pos q2]
          by_cases q3 : cHT (nr r16 3) r17 r18 r19 r20 z (r20 i) (nI τ) = true
          · rw [if_pos q3, if_pos (by simp [q1, q2, q3]), tt]
          · rw [if_neg q3, if_neg (by simp [q3])]
        · rw [if_neg q2, if_neg (by simp [q2])]
      · rw [if_neg q1, if_neg (by simp [q1])]
    · intro f
      show fX9_exists_12 z (nI k) (nI τ) (f + 1 + 1) false (nI (nr r16 3)) S = _
      rw [fX9_exists_12, h34, if_pos (show r16 3 ≤ nI (nr r16 3) by rw [← h3.1]; exact (z_le _ _).mpr (Int.le_refl _))]
  have key : cEx (nr r16 3) r17 r18 r19 r20 z k (nI τ) = (cHT (nr r16 3) r17 r18 r19 r20 z (nI k) (nI τ) || anyB (fun i => decide (r19 i = z) && zBl (nr r20 i) k && cHT (nr r16 3) r17 r18 r19 r20 z (r20 i) (nI τ)) (nr r16 3)) := by
    apply bool_eq
    rw [Bool.or_eq_true, cEx_iff, cHT_iff, anyB_iff]
    constructor
    · intro ⟨i, hi, h1, h2, h3⟩
      have eN := (w3 i hi).2.2.2.2.2.1
      by_cases q : nr r20 i = k
      · exact Or.inl ⟨i, hi, h1, by rw [eN.1, q], h3⟩
      · refine Or.inr ⟨i, hi, ?_⟩
        simp only [Bool.and_eq_true, decide_eq_true_eq]
        refine ⟨⟨h1, ?_⟩, cHT_iff.mpr ⟨i, hi, h1, rfl, h3⟩⟩
        unfold zBl
        simp [q, h2]
    · intro h
      rcases h with ⟨i, hi, h1, h2, h3⟩ | ⟨i, hi, h1⟩
      · have : nr r20 i = k := nr_mk h2 (by omega)
        exact ⟨i, hi, h1, by rw [this]; exact zAt_self hk, h3⟩
      · simp only [Bool.and_eq_true, decide_eq_true_eq] at h1
        obtain ⟨⟨h1, h2⟩, h3⟩ := h1
        obtain ⟨j, hj, g1, g2, g3⟩ := cHT_iff.mp h3
        refine ⟨j, hj, g1, ?_, g3⟩
        have : nr r20 j = nr r20 i := by unfold nr; rw [g2]
        rw [this]
        unfold zBl at h2
        simp only [Bool.and_eq_true] at h2
        exact h2.2
  rw [key]
  by_cases q : cHT (nr r16 3) r17 r18 r19 r20 z (nI k) (nI τ) = true
  · rw [q, Bool.true_or, show (20000 : Nat) = 19999 + 1 from rfl, fX9_exists_12]
    split
    · rfl
    · rfl
  · rw [Bool.eq_false_iff.mpr q, Bool.false_or, loop]
