theorem zM_isThere {S : qS} {n : Nat} {r11 r12 r13 r14 : Nat → Int32} (hn : n ≤ 10) (hM : Mz n r11 r12 r13 r14 (S 36)) {i : Nat} (hi : i < n) (hu : 0 ≤ (r12 i).toInt) {t : Int32} (ht : t.toInt < 10000) : fX9_isThere (nI i) t S = some (cTh (r11 i) (r12 i) t) := by
  obtain ⟨e0, e1, e2, e3⟩ := hM i hi
  unfold fX9_isThere
  simp only [z_4, z_p1, z_p2, z_p3]
  rw [if_pos (z_inb (by omega) (by omega)), if_pos (z_inb (by omega) (by omega)), nI_clamp (by omega), nI_clamp (by omega), e2, e3]
  exact toU_th hu ht
theorem toU_neg {u : Int32} (hu : 0 ≤ u.toInt) : toU u < 0 ↔ u = 10000 := by
  unfold toU
  by_cases h : u = 10000
  · rw [if_pos h]; exact ⟨fun _ => h, fun _ => by decide⟩
  · rw [if_neg h, z_lt, zz0]; exact ⟨fun q => absurd q (by omega), fun q => absurd q h⟩
theorem zM_isGone {S : qS} {n : Nat} {r11 r12 r13 r14 : Nat → Int32} (hn : n ≤ 10) (hM : Mz n r11 r12 r13 r14 (S 36)) {i : Nat} (hi : i < n) (hu : 0 ≤ (r12 i).toInt) : fX9_isGone (nI i) S = some (!decide (r12 i = 10000)) := by
  obtain ⟨e0, e1, e2, e3⟩ := hM i hi
  unfold fX9_isGone
  simp only [z_4, z_p1, z_p2, z_p3]
  rw [if_pos (z_inb (by omega) (by omega)), nI_clamp (by omega), e3]
  by_cases h : r12 i = 10000
  · rw [if_pos ((toU_neg hu).mpr h), decide_eq_true h]; rfl
  · rw [if_neg (fun q => h ((toU_neg hu).mp q)), decide_eq_false h]; rfl
/-- at the present tick a thing is there if it has no end -/
theorem th_now {T : Nat} {rf ru : Nat → Int32} {i : Nat} (hT : T ≤ 9999) (h : spOK T rf ru i) : cTh (rf i) (ru i) (nI T) = decide (ru i = 10000) := by
  obtain ⟨h1, h2, h3⟩ := h
  have b1 := h1.2
  have e1 := isN_int h1 (by omega)
  have e2 := isN_int h2 (by omega)
  have e3 : (10000 : Int32).toInt = 10000 := by decide
  have e4 : (nI T).toInt = (T : Int) := nI_toInt (by omega)
  unfold cTh
  rw [decide_eq_true (by rw [z_le]; omega), Bool.true_and]
  by_cases q : ru i = 10000
  · rw [decide_eq_true q, decide_eq_true]
    rw [z_lt, q]; omega
  · rw [decide_eq_false q, decide_eq_false]
    rw [z_lt]
    intro h9
    apply q
    rw [z_eq]
    omega
def cWor (r13 r14 : Nat → Int32) (v : Int32) (i : Nat) : Nat := 2 * zLab (nr r14 i) + (if r13 i = v then 1 else 0)
theorem zAt_lab {k a b : Nat} (h1 : zAt k a = true) (h2 : zAt k b = true) (h : zLab a = zLab b) : a = b := by
  unfold zAt at h1 h2
  unfold zLab at h
  by_cases a5 : a < 5
  · rw [if_pos a5] at h1 h
    by_cases b5 : b < 5
    · rw [if_pos b5] at h2
      simp only [beq_iff_eq] at h1 h2
      omega
    · rw [if_neg b5] at h
      split at h <;> omega
  · rw [if_neg a5] at h1 h
    by_cases b5 : b < 5
    · rw [if_pos b5] at h
      split at h <;> omega
    · rw [if_neg b5] at h2 h
      by_cases a25 : a < 25
      · rw [if_pos a25] at h1 h
        by_cases b25 : b < 25
        · rw [if_pos b25] at h2
          simp only [beq_iff_eq] at h1 h2
          omega
        · rw [if_neg b25] at h; omega
      · rw [if_neg a25] at h1 h
        by_cases b25 : b < 25
        · rw [if_pos b25] at h; omega
        · rw [if_neg b25] at h2
          simp only [beq_iff_eq] at h1 h2
          omega
theorem zW_lab (a b : Nat) : zW a < zW b ↔ zLab a < zLab b := by
  unfold zW zLab
  by_cases a5 : a < 5 <;> by_cases b5 : b < 5 <;> by_cases a25 : a < 25 <;> by_cases b25 : b < 25 <;> simp [a5, b5, a25, b25] <;> omega
theorem bet_wor {T : Nat} {r10 r11 r12 r13 r14 : Nat → Int32} (hT : T ≤ 9999) (hW : Wz T r10 r11 r12 r13 r14) {v : Int32} {k : Nat} {t : Int32} {i j : Nat} (hij : j < i) (hi : i < nr r10 3) (ci : cCand r11 r12 r13 r14 v k t i = true) (cj : cCand r11 r12 r13 r14 v k t j = true) : cBet r13 r14 i j = decide (cWor r13 r14 v j < cWor r13 r14 v i) := by
  obtain ⟨w1, w2, w3, w4⟩ := hW
  obtain ⟨⟨f1, u1, _⟩, v1, a1, n1⟩ := w3 i hi
  obtain ⟨⟨f2, u2, _⟩, v2, a2, n2⟩ := w3 j (by omega)
  unfold cCand at ci cj
  simp only [Bool.and_eq_true, Bool.or_eq_true, decide_eq_true_eq, cTh_t] at ci cj
  obtain ⟨⟨pv, pa⟩, pt, pu⟩ := ci
  obtain ⟨⟨qv, qa⟩, qt, qu⟩ := cj
  unfold cBet cWor
  by_cases e : r14 i = r14 j
  · rw [if_pos e]
    have en : nr r14 i = nr r14 j := by unfold nr; rw [e]
    rw [en]
    by_cases z : r13 i = 0
    · rw [decide_eq_true z]
      symm
      by_cases zv : r13 i = v
      · have : r13 j = v := Or.elim qv id (fun q => q.trans (z.symm.trans zv))
        rw [if_pos zv, if_pos this]; simp
      · rw [if_neg zv]
        simp
    · rw [decide_eq_false z]
      have zv : r13 i = v := pv.resolve_right z
      have zj : ¬ r13 j = v := by
        intro q
        have := w4 j i hij hi (q.trans zv.symm) e.symm
        rw [z_le, isN_int f1 (by omega)] at pt
        rw [z_lt, isN_int u2 (by omega)] at qu
        omega
      rw [if_pos zv, if_neg zj]
      simp
  · rw [if_neg e]
    have nl : zLab (nr r14 j) ≠ zLab (nr r14 i) := fun q => e ((isN_eq a1 a2 (by omega) (by omega)).mpr (zAt_lab qa pa q).symm)
    have := zW_lab (nr r14 j) (nr r14 i)
    by_cases q : zLab (nr r14 j) < zLab (nr r14 i)
    · rw [decide_eq_true (this.mpr q), decide_eq_true]
      split <;> split <;> omega
    · rw [decide_eq_false (fun h => q (this.mp h)), decide_eq_false]
      split <;> split <;> omega
def o2m (o : Option Nat) : Int32 := match o with
  | some i => nI i
  | none => -4
def oWor (r13 r14 : Nat → Int32) (v : Int32) (o : Option Nat) : Int32 := match o with
  | some i => nI (cWor r13 r14 v i)
  | none => 0
theorem zLab_b (a : Nat) : 1 ≤ zLab a ∧ zLab a ≤ 3 := by unfold zLab; split <;> (try split) <;> omega
theorem cWor_b (r13 r14 : Nat → Int32) (v : Int32) (i : Nat) : 2 ≤ cWor r13 r14 v i ∧ cWor r13 r14 v i ≤ 7 := by
  have := zLab_b (nr r14 i)
  unfold cWor; split <;> omega
theorem zM_responsible {S : qS} {T : Nat} {r10 r11 r12 r13 r14 : Nat → Int32} (hT : T ≤ 9999) (h34 : S 34 4 = r10 3) (hW : Wz T r10 r11 r12 r13 r14) (hM : Mz (nr r10 3) r11 r12 r13 r14 (S 36)) (v : Int32) {k : Nat} (hk : zNm k = true) {t : Int32} (ht : t.toInt < 10000) : fX9_responsible v (nI k) t S = some (o2m (cRs (nr r10 3) r11 r12 r13 r14 v k t)) := by
  have h3 := hW.2.1
  have hb := h3.2
  have wz := hW
  obtain ⟨w1, w2, w3, w4⟩ := hW
  unfold fX9_responsible
  refine (lp_fld (nr r10 3) (rsStep r11 r12 r13 r14 v k t) none (fun f o i => fX9_responsible_10 v (nI k) t f (o2m o) (oWor r13 r14 v o) i S) (fun o => some (o2m o)) (fun o i => ∀ j, o = some j → j < i ∧ cCand r11 r12 r13 r14 v k t j = true) (fun j h => by cases h) ?_ ?_ 20000 (by omega)).1
  · intro f o i hi hI
    obtain ⟨e0, e1, e2, e3⟩ := hM i hi
    obtain ⟨⟨f1, u1, _⟩, v1, a1, n1⟩ := w3 i hi
    have hu : 0 ≤ (r12 i).toInt := by rw [isN_int u1 (by omega)]; omega
    constructor
    · show fX9_responsible_10 v (nI k) t (f + 1) (o2m o) (oWor r13 r14 v o) (nI i) S = _
      rw [fX9_responsible_10, h34, h3.1, if_neg (nI_ge hi (by omega)), zM_isThere hb hM hi hu ht]
      have c1 : (nI (4 * i)).toNatClampNeg = 4 * i := nI_clamp (by omega)
      have c2 : (nI (4 * i + 1)).toNatClampNeg = 4 * i + 1 := nI_clamp (by omega)
      simp only [z_4, z_p1, c1, c2, e0, e1, Option.bind_some, if_pos (z_inb (show 4 * i < 40 by omega) (show 40 < 2 ^ 31 by omega)), if_pos (z_inb (show 4 * i + 1 < 40 by omega) (show 40 < 2 ^ 31 by omega))]
      have eAt : fX9_isAt (nI k) (r14 i) S = some (zAt k (nr r14 i)) := by
        have := (zN_tab2 hk n1 S).2.1
        rw [← a1.1] at this
        exact this
      have eLb : fX9_labels (r14 i) S = some (nI (zLab (nr r14 i))) := by
        have hh := a1.2
        have := (zN_tab (k := nr r14 i) (by omega) S).2.2.2.2.2.1
        rw [← a1.1] at this
        exact this
      have lb := zLab_b (nr r14 i)
      simp only [eAt, eLb, Option.bind_some, z_2, z_p1, z_p0]
      -- one candidate's worth against the best
      have wb := cWor_b r13 r14 v i
      have pick : ∀ w : Nat, w = cWor r13 r14 v i → cCand r11 r12 r13 r14 v k t i = true → (if nI w ≤ oWor r13 r14 v o then if nI w ≤ oWor r13 r14 v o then fX9_responsible_10 v (nI k) t f (o2m o) (oWor r13 r14 v o) (nI (i + 1)) S else fX9_responsible_10 v (nI k) t f (o2m o) (nI w) (nI (i + 1)) S else if nI w ≤ oWor r13 r14 v o then fX9_responsible_10 v (nI k) t f (nI i) (oWor r13 r14 v o) (nI (i + 1)) S else fX9_responsible_10 v (nI k) t f (nI i) (nI w) (nI (i + 1)) S) = fX9_responsible_10 v (nI k) t f (o2m (rsPick r13 r14 o i)) (oWor r13 r14 v (rsPick r13 r14 o i)) (nI (i + 1)) S := by
        intro w hw hc
        cases o with
        | none =>
          have : ¬ nI w ≤ oWor r13 r14 v none := by
            show ¬ nI w ≤ 0
            exact nI_nle (by omega) (by omega)
          rw [if_neg this, if_neg this, hw]
          rfl
        | some j =>
          obtain ⟨hj, hcj⟩ := hI j rfl
          have bw := bet_wor hT wz hj hi hc hcj
          have wj := cWor_b r13 r14 v j
          by_cases q : cWor r13 r14 v j < cWor r13 r14 v i
          · have : ¬ nI w ≤ oWor r13 r14 v (some j) := by
              show ¬ nI w ≤ nI (cWor r13 r14 v j)
              exact nI_ge (by omega) (by omega)
            rw [if_neg this, if_neg this, hw]
            simp only [rsPick, bw, decide_eq_true q, if_true]
            rfl
          · have : nI w ≤ oWor r13 r14 v (some j) := by
              show nI w ≤ nI (cWor r13 r14 v j)
              exact nI_le (by omega) (by omega)
            rw [if_pos this, if_pos this]
            simp only [rsPick, bw, decide_eq_false q]
            rfl
      unfold rsStep
      by_cases p1 : r13 i = v
      · rw [if_pos p1]
        by_cases q2 : cTh (r11 i) (r12 i) t = true
        · rw [if_pos q2]
          by_cases q1 : zAt k (nr r14 i) = true
          · have hc : cCand r11 r12 r13 r14 v k t i = true := by simp [cCand, p1, q1, q2]
            rw [if_pos q1, if_pos p1, if_pos hc]
            exact pick _ (by unfold cWor; rw [if_pos p1]) hc
          · rw [if_neg q1, if_neg (by simp [cCand, q1])]
        · rw [if_neg q2, if_neg (by simp [cCand, q2])]
      · rw [if_neg p1]
        by_cases p2 : r13 i = 0
        · rw [if_pos p2]
          by_cases q2 : cTh (r11 i) (r12 i) t = true
          · rw [if_pos q2]
            by_cases q1 : zAt k (nr r14 i) = true
            · have hc : cCand r11 r12 r13 r14 v k t i = true := by simp [cCand, p2, q1, q2]
              rw [if_pos q1, if_neg p1, if_pos hc]
              exact pick _ (by unfold cWor; rw [if_neg p1]; rfl) hc
            · rw [if_neg q1, if_neg (by simp [cCand, q1])]
          · rw [if_neg q2, if_neg (by simp [cCand, q2])]
        · rw [if_neg p2, if_neg (by simp [cCand, p1, p2])]
    · intro j hj
      unfold rsStep at hj
      split at hj
      · rename_i hc
        cases o with
        | none => cases hj; exact ⟨by omega, hc⟩
        | some q =>
          have := hI q rfl
          dsimp only [rsPick] at hj
          split at hj
          · cases hj; exact ⟨by omega, hc⟩
          · cases hj; exact ⟨by omega, this.2⟩
      · have := hI j hj; exact ⟨by omega, this.2⟩
  · intro f o _
    show fX9_responsible_10 v (nI k) t (f + 1) (o2m o) (oWor r13 r14 v o) (nI (nr r10 3)) S = _
    rw [fX9_responsible_10, h34, if_pos (show r10 3 ≤ nI (nr r10 3) by rw [← h3.1]; exact (z_le _ _).mpr (Int.le_refl _))]
