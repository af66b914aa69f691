theorem zX5_isFull_2 {S : qS} (h2 : S 2 2 = 10) (h3 : isN (S 2) 3 10) : fX5_isFull_2 S = some (decide (nr (S 2) 3 = 10)) := by
  unfold fX5_isFull_2
  rw [h2, h3.1]
  have hb := h3.2
  by_cases h : nr (S 2) 3 = 10
  · rw [if_neg, decide_eq_true h]
    rw [h]; decide
  · rw [if_pos, decide_eq_false h]
    exact nI_lt (b := 10) (by omega) (by omega)
theorem zX5_isMade_2 {S : qS} (h3 : isN (S 2) 3 10) (a : Int32) : fX5_isMade_2 a S = some (cMd (nr (S 2) 3) a) := by
  unfold fX5_isMade_2
  have hb := h3.2
  have e := nI_toInt (n := nr (S 2) 3) (by omega)
  rw [h3.1]
  by_cases h : a < 0
  · rw [if_pos h]
    rw [z_lt, zz0] at h
    rw [cMd, decide_eq_false (by omega)]
  · rw [if_neg h]
    rw [z_lt, zz0] at h
    by_cases h1 : nI (nr (S 2) 3) ≤ a
    · rw [if_pos h1]
      rw [z_le, e] at h1
      rw [cMd, decide_eq_false (by omega)]
    · rw [if_neg h1]
      rw [z_le, e] at h1
      rw [cMd, decide_eq_true (by omega)]
theorem zX5_isThere_2 {S : qS} (h3 : isN (S 2) 3 10) {i : Nat} (hi : i < nr (S 2) 3) (t : Int32) : fX5_isThere_2 (nI i) t S = some (cTh (S 3 i) (S 4 i) t) := by
  have hb := h3.2
  unfold fX5_isThere_2
  rw [if_neg (nI_pos (by omega)), h3.1, if_neg (nI_ge hi (by omega)), if_pos (z_inb (by omega) (by omega)), if_pos (z_inb (by omega) (by omega)), nI_clamp (by omega)]
  by_cases h : t < S 3 i
  · rw [if_pos h]
    rw [cTh, decide_eq_false (fun q => z_nlt.mpr q h), Bool.false_and]
  · rw [if_neg h]
    have h' := z_nlt.mp h
    by_cases h1 : S 4 i ≤ t
    · rw [if_pos h1, cTh, decide_eq_false (fun q => z_nle.mpr q h1), Bool.and_false]
    · rw [if_neg h1, cTh, decide_eq_true h', decide_eq_true (z_nle.mp h1)]; rfl
theorem zX5_countThere_2 {S : qS} (h3 : isN (S 2) 3 10) (t : Int32) : fX5_countThere_2 t S = some (nI (cnt (fun i => cTh (S 3 i) (S 4 i) t) (nr (S 2) 3))) := by
  have hb := h3.2
  unfold fX5_countThere_2
  refine lp_cnt (nr (S 2) 3) (fun i => cTh (S 3 i) (S 4 i) t) (fun f c i => fX5_countThere_2_4 t f c i S) some ?_ ?_ 20000 (by omega)
  · intro f c i hi
    show fX5_countThere_2_4 t (f + 1) (nI c) (nI i) S = _
    rw [fX5_countThere_2_4, h3.1, if_neg (nI_ge hi (by omega)), zX5_isThere_2 h3 hi]
    rw [Option.bind_some]
    by_cases h : cTh (S 3 i) (S 4 i) t = true
    · rw [if_pos h, if_pos h, nI_1, nI_1]
    · rw [if_neg h, if_neg h, nI_1]
  · intro f c
    show fX5_countThere_2_4 t (f + 1) (nI c) (nI (nr (S 2) 3)) S = _
    rw [fX5_countThere_2_4, h3.1, if_pos (nI_le (Nat.le_refl _) (by omega))]
theorem zX5_begin_2 {S : qS} (h2 : S 2 2 = 10) (h3 : isN (S 2) 3 10) (hn : nr (S 2) 3 < 10) (t : Int32) : fX5_begin_2 t S = some (nI (nr (S 2) 3), q_up (q_up (q_up S 3 (nr (S 2) 3) t) 4 (nr (S 2) 3) 10000) 2 3 (nI (nr (S 2) 3 + 1))) := by
  unfold fX5_begin_2
  rw [zX5_isFull_2 h2 h3, decide_eq_false (by omega)]
  rw [Option.bind_some, if_neg (by decide)]
  generalize hm : nr (S 2) 3 = m at *
  have e : S 2 3 = nI m := by rw [← hm]; exact h3.1
  rw [e, if_pos (z_inb hn (by omega)), if_pos (z_inb hn (by omega)), nI_clamp (by omega), nI_1]
theorem zX5_end_2 {S : qS} (h3 : isN (S 2) 3 10) {i : Nat} (hi : i < nr (S 2) 3) (t : Int32) : fX5_end_2 (nI i) t S = some (q_up S 4 i t) := by
  have hb := h3.2
  unfold fX5_end_2
  rw [zX5_isMade_2 h3, cMd_nI hi (by omega)]
  rw [Option.bind_some, if_pos rfl, if_pos (z_inb (by omega) (by omega)), nI_clamp (by omega)]
theorem zX5_endN_2 {S : qS} (h3 : isN (S 2) 3 10) (t : Int32) : fX5_end_2 (-1) t S = some S := by
  unfold fX5_end_2
  rw [zX5_isMade_2 h3, show cMd (nr (S 2) 3) (-1) = false by simp [cMd, z_m1]]
  rfl
theorem zX5_isFull_10 {S : qS} (h2 : S 10 2 = 10) (h3 : isN (S 10) 3 10) : fX5_isFull_10 S = some (decide (nr (S 10) 3 = 10)) := by
  unfold fX5_isFull_10
  rw [h2, h3.1]
  have hb := h3.2
  by_cases h : nr (S 10) 3 = 10
  · rw [if_neg, decide_eq_true h]
    rw [h]; decide
  · rw [if_pos, decide_eq_false h]
    exact nI_lt (b := 10) (by omega) (by omega)
theorem zX5_isMade_10 {S : qS} (h3 : isN (S 10) 3 10) (a : Int32) : fX5_isMade_10 a S = some (cMd (nr (S 10) 3) a) := by
  unfold fX5_isMade_10
  have hb := h3.2
  have e := nI_toInt (n := nr (S 10) 3) (by omega)
  rw [h3.1]
  by_cases h : a < 0
  · rw [if_pos h]
    rw [z_lt, zz0] at h
    rw [cMd, decide_eq_false (by omega)]
  · rw [if_neg h]
    rw [z_lt, zz0] at h
    by_cases h1 : nI (nr (S 10) 3) ≤ a
    · rw [if_pos h1]
      rw [z_le, e] at h1
      rw [cMd, decide_eq_false (by omega)]
    · rw [if_neg h1]
      rw [z_le, e] at h1
      rw [cMd, decide_eq_true (by omega)]
theorem zX5_isThere_10 {S : qS} (h3 : isN (S 10) 3 10) {i : Nat} (hi : i < nr (S 10) 3) (t : Int32) : fX5_isThere_10 (nI i) t S = some (cTh (S 11 i) (S 12 i) t) := by
  have hb := h3.2
  unfold fX5_isThere_10
  rw [if_neg (nI_pos (by omega)), h3.1, if_neg (nI_ge hi (by omega)), if_pos (z_inb (by omega) (by omega)), if_pos (z_inb (by omega) (by omega)), nI_clamp (by omega)]
  by_cases h : t < S 11 i
  · rw [if_pos h]
    rw [cTh, decide_eq_false (fun q => z_nlt.mpr q h), Bool.false_and]
  · rw [if_neg h]
    have h' := z_nlt.mp h
    by_cases h1 : S 12 i ≤ t
    · rw [if_pos h1, cTh, decide_eq_false (fun q => z_nle.mpr q h1), Bool.and_false]
    · rw [if_neg h1, cTh, decide_eq_true h', decide_eq_true (z_nle.mp h1)]; rfl
theorem zX5_countThere_10 {S : qS} (h3 : isN (S 10) 3 10) (t : Int32) : fX5_countThere_10 t S = some (nI (cnt (fun i => cTh (S 11 i) (S 12 i) t) (nr (S 10) 3))) := by
  have hb := h3.2
  unfold fX5_countThere_10
  refine lp_cnt (nr (S 10) 3) (fun i => cTh (S 11 i) (S 12 i) t) (fun f c i => fX5_countThere_10_4 t f c i S) some ?_ ?_ 20000 (by omega)
  · intro f c i hi
    show fX5_countThere_10_4 t (f + 1) (nI c) (nI i) S = _
    rw [fX5_countThere_10_4, h3.1, if_neg (nI_ge hi (by omega)), zX5_isThere_10 h3 hi]
    rw [Option.bind_some]
    by_cases h : cTh (S 11 i) (S 12 i) t = true
    · rw [if_pos h, if_pos h, nI_1, nI_1]
    · rw [if_neg h, if_neg h, nI_1]
  · intro f c
    show fX5_countThere_10_4 t (f + 1) (nI c) (nI (nr (S 10) 3)) S = _
    rw [fX5_countThere_10_4, h3.1, if_pos (nI_le (Nat.le_refl _) (by omega))]
theorem zX5_begin_10 {S : qS} (h2 : S 10 2 = 10) (h3 : isN (S 10) 3 10) (hn : nr (S 10) 3 < 10) (t : Int32) : fX5_begin_10 t S = some (nI (nr (S 10) 3), q_up (q_up (q_up S 11 (nr (S 10) 3) t) 12 (nr (S 10) 3) 10000) 10 3 (nI (nr (S 10) 3 + 1))) := by
  unfold fX5_begin_10
  rw [zX5_isFull_10 h2 h3, decide_eq_false (by omega)]
  rw [Option.bind_some, if_neg (by decide)]
  generalize hm : nr (S 10) 3 = m at *
  have e : S 10 3 = nI m := by rw [← hm]; exact h3.1
  rw [e, if_pos (z_inb hn (by omega)), if_pos (z_inb hn (by omega)), nI_clamp (by omega), nI_1]
theorem zX5_end_10 {S : qS} (h3 : isN (S 10) 3 10) {i : Nat} (hi : i < nr (S 10) 3) (t : Int32) : fX5_end_10 (nI i) t S = some (q_up S 12 i t) := by
  have hb := h3.2
  unfold fX5_end_10
  rw [zX5_isMade_10 h3, cMd_nI hi (by omega)]
  rw [Option.bind_some, if_pos rfl, if_pos (z_inb (by omega) (by omega)), nI_clamp (by omega)]
theorem zX5_endN_10 {S : qS} (h3 : isN (S 10) 3 10) (t : Int32) : fX5_end_10 (-1) t S = some S := by
  unfold fX5_end_10
  rw [zX5_isMade_10 h3, show cMd (nr (S 10) 3) (-1) = false by simp [cMd, z_m1]]
  rfl
theorem zX5_isFull_16 {S : qS} (h2 : S 16 2 = 70) (h3 : isN (S 16) 3 70) : fX5_isFull_16 S = some (decide (nr (S 16) 3 = 70)) := by
  unfold fX5_isFull_16
  rw [h2, h3.1]
  have hb := h3.2
  by_cases h : nr (S 16) 3 = 70
  · rw [if_neg, decide_eq_true h]
    rw [h]; decide
  · rw [if_pos, decide_eq_false h]
    exact nI_lt (b := 70) (by omega) (by omega)
theorem zX5_isMade_16 {S : qS} (h3 : isN (S 16) 3 70) (a : Int32) : fX5_isMade_16 a S = some (cMd (nr (S 16) 3) a) := by
  unfold fX5_isMade_16
  have hb := h3.2
  have e := nI_toInt (n := nr (S 16) 3) (by omega)
  rw [h3.1]
  by_cases h : a < 0
  · rw [if_pos h]
    rw [z_lt, zz0] at h
    rw [cMd, decide_eq_false (by omega)]
  · rw [if_neg h]
    rw [z_lt, zz0] at h
    by_cases h1 : nI (nr (S 16) 3) ≤ a
    · rw [if_pos h1]
      rw [z_le, e] at h1
      rw [cMd, decide_eq_false (by omega)]
    · rw [if_neg h1]
      rw [z_le, e] at h1
      rw [cMd, decide_eq_true (by omega)]
theorem zX5_isThere_16 {S : qS} (h3 : isN (S 16) 3 70) {i : Nat} (hi : i < nr (S 16) 3) (t : Int32) : fX5_isThere_16 (nI i) t S = some (cTh (S 17 i) (S 18 i) t) := by
  have hb := h3.2
  unfold fX5_isThere_16
  rw [if_neg (nI_pos (by omega)), h3.1, if_neg (nI_ge hi (by omega)), if_pos (z_inb (by omega) (by omega)), if_pos (z_inb (by omega) (by omega)), nI_clamp (by omega)]
  by_cases h : t < S 17 i
  · rw [if_pos h]
    rw [cTh, decide_eq_false (fun q => z_nlt.mpr q h), Bool.false_and]
  · rw [if_neg h]
    have h' := z_nlt.mp h
    by_cases h1 : S 18 i ≤ t
    · rw [if_pos h1, cTh, decide_eq_false (fun q => z_nle.mpr q h1), Bool.and_false]
    · rw [if_neg h1, cTh, decide_eq_true h', decide_eq_true (z_nle.mp h1)]; rfl
theorem zX5_countThere_16 {S : qS} (h3 : isN (S 16) 3 70) (t : Int32) : fX5_countThere_16 t S = some (nI (cnt (fun i => cTh (S 17 i) (S 18 i) t) (nr (S 16) 3))) := by
  have hb := h3.2
  unfold fX5_countThere_16
  refine lp_cnt (nr (S 16) 3) (fun i => cTh (S 17 i) (S 18 i) t) (fun f c i => fX5_countThere_16_4 t f c i S) some ?_ ?_ 20000 (by omega)
  · intro f c i hi
    show fX5_countThere_16_4 t (f + 1) (nI c) (nI i) S = _
    rw [fX5_countThere_16_4, h3.1, if_neg (nI_ge hi (by omega)), zX5_isThere_16 h3 hi]
    rw [Option.bind_some]
    by_cases h : cTh (S 17 i) (S 18 i) t = true
    · rw [if_pos h, if_pos h, nI_1, nI_1]
    · rw [if_neg h, if_neg h, nI_1]
  · intro f c
    show fX5_countThere_16_4 t (f + 1) (nI c) (nI (nr (S 16) 3)) S = _
    rw [fX5_countThere_16_4, h3.1, if_pos (nI_le (Nat.le_refl _) (by omega))]
theorem zX5_begin_16 {S : qS} (h2 : S 16 2 = 70) (h3 : isN (S 16) 3 70) (hn : nr (S 16) 3 < 70) (t : Int32) : fX5_begin_16 t S = some (nI (nr (S 16) 3), q_up (q_up (q_up S 17 (nr (S 16) 3) t) 18 (nr (S 16) 3) 10000) 16 3 (nI (nr (S 16) 3 + 1))) := by
  unfold fX5_begin_16
  rw [zX5_isFull_16 h2 h3, decide_eq_false (by omega)]
  rw [Option.bind_some, if_neg (by decide)]
  generalize hm : nr (S 16) 3 = m at *
  have e : S 16 3 = nI m := by rw [← hm]; exact h3.1
  rw [e, if_pos (z_inb hn (by omega)), if_pos (z_inb hn (by omega)), nI_clamp (by omega), nI_1]
theorem zX5_end_16 {S : qS} (h3 : isN (S 16) 3 70) {i : Nat} (hi : i < nr (S 16) 3) (t : Int32) : fX5_end_16 (nI i) t S = some (q_up S 18 i t) := by
  have hb := h3.2
  unfold fX5_end_16
  rw [zX5_isMade_16 h3, cMd_nI hi (by omega)]
  rw [Option.bind_some, if_pos rfl, if_pos (z_inb (by omega) (by omega)), nI_clamp (by omega)]
theorem zX5_endN_16 {S : qS} (h3 : isN (S 16) 3 70) (t : Int32) : fX5_end_16 (-1) t S = some S := by
  unfold fX5_end_16
  rw [zX5_isMade_16 h3, show cMd (nr (S 16) 3) (-1) = false by simp [cMd, z_m1]]
  rfl
