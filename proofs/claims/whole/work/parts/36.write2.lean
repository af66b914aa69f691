section
variable {S : qS}
theorem Wn.rem {T : Nat} {r2 r3 r4 r5 : Nat → Int32} (h : Wn T r2 r3 r4 r5) (hT : T ≤ 9999) (i : Nat) : Wn T r2 r3 (upd r4 i (nI T)) r5 := by
  obtain ⟨h1, h2, h3⟩ := h
  refine ⟨h1, h2, fun j hj => ?_⟩
  obtain ⟨⟨a, b, c⟩, d⟩ := h3 j hj
  refine ⟨⟨a, ?_, ?_⟩, d⟩
  · by_cases q : j = i
    · subst q; exact isN_s (by omega) (by omega)
    · exact (isN_n q).mpr b
  · by_cases q : j = i
    · subst q; rw [nr_s (by omega)]; exact Or.inl (Nat.le_refl _)
    · rw [nr_n q]; exact c
theorem toU_nI {T : Nat} (h : T ≤ 9999) : toU (nI T) = nI T := by
  unfold toU
  rw [if_neg]
  intro e
  have := nI_inj (b := 10000) (by omega) (by omega) e
  omega
theorem Mn.rem {n : Nat} {r3 r4 r5 r6 r7 m : Nat → Int32} (h : Mn n r3 r4 r5 r6 r7 m) {T i : Nat} (hT : T ≤ 9999) : Mn n r3 (upd r4 i (nI T)) r5 r6 r7 (upd m (5 * i + 4) (nI T)) := by
  intro j hj
  obtain ⟨e0, e1, e2, e3, e4⟩ := h j hj
  refine ⟨?_, ?_, ?_, ?_, ?_⟩
  · rw [upd_n (by omega), e0]
  · rw [upd_n (by omega), e1]
  · rw [upd_n (by omega), e2]
  · rw [upd_n (by omega), e3]
  · by_cases q : j = i
    · subst q; rw [upd_s, upd_s, toU_nI hT]
    · rw [upd_n (by omega), upd_n q, e4]
theorem w_removeNet (h : Rl S S) (a : Int32) : Wr (fX8_removeNet a) (fX9_removeNet a) S := by
  have hb := h.1.m3.2
  have hT := h.1.now
  have e34 : S 34 2 = nI (nN S) := by rw [h.2.1.2.1]; exact h.1.m3.1
  cases h1 : cMd (nN S) a with
  | false =>
    refine Wr.no (r := -1) h ?_ ?_
    · unfold fX8_removeNet
      rw [zX_net h.1, h1]; rfl
    · unfold fX9_removeNet
      rw [zM_in, e34, Option.bind_some, show cRg (Int32.toInt 0) (nI (nN S) - 1).toInt a = false from (cMd_rg (by omega) a).trans h1]; rfl
  | true =>
    obtain ⟨i, hi, rfl⟩ := cMd_of h1 (by omega)
    have em : cRg (Int32.toInt 0) (nI (nN S) - 1).toInt (nI i) = true := (cMd_rg (by omega) _).trans h1
    have eth : fX5_isThere_2 (nI i) (S 0 6) S = some (decide (S 4 i = 10000)) := by
      rw [zX5_isThere_2 h.1.n3.1 hi, hT.1, th_now hT.2 (h.1.2.1.2.2 i hi).1]
    obtain ⟨e0, e1, e2, e3, e4⟩ := h.2.2.1 i hi
    by_cases q : S 4 i = 10000
    · refine ⟨S 5 i, q_up S 4 i (nI (tk S)), q_up (q_up S 4 i (nI (tk S))) 35 (5 * i + 4) (nI (tk S)), ?_, ?_, ?_⟩
      · unfold fX8_removeNet
        rw [zX_net h.1, h1, Option.bind_some, if_pos rfl, eth, Option.bind_some, if_pos (decide_eq_true q), zX5_end_2 h.1.n3.1 hi, Option.bind_some, if_pos (z_inb (by omega) (by omega)), nI_clamp (by omega), hT.1]
        rfl
      · unfold fX9_removeNet
        rw [zM_in]
        show ((some (cRg (Int32.toInt 0) (S 34 2 - 1).toInt (nI i))).bind fun r8 => if r8 = true then if q_inb (5 * nI i + 4) 50 = true then if S 35 (5 * nI i + 4).toNatClampNeg < 0 then if q_inb (5 * nI i + 4) 50 = true then if q_inb (5 * nI i) 50 = true then some ((q_up (q_up S 4 i (nI (tk S))) 35 (5 * nI i + 4).toNatClampNeg (S 34 0)) 35 (5 * nI i).toNatClampNeg, q_up (q_up S 4 i (nI (tk S))) 35 (5 * nI i + 4).toNatClampNeg (S 34 0)) else none else none else _ else none else _) = _
        rw [e34, em, Option.bind_some, if_pos rfl, z_5, z_p4, if_pos (z_inb (by omega) (by omega)), nI_clamp (by omega), e4, if_pos ((toU_neg (h.nu hi)).mpr q), if_pos (z_inb (by omega) (by omega)), if_pos (z_inb (by omega) (by omega)), nI_clamp (by omega), h.now, q_up_s]
        rw [upd_n (by omega)]
        show some (S 35 (5 * i), _) = _
        rw [e0]
      · refine ⟨⟨h.1.1, h.1.2.1.rem hT.2 i, h.1.2.2⟩, h.2.1, ?_, h.2.2.2⟩
        exact Mn.rem h.2.2.1 hT.2
    · refine Wr.no (r := -2) h ?_ ?_
      · unfold fX8_removeNet
        rw [zX_net h.1, h1, Option.bind_some, if_pos rfl, eth, Option.bind_some, if_neg (show ¬ decide (S 4 i = 10000) = true from fun e => q (of_decide_eq_true e))]
      · unfold fX9_removeNet
        rw [zM_in, e34, em, Option.bind_some, if_pos rfl, z_5, z_p4, if_pos (z_inb (by omega) (by omega)), nI_clamp (by omega), e4, if_neg (fun e => q ((toU_neg (h.nu hi)).mp e))]
theorem w_setKeeping (h : Rl S S) (a : Int32) : Wr (fX8_setKeeping a) (fX9_setKeeping a) S := by
  have c0 : (0 : Int32).toInt = 0 := by decide
  have c2 : (100 : Int32).toInt = 100 := by decide
  obtain ⟨⟨a0, a1, a2, a3, a4, a5, a6, a7⟩, b⟩ := h.2
  by_cases q1 : a < 0
  · refine Wr.no (r := -1) h ?_ ?_
    · unfold fX8_setKeeping; rw [if_pos q1]
    · unfold fX9_setKeeping
      rw [zM_in, Option.bind_some, if_neg]
      rw [z_lt] at q1
      simp only [cRg, decide_eq_true_eq]; omega
  · by_cases q2 : a ≤ 100
    · refine ⟨S 23 7, q_up S 23 7 a, q_up (q_up S 23 7 a) 34 9 a, ?_, ?_, ?_⟩
      · unfold fX8_setKeeping; rw [if_neg q1, if_pos q2]
      · unfold fX9_setKeeping
        rw [zM_in, Option.bind_some, if_pos]
        · show some (S 34 9, _) = _
          rw [a5]
        · rw [z_lt] at q1
          rw [z_le] at q2
          simp only [cRg, decide_eq_true_eq]; omega
      · have e5 : nr (upd (S 23) 7 a) 5 = nr (S 23) 5 := nr_n (by decide)
        refine ⟨⟨h.1.1, h.1.2.1, h.1.2.2.1, h.1.2.2.2.1, ?_, h.1.2.2.2.2.2⟩, ⟨a0, a1, a2, a3, ?_, ?_, ?_, a7⟩, b.1, b.2.1, b.2.2.1, ?_, b.2.2.2.2⟩
        · obtain ⟨k1, k2, k3⟩ := h.1.2.2.2.2.1
          show Wk (upd (S 23) 7 a) _ _ _
          unfold Wk
          rw [e5, isN_n (by decide)]
          exact ⟨k1, k2, k3⟩
        · show S 34 8 = upd (S 23) 7 a 5
          rw [upd_n (by decide)]; exact a4
        · show upd (S 34) 9 a 9 = upd (S 23) 7 a 7
          rw [upd_s, upd_s]
        · show S 34 10 = upd (S 23) 7 a 6
          rw [upd_n (by decide)]; exact a6
        · show Mk (nr (upd (S 23) 7 a) 5) _ _ _ _ _ _
          rw [e5]; exact b.2.2.2.1
    · refine Wr.no (r := -1) h ?_ ?_
      · unfold fX8_setKeeping; rw [if_neg q1, if_neg q2]
      · unfold fX9_setKeeping
        rw [zM_in, Option.bind_some, if_neg]
        rw [z_le] at q2
        simp only [cRg, decide_eq_true_eq]; omega
theorem WX.t3 {X : qS} (h : WX X) : X 29 1 = nI (nT X) ∧ nT X ≤ 60 := h.n3.2.2.2.2.1
theorem w_type (h : Rl S S) (a : Int32) : Wr (fX8_type a) (fX9_type a) S := by
  have c0 : (32 : Int32).toInt = 32 := by decide
  have c2 : (126 : Int32).toInt = 126 := by decide
  have ht := h.1.t3
  obtain ⟨⟨a0, a1, a2, a3, a4, a5, a6, a7⟩, b⟩ := h.2
  have e12 : S 34 12 = nI (nT S) := by rw [a7]; exact ht.1
  by_cases q1 : a < 32
  · refine Wr.no (r := -1) h ?_ ?_
    · unfold fX8_type; rw [if_pos q1]
    · unfold fX9_type
      rw [zM_in, Option.bind_some, if_neg]
      rw [z_lt] at q1
      simp only [cRg, decide_eq_true_eq]; omega
  · by_cases q2 : a ≤ 126
    · have rg : cRg (Int32.toInt 32) (Int32.toInt 126) a = true := by
        rw [z_lt] at q1
        rw [z_le] at q2
        simp only [cRg, decide_eq_true_eq]; omega
      by_cases q3 : nT S < 60
      · refine ⟨nI (nT S + 1), q_up (q_up S 30 (nT S) a) 29 1 (nI (nT S + 1)), q_up (q_up (q_up (q_up S 30 (nT S) a) 29 1 (nI (nT S + 1))) 39 (nT S) a) 34 12 (nI (nT S + 1)), ?_, ?_, ?_⟩
        · unfold fX8_type fX6_append
          rw [if_neg q1, if_pos q2, ht.1, if_pos (show nI (nT S) < (60 : Int32) from nI_lt (b := 60) q3 (by omega)), if_neg (show ¬ (60 : Int32) ≤ nI (nT S) from nI_ge (b := 60) q3 (by omega)), if_pos (z_inb q3 (by omega)), nI_clamp (by omega), nI_1, Option.bind_some]
          show some (upd (S 29) 1 (nI (nT S + 1)) 1, _) = _
          rw [upd_s]
        · unfold fX9_type
          rw [zM_in, Option.bind_some, if_pos rg]
          show (if S 34 12 = 60 then _ else if q_inb (S 34 12) 60 = true then some (S 34 12 + 1, q_up (q_up _ 39 (S 34 12).toNatClampNeg a) 34 12 (S 34 12 + 1)) else none) = _
          rw [e12, if_neg (show ¬ nI (nT S) = (60 : Int32) from fun e => by have := nI_inj (b := 60) (by omega) (by omega) e; omega), if_pos (z_inb q3 (by omega)), nI_clamp (by omega), nI_1]
        · have e5 : nr (upd (S 29) 1 (nI (nT S + 1))) 1 = nT S + 1 := nr_s (by omega)
          refine ⟨⟨h.1.1, h.1.2.1, h.1.2.2.1, h.1.2.2.2.1, h.1.2.2.2.2.1, isN_s (by omega) (by omega)⟩, ⟨a0, a1, a2, a3, a4, a5, a6, ?_⟩, b.1, b.2.1, b.2.2.1, b.2.2.2.1, ?_⟩
          · show upd (S 34) 12 (nI (nT S + 1)) 12 = upd (S 29) 1 (nI (nT S + 1)) 1
            rw [upd_s, upd_s]
          · show Mt (nr (upd (S 29) 1 (nI (nT S + 1))) 1) (upd (S 30) (nT S) a) (upd (S 39) (nT S) a)
            rw [e5]
            intro i hi
            by_cases q : i = nT S
            · subst q; rw [upd_s, upd_s]
            · rw [upd_n q, upd_n q]
              exact b.2.2.2.2 i (by show i < nT S; omega)
      · have q60 : nT S = 60 := by omega
        refine Wr.no (r := -3) h ?_ ?_
        · unfold fX8_type
          rw [if_neg q1, if_pos q2, ht.1, q60, if_neg (by decide)]
        · unfold fX9_type
          rw [zM_in, Option.bind_some, if_pos rg, e12, q60, if_pos (by decide)]
    · refine Wr.no (r := -1) h ?_ ?_
      · unfold fX8_type; rw [if_neg q1, if_neg q2]
      · unfold fX9_type
        rw [zM_in, Option.bind_some, if_neg]
        rw [z_le] at q2
        simp only [cRg, decide_eq_true_eq]; omega
theorem w_clearText (h : Rl S S) : Wr fX8_clearText fX9_clearText S := by
  obtain ⟨⟨a0, a1, a2, a3, a4, a5, a6, a7⟩, b⟩ := h.2
  refine ⟨S 29 1, q_up S 29 1 0, q_up (q_up S 29 1 0) 34 12 0, rfl, ?_, ?_⟩
  · unfold fX9_clearText
    show some (S 34 12, _) = _
    rw [a7]
  · have e5 : nr (upd (S 29) 1 0) 1 = 0 := nr_s (k := 0) (by omega)
    refine ⟨⟨h.1.1, h.1.2.1, h.1.2.2.1, h.1.2.2.2.1, h.1.2.2.2.2.1, isN_s (k := 0) (by omega) (by omega)⟩, ⟨a0, a1, a2, a3, a4, a5, a6, ?_⟩, b.1, b.2.1, b.2.2.1, b.2.2.2.1, ?_⟩
    · show upd (S 34) 12 0 12 = upd (S 29) 1 0 1
      rw [upd_s, upd_s]
    · show Mt (nr (upd (S 29) 1 0) 1) _ _
      rw [e5]
      intro i hi
      exact absurd hi (by omega)
theorem Wz.rem {T : Nat} {r10 r11 r12 r13 r14 : Nat → Int32} (h : Wz T r10 r11 r12 r13 r14) (hT : T ≤ 9999) {i : Nat} (hi : i < nr r10 3) (ht : r12 i = 10000) : Wz T r10 r11 (upd r12 i (nI T)) r13 r14 := by
  obtain ⟨h1, h2, h3, h4⟩ := h
  refine ⟨h1, h2, fun j hj => ?_, fun j k hjk hk e1 e2 => ?_⟩
  · obtain ⟨⟨a, b, c⟩, d⟩ := h3 j hj
    refine ⟨⟨a, ?_, ?_⟩, d⟩
    · by_cases q : j = i
      · subst q; exact isN_s (by omega) (by omega)
      · exact (isN_n q).mpr b
    · by_cases q : j = i
      · subst q; rw [nr_s (by omega)]; exact Or.inl (Nat.le_refl _)
      · rw [nr_n q]; exact c
  · have := h4 j k hjk hk e1 e2
    by_cases q : j = i
    · subst q
      have e : nr r12 j = 10000 := nr_mk (k := 10000) ht (by omega)
      have := (h3 k hk).1.1.2
      omega
    · rw [nr_n q]; exact this
theorem Mz.rem {n : Nat} {r11 r12 r13 r14 m : Nat → Int32} (h : Mz n r11 r12 r13 r14 m) {T i : Nat} (hT : T ≤ 9999) : Mz n r11 (upd r12 i (nI T)) r13 r14 (upd m (4 * i + 3) (nI T)) := by
  intro j hj
  obtain ⟨e0, e1, e2, e3⟩ := h j hj
  refine ⟨?_, ?_, ?_, ?_⟩
  · rw [upd_n (by omega), e0]
  · rw [upd_n (by omega), e1]
  · rw [upd_n (by omega), e2]
  · by_cases q : j = i
    · subst q; rw [upd_s, upd_s, toU_nI hT]
    · rw [upd_n (by omega), upd_n q, e3]
theorem w_removeZone (h : Rl S S) (a : Int32) : Wr (fX8_removeZone a) (fX9_removeZone a) S := by
  have hb := h.1.z3.2
  have hT := h.1.now
  cases h1 : cMd (nZ S) a with
  | false =>
    refine Wr.no (r := -1) h ?_ ?_
    · unfold fX8_removeZone
      rw [zX_zone h.1, h1]; rfl
    · unfold fX9_removeZone
      rw [zM_isZone h, h1]; rfl
  | true =>
    obtain ⟨i, hi, rfl⟩ := cMd_of h1 (by omega)
    obtain ⟨e0, e1, e2, e3⟩ := h.2.2.2.1 i hi
    by_cases q : S 12 i = 10000
    · have h' : Rl S (q_up S 12 i (nI (tk S))) := h
      refine ⟨nI (cCI (nC S) (S 17) (S 18) (S 19) (nI i) (nI (tk S))), q_up S 12 i (nI (tk S)), q_up (q_up S 12 i (nI (tk S))) 36 (4 * i + 3) (nI (tk S)), ?_, ?_, ?_⟩
      · unfold fX8_removeZone
        rw [zX_zone h.1, h1, Option.bind_some, if_pos rfl, xZnow h.1 hi, Option.bind_some, if_pos (decide_eq_true q), zX5_end_10 h.1.n3.2.1 hi, Option.bind_some, hT.1]
        show (fX4_countIn (nI i) (S 0 6) (q_up S 12 i (nI (tk S)))).bind _ = _
        rw [zX4_countIn (S := q_up S 12 i (nI (tk S))) h.1.n3.2.2.1, hT.1]
        rfl
      · unfold fX9_removeZone
        rw [zM_isZone h', h1, Option.bind_some, if_pos rfl, mGone h' hi, Option.bind_some, decide_eq_true q, if_neg (by decide), zM_records h'.mr h'.now, Option.bind_some, z_4, z_p3, if_pos (z_inb (by omega) (by omega)), nI_clamp (by omega), h'.now]
        rfl
      · refine ⟨⟨h.1.1, h.1.2.1, h.1.2.2.1.rem hT.2 hi q, h.1.2.2.2⟩, h.2.1, h.2.2.1, ?_, h.2.2.2.2⟩
        exact Mz.rem h.2.2.2.1 hT.2
    · refine Wr.no (r := -2) h ?_ ?_
      · unfold fX8_removeZone
        rw [zX_zone h.1, h1, Option.bind_some, if_pos rfl, xZnow h.1 hi, Option.bind_some, if_neg (show ¬ decide (S 12 i = 10000) = true from fun e => q (of_decide_eq_true e))]
      · unfold fX9_removeZone
        rw [zM_isZone h, h1, Option.bind_some, if_pos rfl, mGone h hi, Option.bind_some, decide_eq_false q, if_pos (by decide)]
theorem Wz.add {T : Nat} {r10 r11 r12 r13 r14 : Nat → Int32} (h : Wz T r10 r11 r12 r13 r14) (hT : T ≤ 9999) (hn : nr r10 3 < 10) {v k : Nat} (hv : v ≤ 3) (hk : zNm k = true) (hu : ∀ i, i < nr r10 3 → r13 i = nI v → r14 i = nI k → ¬ r12 i = 10000) : Wz T (upd r10 3 (nI (nr r10 3 + 1))) (upd r11 (nr r10 3) (nI T)) (upd r12 (nr r10 3) 10000) (upd r13 (nr r10 3) (nI v)) (upd r14 (nr r10 3) (nI k)) := by
  obtain ⟨h1, h2, h3, h4⟩ := h
  have e : nr (upd r10 3 (nI (nr r10 3 + 1))) 3 = nr r10 3 + 1 := nr_s (by omega)
  have hk' := zNm_lt hk
  generalize hm : nr r10 3 = n at *
  refine ⟨by rw [upd_n (by decide)]; exact h1, isN_s (by omega) (by omega), fun i hi => ?_, fun i j hij hj e1 e2 => ?_⟩
  · rw [e] at hi
    by_cases q : i = n
    · subst q
      refine ⟨⟨isN_s (Nat.le_refl _) (by omega), isN_s (k := 10000) (by omega) (by omega), Or.inr (nr_s (k := 10000) (by omega))⟩, isN_s hv (by omega), isN_s (by omega) (by omega), ?_⟩
      rw [nr_s (by omega)]; exact hk
    · obtain ⟨⟨a, b, c⟩, d, e, f⟩ := h3 i (by omega)
      exact ⟨⟨(isN_n q).mpr a, (isN_n q).mpr b, by rw [nr_n q]; exact c⟩, (isN_n q).mpr d, (isN_n q).mpr e, by rw [nr_n q]; exact f⟩
  · rw [e] at hj
    have qi : i ≠ n := by omega
    rw [upd_n qi] at e1 e2
    rw [nr_n qi]
    by_cases q : j = n
    · subst q
      rw [upd_s] at e1 e2
      rw [nr_s (by omega)]
      have := hu i (by omega) e1 e2
      rcases (h3 i (by omega)).1.2.2 with c | c
      · exact c
      · exfalso
        apply this
        rw [(h3 i (by omega)).1.2.1.1, c]; rfl
    · rw [upd_n q] at e1 e2
      rw [nr_n q]
      exact h4 i j hij (by omega) e1 e2
theorem Mz.add {n : Nat} {r11 r12 r13 r14 m : Nat → Int32} (h : Mz n r11 r12 r13 r14 m) (a b t : Int32) : Mz (n + 1) (upd r11 n t) (upd r12 n 10000) (upd r13 n a) (upd r14 n b) (upd (upd (upd (upd m (4 * n) a) (4 * n + 1) b) (4 * n + 2) t) (4 * n + 3) (-1)) := by
  intro i hi
  by_cases q : i = n
  · subst q
    refine ⟨?_, ?_, ?_, ?_⟩
    · rw [upd_n (by omega), upd_n (by omega), upd_n (by omega), upd_s, upd_s]
    · rw [upd_n (by omega), upd_n (by omega), upd_s, upd_s]
    · rw [upd_n (by omega), upd_s, upd_s]
    · rw [upd_s, upd_s]; rfl
  · obtain ⟨e0, e1, e2, e3⟩ := h i (by omega)
    refine ⟨?_, ?_, ?_, ?_⟩
    · rw [upd_n (by omega), upd_n (by omega), upd_n (by omega), upd_n (by omega), upd_n q, e0]
    · rw [upd_n (by omega), upd_n (by omega), upd_n (by omega), upd_n (by omega), upd_n q, e1]
    · rw [upd_n (by omega), upd_n (by omega), upd_n (by omega), upd_n (by omega), upd_n q, e2]
    · rw [upd_n (by omega), upd_n (by omega), upd_n (by omega), upd_n (by omega), upd_n q, e3]
theorem w_addZone (h : Rl S S) (a b : Int32) : Wr (fX8_addZone a b) (fX9_addZone a b) S := by
  have hb := h.1.z3.2
  have hT := h.1.now
  cases h1 : cRg 0 3 a with
  | false =>
    refine Wr.no (r := -1) h ?_ ?_
    · unfold fX8_addZone; rw [zX_isView, h1]; rfl
    · unfold fX9_addZone; rw [zM_isView, h1]; rfl
  | true =>
    cases h2 : zN b with
    | false =>
      refine Wr.no (r := -1) h ?_ ?_
      · unfold fX8_addZone; rw [zX_isView, h1, Option.bind_some, if_pos rfl, zX_isName, h2]; rfl
      · unfold fX9_addZone; rw [zM_isView, h1, Option.bind_some, if_pos rfl, zM_isName, h2]; rfl
    | true =>
      obtain ⟨k, hk125, hk, rfl⟩ := zN_of h2
      have ePx : ∀ S, fX2_isPattern (nI k) S = some (zPat k) := fun S => (zN_tab hk125 S).2.2.1
      have ePm : ∀ S, fX9_isPattern (nI k) S = some (zPat k) := fun S => (zN_tab hk125 S).2.2.2.1
      cases h3 : zPat k with
      | true =>
        refine Wr.no (r := -1) h ?_ ?_
        · unfold fX8_addZone; rw [zX_isView, h1, Option.bind_some, if_pos rfl, zX_isName, h2, Option.bind_some, if_pos rfl, ePx, h3]; rfl
        · unfold fX9_addZone; rw [zM_isView, h1, Option.bind_some, if_pos rfl, zM_isName, h2, Option.bind_some, if_pos rfl, ePm, h3]; rfl
      | false =>
        obtain ⟨v, -, hv, rfl⟩ := cRg_of (lo := 0) (hi := 3) (l := 0) (k := 3) (by decide) (by decide) (by omega) h1
        have eX : fX8_addZone (nI v) (nI k) S = if o2i (cZF (nZ S) (S 11) (S 12) (S 13) (S 14) (nI v) (nI k) (nI (tk S))) = -1 then (if decide (nZ S = 10) = true then some (-3, S) else (fX7_make (nI v) (nI k) (nI (tk S)) S).bind fun (r69, T69) => some (r69, T69)) else some (-2, S) := by
          unfold fX8_addZone
          rw [zX_isView, h1, Option.bind_some, if_pos rfl, zX_isName, h2, Option.bind_some, if_pos rfl, ePx, h3, Option.bind_some, if_neg (by decide), zX7_find h.1.n3.2.1, Option.bind_some, zX5_isFull_10 h.1.2.2.1.1 h.1.n3.2.1, Option.bind_some, hT.1]
          rfl
        have eM : ∀ S', Rl S S' → fX9_addZone (nI v) (nI k) S' = fX9_addZone_25 (nI v) (nI k) 20000 0 S' := by
          intro S' _
          unfold fX9_addZone
          rw [zM_isView, h1, Option.bind_some, if_pos rfl, zM_isName, h2, Option.bind_some, if_pos rfl, ePm, h3, Option.bind_some, if_neg (by decide)]
        have eF : cZF (nZ S) (S 11) (S 12) (S 13) (S 14) (nI v) (nI k) (nI (tk S)) = fst1 (fun i => decide (S 13 i = nI v) && decide (S 14 i = nI k) && decide (S 12 i = 10000)) (nZ S) := by
          unfold cZF
          refine fst1_congr _ (fun i hi => ?_)
          rw [th_now hT.2 (h.1.2.2.1.2.2.1 i hi).1]
        have loop : ∀ S', Rl S S' → fX9_addZone_25 (nI v) (nI k) 20000 0 S' = match fst1 (fun i => decide (S 13 i = nI v) && decide (S 14 i = nI k) && decide (S 12 i = 10000)) (nZ S) with
            | some _ => some (-2, S')
            | none => if nI (nZ S) = 10 then some (-3, S') else some (nI (nZ S), q_up (q_up (q_up (q_up (q_up S' 36 (4 * nZ S) (nI v)) 36 (4 * nZ S + 1) (nI k)) 36 (4 * nZ S + 2) (nI (tk S))) 36 (4 * nZ S + 3) (-1)) 34 4 (nI (nZ S + 1))) := by
          intro S' hR
          refine lp_fst (nZ S) (fun i => decide (S 13 i = nI v) && decide (S 14 i = nI k) && decide (S 12 i = 10000)) (fun f i => fX9_addZone_25 (nI v) (nI k) f i S') (fun _ => some (-2, S')) _ ?_ ?_ 20000 (by omega)
          · intro f i hi
            show fX9_addZone_25 (nI v) (nI k) (f + 1) (nI i) S' = _
            obtain ⟨e0, e1, e2, e3⟩ := hR.2.2.2.1 i hi
            rw [fX9_addZone_25, hR.2.1.2.2.1, h.1.z3.1, if_neg (nI_ge hi (by omega)), mGone hR hi, Option.bind_some]
            simp only [z_4, z_p1]
            rw [if_pos (z_inb (by omega) (by omega)), if_pos (z_inb (by omega) (by omega)), nI_clamp (by omega), nI_clamp (by omega), e0, e1]
            by_cases q1 : S 12 i = 10000
            · rw [decide_eq_true q1, if_neg (by decide), Bool.and_true]
              by_cases q2 : S 13 i = nI v
              · rw [if_pos q2, decide_eq_true q2, Bool.true_and]
                by_cases q3 : S 14 i = nI k
                · rw [if_pos q3, decide_eq_true q3, if_pos rfl]
                · rw [if_neg q3, decide_eq_false q3, if_neg (by decide)]
              · rw [if_neg q2, decide_eq_false q2, Bool.false_and, if_neg (by decide)]
            · rw [decide_eq_false q1, if_pos (by decide), Bool.and_false, if_neg (by decide)]
          · intro f
            show fX9_addZone_25 (nI v) (nI k) (f + 1) (nI (nZ S)) S' = _
            rw [fX9_addZone_25, hR.2.1.2.2.1, h.1.z3.1, if_pos (nI_le (Nat.le_refl _) (by omega))]
            by_cases q : nI (nZ S) = (10 : Int32)
            · rw [if_pos q, if_pos q]
            · have hl : nZ S < 10 := by
                rcases Nat.lt_or_ge (nZ S) 10 with z | z
                · exact z
                · exact absurd (by rw [show nZ S = 10 by omega]; rfl) q
              rw [if_neg q, if_neg q, z_4, z_p1, z_p2, z_p3, if_pos (z_inb (by omega) (by omega)), if_pos (z_inb (by omega) (by omega)), if_pos (z_inb (by omega) (by omega)), if_pos (z_inb (by omega) (by omega)), nI_clamp (by omega), nI_clamp (by omega), nI_clamp (by omega), nI_clamp (by omega), hR.now, nI_1, nI_pred]
        cases hz : fst1 (fun i => decide (S 13 i = nI v) && decide (S 14 i = nI k) && decide (S 12 i = 10000)) (nZ S) with
        | some i =>
          have hi := ((fst1_some _ _).mp hz).1
          refine Wr.no (r := -2) h ?_ ?_
          · rw [eX, eF, hz, if_neg (fun q => by cases (o2i_m1 (fun j hj => by cases hj; omega)).mp q)]
          · rw [eM S h, loop S h, hz]
        | none =>
          by_cases hf : nZ S = 10
          · refine Wr.no (r := -3) h ?_ ?_
            · rw [eX, eF, hz, if_pos (show o2i none = -1 from rfl), if_pos (decide_eq_true hf)]
            · rw [eM S h, loop S h, hz]
              show (if nI (nZ S) = 10 then _ else _) = _
              rw [hf]; rfl
          · have hl : nr (S 10) 3 < 10 := by have : nr (S 10) 3 = nZ S := rfl; omega
            have hR1 : Rl S (q_up (q_up (q_up (q_up (q_up S 11 (nZ S) (nI (tk S))) 12 (nZ S) 10000) 10 3 (nI (nZ S + 1))) 13 (nZ S) (nI v)) 14 (nZ S) (nI k)) := h
            refine ⟨nI (nZ S), q_up (q_up (q_up (q_up (q_up S 11 (nZ S) (nI (tk S))) 12 (nZ S) 10000) 10 3 (nI (nZ S + 1))) 13 (nZ S) (nI v)) 14 (nZ S) (nI k), q_up (q_up (q_up (q_up (q_up (q_up (q_up (q_up (q_up (q_up S 11 (nZ S) (nI (tk S))) 12 (nZ S) 10000) 10 3 (nI (nZ S + 1))) 13 (nZ S) (nI v)) 14 (nZ S) (nI k)) 36 (4 * nZ S) (nI v)) 36 (4 * nZ S + 1) (nI k)) 36 (4 * nZ S + 2) (nI (tk S))) 36 (4 * nZ S + 3) (-1)) 34 4 (nI (nZ S + 1)), ?_, ?_, ?_⟩
            · rw [eX, eF, hz, if_pos (show o2i none = -1 from rfl), if_neg (show ¬ decide (nZ S = 10) = true from fun q => hf (of_decide_eq_true q))]
              unfold fX7_make
              rw [zX5_begin_10 h.1.2.2.1.1 h.1.n3.2.1 hl, Option.bind_some]
              show ((if nI (nZ S) = -1 then _ else if q_inb (nI (nZ S)) 10 = true then if q_inb (nI (nZ S)) 10 = true then _ else none else none) : Option (Int32 × qS)).bind _ = _
              rw [if_neg (show ¬ nI (nZ S) = -1 from fun e => by
                have := (z_eq _ _).mp e
                rw [nI_toInt (by omega), z_m1] at this
                omega), if_pos (z_inb (show nZ S < 10 from hl) (by omega)), if_pos (z_inb (show nZ S < 10 from hl) (by omega)), nI_clamp (by omega)]
              rfl
            · rw [eM _ hR1, loop _ hR1, hz]
              show (if nI (nZ S) = 10 then _ else _) = _
              rw [if_neg (show ¬ nI (nZ S) = (10 : Int32) from fun e => hf (nI_inj (b := 10) (by omega) (by omega) e))]
            · have en : nr (upd (S 10) 3 (nI (nZ S + 1))) 3 = nZ S + 1 := nr_s (by omega)
              have hfree : ∀ i, i < nr (S 10) 3 → S 13 i = nI v → S 14 i = nI k → ¬ S 12 i = 10000 := by
                intro i hi e1 e2 e3
                have := (fst1_none _).mp hz i hi
                simp [e1, e2, e3] at this
              refine ⟨⟨h.1.1, h.1.2.1, h.1.2.2.1.add hT.2 hl hv hk hfree, ?_, h.1.2.2.2.2⟩, ?_⟩
              · show Wc (nr (S 0) 6) (nr (upd (S 10) 3 (nI (nZ S + 1))) 3) (S 16) (S 17) (S 18) (S 19) (S 20) (S 21) (S 22)
                rw [en]
                exact h.1.2.2.2.1.mono (Nat.le_refl _) (Nat.le_succ _)
              · obtain ⟨⟨a0, a1, a2, a3, a4, a5, a6, a7⟩, b1, b2, b3⟩ := h.2
                refine ⟨⟨a0, a1, ?_, a3, a4, a5, a6, a7⟩, b1, ?_, b3⟩
                · show upd (S 34) 4 (nI (nZ S + 1)) 4 = upd (S 10) 3 (nI (nZ S + 1)) 3
                  rw [upd_s, upd_s]
                · show Mz (nr (upd (S 10) 3 (nI (nZ S + 1))) 3) _ _ _ _ _
                  rw [en]
                  exact Mz.add b2 (nI v) (nI k) (nI (tk S))
end
