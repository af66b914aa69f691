/-! writing calls -/
theorem upd_s {r : Nat → Int32} {j : Nat} {v : Int32} : upd r j v j = v := by simp [upd]
theorem upd_n {r : Nat → Int32} {i j : Nat} {v : Int32} (h : i ≠ j) : upd r j v i = r i := by simp [upd, h]
theorem nr_n {r : Nat → Int32} {i j : Nat} {v : Int32} (h : i ≠ j) : nr (upd r j v) i = nr r i := by unfold nr; rw [upd_n h]
theorem nr_s {r : Nat → Int32} {j k : Nat} (h : k < 2 ^ 31) : nr (upd r j (nI k)) j = k := by unfold nr; rw [upd_s, nI_clamp h]
theorem isN_n {r : Nat → Int32} {i j b : Nat} {v : Int32} (h : i ≠ j) : isN (upd r j v) i b ↔ isN r i b := by unfold isN; rw [nr_n h, upd_n h]
theorem isN_s {r : Nat → Int32} {j k b : Nat} (h : k ≤ b) (hb : b < 2 ^ 31) : isN (upd r j (nI k)) j b := isN_mk (k := k) upd_s h hb
theorem isN_mono {r : Nat → Int32} {i b d : Nat} (h : isN r i b) (hd : b ≤ d) : isN r i d := ⟨h.1, Nat.le_trans h.2 hd⟩
theorem spOK_mono {T T' : Nat} {rf ru : Nat → Int32} {i : Nat} (h : spOK T rf ru i) (hT : T ≤ T') : spOK T' rf ru i := ⟨isN_mono h.1 hT, h.2.1, h.2.2.imp (fun q => Nat.le_trans q hT) id⟩
theorem Wn.mono {T T' : Nat} {r2 r3 r4 r5 : Nat → Int32} (h : Wn T r2 r3 r4 r5) (hT : T ≤ T') : Wn T' r2 r3 r4 r5 := ⟨h.1, h.2.1, fun i hi => ⟨spOK_mono (h.2.2 i hi).1 hT, (h.2.2 i hi).2⟩⟩
theorem Wz.mono {T T' : Nat} {r10 r11 r12 r13 r14 : Nat → Int32} (h : Wz T r10 r11 r12 r13 r14) (hT : T ≤ T') : Wz T' r10 r11 r12 r13 r14 := ⟨h.1, h.2.1, fun i hi => ⟨spOK_mono (h.2.2.1 i hi).1 hT, (h.2.2.1 i hi).2⟩, h.2.2.2⟩
theorem Wc.mono {T T' n n' : Nat} {r16 r17 r18 r19 r20 r21 r22 : Nat → Int32} (h : Wc T n r16 r17 r18 r19 r20 r21 r22) (hT : T ≤ T') (hn : n ≤ n') : Wc T' n' r16 r17 r18 r19 r20 r21 r22 := by
  obtain ⟨a, b, c, d⟩ := h
  refine ⟨a, b, fun i hi => ?_, d⟩
  obtain ⟨c1, c2, c3, c4, c5, c6⟩ := c i hi
  exact ⟨isN_mono c1 hT, c2, c3.imp (fun q => Nat.le_trans q hT) id, c4, Nat.lt_of_lt_of_le c5 hn, c6⟩
/-- a writing call of both, at a state of both -/
def Wr (fx : qS → Option (Int32 × qS)) (fm : qS → Option (Int32 × qS)) (S : qS) : Prop := ∃ r S1 S2, fx S = some (r, S1) ∧ fm S1 = some (r, S2) ∧ Rl S2 S2
theorem Wr.no {fx fm : qS → Option (Int32 × qS)} {S : qS} {r : Int32} (h : Rl S S) (hx : fx S = some (r, S)) (hm : fm S = some (r, S)) : Wr fx fm S := ⟨r, S, S, hx, hm, h⟩
section
variable {S : qS}
theorem w_pass (h : Rl S S) (a : Int32) : Wr (fX8_pass a) (fX9_pass a) S := by
  have c1 : (1 : Int32).toInt = 1 := by decide
  have c2 : (1000 : Int32).toInt = 1000 := by decide
  have c3 : (9999 : Int32).toInt = 9999 := by decide
  have hT := h.1.now
  by_cases q1 : a < 1
  · refine Wr.no (r := -1) h ?_ ?_
    · unfold fX8_pass; rw [if_pos q1]
    · unfold fX9_pass
      rw [zM_in, Option.bind_some, if_neg]
      rw [z_lt] at q1
      simp only [cRg, decide_eq_true_eq]; omega
  · by_cases q2 : a ≤ 1000
    · rw [z_lt] at q1
      rw [z_le] at q2
      obtain ⟨k, hk, rfl⟩ := z_of (x := a) (n := 1001) (by omega) (by omega) (by omega)
      rw [nI_toInt (by omega)] at q1 q2
      have hq1 : ¬ nI k < 1 := by rw [z_lt, nI_toInt (by omega)]; omega
      have hq2 : nI k ≤ 1000 := by rw [z_le, nI_toInt (by omega)]; omega
      have rg : cRg (Int32.toInt 1) (Int32.toInt 1000) (nI k) = true := by
        simp only [cRg, decide_eq_true_eq]
        rw [nI_toInt (by omega)]; omega
      have e34 : S 34 0 = nI (tk S) := h.now
      by_cases q3 : tk S + k ≤ 9999
      · have q3' : nI (tk S + k) ≤ 9999 := nI_le (b := 9999) q3 (by omega)
        refine ⟨nI (tk S + k), q_up S 0 6 (nI (tk S + k)), q_up (q_up S 0 6 (nI (tk S + k))) 34 0 (nI (tk S + k)), ?_, ?_, ?_⟩
        · unfold fX8_pass
          rw [if_neg hq1, if_pos hq2, hT.1, nI_add, if_pos q3']
        · unfold fX9_pass
          rw [zM_in, Option.bind_some, if_pos rg]
          show (if S 34 0 + nI k ≤ 9999 then some (S 34 0 + nI k, q_up _ 34 0 (S 34 0 + nI k)) else _) = _
          rw [e34, nI_add, if_pos q3']
        · have et : nr (upd (S 0) 6 (nI (tk S + k))) 6 = tk S + k := nr_s (by omega)
          have le : nr (S 0) 6 ≤ nr (upd (S 0) 6 (nI (tk S + k))) 6 := by rw [et]; exact Nat.le_add_right _ _
          refine ⟨⟨isN_s q3 (by omega), h.1.2.1.mono le, h.1.2.2.1.mono le, h.1.2.2.2.1.mono le (Nat.le_refl _), h.1.2.2.2.2⟩, ?_⟩
          obtain ⟨⟨a0, a1, a2, a3, a4, a5, a6, a7⟩, b⟩ := h.2
          refine ⟨⟨?_, a1, a2, a3, a4, a5, a6, a7⟩, b⟩
          show upd (S 34) 0 (nI (tk S + k)) 0 = upd (S 0) 6 (nI (tk S + k)) 6
          rw [upd_s, upd_s]
      · have q3' : ¬ nI (tk S + k) ≤ 9999 := nI_ge (a := 9999) (by omega) (by omega)
        refine Wr.no (r := -3) h ?_ ?_
        · unfold fX8_pass
          rw [if_neg hq1, if_pos hq2, hT.1, nI_add, if_neg q3']
        · unfold fX9_pass
          rw [zM_in, Option.bind_some, if_pos rg, e34, nI_add, if_neg q3']
    · refine Wr.no (r := -1) h ?_ ?_
      · unfold fX8_pass; rw [if_neg q1, if_neg q2]
      · unfold fX9_pass
        rw [zM_in, Option.bind_some, if_neg]
        rw [z_le] at q2
        simp only [cRg, decide_eq_true_eq]; omega
theorem Wn.add {T : Nat} {r2 r3 r4 r5 : Nat → Int32} (h : Wn T r2 r3 r4 r5) (hT : T ≤ 9999) (hn : nr r2 3 < 10) {v : Nat} (hv : 1 ≤ v ∧ v ≤ 3) : Wn T (upd r2 3 (nI (nr r2 3 + 1))) (upd r3 (nr r2 3) (nI T)) (upd r4 (nr r2 3) 10000) (upd r5 (nr r2 3) (nI v)) := by
  obtain ⟨h1, h2, h3⟩ := h
  have e : nr (upd r2 3 (nI (nr r2 3 + 1))) 3 = nr r2 3 + 1 := nr_s (by omega)
  generalize hm : nr r2 3 = n at *
  refine ⟨by rw [upd_n (by decide)]; exact h1, isN_s (by omega) (by omega), fun i hi => ?_⟩
  rw [e] at hi
  by_cases q : i = n
  · subst q
    refine ⟨⟨isN_s (Nat.le_refl _) (by omega), isN_s (k := 10000) (by omega) (by omega), Or.inr (nr_s (k := 10000) (by omega))⟩, isN_s hv.2 (by omega), ?_⟩
    rw [nr_s (by omega)]; exact hv.1
  · obtain ⟨⟨a, b, c⟩, d, e⟩ := h3 i (by omega)
    exact ⟨⟨(isN_n q).mpr a, (isN_n q).mpr b, by rw [nr_n q]; exact c⟩, (isN_n q).mpr d, by rw [nr_n q]; exact e⟩
theorem Mn.add {n : Nat} {r3 r4 r5 r6 r7 m : Nat → Int32} (h : Mn n r3 r4 r5 r6 r7 m) (a b c t : Int32) : Mn (n + 1) (upd r3 n t) (upd r4 n 10000) (upd r5 n a) (upd r6 n b) (upd r7 n c) (upd (upd (upd (upd (upd m (5 * n) a) (5 * n + 1) b) (5 * n + 2) c) (5 * n + 3) t) (5 * n + 4) (-1)) := by
  intro i hi
  by_cases q : i = n
  · subst q
    refine ⟨?_, ?_, ?_, ?_, ?_⟩
    · rw [upd_n (by omega), upd_n (by omega), upd_n (by omega), upd_n (by omega), upd_s, upd_s]
    · rw [upd_n (by omega), upd_n (by omega), upd_n (by omega), upd_s, upd_s]
    · rw [upd_n (by omega), upd_n (by omega), upd_s, upd_s]
    · rw [upd_n (by omega), upd_s, upd_s]
    · rw [upd_s, upd_s]; rfl
  · obtain ⟨e0, e1, e2, e3, e4⟩ := h i (by omega)
    refine ⟨?_, ?_, ?_, ?_, ?_⟩
    · rw [upd_n (by omega), upd_n (by omega), upd_n (by omega), upd_n (by omega), upd_n (by omega), upd_n q, e0]
    · rw [upd_n (by omega), upd_n (by omega), upd_n (by omega), upd_n (by omega), upd_n (by omega), upd_n q, e1]
    · rw [upd_n (by omega), upd_n (by omega), upd_n (by omega), upd_n (by omega), upd_n (by omega), upd_n q, e2]
    · rw [upd_n (by omega), upd_n (by omega), upd_n (by omega), upd_n (by omega), upd_n (by omega), upd_n q, e3]
    · rw [upd_n (by omega), upd_n (by omega), upd_n (by omega), upd_n (by omega), upd_n (by omega), upd_n q, e4]
theorem cRg_of {lo hi a : Int32} {l k : Nat} (hl : lo.toInt = (l : Int)) (hh : hi.toInt = (k : Int)) (hk : k < 2 ^ 30) (h : cRg lo.toInt hi.toInt a = true) : ∃ j : Nat, l ≤ j ∧ j ≤ k ∧ a = nI j := by
  simp only [cRg, decide_eq_true_eq, hl, hh] at h
  obtain ⟨j, hj, e⟩ := z_of (x := a) (n := k + 1) (by omega) (by omega) (by omega)
  subst e
  rw [nI_toInt (by omega)] at h
  exact ⟨j, by omega, by omega, rfl⟩
theorem w_addNet (h : Rl S S) (a b c : Int32) : Wr (fX8_addNet a b c) (fX9_addNet a b c) S := by
  have c0 : (0 : Int32).toInt = 0 := by decide
  have c1 : (1 : Int32).toInt = 1 := by decide
  have c3 : (3 : Int32).toInt = 3 := by decide
  -- the view's range
  by_cases hv : cRg (Int32.toInt 1) (Int32.toInt 3) a = true
  · obtain ⟨v, hv1, hv3, rfl⟩ := cRg_of (l := 1) (k := 3) (by decide) (by decide) (by omega) hv
    have hv' : cRg 0 3 (nI v) = true := by
      simp only [cRg, decide_eq_true_eq]; rw [nI_toInt (by omega)]; omega
    have hv0 : ¬ nI v = 0 := nI_ne0 (by omega) (by omega)
    cases hb : cRg 0 255 b with
    | false =>
      refine Wr.no (r := -1) h ?_ ?_
      · unfold fX8_addNet
        rw [zX_isView, Option.bind_some, if_pos hv', if_neg hv0, zX_isAddress, hb]; rfl
      · unfold fX9_addNet
        rw [zM_in, Option.bind_some, if_pos hv, zM_isAddress, hb]; rfl
    | true =>
      cases hc : cRg 1 8 c with
      | false =>
        refine Wr.no (r := -1) h ?_ ?_
        · unfold fX8_addNet
          rw [zX_isView, Option.bind_some, if_pos hv', if_neg hv0, zX_isAddress, hb, Option.bind_some, if_pos rfl, zX_isLength, hc]; rfl
        · unfold fX9_addNet
          rw [zM_in, Option.bind_some, if_pos hv, zM_isAddress, hb, Option.bind_some, if_pos rfl, zM_in, show cRg (Int32.toInt 1) (Int32.toInt 8) c = false from hc]; rfl
      | true =>
        have h3 := h.1.n3.1
        have h2 : S 2 2 = 10 := h.1.2.1.1
        have e34 : S 34 2 = nI (nN S) := by rw [h.2.1.2.1]; exact h3.1
        have hb3 : nN S ≤ 10 := h3.2
        have eX : fX8_addNet (nI v) b c S = if decide (nr (S 2) 3 = 10) = true then some (-3, S) else (fX3_make (nI v) b c (S 0 6) S).bind fun (r54, T54) => some (r54, T54) := by
          unfold fX8_addNet
          rw [zX_isView, Option.bind_some, if_pos hv', if_neg hv0, zX_isAddress, hb, Option.bind_some, if_pos rfl, zX_isLength, hc, Option.bind_some, if_pos rfl, zX5_isFull_2 h2 h3, Option.bind_some]
        by_cases hf : nN S = 10
        · refine Wr.no (r := -3) h ?_ ?_
          · rw [eX, if_pos (decide_eq_true (show nr (S 2) 3 = 10 from hf))]
          · unfold fX9_addNet
            rw [zM_in, Option.bind_some, if_pos hv, zM_isAddress, hb, Option.bind_some, if_pos rfl, zM_in, show cRg (Int32.toInt 1) (Int32.toInt 8) c = true from hc, Option.bind_some, if_pos rfl, e34, hf, if_pos (by decide)]
        · have hlt : nr (S 2) 3 < 10 := by have : nr (S 2) 3 = nN S := rfl; omega
          have hT := h.1.now
          refine ⟨nI (nN S), q_up (q_up (q_up (q_up (q_up (q_up S 3 (nN S) (nI (tk S))) 4 (nN S) 10000) 2 3 (nI (nN S + 1))) 5 (nN S) (nI v)) 6 (nN S) b) 7 (nN S) c, q_up (q_up (q_up (q_up (q_up (q_up (q_up (q_up (q_up (q_up (q_up (q_up S 3 (nN S) (nI (tk S))) 4 (nN S) 10000) 2 3 (nI (nN S + 1))) 5 (nN S) (nI v)) 6 (nN S) b) 7 (nN S) c) 35 (5 * nN S) (nI v)) 35 (5 * nN S + 1) b) 35 (5 * nN S + 2) c) 35 (5 * nN S + 3) (nI (tk S))) 35 (5 * nN S + 4) (-1)) 34 2 (nI (nN S + 1)), ?_, ?_, ?_⟩
          · rw [eX, if_neg (show ¬ decide (nr (S 2) 3 = 10) = true from fun q => hf (of_decide_eq_true q))]
            unfold fX3_make
            rw [zX5_begin_2 h2 h3 hlt, Option.bind_some]
            show ((if nI (nN S) = -1 then _ else if q_inb (nI (nN S)) 10 = true then if q_inb (nI (nN S)) 10 = true then if q_inb (nI (nN S)) 10 = true then _ else none else none else none) : Option (Int32 × qS)).bind _ = _
            rw [if_neg (fun e => by
              have := (z_eq _ _).mp e
              rw [nI_toInt (by omega), z_m1] at this
              omega), if_pos (z_inb (show nN S < 10 from hlt) (by omega)), if_pos (z_inb (show nN S < 10 from hlt) (by omega)), if_pos (z_inb (show nN S < 10 from hlt) (by omega)), nI_clamp (by omega), hT.1]
            rfl
          · unfold fX9_addNet
            rw [zM_in, Option.bind_some, if_pos hv, zM_isAddress, hb, Option.bind_some, if_pos rfl, zM_in, show cRg (Int32.toInt 1) (Int32.toInt 8) c = true from hc, Option.bind_some, if_pos rfl]
            show (if S 34 2 = 10 then _ else if q_inb (5 * S 34 2) 50 = true then if q_inb (5 * S 34 2 + 1) 50 = true then if q_inb (5 * S 34 2 + 2) 50 = true then if q_inb (5 * S 34 2 + 3) 50 = true then if q_inb (5 * S 34 2 + 4) 50 = true then some (S 34 2 + 1 - 1, q_up (q_up (q_up (q_up (q_up (q_up _ 35 (5 * S 34 2).toNatClampNeg (nI v)) 35 (5 * S 34 2 + 1).toNatClampNeg b) 35 (5 * S 34 2 + 2).toNatClampNeg c) 35 (5 * S 34 2 + 3).toNatClampNeg (S 34 0)) 35 (5 * S 34 2 + 4).toNatClampNeg (-1)) 34 2 (S 34 2 + 1)) else none else none else none else none else none) = _
            have hl : nN S < 10 := hlt
            rw [e34, h.now, if_neg (show ¬ nI (nN S) = (10 : Int32) from fun e => hf (nI_inj (b := 10) (by omega) (by omega) e)), z_5, z_p1, z_p2, z_p3, z_p4, if_pos (z_inb (by omega) (by omega)), if_pos (z_inb (by omega) (by omega)), if_pos (z_inb (by omega) (by omega)), if_pos (z_inb (by omega) (by omega)), if_pos (z_inb (by omega) (by omega)), nI_clamp (by omega), nI_clamp (by omega), nI_clamp (by omega), nI_clamp (by omega), nI_clamp (by omega), nI_1, nI_pred]
          · have en : nr (upd (S 2) 3 (nI (nN S + 1))) 3 = nN S + 1 := nr_s (by omega)
            refine ⟨⟨h.1.1, h.1.2.1.add hT.2 hlt ⟨hv1, hv3⟩, h.1.2.2⟩, ?_⟩
            obtain ⟨⟨a0, a1, a2, a3, a4, a5, a6, a7⟩, b1, b2⟩ := h.2
            refine ⟨⟨a0, ?_, a2, a3, a4, a5, a6, a7⟩, ?_, b2⟩
            · show upd (S 34) 2 (nI (nN S + 1)) 2 = upd (S 2) 3 (nI (nN S + 1)) 3
              rw [upd_s, upd_s]
            · show Mn (nr (upd (S 2) 3 (nI (nN S + 1))) 3) _ _ _ _ _ _
              rw [en]
              exact Mn.add b1 (nI v) b c (nI (tk S))
  · -- the view is wrong
    have hv' : cRg (Int32.toInt 1) (Int32.toInt 3) a = false := Bool.eq_false_iff.mpr hv
    refine Wr.no (r := -1) h ?_ ?_
    · unfold fX8_addNet
      rw [zX_isView, Option.bind_some]
      by_cases q : cRg 0 3 a = true
      · have : a = 0 := by
          simp only [cRg, decide_eq_true_eq, c1, c3] at q hv
          rw [z_eq, c0]; omega
        rw [if_pos q, if_pos this]
      · rw [if_neg q]
    · unfold fX9_addNet
      rw [zM_in, Option.bind_some, if_neg hv]
end
