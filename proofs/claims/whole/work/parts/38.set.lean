def cVv (ty val : Int32) : Bool := if ty = 0 then cRg 0 255 val else if ty = 1 then zN val else cRg 0 999 val
theorem zM_isValue (ty val : Int32) (S : qS) : fX9_isValue ty val S = some (cVv ty val) := by
  unfold fX9_isValue cVv
  rw [zM_isAddress, zM_isName, zM_in]
  simp only [Option.bind_some]
  by_cases q0 : ty = 0
  · rw [if_pos q0, if_pos q0]
  · rw [if_neg q0, if_neg q0]
    by_cases q1 : ty = 1
    · rw [if_pos q1, if_pos q1]
    · rw [if_neg q1, if_neg q1]; rfl
theorem zX_isValue (ty val : Int32) (S : qS) : fX8_isValue ty val S = some (cRg 0 2 ty && cVv ty val) := by
  unfold fX8_isValue
  rw [zX_isType, zX_isName]
  simp only [Option.bind_some]
  cases h : cRg 0 2 ty with
  | false => rfl
  | true =>
    rw [if_pos rfl, Bool.true_and]
    unfold cVv
    by_cases q1 : ty = 1
    · rw [if_pos q1, if_neg (by rw [q1]; decide), if_pos q1]
    · rw [if_neg q1]
      by_cases q0 : ty = 0
      · rw [if_pos q0, if_pos q0, zRg, ite_b]; rfl
      · rw [if_neg q0, if_neg q0, if_neg q1, zRg, ite_b]; rfl
theorem cVv_of {ty val : Int32} (h1 : cRg 0 2 ty = true) (h : cVv ty val = true) : ∃ y w : Nat, y ≤ 2 ∧ ty = nI y ∧ w ≤ 999 ∧ val = nI w ∧ (y = 1 → zNm w = true) := by
  obtain ⟨y, -, hy, rfl⟩ := cRg_of (lo := 0) (hi := 2) (l := 0) (k := 2) (by decide) (by decide) (by omega) h1
  unfold cVv at h
  by_cases q0 : nI y = 0
  · rw [if_pos q0] at h
    obtain ⟨w, -, hw, rfl⟩ := cRg_of (lo := 0) (hi := 255) (l := 0) (k := 255) (by decide) (by decide) (by omega) h
    have : y = 0 := nI_inj (b := 0) (by omega) (by omega) q0
    exact ⟨y, w, hy, rfl, by omega, rfl, fun e => by omega⟩
  · rw [if_neg q0] at h
    by_cases q1 : nI y = 1
    · rw [if_pos q1] at h
      obtain ⟨w, hw, hn, rfl⟩ := zN_of h
      exact ⟨y, w, hy, rfl, by omega, rfl, fun _ => hn⟩
    · rw [if_neg q1] at h
      obtain ⟨w, -, hw, rfl⟩ := cRg_of (lo := 0) (hi := 999) (l := 0) (k := 999) (by decide) (by decide) (by omega) h
      exact ⟨y, w, hy, rfl, by omega, rfl, fun e => absurd (by rw [e]; rfl) q1⟩
section
variable {S : qS}
theorem full16 {X : qS} (h : WX X) : fX5_isFull_16 X = some (decide (nC X = 70)) := zX5_isFull_16 h.2.2.2.1.1 h.n3.2.2.1
theorem w_set (h : Rl S S) (a b c d : Int32) : Wr (fX8_set a b c d) (fX9_set a b c d) S := by
  have hzb := h.1.z3.2
  have hcb := h.1.c3.2
  have hT := h.1.now
  have e6 : S 34 6 = nI (nC S) := by rw [h.2.1.2.2.2.1]; exact h.1.c3.1
  cases h1 : cMd (nZ S) a with
  | false =>
    refine Wr.no (r := -1) h ?_ ?_
    · unfold fX8_set; rw [zX_zone h.1, h1]; rfl
    · unfold fX9_set; rw [zM_isZone h, h1]; rfl
  | true =>
    obtain ⟨z, hz, rfl⟩ := cMd_of h1 (by omega)
    obtain ⟨e0, e1, e2, e3⟩ := h.2.2.2.1 z hz
    cases h2 : zN b with
    | false =>
      refine Wr.no (r := -1) h ?_ ?_
      · unfold fX8_set; rw [zX_zone h.1, h1, Option.bind_some, if_pos rfl, zX_isName, h2]; rfl
      · unfold fX9_set; rw [zM_isZone h, h1, Option.bind_some, if_pos rfl, zM_isName, h2]; rfl
    | true =>
      obtain ⟨k, hk125, hk, rfl⟩ := zN_of h2
      have hz' := h.1.zon z hz
      have eAx : ∀ S2, fX2_isAt (nI k) (S 14 z) S2 = some (zAt k (nr (S 14) z)) := fun S2 => by
        have := (zN_tab2 hk hz'.2 S2).1
        rw [← hz'.1.1] at this
        exact this
      have eAm : ∀ S2, fX9_isAt (nI k) (S 14 z) S2 = some (zAt k (nr (S 14) z)) := fun S2 => by
        have := (zN_tab2 hk hz'.2 S2).2.1
        rw [← hz'.1.1] at this
        exact this
      have xh : ∀ g : Bool → Option (Int32 × qS), fX8_set (nI z) (nI k) c d S = if (cRg 0 2 c && cVv c d) = true then if zAt k (nr (S 14) z) = true then if decide (S 12 z = 10000) = true then if decide (nC S = 70) = true then some (-3, S) else (fX4_put (nI z) (nI k) c d (S 0 6) S).bind fun T98 => (fX4_countIn (nI z) (T98 0 6) T98).bind fun r110 => some (r110, T98) else some (-2, S) else some (-1, S) else some (-1, S) := by
        intro _
        unfold fX8_set
        rw [zX_zone h.1, h1, Option.bind_some, if_pos rfl, zX_isName, h2, Option.bind_some, if_pos rfl, zX_isValue, Option.bind_some, if_pos (z_inb (by omega) (by omega)), nI_clamp (by omega), eAx, Option.bind_some, xZnow h.1 hz, Option.bind_some, full16 h.1, Option.bind_some]
      have mh : ∀ S', Rl S S' → fX9_set (nI z) (nI k) c d S' = if zAt k (nr (S 14) z) = true then if cRg 0 2 c = true then if cVv c d = true then if (!decide (S 12 z = 10000)) = true then some (-2, S') else if S' 34 6 = 70 then some (-3, S') else (fX9_makes (nI z) (nI k) c d S').bind fun T79 => (fX9_records (nI z) T79).bind fun r84 => some (r84, T79) else some (-1, S') else some (-1, S') else some (-1, S') := by
        intro S' hR
        unfold fX9_set
        rw [zM_isZone hR, h1, Option.bind_some, if_pos rfl, zM_isName, h2, Option.bind_some, if_pos rfl, z_4, z_p1, if_pos (z_inb (by omega) (by omega)), nI_clamp (by omega), (hR.2.2.2.1 z hz).2.1, eAm, Option.bind_some, zM_isType, Option.bind_some, zM_isValue, Option.bind_some, mGone hR hz, Option.bind_some]
      have xh := xh (fun _ => none)
      cases h3 : zAt k (nr (S 14) z) with
      | false =>
        refine Wr.no (r := -1) h ?_ ?_
        · rw [xh, h3]
          split <;> rfl
        · rw [mh S h, h3]; rfl
      | true =>
        cases h4 : cRg 0 2 c with
        | false =>
          refine Wr.no (r := -1) h ?_ ?_
          · rw [xh, h4]; rfl
          · rw [mh S h, h3, h4]; rfl
        | true =>
          cases h5 : cVv c d with
          | false =>
            refine Wr.no (r := -1) h ?_ ?_
            · rw [xh, h4, h5]; rfl
            · rw [mh S h, h3, h4, h5]; rfl
          | true =>
            obtain ⟨y, w, hy, rfl, hw, rfl, hal⟩ := cVv_of h4 h5
            by_cases h6 : S 12 z = 10000
            · by_cases h7 : nC S = 70
              · refine Wr.no (r := -3) h ?_ ?_
                · rw [xh, h3, h4, h5, decide_eq_true h6, decide_eq_true h7]; rfl
                · rw [mh S h, h3, h4, h5, decide_eq_true h6, e6, h7]; rfl
              · obtain ⟨X1, p1, p2⟩ := xPut h.1 (show nC S < 70 by omega) hz hk hy hw rfl hal
                have fr := p2.choose_spec.choose_spec.1
                have hR1 : Rl S X1 := h.hi (fun q hq => fr q (Or.inr (by omega)))
                obtain ⟨S2, m1, m2, m3, m4⟩ := mk_both hR1 p2
                have lo2 : ∀ q, q < 34 → S2 q = X1 q := fun q hq => m3 q (by omega) (by omega)
                have hR2 : Rl S2 S2 := m2.lo lo2
                have t2 : tk S2 = tk S := by unfold tk; rw [lo2 0 (by omega), fr 0 (Or.inl (by omega))]
                refine ⟨nI (cCI (nC X1) (X1 17) (X1 18) (X1 19) (nI z) (nI (tk S))), X1, S2, ?_, ?_, hR2⟩
                · rw [xh, h3, h4, h5, decide_eq_true h6, decide_eq_false h7]
                  show (fX4_put (nI z) (nI k) (nI y) (nI w) (S 0 6) S).bind _ = _
                  rw [hT.1, p1, Option.bind_some]
                  rw [zX4_countIn (p2.wx h.1).1.n3.2.2.1, fr 0 (Or.inl (by omega)), hT.1]
                  rfl
                · rw [mh X1 hR1, h3, h4, h5, decide_eq_true h6]
                  show (if X1 34 6 = 70 then _ else (fX9_makes (nI z) (nI k) (nI y) (nI w) X1).bind _) = _
                  rw [fr 34 (Or.inr (by omega)), e6, if_neg (show ¬ nI (nC S) = (70 : Int32) from fun e => h7 (nI_inj (b := 70) (by omega) (by omega) e)), m1, Option.bind_some, zM_records m2.mr m2.now]
                  have t1 : tk X1 = tk S := by unfold tk; rw [fr 0 (Or.inl (by omega))]
                  rw [t1]
                  rfl
            · refine Wr.no (r := -2) h ?_ ?_
              · rw [xh, h3, h4, h5, decide_eq_false h6]; rfl
              · rw [mh S h, h3, h4, h5, decide_eq_false h6]; rfl
theorem w_clear (h : Rl S S) (a b c : Int32) : Wr (fX8_clear a b c) (fX9_clear a b c) S := by
  have hzb := h.1.z3.2
  have hcb := h.1.c3.2
  have hT := h.1.now
  have e6 : S 34 6 = nI (nC S) := by rw [h.2.1.2.2.2.1]; exact h.1.c3.1
  cases h1 : cMd (nZ S) a with
  | false =>
    refine Wr.no (r := -1) h ?_ ?_
    · unfold fX8_clear; rw [zX_zone h.1, h1]; rfl
    · unfold fX9_clear; rw [zM_isZone h, h1]; rfl
  | true =>
    obtain ⟨z, hz, rfl⟩ := cMd_of h1 (by omega)
    cases h2 : zN b with
    | false =>
      refine Wr.no (r := -1) h ?_ ?_
      · unfold fX8_clear; rw [zX_zone h.1, h1, Option.bind_some, if_pos rfl, zX_isName, h2]; rfl
      · unfold fX9_clear; rw [zM_isZone h, h1, Option.bind_some, if_pos rfl, zM_isName, h2]; rfl
    | true =>
      cases h3 : cRg 0 2 c with
      | false =>
        refine Wr.no (r := -1) h ?_ ?_
        · unfold fX8_clear; rw [zX_zone h.1, h1, Option.bind_some, if_pos rfl, zX_isName, h2, Option.bind_some, if_pos rfl, zX_isType, h3]; rfl
        · unfold fX9_clear; rw [zM_isZone h, h1, Option.bind_some, if_pos rfl, zM_isName, h2, Option.bind_some, if_pos rfl, zM_isType, h3]; rfl
      | true =>
        obtain ⟨k, hk125, hk, rfl⟩ := zN_of h2
        obtain ⟨y, -, hy, rfl⟩ := cRg_of (lo := 0) (hi := 2) (l := 0) (k := 2) (by decide) (by decide) (by omega) h3
        have xh : fX8_clear (nI z) (nI k) (nI y) S = if decide (S 12 z = 10000) = true then if decide (nC S = 70) = true then some (-3, S) else if o2i (xFd S (nI z) (nI k) (nI y) (nI (tk S))) = -1 then some (-4, S) else (fX4_drop (o2i (xFd S (nI z) (nI k) (nI y) (nI (tk S)))) (nI (tk S)) S).bind fun T102 => if q_inb (o2i (xFd S (nI z) (nI k) (nI y) (nI (tk S)))) 70 = true then some (T102 22 (o2i (xFd S (nI z) (nI k) (nI y) (nI (tk S)))).toNatClampNeg, T102) else none else some (-2, S) := by
          unfold fX8_clear
          rw [zX_zone h.1, h1, Option.bind_some, if_pos rfl, zX_isName, h2, Option.bind_some, if_pos rfl, zX_isType, h3, Option.bind_some, if_pos rfl, xZnow h.1 hz, Option.bind_some, full16 h.1, Option.bind_some, hT.1, zX_fd h.1, Option.bind_some]
        have mh : ∀ S', Rl S S' → fX9_clear (nI z) (nI k) (nI y) S' = if (!decide (S 12 z = 10000)) = true then some (-2, S') else if S' 34 6 = 70 then some (-3, S') else if 0 ≤ oV (S 22) (xFd S (nI z) (nI k) (nI y) (nI (tk S))) then (fX9_makes (nI z) (nI k) (nI y) (-1) S').bind fun T73 => some (oV (S 22) (xFd S (nI z) (nI k) (nI y) (nI (tk S))), T73) else some (-4, S') := by
          intro S' hR
          unfold fX9_clear
          rw [zM_isZone hR, h1, Option.bind_some, if_pos rfl, zM_isName, h2, Option.bind_some, if_pos rfl, zM_isType, h3, Option.bind_some, if_pos rfl, mGone hR hz, Option.bind_some, hR.now, mVa hR _ _ _ (Nat.le_refl _), Option.bind_some]
        by_cases h6 : S 12 z = 10000
        · by_cases h7 : nC S = 70
          · refine Wr.no (r := -3) h ?_ ?_
            · rw [xh, decide_eq_true h6, decide_eq_true h7]; rfl
            · rw [mh S h, decide_eq_true h6, e6, h7]; rfl
          · have n7 : ¬ nI (nC S) = (70 : Int32) := fun e => h7 (nI_inj (b := 70) (by omega) (by omega) e)
            have g := mVa_ge h (nI z) (nI k) (nI y) (Nat.le_refl (tk S))
            cases hf : xFd S (nI z) (nI k) (nI y) (nI (tk S)) with
            | none =>
              rw [hf] at g
              refine Wr.no (r := -4) h ?_ ?_
              · rw [xh, decide_eq_true h6, decide_eq_false h7, hf]; rfl
              · rw [mh S h, decide_eq_true h6, if_neg (by decide), e6, if_neg n7, hf, if_neg (fun q => g.mp q rfl)]
            | some j =>
              rw [hf] at g
              have hj := (xFd_some hf).1
              obtain ⟨X1, p1, p2, p3⟩ := xDrop h.1 (show nC S < 70 by omega) hz hk hy hf
              have fr := p2.choose_spec.choose_spec.1
              have hR1 : Rl S X1 := h.hi (fun q hq => fr q (Or.inr (by omega)))
              obtain ⟨S2, m1, m2, m3, m4⟩ := mk_both hR1 p2
              have lo2 : ∀ q, q < 34 → S2 q = X1 q := fun q hq => m3 q (by omega) (by omega)
              refine ⟨S 22 j, X1, S2, ?_, ?_, m2.lo lo2⟩
              · rw [xh, decide_eq_true h6, decide_eq_false h7, hf]
                show (if o2i (some j) = -1 then _ else _) = _
                rw [if_neg (fun q => by cases (o2i_m1 (fun i hi => by cases hi; omega)).mp q), show o2i (some j) = nI j from rfl, p1, Option.bind_some, if_pos (z_inb (by omega) (by omega)), nI_clamp (by omega), p3]
              · rw [mh X1 hR1, decide_eq_true h6, if_neg (by decide), fr 34 (Or.inr (by omega)), e6, if_neg n7, hf, if_pos (g.mpr (fun q => by cases q)), m1]
                rfl
        · refine Wr.no (r := -2) h ?_ ?_
          · rw [xh, decide_eq_false h6]; rfl
          · rw [mh S h, decide_eq_false h6]; rfl
end
