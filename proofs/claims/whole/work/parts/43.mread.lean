/-! the reference reads the text -/
def Tx (X S : qS) : Prop := S 34 12 = nI (nT X) ∧ (∀ i, i < nT X → S 39 i = X 30 i) ∧ nT X ≤ 60
theorem Tx.scr {X S S' : qS} (h : Tx X S) (k : Scr S S') : Tx X S' := ⟨by rw [k.2 12 (by omega) (by omega) (by omega)]; exact h.1, fun i hi => by rw [k.1 39 (by omega) (by omega)]; exact h.2.1 i hi, h.2.2⟩
theorem Rl.tx {X S : qS} (h : Rl X S) : Tx X S := ⟨by rw [h.2.1.2.2.2.2.2.2.2]; exact h.1.t3.1, h.2.2.2.2.2.2, h.1.t3.2⟩
section
variable {X S : qS}
theorem mHere (h : Tx X S) {s : Nat} (hs : S 34 14 = nI s) (hb : s < 1000) (lo hi : Int32) : fX9_isHere lo hi S = some (inR (X 30) (nT X) lo hi s) := by
  have hL := h.2.2
  unfold fX9_isHere inR
  rw [h.1, hs]
  by_cases q : s < nT X
  · rw [if_neg (nI_ge q (by omega)), if_pos (z_inb (by omega) (by omega)), nI_clamp (by omega), h.2.1 s q, zM_in, Option.bind_some, decide_eq_true q, Bool.true_and]
    cases cRg lo.toInt hi.toInt (X 30 s) <;> rfl
  · rw [if_pos (nI_le (by omega) (by omega)), decide_eq_false q, Bool.false_and]
theorem inR_C (t : Nat → Int32) (L : Nat) (c : Int32) (i : Nat) : inR t L c c i = isC t L c i := by
  unfold inR isC
  by_cases q : i < L
  · rw [decide_eq_true q, Bool.true_and, Bool.true_and]
    unfold cRg
    by_cases e : t i = c
    · rw [decide_eq_true e, e, decide_eq_true ⟨Int.le_refl _, Int.le_refl _⟩]
    · rw [decide_eq_false e, decide_eq_false]
      intro k
      exact e ((z_eq _ _).mpr (by omega))
  · rw [decide_eq_false q, Bool.false_and, Bool.false_and]
def Pst (S S' : qS) (s : Nat) : Prop := Scr S S' ∧ S' 34 14 = nI s ∧ S' 40 = S 40
theorem Pst.up {s : Nat} : Pst S (q_up S 34 14 (nI s)) s := ⟨Scr.up 14 _ (by omega), by rw [q_up_s, upd_s], q_up_n _ _ _ _ (by omega)⟩
theorem mTakes (h : Tx X S) {s : Nat} (hs : S 34 14 = nI s) (hb : s < 1000) (c : Int32) : ∃ S', fX9_takes c S = some (isC (X 30) (nT X) c s, S') ∧ Pst S S' (if isC (X 30) (nT X) c s = true then s + 1 else s) := by
  unfold fX9_takes
  rw [mHere h hs hb, inR_C, Option.bind_some, hs, nI_1, z_p0]
  cases isC (X 30) (nT X) c s
  · exact ⟨_, rfl, Pst.up⟩
  · exact ⟨_, rfl, Pst.up⟩
def mLS (S : qS) (a p : Nat) : qS := q_up (q_up S 34 16 (nI a)) 34 14 (nI p)
theorem mLS_a (S : qS) (a p : Nat) : Scr S (mLS S a p) ∧ (mLS S a p) 34 14 = nI p ∧ (mLS S a p) 34 16 = nI a ∧ (mLS S a p) 40 = S 40 := by
  refine ⟨(Scr.up 16 _ (by omega)).tr (Scr.up 14 _ (by omega)), ?_, ?_, ?_⟩
  · unfold mLS; rw [q_up_s, upd_s]
  · unfold mLS; rw [q_up_s, upd_n (by omega), q_up_s, upd_s]
  · unfold mLS; rw [q_up_n _ _ _ _ (by omega), q_up_n _ _ _ _ (by omega)]
theorem nI_sub {a b : Nat} (h : b ≤ a) : nI a - nI b = nI (a - b) := pk_sub h
theorem nI_mul (a b : Nat) : nI a * nI b = nI (a * b) := pk_mul a b
theorem mEnd {s v : Nat} (hs : s + v < 1000) (S : qS) : (if nI (s + v) ≤ nI s then some (false, S) else some (true, S)) = some (decide (0 < v), S) := by
  by_cases q : v = 0
  · subst q
    rw [if_pos (nI_le (by omega) (by omega))]; rfl
  · rw [if_neg (nI_ge (by omega) (by omega)), decide_eq_true (by omega)]
theorem mLab_stp {s v f w a : Nat} (h : Tx X S) (hs : s < 900) (hv : v < 3) (h14 : S 34 14 = nI (s + v)) (h16 : S 34 16 = nI a) : fX9_isLabels_12 (nI s) (f + 1) (nI w) S = if inR (X 30) (nT X) 49 52 (s + v) = true then fX9_isLabels_12 (nI s) f (nI (w * 5)) (mLS S (a + w * dv (X 30) (s + v)) (s + v + 1)) else some (decide (0 < v), S) := by
  have hL := h.2.2
  rw [fX9_isLabels_12, h14, nI_sub (by omega), if_neg (show ¬ (3 : Int32) ≤ nI (s + v - s) from nI_ge (b := 3) (by omega) (by omega)), mHere h h14 (by omega), Option.bind_some]
  by_cases q : inR (X 30) (nT X) 49 52 (s + v) = true
  · obtain ⟨d1, d2, d3, d4⟩ := inR_dv (l := 1) (k := 4) (by decide) (by decide) (by omega) q
    rw [if_pos q, if_pos q, if_pos (z_inb (by omega) (by omega)), nI_clamp (by omega), h.2.1 _ d1, h16, z_m5]
    have e : X 30 (s + v) - 48 = nI (dv (X 30) (s + v)) := by
      rw [d2, z_s48 (by omega), show 48 + dv (X 30) (s + v) - 48 = dv (X 30) (s + v) by omega]
    rw [e, nI_mul, nI_add, nI_1]
    rfl
  · rw [if_neg q, if_neg q, mEnd (by omega)]
theorem mLabels (h : Tx X S) {s : Nat} (hs : s < 900) (h14 : S 34 14 = nI s) : ∃ S', fX9_isLabels S = some (decide (0 < dgc (X 30) (nT X) 49 52 s), S') ∧ Pst S S' (s + dgc (X 30) (nT X) 49 52 s) ∧ S' 34 16 = nI (pNm (X 30) s (dgc (X 30) (nT X) 49 52 s)) := by
  unfold fX9_isLabels dgc
  rw [h14, show (20000 : Nat) = 19996 + 1 + 1 + 1 + 1 from rfl, show (1 : Int32) = nI 1 from rfl, show (0 : Int32) = nI 0 from rfl]
  have s0 : Scr S (q_up S 34 16 (nI 0)) := Scr.up 16 _ (by omega)
  have a0 : (q_up S 34 16 (nI 0)) 34 14 = nI s := by rw [q_up_s, upd_n (by omega)]; exact h14
  have b0 : (q_up S 34 16 (nI 0)) 34 16 = nI 0 := by rw [q_up_s, upd_s]
  have c0 : (q_up S 34 16 (nI 0)) 40 = S 40 := q_up_n _ _ _ _ (by omega)
  generalize q_up S 34 16 (nI 0) = S0 at s0 a0 b0 c0
  have t0 := h.scr s0
  rw [mLab_stp (v := 0) t0 hs (by omega) a0 b0, Nat.add_zero]
  by_cases q0 : inR (X 30) (nT X) 49 52 s = true
  · rw [if_pos q0, if_pos q0]
    obtain ⟨s1, a1, b1, c1⟩ := mLS_a S0 (0 + 1 * dv (X 30) s) (s + 1)
    generalize mLS S0 (0 + 1 * dv (X 30) s) (s + 1) = S1 at s1 a1 b1 c1
    have t1 := t0.scr s1
    rw [mLab_stp (v := 1) t1 hs (by omega) a1 b1]
    by_cases q1 : inR (X 30) (nT X) 49 52 (s + 1) = true
    · rw [if_pos q1, if_pos q1]
      obtain ⟨s2, a2, b2, c2⟩ := mLS_a S1 (0 + 1 * dv (X 30) s + 1 * 5 * dv (X 30) (s + 1)) (s + 1 + 1)
      generalize mLS S1 (0 + 1 * dv (X 30) s + 1 * 5 * dv (X 30) (s + 1)) (s + 1 + 1) = S2 at s2 a2 b2 c2
      have t2 := t1.scr s2
      rw [mLab_stp (v := 2) t2 hs (by omega) a2 b2]
      by_cases q2 : inR (X 30) (nT X) 49 52 (s + 2) = true
      · rw [if_pos q2, if_pos q2]
        obtain ⟨s3, a3, b3, c3⟩ := mLS_a S2 (0 + 1 * dv (X 30) s + 1 * 5 * dv (X 30) (s + 1) + 1 * 5 * 5 * dv (X 30) (s + 2)) (s + 2 + 1)
        generalize mLS S2 (0 + 1 * dv (X 30) s + 1 * 5 * dv (X 30) (s + 1) + 1 * 5 * 5 * dv (X 30) (s + 2)) (s + 2 + 1) = S3 at s3 a3 b3 c3
        rw [fX9_isLabels_12, a3, nI_sub (by omega), if_pos (show (3 : Int32) ≤ nI (s + 2 + 1 - s) by rw [show s + 2 + 1 - s = 3 by omega]; decide), mEnd (v := 3) (by omega)]
        refine ⟨S3, rfl, ⟨((s0.tr s1).tr s2).tr s3, a3, ((c3.trans c2).trans c1).trans c0⟩, ?_⟩
        rw [b3]
        show _ = nI (dv (X 30) s + 5 * dv (X 30) (s + 1) + 25 * dv (X 30) (s + 2))
        rw [show 0 + 1 * dv (X 30) s + 1 * 5 * dv (X 30) (s + 1) + 1 * 5 * 5 * dv (X 30) (s + 2) = dv (X 30) s + 5 * dv (X 30) (s + 1) + 25 * dv (X 30) (s + 2) by omega]
      · rw [if_neg q2, if_neg q2]
        refine ⟨S2, rfl, ⟨(s0.tr s1).tr s2, a2, (c2.trans c1).trans c0⟩, ?_⟩
        rw [b2]
        show _ = nI (dv (X 30) s + 5 * dv (X 30) (s + 1))
        rw [show 0 + 1 * dv (X 30) s + 1 * 5 * dv (X 30) (s + 1) = dv (X 30) s + 5 * dv (X 30) (s + 1) by omega]
    · rw [if_neg q1, if_neg q1]
      refine ⟨S1, rfl, ⟨s0.tr s1, a1, c1.trans c0⟩, ?_⟩
      rw [b1]
      show _ = nI (dv (X 30) s)
      rw [show 0 + 1 * dv (X 30) s = dv (X 30) s by omega]
  · rw [if_neg q0, if_neg q0]
    exact ⟨S0, rfl, ⟨s0, a0, c0⟩, b0⟩
theorem z_10 (i : Nat) : 10 * nI i = nI (10 * i) := pk_mul 10 i
theorem mDig_stp {s v f a : Nat} (h : Tx X S) (hs : s < 900) (hv : v < 3) (h14 : S 34 14 = nI (s + v)) (h16 : S 34 16 = nI a) : fX9_isDigits_10 (nI s) (f + 1) S = if inR (X 30) (nT X) 48 57 (s + v) = true then fX9_isDigits_10 (nI s) f (mLS S (10 * a + dv (X 30) (s + v)) (s + v + 1)) else some (decide (0 < v), S) := by
  have hL := h.2.2
  rw [fX9_isDigits_10, h14, nI_sub (by omega), if_neg (show ¬ (3 : Int32) ≤ nI (s + v - s) from nI_ge (b := 3) (by omega) (by omega)), mHere h h14 (by omega), Option.bind_some]
  by_cases q : inR (X 30) (nT X) 48 57 (s + v) = true
  · obtain ⟨d1, d2, d3, d4⟩ := inR_dv (l := 0) (k := 9) (by decide) (by decide) (by omega) q
    rw [if_pos q, if_pos q, if_pos (z_inb (by omega) (by omega)), nI_clamp (by omega), h.2.1 _ d1, h16, z_10]
    have e : nI (10 * a) + X 30 (s + v) - 48 = nI (10 * a + dv (X 30) (s + v)) := by
      rw [d2, nI_add, z_s48 (by omega), show 10 * a + (48 + dv (X 30) (s + v)) - 48 = 10 * a + dv (X 30) (s + v) by omega]
    rw [e, nI_1]
    rfl
  · rw [if_neg q, if_neg q, mEnd (by omega)]
theorem mDigits (h : Tx X S) {s : Nat} (hs : s < 900) (h14 : S 34 14 = nI s) : ∃ S', fX9_isDigits S = some (decide (0 < dgc (X 30) (nT X) 48 57 s), S') ∧ Pst S S' (s + dgc (X 30) (nT X) 48 57 s) ∧ S' 34 16 = nI (pNu (X 30) s (dgc (X 30) (nT X) 48 57 s)) := by
  unfold fX9_isDigits dgc
  rw [h14, show (20000 : Nat) = 19996 + 1 + 1 + 1 + 1 from rfl, show (0 : Int32) = nI 0 from rfl]
  have s0 : Scr S (q_up S 34 16 (nI 0)) := Scr.up 16 _ (by omega)
  have a0 : (q_up S 34 16 (nI 0)) 34 14 = nI s := by rw [q_up_s, upd_n (by omega)]; exact h14
  have b0 : (q_up S 34 16 (nI 0)) 34 16 = nI 0 := by rw [q_up_s, upd_s]
  have c0 : (q_up S 34 16 (nI 0)) 40 = S 40 := q_up_n _ _ _ _ (by omega)
  generalize q_up S 34 16 (nI 0) = S0 at s0 a0 b0 c0
  have t0 := h.scr s0
  rw [mDig_stp (v := 0) t0 hs (by omega) a0 b0, Nat.add_zero]
  by_cases q0 : inR (X 30) (nT X) 48 57 s = true
  · rw [if_pos q0, if_pos q0]
    obtain ⟨s1, a1, b1, c1⟩ := mLS_a S0 (10 * 0 + dv (X 30) s) (s + 1)
    generalize mLS S0 (10 * 0 + dv (X 30) s) (s + 1) = S1 at s1 a1 b1 c1
    have t1 := t0.scr s1
    rw [mDig_stp (v := 1) t1 hs (by omega) a1 b1]
    by_cases q1 : inR (X 30) (nT X) 48 57 (s + 1) = true
    · rw [if_pos q1, if_pos q1]
      obtain ⟨s2, a2, b2, c2⟩ := mLS_a S1 (10 * (10 * 0 + dv (X 30) s) + dv (X 30) (s + 1)) (s + 1 + 1)
      generalize mLS S1 (10 * (10 * 0 + dv (X 30) s) + dv (X 30) (s + 1)) (s + 1 + 1) = S2 at s2 a2 b2 c2
      have t2 := t1.scr s2
      rw [mDig_stp (v := 2) t2 hs (by omega) a2 b2]
      by_cases q2 : inR (X 30) (nT X) 48 57 (s + 2) = true
      · rw [if_pos q2, if_pos q2]
        obtain ⟨s3, a3, b3, c3⟩ := mLS_a S2 (10 * (10 * (10 * 0 + dv (X 30) s) + dv (X 30) (s + 1)) + dv (X 30) (s + 2)) (s + 2 + 1)
        generalize mLS S2 (10 * (10 * (10 * 0 + dv (X 30) s) + dv (X 30) (s + 1)) + dv (X 30) (s + 2)) (s + 2 + 1) = S3 at s3 a3 b3 c3
        rw [fX9_isDigits_10, a3, nI_sub (by omega), if_pos (show (3 : Int32) ≤ nI (s + 2 + 1 - s) by rw [show s + 2 + 1 - s = 3 by omega]; decide), mEnd (v := 3) (by omega)]
        refine ⟨S3, rfl, ⟨((s0.tr s1).tr s2).tr s3, a3, ((c3.trans c2).trans c1).trans c0⟩, ?_⟩
        rw [b3]
        show _ = nI (100 * dv (X 30) s + 10 * dv (X 30) (s + 1) + dv (X 30) (s + 2))
        rw [show 10 * (10 * (10 * 0 + dv (X 30) s) + dv (X 30) (s + 1)) + dv (X 30) (s + 2) = 100 * dv (X 30) s + 10 * dv (X 30) (s + 1) + dv (X 30) (s + 2) by omega]
      · rw [if_neg q2, if_neg q2]
        refine ⟨S2, rfl, ⟨(s0.tr s1).tr s2, a2, (c2.trans c1).trans c0⟩, ?_⟩
        rw [b2]
        show _ = nI (10 * dv (X 30) s + dv (X 30) (s + 1))
        rw [show 10 * (10 * 0 + dv (X 30) s) + dv (X 30) (s + 1) = 10 * dv (X 30) s + dv (X 30) (s + 1) by omega]
    · rw [if_neg q1, if_neg q1]
      refine ⟨S1, rfl, ⟨s0.tr s1, a1, c1.trans c0⟩, ?_⟩
      rw [b1]
      show _ = nI (dv (X 30) s)
      rw [show 10 * 0 + dv (X 30) s = dv (X 30) s by omega]
  · rw [if_neg q0, if_neg q0]
    exact ⟨S0, rfl, ⟨s0, a0, c0⟩, b0⟩
def chR (t : Nat → Int32) (L s : Nat) (S S' : qS) : Prop := Scr S S' ∧ ∀ nx k y v, prs t L s = some (nx, k, y, v) → S' 34 14 = nI nx ∧ S' 40 0 = nI k ∧ S' 40 1 = nI y ∧ S' 40 2 = v
theorem chR.no {t : Nat → Int32} {L s : Nat} {S' : qS} (h : Scr S S') (e : prs t L s = none) : chR t L s S S' := ⟨h, fun _ _ _ _ q => by rw [e] at q; cases q⟩
set_option maxHeartbeats 4000000 in
theorem mChange (h : Tx X S) {s : Nat} (hs : s ≤ 60) (h14 : S 34 14 = nI s) : ∃ S', fX9_isChange S = some ((prs (X 30) (nT X) s).isSome, S') ∧ chR (X 30) (nT X) s S S' := by
  have hL := h.2.2
  obtain ⟨S1, g1, ⟨p1, p2, p3⟩, p4⟩ := mLabels h (by omega) h14
  have hl1 : dgc (X 30) (nT X) 49 52 s ≤ 3 := dgc_le _ _ _ _ _
  have ep : prs (X 30) (nT X) s = prs (X 30) (nT X) s := rfl
  conv at ep => rhs; unfold prs
  unfold fX9_isChange
  rw [g1, Option.bind_some]
  dsimp only
  generalize dgc (X 30) (nT X) 49 52 s = n1 at *
  by_cases q0 : n1 = 0
  · rw [if_pos q0] at ep
    refine ⟨S1, ?_, chR.no p1 ep⟩
    rw [ep, q0]; rfl
  · rw [if_neg q0] at ep
    rw [if_pos (decide_eq_true (by omega)), if_pos (by decide)]
    have k2 : Scr S (q_up S1 40 0 (S1 34 16)) := p1.tr (Scr.up40 _ _)
    have k14 : (q_up S1 40 0 (S1 34 16)) 34 14 = nI (s + n1) := by rw [q_up_n _ _ _ _ (by omega)]; exact p2
    have k40 : (q_up S1 40 0 (S1 34 16)) 40 0 = nI (pNm (X 30) s n1) := by rw [q_up_s, upd_s]; exact p4
    generalize q_up S1 40 0 (S1 34 16) = S2 at k2 k14 k40
    obtain ⟨S3, g3, m1, m2, m3⟩ := mTakes (h.scr k2) k14 (by omega) 58
    rw [g3, Option.bind_some]
    dsimp only
    have k3 := k2.tr m1
    by_cases q1 : isC (X 30) (nT X) 58 (s + n1) = true
    · rw [if_pos q1] at ep m2
      rw [q1, if_pos rfl, mHere (h.scr k3) m2 (by omega), Option.bind_some]
      by_cases q2 : inR (X 30) (nT X) 48 50 (s + n1 + 1) = true
      · obtain ⟨d1, d2, d3, d4⟩ := inR_dv (l := 0) (k := 2) (by decide) (by decide) (by omega) q2
        rw [if_pos q2] at ep
        rw [if_pos q2, if_pos (show q_inb (S3 34 14) 60 = true by rw [m2]; exact z_inb (by omega) (by omega)), if_pos (by decide), if_pos (by decide), m2, nI_clamp (by omega), (h.scr k3).2.1 _ d1, d2, z_s48 (by omega), show 48 + dv (X 30) (s + n1 + 1) - 48 = dv (X 30) (s + n1 + 1) by omega, nI_1]
        generalize dv (X 30) (s + n1 + 1) = y at *
        have j4 : Scr S (q_up (q_up (q_up S3 40 1 (nI y)) 40 2 (-1)) 34 14 (nI (s + n1 + 1 + 1))) := ((k3.tr (Scr.up40 _ _)).tr (Scr.up40 _ _)).tr (Scr.up 14 _ (by omega))
        have j14 : (q_up (q_up (q_up S3 40 1 (nI y)) 40 2 (-1)) 34 14 (nI (s + n1 + 1 + 1))) 34 14 = nI (s + n1 + 2) := by rw [q_up_s, upd_s]
        have jr : (q_up (q_up (q_up S3 40 1 (nI y)) 40 2 (-1)) 34 14 (nI (s + n1 + 1 + 1))) 40 = upd (upd (S3 40) 1 (nI y)) 2 (-1) := by rw [q_up_n _ _ _ _ (by omega), q_up_s, q_up_s]
        have j0 : (q_up (q_up (q_up S3 40 1 (nI y)) 40 2 (-1)) 34 14 (nI (s + n1 + 1 + 1))) 40 0 = nI (pNm (X 30) s n1) := by rw [jr, upd_n (by omega), upd_n (by omega), m3]; exact k40
        have j1 : (q_up (q_up (q_up S3 40 1 (nI y)) 40 2 (-1)) 34 14 (nI (s + n1 + 1 + 1))) 40 1 = nI y := by rw [jr, upd_n (by omega), upd_s]
        have j2 : (q_up (q_up (q_up S3 40 1 (nI y)) 40 2 (-1)) 34 14 (nI (s + n1 + 1 + 1))) 40 2 = -1 := by rw [jr, upd_s]
        clear jr
        generalize q_up (q_up (q_up S3 40 1 (nI y)) 40 2 (-1)) 34 14 (nI (s + n1 + 1 + 1)) = S4 at j4 j14 j0 j1 j2
        obtain ⟨S5, g5, u1, u2, u3⟩ := mTakes (h.scr j4) j14 (by omega) 45
        rw [g5, Option.bind_some]
        dsimp only
        have k5 := j4.tr u1
        by_cases q4 : isC (X 30) (nT X) 45 (s + n1 + 2) = true
        · have q3 : ¬ isC (X 30) (nT X) 61 (s + n1 + 2) = true := by
            unfold isC at q4 ⊢
            simp only [Bool.and_eq_true, decide_eq_true_eq] at q4 ⊢
            intro q
            rw [q4.2] at q
            exact absurd q.2 (by decide)
          rw [if_neg q3, if_pos q4] at ep
          rw [if_pos q4] at u2
          rw [if_pos q4]
          obtain ⟨S6, g6, v1, v2, v3⟩ := mTakes (h.scr k5) u2 (by omega) 59
          rw [g6, Option.bind_some]
          dsimp only
          have e3 : s + n1 + 2 + 1 = s + n1 + 3 := rfl
          rw [e3] at v2 ⊢
          by_cases q5 : isC (X 30) (nT X) 59 (s + n1 + 3) = true
          · rw [if_pos q5] at ep v2
            refine ⟨S6, ?_, k5.tr v1, fun nx k y' v q => ?_⟩
            · rw [ep, q5]; rfl
            · rw [ep] at q
              cases q
              refine ⟨v2, ?_, ?_, ?_⟩
              · rw [v3, u3]; exact j0
              · rw [v3, u3]; exact j1
              · rw [v3, u3]; exact j2
          · rw [if_neg q5] at ep
            refine ⟨S6, ?_, chR.no (k5.tr v1) ep⟩
            rw [ep]
            simp only [Bool.not_eq_true] at q5
            rw [q5]; rfl
        · rw [if_neg q4] at u2
          rw [if_neg q4]
          obtain ⟨S6, g6, v1, v2, v3⟩ := mTakes (h.scr k5) u2 (by omega) 61
          rw [g6, Option.bind_some]
          dsimp only
          have k6 := k5.tr v1
          by_cases q3 : isC (X 30) (nT X) 61 (s + n1 + 2) = true
          · rw [if_pos q3] at ep v2
            have e3 : s + n1 + 2 + 1 = s + n1 + 3 := rfl
            rw [e3] at v2
            have i0 : S6 40 0 = nI (pNm (X 30) s n1) := by rw [v3, u3]; exact j0
            have i1 : S6 40 1 = nI y := by rw [v3, u3]; exact j1
            rw [if_pos q3, if_pos (by decide)]
            have hy : y ≤ 2 := d4
            -- the value
            have val : ∀ (n2 w : Nat) (S7 : qS), n2 ≤ 3 → Pst S6 S7 (s + n1 + 3 + n2) → S7 34 16 = nI w → (prs (X 30) (nT X) s = if n2 = 0 then none else if cVv (nI y) (nI w) = true then if isC (X 30) (nT X) 59 (s + n1 + 3 + n2) = true then some (s + n1 + 3 + n2 + 1, pNm (X 30) s n1, y, nI w) else none else none) →
                ∃ S', ((if decide (0 < n2) = true then if q_inb 2 3 = true then if q_inb 1 3 = true then (fX9_isValue (S7 40 1) (S7 34 16) (q_up S7 40 2 (S7 34 16))).bind (fun r150 => if r150 = true then (fX9_takes 59 (q_up S7 40 2 (S7 34 16))).bind (fun (r159, T159) => if r159 = true then some (true, T159) else some (false, T159)) else some (false, (q_up S7 40 2 (S7 34 16)))) else none else none else some (false, S7)) : Option (Bool × qS)) = some ((prs (X 30) (nT X) s).isSome, S') ∧ chR (X 30) (nT X) s S S' := by
              intro n2 w S7 hn2 hP hw ep2
              obtain ⟨w1, w2, w3⟩ := hP
              by_cases p0 : n2 = 0
              · rw [if_pos p0] at ep2
                refine ⟨S7, ?_, chR.no (k6.tr w1) ep2⟩
                rw [ep2, p0]; rfl
              · rw [if_neg p0] at ep2
                rw [if_pos (decide_eq_true (by omega)), if_pos (by decide), if_pos (by decide), zM_isValue, Option.bind_some, hw, w3, i1]
                have l1 : Scr S (q_up S7 40 2 (nI w)) := (k6.tr w1).tr (Scr.up40 _ _)
                have l2 : (q_up S7 40 2 (nI w)) 34 14 = nI (s + n1 + 3 + n2) := by rw [q_up_n _ _ _ _ (by omega)]; exact w2
                have l40 : (q_up S7 40 2 (nI w)) 40 = upd (S6 40) 2 (nI w) := by rw [q_up_s, w3]
                generalize q_up S7 40 2 (nI w) = S8 at l1 l2 l40
                by_cases p1 : cVv (nI y) (nI w) = true
                · rw [if_pos p1] at ep2 ⊢
                  obtain ⟨S9, g9, x1, x2, x3⟩ := mTakes (h.scr l1) l2 (by omega) 59
                  rw [g9, Option.bind_some]
                  dsimp only
                  by_cases p2 : isC (X 30) (nT X) 59 (s + n1 + 3 + n2) = true
                  · rw [if_pos p2] at ep2 x2
                    refine ⟨S9, ?_, l1.tr x1, fun nx k y' v q => ?_⟩
                    · rw [ep2, p2]; rfl
                    · rw [ep2] at q
                      cases q
                      refine ⟨x2, ?_, ?_, ?_⟩
                      · rw [x3, l40, upd_n (by omega)]; exact i0
                      · rw [x3, l40, upd_n (by omega)]; exact i1
                      · rw [x3, l40, upd_s]
                  · rw [if_neg p2] at ep2
                    refine ⟨S9, ?_, chR.no (l1.tr x1) ep2⟩
                    rw [ep2, if_neg p2]; rfl
                · rw [if_neg p1] at ep2 ⊢
                  refine ⟨S8, ?_, chR.no l1 ep2⟩
                  rw [ep2]; rfl
            have h7 := h.scr k6
            by_cases qy : y = 1
            · subst qy
              rw [if_pos (show S6 40 1 = 1 by rw [i1]; rfl)]
              obtain ⟨S7, g7, hP, hw⟩ := mLabels h7 (by omega) v2
              rw [g7, Option.bind_some]
              dsimp only
              have e1 : pN2 (X 30) (nT X) 1 (s + n1 + 3) = dgc (X 30) (nT X) 49 52 (s + n1 + 3) := if_pos rfl
              have e2 : ∀ n, pW (X 30) 1 (s + n1 + 3) n = pNm (X 30) (s + n1 + 3) n := fun n => if_pos rfl
              rw [e1, e2] at ep
              exact val _ _ S7 (dgc_le _ _ _ _ _) hP hw ep
            · have ny : ¬ nI y = (1 : Int32) := fun e => qy (nI_inj (b := 1) (by omega) (by omega) e)
              rw [if_neg (show ¬ S6 40 1 = 1 by rw [i1]; exact ny)]
              obtain ⟨S7, g7, hP, hw⟩ := mDigits h7 (by omega) v2
              rw [g7, Option.bind_some]
              dsimp only
              have e1 : pN2 (X 30) (nT X) y (s + n1 + 3) = dgc (X 30) (nT X) 48 57 (s + n1 + 3) := if_neg qy
              have e2 : ∀ n, pW (X 30) y (s + n1 + 3) n = pNu (X 30) (s + n1 + 3) n := fun n => if_neg qy
              rw [e1, e2] at ep
              exact val _ _ S7 (dgc_le _ _ _ _ _) hP hw ep
          · rw [if_neg q3, if_neg q4] at ep
            refine ⟨S6, ?_, chR.no k6 ep⟩
            rw [ep, if_neg q3]; rfl
      · rw [if_neg q2] at ep
        refine ⟨S3, ?_, chR.no k3 ep⟩
        rw [if_neg q2, ep]; rfl
    · rw [if_neg q1] at ep
      refine ⟨S3, ?_, chR.no k3 ep⟩
      rw [if_neg q1, ep]; rfl
/-- the reference looks for the fault -/
theorem mFault_loop : ∀ r s f n S, 60 ≤ s + 5 * r → s ≤ 60 → r < f → r < n → Tx X S → S 34 14 = nI s → ∃ S', fX9_faultAt_5 f S = some ((pAll (X 30) (nT X) n s).2, S') ∧ Scr S S' := by
  intro r
  induction r with
  | zero =>
    intro s f n S hr hs hf hn hT h14
    have hL := hT.2.2
    obtain ⟨f, rfl⟩ : ∃ g, f = g + 1 := ⟨f - 1, by omega⟩
    obtain ⟨n, rfl⟩ : ∃ g, n = g + 1 := ⟨n - 1, by omega⟩
    rw [fX9_faultAt_5, hT.1, h14, if_pos (nI_le (by omega) (by omega))]
    unfold pAll
    rw [if_pos (show nT X ≤ s by omega)]
    exact ⟨S, rfl, Scr.rf⟩
  | succ r ih =>
    intro s f n S hr hs hf hn hT h14
    have hL := hT.2.2
    obtain ⟨f, rfl⟩ : ∃ g, f = g + 1 := ⟨f - 1, by omega⟩
    obtain ⟨n, rfl⟩ : ∃ g, n = g + 1 := ⟨n - 1, by omega⟩
    rw [fX9_faultAt_5, hT.1, h14]
    unfold pAll
    by_cases ql : nT X ≤ s
    · rw [if_pos (nI_le ql (by omega)), if_pos ql]
      exact ⟨S, rfl, Scr.rf⟩
    · rw [if_neg (nI_ge (by omega) (by omega)), if_neg ql]
      obtain ⟨S1, g1, c1, c2⟩ := mChange hT hs h14
      rw [g1, Option.bind_some]
      dsimp only
      cases hp : prs (X 30) (nT X) s with
      | none =>
        rw [hp] at g1
        exact ⟨S1, rfl, c1⟩
      | some o =>
        obtain ⟨nx, k, y, v⟩ := o
        have adv := prs_adv hp
        obtain ⟨e1, -⟩ := c2 nx k y v hp
        obtain ⟨S2, i1, i2⟩ := ih nx f n S1 (by omega) (by omega) (by omega) (by omega) (hT.scr c1) e1
        exact ⟨S2, i1, c1.tr i2⟩
theorem mFault (hT : Tx X S) : ∃ S', fX9_faultAt S = some ((pX X).2, S') ∧ Scr S S' := by
  have s0 : Scr S (q_up S 34 14 0) := Scr.up 14 _ (by omega)
  obtain ⟨S1, g1, g2⟩ := mFault_loop 12 0 20000 100 (q_up S 34 14 0) (by omega) (by omega) (by omega) (by omega) (hT.scr s0) (by rw [q_up_s, upd_s]; rfl)
  exact ⟨S1, g1, s0.tr g2⟩
theorem w_fault (h : Rl S S) : Wr fX8_fault fX9_fault S := by
  obtain ⟨S1, g1, g2, -⟩ := xRead h.1
  have hR : Rl S S1 := h.hi (fun q hq => g2.1 q (by omega) (by omega) (by omega) (by omega))
  obtain ⟨S2, m1, m2⟩ := mFault hR.tx
  refine ⟨(pX S).2, S1, S2, ?_, ?_, ?_⟩
  · unfold fX8_fault; rw [g1]; rfl
  · unfold fX9_fault; rw [m1]; rfl
  · have k : Rl S1 S2 := ⟨hR.1.xsc g2, (hR.2.xsc g2).scr m2⟩
    exact k.lo m2.lo
end
