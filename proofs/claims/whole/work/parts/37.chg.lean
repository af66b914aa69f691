theorem WX.lo {X X' : qS} (h : WX X) (e : ∀ q, q < 34 → X' q = X q) : WX X' := by
  unfold WX at h ⊢
  rw [e 0 (by omega), e 2 (by omega), e 3 (by omega), e 4 (by omega), e 5 (by omega), e 10 (by omega), e 11 (by omega), e 12 (by omega), e 13 (by omega), e 14 (by omega), e 16 (by omega), e 17 (by omega), e 18 (by omega), e 19 (by omega), e 20 (by omega), e 21 (by omega), e 22 (by omega), e 23 (by omega), e 24 (by omega), e 25 (by omega), e 26 (by omega), e 29 (by omega)]
  exact h
theorem RM.lo {X X' S : qS} (h : RM X S) (e : ∀ q, q < 34 → X' q = X q) : RM X' S := by
  unfold RM at h ⊢
  rw [e 0 (by omega), e 2 (by omega), e 3 (by omega), e 4 (by omega), e 5 (by omega), e 6 (by omega), e 7 (by omega), e 10 (by omega), e 11 (by omega), e 12 (by omega), e 13 (by omega), e 14 (by omega), e 16 (by omega), e 17 (by omega), e 19 (by omega), e 20 (by omega), e 21 (by omega), e 22 (by omega), e 23 (by omega), e 24 (by omega), e 25 (by omega), e 26 (by omega), e 27 (by omega), e 28 (by omega), e 29 (by omega), e 30 (by omega)]
  exact h
theorem RM.hi {X S S' : qS} (h : RM X S) (e : ∀ q, 34 ≤ q → S' q = S q) : RM X S' := by
  unfold RM at h ⊢
  rw [e 34 (by omega), e 35 (by omega), e 36 (by omega), e 37 (by omega), e 38 (by omega), e 39 (by omega)]
  exact h
theorem Rl.lo {X X' S : qS} (h : Rl X S) (e : ∀ q, q < 34 → X' q = X q) : Rl X' S := ⟨h.1.lo e, h.2.lo e⟩
theorem Rl.hi {X S S' : qS} (h : Rl X S) (e : ∀ q, 34 ≤ q → S' q = S q) : Rl X S' := ⟨h.1, h.2.hi e⟩
theorem Scr.lo {S S' : qS} (h : Scr S S') : ∀ q, q < 34 → S' q = S q := fun q hq => h.1 q (by omega) (by omega)
/-- a change of the class's records: the new one, and the end of an older one of the same name -/
def Chg (X X1 : qS) (z k y : Nat) (val : Int32) : Prop := ∃ (rx : Nat → Int32) (u : Int32),
  (∀ q, q < 16 ∨ 22 < q → X1 q = X q) ∧ X1 16 = upd (X 16) 3 (nI (nC X + 1)) ∧ X1 17 = upd (X 17) (nC X) (nI (tk X)) ∧ X1 18 = upd rx (nC X) u ∧ X1 19 = upd (X 19) (nC X) (nI z) ∧ X1 20 = upd (X 20) (nC X) (nI k) ∧ X1 21 = upd (X 21) (nC X) (nI y) ∧ X1 22 = upd (X 22) (nC X) val ∧
  nC X < 70 ∧ z < nZ X ∧ zNm k = true ∧ y ≤ 2 ∧
  ((val = -1 ∧ u = nI (tk X)) ∨ (¬ val = -1 ∧ u = 10000 ∧ ∃ w, w ≤ 999 ∧ val = nI w ∧ (y = 1 → zNm w = true))) ∧
  (∀ c, c < nC X → rx c = X 18 c ∨ (rx c = nI (tk X) ∧ X 18 c = 10000 ∧ X 19 c = nI z ∧ X 20 c = nI k ∧ X 21 c = nI y)) ∧
  (∀ c, c < nC X → X 19 c = nI z → X 20 c = nI k → X 21 c = nI y → nr rx c ≤ tk X)
theorem Chg.wx {X X1 : qS} {z k y : Nat} {val : Int32} (h : WX X) (hc : Chg X X1 z k y val) : WX X1 ∧ nC X1 = nC X + 1 := by
  obtain ⟨rx, u, fr, e16, e17, e18, e19, e20, e21, e22, hN, hz, hk, hy, hval, hrx, hcl⟩ := hc
  obtain ⟨w0, wn, wz, ⟨w1, w2, w3, w4, w5, w6, w7⟩, wk, wt⟩ := h
  have hT : tk X ≤ 9999 := w0.2
  have hzb : nZ X ≤ 10 := wz.2.1.2
  have hk' := zNm_lt hk
  have en : nr (X1 16) 3 = nC X + 1 := by rw [e16]; exact nr_s (by omega)
  refine ⟨?_, en⟩
  unfold WX
  rw [fr 0 (by omega), fr 2 (by omega), fr 3 (by omega), fr 4 (by omega), fr 5 (by omega), fr 10 (by omega), fr 11 (by omega), fr 12 (by omega), fr 13 (by omega), fr 14 (by omega), fr 23 (by omega), fr 24 (by omega), fr 25 (by omega), fr 26 (by omega), fr 29 (by omega)]
  refine ⟨w0, wn, wz, ?_, wk, wt⟩
  unfold Wc
  rw [en, e17, e18, e19, e20, e21, e22]
  have eN : nr (X 16) 3 = nC X := rfl
  have eT : nr (X 0) 6 = tk X := rfl
  have eZ : nr (X 10) 3 = nZ X := rfl
  rw [eN] at w3 w4 w5 w6 w7
  rw [eT] at w3 ⊢
  rw [eZ] at w3 ⊢
  generalize hM : nC X = N at *
  -- the older ends
  have rxN : ∀ c, c < N → isN rx c 10000 ∧ (nr rx c ≤ tk X ∨ nr rx c = 10000) := by
    intro c hc
    rcases hrx c hc with q | q
    · have e : nr rx c = nr (X 18) c := by unfold nr; rw [q]
      refine ⟨⟨by rw [e, q]; exact (w3 c hc).2.1.1, by rw [e]; exact (w3 c hc).2.1.2⟩, by rw [e]; exact (w3 c hc).2.2.1⟩
    · exact ⟨isN_mk q.1 (by omega) (by omega), Or.inl (by rw [nr_mk q.1 (by omega)]; exact Nat.le_refl _)⟩
  have old : ∀ c e, c < N → e < N → (sameK (upd (X 19) N (nI z)) (upd (X 20) N (nI k)) (upd (X 21) N (nI y)) c e ↔ sameK (X 19) (X 20) (X 21) c e) := by
    intro c e hc he
    unfold sameK
    rw [upd_n (by omega), upd_n (by omega), upd_n (by omega), upd_n (by omega), upd_n (by omega), upd_n (by omega)]
  have new : ∀ c, c < N → (sameK (upd (X 19) N (nI z)) (upd (X 20) N (nI k)) (upd (X 21) N (nI y)) c N ↔ X 19 c = nI z ∧ X 20 c = nI k ∧ X 21 c = nI y) := by
    intro c hc
    unfold sameK
    rw [upd_n (show c ≠ N by omega), upd_n (show c ≠ N by omega), upd_n (show c ≠ N by omega), upd_s, upd_s, upd_s]
  refine ⟨by rw [e16, upd_n (by decide)]; exact w1, by rw [e16]; exact isN_s (by omega) (by omega), ?_, ?_, ?_, ?_, ?_⟩
  · intro c hc
    by_cases q : c = N
    · subst q
      have uN' : isN (upd rx c u) c 10000 ∧ (nr (upd rx c u) c ≤ tk X ∨ nr (upd rx c u) c = 10000) := by
        rcases hval with ⟨_, hu⟩ | ⟨_, hu, _⟩
        · subst hu
          exact ⟨isN_s (by omega) (by omega), Or.inl (by rw [nr_s (by omega)]; exact Nat.le_refl _)⟩
        · subst hu
          exact ⟨isN_s (k := 10000) (by omega) (by omega), Or.inr (nr_s (k := 10000) (by omega))⟩
      refine ⟨isN_s (Nat.le_refl _) (by omega), uN'.1, uN'.2, isN_s (by omega) (by omega), ?_, isN_s (by omega) (by omega), ?_, isN_s hy (by omega), ?_⟩
      · rw [nr_s (by omega)]; exact hz
      · rw [nr_s (by omega)]; exact hk
      · rcases hval with ⟨hv, _⟩ | ⟨_, _, w, hw, hv, hal⟩
        · left; rw [upd_s]; exact hv
        · right
          subst hv
          refine ⟨isN_s hw (by omega), fun e => ?_⟩
          rw [nr_s (by omega)] at e ⊢
          exact hal e
    · obtain ⟨a1, a2, a3, a4, a5, a6, a7, a8, a9⟩ := w3 c (by omega)
      obtain ⟨r1, r2⟩ := rxN c (by omega)
      refine ⟨(isN_n q).mpr a1, (isN_n q).mpr r1, by rw [nr_n q]; exact r2, (isN_n q).mpr a4, by rw [nr_n q]; exact a5, (isN_n q).mpr a6, by rw [nr_n q]; exact a7, (isN_n q).mpr a8, ?_⟩
      rw [upd_n q, isN_n q, nr_n q, nr_n q]
      exact a9
  · intro c e hce he
    rw [nr_n (show c ≠ N by omega)]
    by_cases q : e = N
    · subst q
      rw [nr_s (by omega)]
      exact (w3 c (by omega)).1.2
    · rw [nr_n q]
      exact w4 c e hce (by omega)
  · intro c e hce he hs
    rw [nr_n (show c ≠ N by omega)]
    by_cases q : e = N
    · subst q
      rw [nr_s (by omega)]
      obtain ⟨s1, s2, s3⟩ := (new c (by omega)).mp hs
      exact hcl c (by omega) s1 s2 s3
    · rw [nr_n q]
      have := w5 c e hce (by omega) ((old c e (by omega) (by omega)).mp hs)
      rcases hrx c (by omega) with g | g
      · have e' : nr rx c = nr (X 18) c := by unfold nr; rw [g]
        rw [e']; exact this
      · have e' : nr (X 18) c = 10000 := nr_mk (k := 10000) g.2.1 (by omega)
        have := (w3 e (by omega)).1.2
        omega
  · intro c hc hv
    by_cases q : c = N
    · subst q
      rw [upd_s] at hv
      rw [upd_s, upd_s]
      rcases hval with ⟨_, hu⟩ | ⟨hn, _⟩
      · exact hu
      · exact absurd hv hn
    · rw [upd_n q] at hv
      rw [upd_n q, upd_n q]
      have := w6 c (by omega) hv
      rcases hrx c (by omega) with g | g
      · rw [g]; exact this
      · exfalso
        have e' : nr (X 18) c = 10000 := nr_mk (k := 10000) g.2.1 (by omega)
        have e2 : nr (X 18) c = nr (X 17) c := by unfold nr; rw [this]
        have := (w3 c (by omega)).1.2
        omega
  · intro c hc hv
    by_cases q : c = N
    · subst q
      rw [upd_s] at hv
      rcases hval with ⟨hn, _⟩ | ⟨_, hu, _⟩
      · exact absurd hn hv
      · subst hu
        exact Or.inl (nr_s (k := 10000) (by omega))
    · rw [upd_n q] at hv
      rw [nr_n q]
      rcases hrx c (by omega) with g | g
      · have e' : nr rx c = nr (X 18) c := by unfold nr; rw [g]
        rw [e']
        rcases w7 c (by omega) hv with s | ⟨e, s1, s2, s3, s4⟩
        · exact Or.inl s
        · refine Or.inr ⟨e, s1, by omega, (old c e (by omega) s2).mpr s3, ?_⟩
          rw [nr_n (show e ≠ N by omega)]; exact s4
      · refine Or.inr ⟨N, by omega, by omega, (new c (by omega)).mpr g.2.2, ?_⟩
        rw [nr_s (by omega), nr_mk g.1 (by omega)]
theorem Mc.add {n : Nat} {r17 r19 r20 r21 r22 m : Nat → Int32} (h : Mc n r17 r19 r20 r21 r22 m) (z t a b c : Int32) : Mc (n + 1) (upd r17 n t) (upd r19 n z) (upd r20 n a) (upd r21 n b) (upd r22 n c) (upd (upd (upd (upd (upd m (5 * n) z) (5 * n + 1) t) (5 * n + 2) a) (5 * n + 3) b) (5 * n + 4) c) := by
  intro i hi
  by_cases q : i = n
  · subst q
    refine ⟨?_, ?_, ?_, ?_, ?_⟩
    · rw [upd_n (by omega), upd_n (by omega), upd_n (by omega), upd_n (by omega), upd_s, upd_s]
    · rw [upd_n (by omega), upd_n (by omega), upd_n (by omega), upd_s, upd_s]
    · rw [upd_n (by omega), upd_n (by omega), upd_s, upd_s]
    · rw [upd_n (by omega), upd_s, upd_s]
    · rw [upd_s, upd_s]
  · obtain ⟨e0, e1, e2, e3, e4⟩ := h i (by omega)
    refine ⟨?_, ?_, ?_, ?_, ?_⟩
    · rw [upd_n (by omega), upd_n (by omega), upd_n (by omega), upd_n (by omega), upd_n (by omega), upd_n q, e0]
    · rw [upd_n (by omega), upd_n (by omega), upd_n (by omega), upd_n (by omega), upd_n (by omega), upd_n q, e1]
    · rw [upd_n (by omega), upd_n (by omega), upd_n (by omega), upd_n (by omega), upd_n (by omega), upd_n q, e2]
    · rw [upd_n (by omega), upd_n (by omega), upd_n (by omega), upd_n (by omega), upd_n (by omega), upd_n q, e3]
    · rw [upd_n (by omega), upd_n (by omega), upd_n (by omega), upd_n (by omega), upd_n (by omega), upd_n q, e4]
/-- the reference makes the same change -/
theorem mk_both {X X1 S : qS} {z k y : Nat} {val : Int32} (h : Rl X S) (hc : Chg X X1 z k y val) : ∃ S2, fX9_makes (nI z) (nI k) (nI y) val S = some S2 ∧ Rl X1 S2 ∧ (∀ q, q ≠ 34 → q ≠ 37 → S2 q = S q) ∧ ∀ j, j ≠ 6 → S2 34 j = S 34 j := by
  have wx := hc.wx h.1
  have hc' := hc
  obtain ⟨rx, u, fr, e16, e17, e18, e19, e20, e21, e22, hN, hz, hk, hy, hval, hrx, hcl⟩ := hc
  have e34 : S 34 6 = nI (nC X) := by rw [h.2.1.2.2.2.1]; exact h.1.c3.1
  refine ⟨q_up (q_up (q_up (q_up (q_up (q_up S 37 (5 * nC X) (nI z)) 37 (5 * nC X + 1) (nI (tk X))) 37 (5 * nC X + 2) (nI k)) 37 (5 * nC X + 3) (nI y)) 37 (5 * nC X + 4) val) 34 6 (nI (nC X + 1)), ?_, ⟨wx.1, ?_⟩, ?_, ?_⟩
  · unfold fX9_makes
    rw [e34, h.now, z_5, z_p1, z_p2, z_p3, z_p4, if_pos (z_inb (by omega) (by omega)), if_pos (z_inb (by omega) (by omega)), if_pos (z_inb (by omega) (by omega)), if_pos (z_inb (by omega) (by omega)), if_pos (z_inb (by omega) (by omega)), nI_clamp (by omega), nI_clamp (by omega), nI_clamp (by omega), nI_clamp (by omega), nI_clamp (by omega), nI_1]
  · obtain ⟨⟨a0, a1, a2, a3, a4, a5, a6, a7⟩, b1, b2, b3, b4, b5⟩ := h.2
    unfold RM
    rw [fr 0 (by omega), fr 2 (by omega), fr 3 (by omega), fr 4 (by omega), fr 5 (by omega), fr 6 (by omega), fr 7 (by omega), fr 10 (by omega), fr 11 (by omega), fr 12 (by omega), fr 13 (by omega), fr 14 (by omega), fr 23 (by omega), fr 24 (by omega), fr 25 (by omega), fr 26 (by omega), fr 27 (by omega), fr 28 (by omega), fr 29 (by omega), fr 30 (by omega)]
    refine ⟨⟨a0, a1, a2, ?_, a4, a5, a6, a7⟩, b1, b2, ?_, b4, b5⟩
    · rw [e16]
      show upd (S 34) 6 (nI (nC X + 1)) 6 = upd (X 16) 3 (nI (nC X + 1)) 3
      rw [upd_s, upd_s]
    · have en : nr (X1 16) 3 = nC X + 1 := wx.2
      rw [en, e17, e19, e20, e21, e22]
      exact Mc.add b3 (nI z) (nI (tk X)) (nI k) (nI y) val
  · intro q h1 h2
    rw [q_up_n _ _ _ _ h1, q_up_n _ _ _ _ h2, q_up_n _ _ _ _ h2, q_up_n _ _ _ _ h2, q_up_n _ _ _ _ h2, q_up_n _ _ _ _ h2]
  · intro j hj
    rw [q_up_s, upd_n hj]
    rw [q_up_n _ _ _ _ (by omega), q_up_n _ _ _ _ (by omega), q_up_n _ _ _ _ (by omega), q_up_n _ _ _ _ (by omega), q_up_n _ _ _ _ (by omega)]
theorem upd_upd {r : Nat → Int32} {j : Nat} {v w : Int32} : upd (upd r j v) j w = upd r j w := by
  funext i
  unfold upd
  split <;> rfl
theorem xNote {S : qS} (h2 : S 16 2 = 70) (h3 : isN (S 16) 3 70) (hN : nr (S 16) 3 < 70) (a b c d t : Int32) : fX4_note a b c d t S = some (nI (nr (S 16) 3), q_up (q_up (q_up (q_up (q_up (q_up (q_up S 17 (nr (S 16) 3) t) 18 (nr (S 16) 3) 10000) 16 3 (nI (nr (S 16) 3 + 1))) 19 (nr (S 16) 3) a) 20 (nr (S 16) 3) b) 21 (nr (S 16) 3) c) 22 (nr (S 16) 3) d) := by
  unfold fX4_note
  rw [zX5_begin_16 h2 h3 hN, Option.bind_some]
  dsimp only
  rw [if_neg (fun e => by
    have := (z_eq _ _).mp e
    rw [nI_toInt (by omega), z_m1] at this
    omega), if_pos (z_inb hN (by omega)), if_pos (z_inb hN (by omega)), if_pos (z_inb hN (by omega)), if_pos (z_inb hN (by omega)), nI_clamp (by omega)]
/-- a record that has no end is the one that is found now -/
theorem fd_now {X : qS} (h : WX X) {z n ty : Int32} {c : Nat} (hc : c < nC X) (k : cKey (X 19) (X 20) (X 21) z n ty c = true) (hu : X 18 c = 10000) : xFd X z n ty (nI (tk X)) = some c := by
  have hT := h.now.2
  obtain ⟨w1, w2, w3, w4, w5, w6, w7⟩ := h.2.2.2.1
  have tI : (nI (tk X)).toInt = (tk X : Int) := nI_toInt (by omega)
  refine (fst1_some _ _).mpr ⟨hc, ?_, fun j hj => ?_⟩
  · have := th_now hT (rf := X 17) (ru := X 18) ⟨(w3 c hc).1, (w3 c hc).2.1, (w3 c hc).2.2.1⟩
    rw [k, Bool.true_and]
    rw [show cTh (X 17 c) (X 18 c) (nI (tk X)) = decide (X 18 c = 10000) from this, decide_eq_true hu]
  · by_cases kj : cKey (X 19) (X 20) (X 21) z n ty j = true
    · have k1 := cKey_iff.mp kj
      have k2 := cKey_iff.mp k
      have := w5 j c hj hc ⟨k1.1.trans k2.1.symm, k1.2.1.trans k2.2.1.symm, k1.2.2.trans k2.2.2.symm⟩
      have b := (w3 c hc).1.2
      have : ¬ nI (tk X) < X 18 j := by
        rw [z_lt, isN_int (w3 j (Nat.lt_trans hj hc)).2.1 (by omega), tI]
        have e : nr (X 0) 6 = tk X := rfl
        omega
      simp [cTh, this]
    · simp [kj]
theorem fd_now_u {X : qS} (h : WX X) {z n ty : Int32} {c : Nat} (hf : xFd X z n ty (nI (tk X)) = some c) : X 18 c = 10000 := by
  have hT := h.now.2
  obtain ⟨hc, hp, _⟩ := (fst1_some _ _).mp hf
  obtain ⟨w1, w2, w3, _⟩ := h.2.2.2.1
  simp only [Bool.and_eq_true] at hp
  have := th_now hT (rf := X 17) (ru := X 18) (i := c) ⟨(w3 c hc).1, (w3 c hc).2.1, (w3 c hc).2.2.1⟩
  rw [hp.2] at this
  exact of_decide_eq_true this.symm
theorem xPut {X : qS} (h : WX X) {z k y : Nat} (hN : nC X < 70) (hz : z < nZ X) (hk : zNm k = true) (hy : y ≤ 2) {val : Int32} {w : Nat} (hw : w ≤ 999) (hv : val = nI w) (hal : y = 1 → zNm w = true) : ∃ X1, fX4_put (nI z) (nI k) (nI y) val (nI (tk X)) X = some X1 ∧ Chg X X1 z k y val := by
  have hT := h.now.2
  have hvn : ¬ val = -1 := by
    subst hv
    intro e
    have := (z_eq _ _).mp e
    rw [nI_toInt (by omega), z_m1] at this
    omega
  unfold fX4_put
  rw [zX_fd h, Option.bind_some]
  have w3 := h.2.2.2.1.2.2.1
  have closed : ∀ c, c < nC X → X 19 c = nI z → X 20 c = nI k → X 21 c = nI y → ¬ X 18 c = 10000 → nr (X 18) c ≤ tk X := by
    intro c hc _ _ _ hne
    rcases (w3 c hc).2.2.1 with q | q
    · exact q
    · exact absurd (by rw [(w3 c hc).2.1.1, q]; rfl) hne
  cases hf : xFd X (nI z) (nI k) (nI y) (nI (tk X)) with
  | none =>
    rw [show o2i none = -1 from rfl, zX5_endN_16 h.n3.2.2.1, Option.bind_some, xNote h.2.2.2.1.1 h.n3.2.2.1 hN, Option.bind_some]
    refine ⟨_, rfl, X 18, 10000, ?_, rfl, rfl, rfl, rfl, rfl, rfl, rfl, hN, hz, hk, hy, Or.inr ⟨hvn, rfl, w, hw, hv, hal⟩, fun c _ => Or.inl rfl, ?_⟩
    · intro q hq
      rw [q_up_n _ _ _ _ (by omega), q_up_n _ _ _ _ (by omega), q_up_n _ _ _ _ (by omega), q_up_n _ _ _ _ (by omega), q_up_n _ _ _ _ (by omega), q_up_n _ _ _ _ (by omega), q_up_n _ _ _ _ (by omega)]
    · intro c hc s1 s2 s3
      refine closed c hc s1 s2 s3 (fun hu => ?_)
      have := fd_now h hc (cKey_iff.mpr ⟨s1, s2, s3⟩) hu
      rw [hf] at this
      cases this
  | some j =>
    have hj := xFd_some hf
    have hju := fd_now_u h hf
    rw [show o2i (some j) = nI j from rfl, zX5_end_16 h.n3.2.2.1 hj.1, Option.bind_some, xNote (S := q_up X 18 j (nI (tk X))) h.2.2.2.1.1 h.n3.2.2.1 hN, Option.bind_some]
    refine ⟨_, rfl, upd (X 18) j (nI (tk X)), 10000, ?_, rfl, rfl, rfl, rfl, rfl, rfl, rfl, hN, hz, hk, hy, Or.inr ⟨hvn, rfl, w, hw, hv, hal⟩, ?_, ?_⟩
    · intro q hq
      rw [q_up_n _ _ _ _ (by omega), q_up_n _ _ _ _ (by omega), q_up_n _ _ _ _ (by omega), q_up_n _ _ _ _ (by omega), q_up_n _ _ _ _ (by omega), q_up_n _ _ _ _ (by omega), q_up_n _ _ _ _ (by omega), q_up_n _ _ _ _ (by omega)]
    · intro c hc
      by_cases q : c = j
      · subst q
        exact Or.inr ⟨upd_s, hju, hj.2.1, hj.2.2.1, hj.2.2.2⟩
      · exact Or.inl (upd_n q)
    · intro c hc s1 s2 s3
      by_cases q : c = j
      · subst q
        rw [nr_s (by omega)]; exact Nat.le_refl _
      · rw [nr_n q]
        refine closed c hc s1 s2 s3 (fun hu => ?_)
        have := fd_now h hc (cKey_iff.mpr ⟨s1, s2, s3⟩) hu
        rw [hf] at this
        cases this
        exact q rfl
theorem xDrop {X : qS} (h : WX X) {z k y : Nat} (hN : nC X < 70) (hz : z < nZ X) (hk : zNm k = true) (hy : y ≤ 2) {j : Nat} (hf : xFd X (nI z) (nI k) (nI y) (nI (tk X)) = some j) : ∃ X1, fX4_drop (nI j) (nI (tk X)) X = some X1 ∧ Chg X X1 z k y (-1) ∧ X1 22 j = X 22 j := by
  have hT := h.now.2
  have hj := xFd_some hf
  have hju := fd_now_u h hf
  have w3 := h.2.2.2.1.2.2.1
  have hb := h.c3.2
  unfold fX4_drop
  rw [zX5_isMade_16 h.n3.2.2.1, show cMd (nr (X 16) 3) (nI j) = true from cMd_nI hj.1 (show nC X < 2 ^ 31 by omega), Option.bind_some, if_pos rfl, zX5_end_16 h.n3.2.2.1 hj.1, Option.bind_some]
  have jl : j < 70 := by omega
  rw [if_pos (z_inb jl (by omega)), if_pos (z_inb jl (by omega)), if_pos (z_inb jl (by omega)), nI_clamp (by omega)]
  rw [show q_up X 18 j (nI (tk X)) 19 j = nI z from hj.2.1, show q_up X 18 j (nI (tk X)) 20 j = nI k from hj.2.2.1, show q_up X 18 j (nI (tk X)) 21 j = nI y from hj.2.2.2]
  rw [xNote (S := q_up X 18 j (nI (tk X))) h.2.2.2.1.1 h.n3.2.2.1 hN, Option.bind_some]
  dsimp only
  have e16 : nr (q_up X 18 j (nI (tk X)) 16) 3 = nC X := rfl
  rw [e16]
  have en : nr (upd (X 16) 3 (nI (nC X + 1))) 3 = nC X + 1 := nr_s (by omega)
  have h3' : isN (upd (X 16) 3 (nI (nC X + 1))) 3 70 := isN_s (by omega) (by omega)
  rw [zX5_end_16 (S := q_up (q_up (q_up (q_up (q_up (q_up (q_up (q_up X 18 j (nI (tk X))) 17 (nC X) (nI (tk X))) 18 (nC X) 10000) 16 3 (nI (nC X + 1))) 19 (nC X) (nI z)) 20 (nC X) (nI k)) 21 (nC X) (nI y)) 22 (nC X) (-1)) h3' (i := nC X) (by show nC X < nr (upd (X 16) 3 (nI (nC X + 1))) 3; omega), Option.bind_some]
  refine ⟨_, rfl, ⟨upd (X 18) j (nI (tk X)), nI (tk X), ?_, rfl, rfl, ?_, rfl, rfl, rfl, rfl, hN, hz, hk, hy, Or.inl ⟨rfl, rfl⟩, ?_, ?_⟩, ?_⟩
  · intro q hq
    rw [q_up_n _ _ _ _ (by omega), q_up_n _ _ _ _ (by omega), q_up_n _ _ _ _ (by omega), q_up_n _ _ _ _ (by omega), q_up_n _ _ _ _ (by omega), q_up_n _ _ _ _ (by omega), q_up_n _ _ _ _ (by omega), q_up_n _ _ _ _ (by omega), q_up_n _ _ _ _ (by omega)]
  · show upd (upd (upd (X 18) j (nI (tk X))) (nC X) 10000) (nC X) (nI (tk X)) = _
    rw [upd_upd]
  · intro c hc
    by_cases q : c = j
    · subst q
      exact Or.inr ⟨upd_s, hju, hj.2.1, hj.2.2.1, hj.2.2.2⟩
    · exact Or.inl (upd_n q)
  · intro c hc s1 s2 s3
    by_cases q : c = j
    · subst q
      rw [nr_s (by omega)]; exact Nat.le_refl _
    · rw [nr_n q]
      rcases (w3 c hc).2.2.1 with g | g
      · exact g
      · exfalso
        have hu : X 18 c = 10000 := by rw [(w3 c hc).2.1.1, g]; rfl
        have := fd_now h hc (cKey_iff.mpr ⟨s1, s2, s3⟩) hu
        rw [hf] at this
        cases this
        exact q rfl
  · show upd (X 22) (nC X) (-1) j = X 22 j
    rw [upd_n (by omega)]
