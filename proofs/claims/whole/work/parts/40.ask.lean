theorem lst_fst {P : Nat → Bool} {n : Nat} (h : ∀ i j, i < j → j < n → P i = true → P j = false) : lst1 P n = fst1 P n := by
  cases hf : fst1 P n with
  | none => exact (lst1_none n).mpr ((fst1_none n).mp hf)
  | some i =>
    obtain ⟨h1, h2, _⟩ := (fst1_some n i).mp hf
    cases hl : lst1 P n with
    | none =>
      have := (lst1_none n).mp hl i h1
      rw [this] at h2
      cases h2
    | some j =>
      obtain ⟨g1, g2, g3⟩ := lst1_some n j hl
      rcases Nat.lt_trichotomy i j with q | q | q
      · have := h i j q g1 h2
        rw [this] at g2
        cases g2
      · rw [q]
      · have := g3 i q h1
        rw [this] at h2
        cases h2
section
variable {X S : qS}
theorem LUc {X1 : qS} (e : ∀ q, q < 23 → X1 q = X q) (v : Int32) (k : Nat) (ty t : Int32) : xLU X1 v k ty t = xLU X v k ty t := by
  have rs : ∀ k, xRs X1 v k t = xRs X v k t := fun k => by
    unfold xRs nZ
    rw [e 10 (by omega), e 11 (by omega), e 12 (by omega), e 13 (by omega), e 14 (by omega)]
  have ex : ∀ z k, xEx X1 z k t = xEx X z k t := fun z k => by
    unfold xEx nC
    rw [e 16 (by omega), e 17 (by omega), e 18 (by omega), e 19 (by omega), e 20 (by omega)]
  have fd : ∀ z n ty, xFd X1 z n ty t = xFd X z n ty t := fun z n ty => by
    unfold xFd nC
    rw [e 16 (by omega), e 17 (by omega), e 18 (by omega), e 19 (by omega), e 20 (by omega), e 21 (by omega)]
  have st : ∀ z k, xSt X1 z k t = xSt X z k t := fun z k => by
    unfold xSt
    rw [ex, ex, e 14 (by omega)]
  have rb : ∀ r k, xRB X1 v ty t r k = xRB X v ty t r k := by
    intro r
    induction r with
    | zero => intro k; rfl
    | succ r ih =>
      intro k
      unfold xRB
      rw [rs]
      cases xRs X v k t with
      | none => rfl
      | some z =>
        dsimp only
        rw [st]
        cases xSt X z k t with
        | none => rfl
        | some s =>
          dsimp only
          rw [fd, fd]
          cases xFd X (nI z) (nI s) ty t with
          | some c => rfl
          | none =>
            dsimp only
            cases xFd X (nI z) (nI s) 1 t with
            | none => rfl
            | some c =>
              dsimp only
              rw [e 22 (by omega)]
              exact ih _
  unfold xLU
  rw [rb]
  unfold rbV
  rw [e 22 (by omega)]
theorem VAc {X1 : qS} (e : ∀ q, q < 23 → X1 q = X q) (a t : Int32) : xVA X1 a t = xVA X a t := by
  unfold xVA nN
  rw [e 2 (by omega), e 3 (by omega), e 4 (by omega), e 5 (by omega), e 6 (by omega), e 7 (by omega)]
def kApp (X : qS) (a b c r t : Int32) : qS := q_up (q_up (q_up (q_up (q_up (q_up X 24 (nK X) a) 25 (nK X) b) 26 (nK X) c) 27 (nK X) r) 28 (nK X) t) 23 5 (nI (nK X + 1))
def mApp (S : qS) (n : Nat) (a b c r t : Int32) : qS := q_up (q_up (q_up (q_up (q_up (q_up S 38 (5 * n) a) 38 (5 * n + 1) b) 38 (5 * n + 2) c) 38 (5 * n + 3) r) 38 (5 * n + 4) t) 34 8 (nI (n + 1))
theorem Mk.add {n : Nat} {r24 r25 r26 r27 r28 m : Nat → Int32} (h : Mk n r24 r25 r26 r27 r28 m) (a b c d t : Int32) : Mk (n + 1) (upd r24 n a) (upd r25 n b) (upd r26 n c) (upd r27 n d) (upd r28 n t) (upd (upd (upd (upd (upd m (5 * n) a) (5 * n + 1) b) (5 * n + 2) c) (5 * n + 3) d) (5 * n + 4) t) := by
  intro i hi
  by_cases q : i = n
  · subst q
    refine ⟨?_, ?_, ?_, ?_, ?_⟩
    · rw [upd_n (by omega), upd_n (by omega), upd_n (by omega), upd_n (by omega), upd_s, upd_s]
    · rw [upd_n (by omega), upd_n (by omega), upd_n (by omega), upd_s, upd_s]
    · rw [upd_n (by omega), upd_n (by omega), upd_s, upd_s]
    · rw [upd_n (by omega), upd_s, upd_s]
    · rw [upd_s, upd_s]
  · obtain ⟨e0, e1, e2, e3, e4⟩ := h i (by omega)
    refine ⟨?_, ?_, ?_, ?_, ?_⟩
    · rw [upd_n (by omega), upd_n (by omega), upd_n (by omega), upd_n (by omega), upd_n (by omega), upd_n q, e0]
    · rw [upd_n (by omega), upd_n (by omega), upd_n (by omega), upd_n (by omega), upd_n (by omega), upd_n q, e1]
    · rw [upd_n (by omega), upd_n (by omega), upd_n (by omega), upd_n (by omega), upd_n (by omega), upd_n q, e2]
    · rw [upd_n (by omega), upd_n (by omega), upd_n (by omega), upd_n (by omega), upd_n (by omega), upd_n q, e3]
    · rw [upd_n (by omega), upd_n (by omega), upd_n (by omega), upd_n (by omega), upd_n (by omega), upd_n q, e4]
theorem app_both (h : Rl X S) (hn : nK X < 6) {α k y : Nat} (hα : α ≤ 255) (hk : zNm k = true) (hy : y ≤ 2) (hfree : ∀ i, i < nK X → kKey X (nI α) (nI k) (nI y) i = false) (r t : Int32) : Rl (kApp X (nI α) (nI k) (nI y) r t) (mApp S (nK X) (nI α) (nI k) (nI y) r t) := by
  have hk' := zNm_lt hk
  have en : nr (upd (X 23) 5 (nI (nK X + 1))) 5 = nK X + 1 := nr_s (by omega)
  refine ⟨⟨h.1.1, h.1.2.1, h.1.2.2.1, h.1.2.2.2.1, ?_, h.1.2.2.2.2.2⟩, ?_⟩
  · obtain ⟨k1, k2, k3⟩ := h.1.2.2.2.2.1
    show Wk (upd (X 23) 5 (nI (nK X + 1))) (upd (X 24) (nK X) (nI α)) (upd (X 25) (nK X) (nI k)) (upd (X 26) (nK X) (nI y))
    unfold Wk
    rw [en]
    refine ⟨isN_s (by omega) (by omega), fun i hi => ?_, fun i j hij hj hkk => ?_⟩
    · by_cases q : i = nK X
      · subst q
        refine ⟨isN_s hα (by omega), isN_s (by omega) (by omega), ?_, isN_s hy (by omega)⟩
        rw [nr_s (by omega)]; exact hk
      · obtain ⟨c1, c2, c3, c4⟩ := k2 i (by show i < nK X; omega)
        exact ⟨(isN_n q).mpr c1, (isN_n q).mpr c2, by rw [nr_n q]; exact c3, (isN_n q).mpr c4⟩
    · have qi : i ≠ nK X := by omega
      rw [upd_n qi, upd_n qi, upd_n qi] at hkk
      by_cases q : j = nK X
      · subst q
        rw [upd_s, upd_s, upd_s] at hkk
        have := hfree i (by omega)
        rw [kKey_iff.mpr hkk] at this
        cases this
      · rw [upd_n q, upd_n q, upd_n q] at hkk
        exact k3 i j hij (by show j < nK X; omega) hkk
  · obtain ⟨⟨a0, a1, a2, a3, a4, a5, a6, a7⟩, b1, b2, b3, b4, b5⟩ := h.2
    refine ⟨⟨a0, a1, a2, a3, ?_, ?_, ?_, a7⟩, b1, b2, b3, ?_, b5⟩
    · show upd (S 34) 8 (nI (nK X + 1)) 8 = upd (X 23) 5 (nI (nK X + 1)) 5
      rw [upd_s, upd_s]
    · show S 34 9 = upd (X 23) 5 (nI (nK X + 1)) 7
      rw [upd_n (by decide)]; exact a5
    · show S 34 10 = upd (X 23) 5 (nI (nK X + 1)) 6
      rw [upd_n (by decide)]; exact a6
    · show Mk (nr (upd (X 23) 5 (nI (nK X + 1))) 5) _ _ _ _ _ _
      rw [en]
      exact Mk.add b4 (nI α) (nI k) (nI y) r t
/-- the class keeps an answer: first one may go -/
theorem xApp (h : WX X) (hn : nK X < 6) (a b c r t : Int32) : (if q_inb (X 23 5) 6 = true then if q_inb (X 23 5) 6 = true then if q_inb (X 23 5) 6 = true then if q_inb (X 23 5) 6 = true then if q_inb (X 23 5) 6 = true then some (q_up (q_up (q_up (q_up (q_up (q_up X 24 (X 23 5).toNatClampNeg a) 25 (X 23 5).toNatClampNeg b) 26 (X 23 5).toNatClampNeg c) 27 (X 23 5).toNatClampNeg r) 28 (X 23 5).toNatClampNeg t) 23 5 (X 23 5 + 1)) else none else none else none else none else none) = some (kApp X a b c r t) := by
  rw [h.k3.1, if_pos (z_inb hn (by omega)), if_pos (z_inb hn (by omega)), if_pos (z_inb hn (by omega)), if_pos (z_inb hn (by omega)), if_pos (z_inb hn (by omega)), nI_clamp (by omega), nI_1]
  rfl
/-- the reference finds and keeps an answer -/
theorem mTail {X1 S1 : qS} (h : Rl X1 S1) (hn : nK X1 < 6) {α k y : Nat} (hα : α ≤ 255) (hk : zNm k = true) (hy : y ≤ 2) (hfree : ∀ i, i < nK X1 → kKey X1 (nI α) (nI k) (nI y) i = false) : ∃ S2, ((fX9_viewAt (nI α) (S1 34 0) S1).bind fun r164 => (fX9_finds r164 (nI k) (nI y) (S1 34 0) S1).bind fun (r173, T173) => if q_inb (5 * (T173 34 8)) 30 = true then if q_inb ((5 * (T173 34 8)) + 1) 30 = true then if q_inb ((5 * (T173 34 8)) + 2) 30 = true then if q_inb ((5 * (T173 34 8)) + 3) 30 = true then if q_inb ((5 * (T173 34 8)) + 4) 30 = true then some (r173, (q_up (q_up (q_up (q_up (q_up (q_up T173 38 ((5 * (T173 34 8)).toNatClampNeg) (nI α)) 38 (((5 * (T173 34 8)) + 1).toNatClampNeg) (nI k)) 38 (((5 * (T173 34 8)) + 2).toNatClampNeg) (nI y)) 38 (((5 * (T173 34 8)) + 3).toNatClampNeg) r173) 38 (((5 * (T173 34 8)) + 4).toNatClampNeg) (T173 34 0)) 34 8 ((T173 34 8) + 1))) else none else none else none else none else none) = some (xLU X1 (xVA X1 (nI α) (nI (tk X1))) k (nI y) (nI (tk X1)), S2) ∧ Rl (kApp X1 (nI α) (nI k) (nI y) (xLU X1 (xVA X1 (nI α) (nI (tk X1))) k (nI y) (nI (tk X1))) (X1 0 6)) S2 ∧ ∀ q, q < 34 → S2 q = S1 q := by
  obtain ⟨S', e1, s1⟩ := mFi h (xVA X1 (nI α) (nI (tk X1))) hk (nI y) (Nat.le_refl (tk X1))
  have h' := h.scr s1
  refine ⟨mApp S' (nK X1) (nI α) (nI k) (nI y) (xLU X1 (xVA X1 (nI α) (nI (tk X1))) k (nI y) (nI (tk X1))) (X1 0 6), ?_, app_both h' hn hα hk hy hfree _ _, ?_⟩
  · rw [h.now, mVw h (nI α) (Nat.le_refl _), Option.bind_some, e1, Option.bind_some]
    dsimp only
    rw [h'.k8, z_5, z_p1, z_p2, z_p3, z_p4, if_pos (z_inb (by omega) (by omega)), if_pos (z_inb (by omega) (by omega)), if_pos (z_inb (by omega) (by omega)), if_pos (z_inb (by omega) (by omega)), if_pos (z_inb (by omega) (by omega)), nI_clamp (by omega), nI_clamp (by omega), nI_clamp (by omega), nI_clamp (by omega), nI_clamp (by omega), nI_1, h'.2.1.1]
    rfl
  · intro q hq
    unfold mApp
    rw [q_up_n _ _ _ _ (by omega), q_up_n _ _ _ _ (by omega), q_up_n _ _ _ _ (by omega), q_up_n _ _ _ _ (by omega), q_up_n _ _ _ _ (by omega), q_up_n _ _ _ _ (by omega)]
    exact s1.lo q hq
end
theorem nI_nm1 {n : Nat} (h : n < 2 ^ 31) : ¬ nI n = -1 := by
  intro e
  have := (z_eq _ _).mp e
  rw [nI_toInt h, z_m1] at this
  omega
theorem w_ask {S : qS} (h : Rl S S) (a b c : Int32) : Wr (fX8_ask a b c) (fX9_ask a b c) S := by
  have hb := h.1.k3.2
  have hT := h.1.now
  cases h1 : cRg 0 255 a with
  | false =>
    refine Wr.no (r := -1) h ?_ ?_
    · unfold fX8_ask; rw [zX_isAddress, h1]; rfl
    · unfold fX9_ask; rw [zM_isAddress, h1]; rfl
  | true =>
    cases h2 : (zN b && cRg 0 2 c) with
    | false =>
      refine Wr.no (r := -1) h ?_ ?_
      · unfold fX8_ask; rw [zX_isAddress, h1, Option.bind_some, if_pos rfl, zX_isQuestion, h2]; rfl
      · unfold fX9_ask; rw [zM_isAddress, h1, Option.bind_some, if_pos rfl, zM_isQuestion, h2]; rfl
    | true =>
      have h2' := h2
      rw [Bool.and_eq_true] at h2'
      obtain ⟨k, hk125, hk, rfl⟩ := zN_of h2'.1
      obtain ⟨y, -, hy, rfl⟩ := cRg_of (lo := 0) (hi := 2) (l := 0) (k := 2) (by decide) (by decide) (by omega) h2'.2
      obtain ⟨α, -, hα, rfl⟩ := cRg_of (lo := 0) (hi := 255) (l := 0) (k := 255) (by decide) (by decide) (by omega) h1
      have xh : fX8_ask (nI α) (nI k) (nI y) S = if o2i (xKf S (nI α) (nI k) (nI y)) = -1 then (fX8_answerFor (nI α) (nI k) (nI y) (S 0 6) S).bind (fun r83 => (fX1_keep (nI α) (nI k) (nI y) r83 (S 0 6) S).bind (fun T101 => some (r83, T101))) else (fX1_isFresh (o2i (xKf S (nI α) (nI k) (nI y))) (S 0 6) S).bind (fun r45 => if r45 = true then if q_inb (o2i (xKf S (nI α) (nI k) (nI y))) 6 = true then some ((S 27 (o2i (xKf S (nI α) (nI k) (nI y))).toNatClampNeg), (q_up S 23 6 ((S 23 6) + 1))) else none else (fX8_answerFor (nI α) (nI k) (nI y) (S 0 6) S).bind (fun r83 => (fX1_keep (nI α) (nI k) (nI y) r83 (S 0 6) S).bind (fun T101 => some (r83, T101)))) := by
        unfold fX8_ask
        rw [zX_isAddress, h1, Option.bind_some, if_pos rfl, zX_isQuestion, h2, Option.bind_some, if_pos rfl, xKfind h.1, Option.bind_some]
      -- the reference's loop
      have mh : ∀ S', Rl S S' → ∃ f, fX9_ask (nI α) (nI k) (nI y) S' = fX9_ask_25 (nI α) (nI k) (nI y) (f + 1) (o2i (xKf S (nI α) (nI k) (nI y))) (nI (nK S)) S' := by
        intro S' hR
        unfold fX9_ask
        rw [zM_isAddress, h1, Option.bind_some, if_pos rfl, zM_isQuestion, h2, show (cRg 0 3 0 && true) = true from rfl, Option.bind_some, if_pos rfl]
        have key : ∀ r i f, i + r = nK S → r < f → ∃ f', fX9_ask_25 (nI α) (nI k) (nI y) f (o2i (lst1 (kKey S (nI α) (nI k) (nI y)) i)) (nI i) S' = fX9_ask_25 (nI α) (nI k) (nI y) (f' + 1) (o2i (lst1 (kKey S (nI α) (nI k) (nI y)) (nK S))) (nI (nK S)) S' := by
          intro r
          induction r with
          | zero =>
            intro i f hi hf
            have : i = nK S := by omega
            subst this
            exact ⟨f - 1, by rw [show f - 1 + 1 = f by omega]⟩
          | succ r ih =>
            intro i f hi hf
            obtain ⟨f, rfl⟩ : ∃ g, f = g + 1 := ⟨f - 1, by omega⟩
            have hi' : i < nK S := by omega
            obtain ⟨e0, e1, e2, e3, e4⟩ := hR.2.2.2.2.2.1 i hi'
            obtain ⟨f', ef⟩ := ih (i + 1) f (by omega) (by omega)
            refine ⟨f', ?_⟩
            rw [← ef, fX9_ask_25, hR.k8, if_neg (nI_ge hi' (by omega))]
            have d0 : (nI (5 * i)).toNatClampNeg = 5 * i := nI_clamp (by omega)
            have d1 : (nI (5 * i + 1)).toNatClampNeg = 5 * i + 1 := nI_clamp (by omega)
            have d2 : (nI (5 * i + 2)).toNatClampNeg = 5 * i + 2 := nI_clamp (by omega)
            simp only [z_5, z_p1, z_p2, d0, d1, d2, e0, e1, e2, if_pos (z_inb (show 5 * i < 30 by omega) (show 30 < 2 ^ 31 by omega)), if_pos (z_inb (show 5 * i + 1 < 30 by omega) (show 30 < 2 ^ 31 by omega)), if_pos (z_inb (show 5 * i + 2 < 30 by omega) (show 30 < 2 ^ 31 by omega))]
            have ls : lst1 (kKey S (nI α) (nI k) (nI y)) (i + 1) = if kKey S (nI α) (nI k) (nI y) i = true then some i else lst1 (kKey S (nI α) (nI k) (nI y)) i := rfl
            rw [ls]
            unfold kKey
            by_cases q1 : S 24 i = nI α
            · rw [if_pos q1]
              by_cases q2 : S 25 i = nI k
              · rw [if_pos q2]
                by_cases q3 : S 26 i = nI y
                · rw [if_pos q3, if_pos (by simp [q1, q2, q3])]; rfl
                · rw [if_neg q3, if_neg (by simp [q3])]
              · rw [if_neg q2, if_neg (by simp [q2])]
            · rw [if_neg q1, if_neg (by simp [q1])]
        obtain ⟨f', ef⟩ := key (nK S) 0 20000 (by omega) (by omega)
        refine ⟨f', ?_⟩
        have lf : lst1 (kKey S (nI α) (nI k) (nI y)) (nK S) = xKf S (nI α) (nI k) (nI y) := by
          refine lst_fst (fun i j hij hj hp => ?_)
          cases hq : kKey S (nI α) (nI k) (nI y) j with
          | false => rfl
          | true =>
            exfalso
            have p1 := kKey_iff.mp hp
            have p2 := kKey_iff.mp hq
            exact h.1.2.2.2.2.1.2.2 i j hij hj ⟨p1.1.trans p2.1.symm, p1.2.1.trans p2.2.1.symm, p1.2.2.trans p2.2.2.symm⟩
        rw [lf, show o2i (lst1 (kKey S (nI α) (nI k) (nI y)) 0) = -1 from rfl, show nI 0 = (0 : Int32) from rfl] at ef
        exact ef
      have aX : fX8_answerFor (nI α) (nI k) (nI y) (S 0 6) S = some (xLU S (xVA S (nI α) (nI (tk S))) k (nI y) (nI (tk S))) := xAns h.1 (nI α) hk (nI y)
      generalize hr : xLU S (xVA S (nI α) (nI (tk S))) k (nI y) (nI (tk S)) = r at aX
      -- an answer is dropped, a new one found and kept
      have dropped : ∀ p, p < nK S → (∀ j, j < nK S → j ≠ p → kKey S (nI α) (nI k) (nI y) j = false) → ∃ X1, fX1_forget (nI p) S = some X1 ∧ WX X1 ∧ nK X1 < 6 ∧ (∀ q, q < 23 ∨ 28 < q → X1 q = S q) ∧ ∃ S2, ((fX9_drops (nI p) (kApp X1 (nI α) (nI k) (nI y) r (S 0 6))).bind fun T154 => (fX9_viewAt (nI α) (T154 34 0) T154).bind fun r164 => (fX9_finds r164 (nI k) (nI y) (T154 34 0) T154).bind fun (r173, T173) => if q_inb (5 * (T173 34 8)) 30 = true then if q_inb ((5 * (T173 34 8)) + 1) 30 = true then if q_inb ((5 * (T173 34 8)) + 2) 30 = true then if q_inb ((5 * (T173 34 8)) + 3) 30 = true then if q_inb ((5 * (T173 34 8)) + 4) 30 = true then some (r173, (q_up (q_up (q_up (q_up (q_up (q_up T173 38 ((5 * (T173 34 8)).toNatClampNeg) (nI α)) 38 (((5 * (T173 34 8)) + 1).toNatClampNeg) (nI k)) 38 (((5 * (T173 34 8)) + 2).toNatClampNeg) (nI y)) 38 (((5 * (T173 34 8)) + 3).toNatClampNeg) r173) 38 (((5 * (T173 34 8)) + 4).toNatClampNeg) (T173 34 0)) 34 8 ((T173 34 8) + 1))) else none else none else none else none else none) = some (r, S2) ∧ Rl S2 S2 := by
        intro p hp hother
        obtain ⟨X1, f1, f2⟩ := xForget h.1 hp
        have lo : ∀ q, q < 23 → X1 q = S q := fun q hq => f2.1 q (Or.inl hq)
        have hRk : Rl S (kApp X1 (nI α) (nI k) (nI y) r (S 0 6)) := h.hi (fun q hq => by
          unfold kApp
          rw [q_up_n _ _ _ _ (by omega), q_up_n _ _ _ _ (by omega), q_up_n _ _ _ _ (by omega), q_up_n _ _ _ _ (by omega), q_up_n _ _ _ _ (by omega), q_up_n _ _ _ _ (by omega)]
          exact f2.1 q (Or.inr (by omega)))
        obtain ⟨S1, g1, g2, g3, g4⟩ := mDrops hRk hp
        obtain ⟨d1, d2, d3⟩ := drop_both hRk hp f2 g2 g3 g4
        have nf : ∀ i, i < nK X1 → kKey X1 (nI α) (nI k) (nI y) i = false := by
          intro i hi
          rw [d2] at hi
          obtain ⟨j, hj, hjp, e1, e2, e3⟩ := d3 i hi
          have := hother j hj hjp
          unfold kKey at this ⊢
          rw [e1, e2, e3]; exact this
        obtain ⟨S2, t1, t2, t3⟩ := mTail d1 (show nK X1 < 6 by omega) hα hk hy nf
        have tkk : tk X1 = tk S := by unfold tk; rw [lo 0 (by omega)]
        rw [tkk, VAc lo, LUc lo, hr] at t1 t2
        rw [lo 0 (by omega)] at t2
        refine ⟨X1, f1, d1.1, by omega, f2.1, S2, ?_, ?_⟩
        · rw [g1, Option.bind_some]
          exact t1
        · refine t2.lo (fun q hq => ?_)
          rw [t3 q hq, g2 q (by omega) (by omega)]
      have hro : (S 0 6 : Int32) = nI (tk S) := hT.1
      -- the three ways to keep
      cases hf : xKf S (nI α) (nI k) (nI y) with
      | some p =>
        have hp := (fst1_some _ _).mp hf
        have hp1 : p < nK S := hp.1
        by_cases hfr : xFr S p = true
        · -- a hit
          obtain ⟨f, ef⟩ := mh (q_up S 23 6 (S 23 6 + 1)) (h.hi (fun q hq => q_up_n _ _ _ _ (by omega)))
          have hR1 : Rl S (q_up S 23 6 (S 23 6 + 1)) := h.hi (fun q hq => q_up_n _ _ _ _ (by omega))
          obtain ⟨e0, e1, e2, e3, e4⟩ := h.2.2.2.2.2.1 p hp1
          obtain ⟨⟨a0, a1, a2, a3, a4, a5, a6, a7⟩, b1, b2, b3, b4, b5⟩ := h.2
          refine ⟨S 27 p, q_up S 23 6 (S 23 6 + 1), q_up (q_up S 23 6 (S 23 6 + 1)) 34 10 (S 23 6 + 1), ?_, ?_, ?_⟩
          · rw [xh, hf, show o2i (some p) = nI p from rfl, if_neg (nI_nm1 (by omega)), xFresh h.1 hp1, Option.bind_some, if_pos hfr, if_pos (z_inb (by omega) (by omega)), nI_clamp (by omega)]
          · rw [ef, hf, show o2i (some p) = nI p from rfl, fX9_ask_25, hR1.k8, if_pos (nI_le (Nat.le_refl _) (by omega)), if_neg (nI_pos (by omega)), mYoung hR1 hp1, Option.bind_some, if_pos hfr, z_5, z_p3, if_pos (z_inb (by omega) (by omega)), nI_clamp (by omega)]
            show some (S 38 (5 * p + 3), q_up (q_up S 23 6 (S 23 6 + 1)) 34 10 (S 34 10 + 1)) = _
            rw [e3, a6]
          · have en : nr (upd (S 23) 6 (S 23 6 + 1)) 5 = nr (S 23) 5 := nr_n (by decide)
            refine ⟨⟨h.1.1, h.1.2.1, h.1.2.2.1, h.1.2.2.2.1, ?_, h.1.2.2.2.2.2⟩, ⟨a0, a1, a2, a3, ?_, ?_, ?_, a7⟩, b1, b2, b3, ?_, b5⟩
            · show Wk (upd (S 23) 6 (S 23 6 + 1)) _ _ _
              unfold Wk
              rw [en, isN_n (by decide)]
              exact h.1.2.2.2.2.1
            · show S 34 8 = upd (S 23) 6 (S 23 6 + 1) 5
              rw [upd_n (by decide)]; exact a4
            · show S 34 9 = upd (S 23) 6 (S 23 6 + 1) 7
              rw [upd_n (by decide)]; exact a5
            · show upd (S 34) 10 (S 23 6 + 1) 10 = upd (S 23) 6 (S 23 6 + 1) 6
              rw [upd_s, upd_s]
            · show Mk (nr (upd (S 23) 6 (S 23 6 + 1)) 5) _ _ _ _ _ _
              rw [en]; exact b4
        · -- an old one is there
          have hother : ∀ j, j < nK S → j ≠ p → kKey S (nI α) (nI k) (nI y) j = false := by
            intro j hj hjp
            rcases Nat.lt_or_ge j p with q | q
            · exact hp.2.2 j q
            · cases hq : kKey S (nI α) (nI k) (nI y) j with
              | false => rfl
              | true =>
                exfalso
                have p1 := kKey_iff.mp hp.2.1
                have p2 := kKey_iff.mp hq
                exact h.1.2.2.2.2.1.2.2 p j (by omega) hj ⟨p1.1.trans p2.1.symm, p1.2.1.trans p2.2.1.symm, p1.2.2.trans p2.2.2.symm⟩
          obtain ⟨X1, f1, wx1, n1, fr1, S2, t1, t2⟩ := dropped p hp1 hother
          have hRk : Rl S (kApp X1 (nI α) (nI k) (nI y) r (S 0 6)) := h.hi (fun q hq => by
            unfold kApp
            rw [q_up_n _ _ _ _ (by omega), q_up_n _ _ _ _ (by omega), q_up_n _ _ _ _ (by omega), q_up_n _ _ _ _ (by omega), q_up_n _ _ _ _ (by omega), q_up_n _ _ _ _ (by omega)]
            exact fr1 q (Or.inr (by omega)))
          obtain ⟨f, ef⟩ := mh _ hRk
          refine ⟨r, kApp X1 (nI α) (nI k) (nI y) r (S 0 6), S2, ?_, ?_, t2⟩
          · rw [xh, hf, show o2i (some p) = nI p from rfl, if_neg (nI_nm1 (by omega)), xFresh h.1 hp1, Option.bind_some, if_neg hfr, aX, Option.bind_some]
            unfold fX1_keep
            rw [xKfind h.1, hf, show o2i (some p) = nI p from rfl, Option.bind_some, if_neg (nI_nm1 (by omega)), f1, Option.bind_some, xApp wx1 n1]
            rfl
          · rw [ef, hf, show o2i (some p) = nI p from rfl, fX9_ask_25, hRk.k8, if_pos (nI_le (Nat.le_refl _) (by omega)), if_neg (nI_pos (by omega)), mYoung hRk hp1, Option.bind_some, if_neg hfr, if_pos (nI_pos' (by omega)), if_neg (nI_pos (by omega))]
            exact t1
      | none =>
        have hn0 := (fst1_none _).mp hf
        by_cases h6 : nK S = 6
        · obtain ⟨X1, f1, wx1, n1, fr1, S2, t1, t2⟩ := dropped 0 (by omega) (fun j hj _ => hn0 j hj)
          have hRk : Rl S (kApp X1 (nI α) (nI k) (nI y) r (S 0 6)) := h.hi (fun q hq => by
            unfold kApp
            rw [q_up_n _ _ _ _ (by omega), q_up_n _ _ _ _ (by omega), q_up_n _ _ _ _ (by omega), q_up_n _ _ _ _ (by omega), q_up_n _ _ _ _ (by omega), q_up_n _ _ _ _ (by omega)]
            exact fr1 q (Or.inr (by omega)))
          obtain ⟨f, ef⟩ := mh _ hRk
          refine ⟨r, kApp X1 (nI α) (nI k) (nI y) r (S 0 6), S2, ?_, ?_, t2⟩
          · rw [xh, hf, if_pos (show o2i none = -1 from rfl), aX, Option.bind_some]
            unfold fX1_keep
            rw [xKfind h.1, hf, Option.bind_some, if_pos (show o2i none = -1 from rfl), h.1.k3.1, h6, if_neg (show ¬ nI 6 < (6 : Int32) by decide), show (0 : Int32) = nI 0 from rfl, f1, Option.bind_some, xApp wx1 n1]
            rfl
          · rw [ef, hf, show o2i none = -1 from rfl, fX9_ask_25, hRk.k8, if_pos (nI_le (Nat.le_refl _) (by omega)), if_pos (by decide), if_neg (by decide), h6, if_pos (by decide), if_pos (by decide)]
            exact t1
        · have n6 : nK S < 6 := by omega
          have hRk : Rl S (kApp S (nI α) (nI k) (nI y) r (S 0 6)) := h.hi (fun q hq => by
            unfold kApp
            rw [q_up_n _ _ _ _ (by omega), q_up_n _ _ _ _ (by omega), q_up_n _ _ _ _ (by omega), q_up_n _ _ _ _ (by omega), q_up_n _ _ _ _ (by omega), q_up_n _ _ _ _ (by omega)])
          obtain ⟨S2, t1, t2, t3⟩ := mTail hRk n6 hα hk hy hn0
          rw [hr] at t1 t2
          obtain ⟨f, ef⟩ := mh _ hRk
          refine ⟨r, kApp S (nI α) (nI k) (nI y) r (S 0 6), S2, ?_, ?_, t2.lo t3⟩
          · rw [xh, hf, if_pos (show o2i none = -1 from rfl), aX, Option.bind_some]
            unfold fX1_keep
            rw [xKfind h.1, hf, Option.bind_some, if_pos (show o2i none = -1 from rfl), if_pos (show S 23 5 < 6 by rw [h.1.k3.1]; exact nI_lt (b := 6) n6 (by omega)), xApp h.1 n6]
            rfl
          · rw [ef, hf, show o2i none = -1 from rfl, fX9_ask_25, hRk.k8, if_pos (nI_le (Nat.le_refl _) (by omega)), if_pos (by decide), if_neg (by decide), if_neg (show ¬ nI (nK S) = (6 : Int32) from fun e => h6 (nI_inj (b := 6) (by omega) (by omega) e))]
            exact t1
