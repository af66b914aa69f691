section
variable {X S : qS}
theorem WX.k3 (h : WX X) : X 23 5 = nI (nK X) ∧ nK X ≤ 6 := h.n3.2.2.2.1
theorem Rl.k8 (h : Rl X S) : S 34 8 = nI (nK X) := by rw [h.2.1.2.2.2.2.1]; exact h.1.k3.1
def kKey (X : qS) (a b c : Int32) (i : Nat) : Bool := decide (X 24 i = a) && decide (X 25 i = b) && decide (X 26 i = c)
def xKf (X : qS) (a b c : Int32) : Option Nat := fst1 (kKey X a b c) (nK X)
theorem kKey_iff {a b c : Int32} {i : Nat} : kKey X a b c i = true ↔ X 24 i = a ∧ X 25 i = b ∧ X 26 i = c := by
  simp [kKey, and_assoc]
theorem xKfind (h : WX X) (a b c : Int32) : fX1_find a b c X = some (o2i (xKf X a b c)) := by
  have hb := h.k3.2
  unfold fX1_find
  rw [lp_fst (nK X) (kKey X a b c) (fun f i => fX1_find_3 a b c f i X) (fun i => some (nI i)) (some (-1)) ?_ ?_ 20000 (by omega)]
  · unfold xKf
    cases fst1 _ (nK X) <;> rfl
  · intro f i hi
    show fX1_find_3 a b c (f + 1) (nI i) X = _
    rw [fX1_find_3, h.k3.1, if_neg (nI_ge hi (by omega))]
    simp only [if_pos (z_inb (show i < 6 by omega) (show 6 < 2 ^ 31 by omega)), nI_clamp (show i < 2 ^ 31 by omega), nI_1]
    unfold kKey
    by_cases q1 : X 24 i = a
    · rw [if_pos q1]
      by_cases q2 : X 25 i = b
      · rw [if_pos q2]
        by_cases q3 : X 26 i = c
        · rw [if_pos q3, if_pos (by simp [q1, q2, q3])]
        · rw [if_neg q3, if_neg (by simp [q3])]
      · rw [if_neg q2, if_neg (by simp [q2])]
    · rw [if_neg q1, if_neg (by simp [q1])]
  · intro f
    show fX1_find_3 a b c (f + 1) (nI (nK X)) X = _
    rw [fX1_find_3, h.k3.1, if_pos (nI_le (Nat.le_refl _) (by omega))]
def xFr (X : qS) (i : Nat) : Bool := !decide (X 23 7 < X 0 6 - X 28 i)
theorem xFresh (h : WX X) {i : Nat} (hi : i < nK X) : fX1_isFresh (nI i) (X 0 6) X = some (xFr X i) := by
  have hb := h.k3.2
  unfold fX1_isFresh xFr
  rw [if_pos (z_inb (by omega) (by omega)), nI_clamp (by omega)]
  by_cases q : X 23 7 < X 0 6 - X 28 i
  · rw [if_pos q, decide_eq_true q]; rfl
  · rw [if_neg q, decide_eq_false q]; rfl
theorem mYoung (h : Rl X S) {i : Nat} (hi : i < nK X) : fX9_isYoung (nI i) S = some (xFr X i) := by
  have hb := h.1.k3.2
  unfold fX9_isYoung xFr
  rw [z_5, z_p4, if_pos (z_inb (by omega) (by omega)), nI_clamp (by omega), (h.2.2.2.2.2.1 i hi).2.2.2.2, h.2.1.2.2.2.2.2.1, h.2.1.1]
  by_cases q : X 23 7 < X 0 6 - X 28 i
  · rw [if_pos q, decide_eq_true q]; rfl
  · rw [if_neg q, decide_eq_false q]; rfl
theorem xAns (h : WX X) (a : Int32) {k : Nat} (hk : zNm k = true) (ty : Int32) : fX8_answerFor a (nI k) ty (X 0 6) X = some (xLU X (xVA X a (nI (tk X))) k ty (nI (tk X))) := by
  unfold fX8_answerFor
  rw [xVw h, Option.bind_some, h.now.1, xLk h _ hk ty (Nat.le_refl _)]
  rfl
theorem stale_lock (n : Nat) : ∀ r i f f' c S, i + r = nK X → n = nK X → r < f → r < f' → Rl X S → ∃ v S', fX8_stale_4 f c (nI i) X = some v ∧ fX9_stale_4 f' c (nI i) S = some (v, S') ∧ Scr S S' := by
  intro r
  induction r with
  | zero =>
    intro i f f' c S hi hn hf hf' h
    obtain ⟨f, rfl⟩ : ∃ g, f = g + 1 := ⟨f - 1, by omega⟩
    obtain ⟨f', rfl⟩ : ∃ g, f' = g + 1 := ⟨f' - 1, by omega⟩
    have hb := h.1.k3.2
    have : i = nK X := by omega
    subst this
    rw [fX8_stale_4, fX9_stale_4, h.1.k3.1, h.k8, if_pos (nI_le (Nat.le_refl _) (by omega)), if_pos (nI_le (Nat.le_refl _) (by omega))]
    exact ⟨_, S, rfl, rfl, Scr.rf⟩
  | succ r ih =>
    intro i f f' c S hi hn hf hf' h
    obtain ⟨f, rfl⟩ : ∃ g, f = g + 1 := ⟨f - 1, by omega⟩
    obtain ⟨f', rfl⟩ : ∃ g, f' = g + 1 := ⟨f' - 1, by omega⟩
    have hb := h.1.k3.2
    have hi' : i < nK X := by omega
    obtain ⟨e0, e1, e2, e3, e4⟩ := h.2.2.2.2.2.1 i hi'
    have ng : ¬ nI (nK X) ≤ nI i := nI_ge hi' (by omega)
    have c0 : (nI (5 * i)).toNatClampNeg = 5 * i := nI_clamp (by omega)
    have c1 : (nI (5 * i + 1)).toNatClampNeg = 5 * i + 1 := nI_clamp (by omega)
    have c2 : (nI (5 * i + 2)).toNatClampNeg = 5 * i + 2 := nI_clamp (by omega)
    have c3 : (nI (5 * i + 3)).toNatClampNeg = 5 * i + 3 := nI_clamp (by omega)
    rw [fX8_stale_4, fX9_stale_4, h.1.k3.1, h.k8, if_neg ng, if_neg ng, xFresh h.1 hi', mYoung h hi', h.now]
    simp only [Option.bind_some, z_5, z_p1, z_p2, z_p3, c0, c1, c2, c3, e0, e1, e2, z_add0, if_pos (z_inb (show i < 6 by omega) (show 6 < 2 ^ 31 by omega)), nI_clamp (show i < 2 ^ 31 by omega), if_pos (z_inb (show 5 * i < 30 by omega) (show 30 < 2 ^ 31 by omega)), if_pos (z_inb (show 5 * i + 1 < 30 by omega) (show 30 < 2 ^ 31 by omega)), if_pos (z_inb (show 5 * i + 2 < 30 by omega) (show 30 < 2 ^ 31 by omega)), if_pos (z_inb (show 5 * i + 3 < 30 by omega) (show 30 < 2 ^ 31 by omega))]
    cases hfr : xFr X i with
    | false => exact ih (i + 1) f f' c S (by omega) hn (by omega) (by omega) h
    | true =>
      simp only [if_true]
      have wk := (h.1.2.2.2.2.1.2.1 i hi')
      have eN : X 25 i = nI (nr (X 25) i) := wk.2.1.1
      have hN := wk.2.2.1
      have xa : fX8_answerFor (X 24 i) (X 25 i) (X 26 i) (X 0 6) X = some (xLU X (xVA X (X 24 i) (nI (tk X))) (nr (X 25) i) (X 26 i) (nI (tk X))) := by
        have := xAns h.1 (X 24 i) hN (X 26 i)
        rw [← eN] at this
        exact this
      obtain ⟨S1, m1, s1⟩ := mFi h (xVA X (X 24 i) (nI (tk X))) hN (X 26 i) (Nat.le_refl (tk X))
      rw [← eN] at m1
      rw [xa, mVw h (X 24 i) (Nat.le_refl _)]
      simp only [Option.bind_some]
      rw [m1]
      simp only [Option.bind_some]
      have e38 : S1 38 (5 * i + 3) = X 27 i := by rw [s1.1 38 (by decide) (by decide)]; exact e3
      rw [e38]
      by_cases q : X 27 i = xLU X (xVA X (X 24 i) (nI (tk X))) (nr (X 25) i) (X 26 i) (nI (tk X))
      · rw [if_pos q, if_pos q.symm]
        obtain ⟨v, S', g1, g2, g3⟩ := ih (i + 1) f f' c S1 (by omega) hn (by omega) (by omega) (h.scr s1)
        exact ⟨v, S', g1, g2, s1.tr g3⟩
      · rw [if_neg q, if_neg (fun e => q e.symm)]
        obtain ⟨v, S', g1, g2, g3⟩ := ih (i + 1) f f' (c + 1) S1 (by omega) hn (by omega) (by omega) (h.scr s1)
        exact ⟨v, S', g1, g2, s1.tr g3⟩
theorem o_stale (h : Rl X S) : Rd S (fX8_stale X) (fX9_stale S) := by
  have hb := h.1.k3.2
  exact stale_lock (nK X) (nK X) 0 20000 20000 0 S (by omega) rfl (by omega) (by omega) h
/-! dropping a kept answer -/
def kpart (r : Nat → Int32) (p i : Nat) : Nat → Int32 := fun j => if p ≤ j ∧ j < i then r (j + 1) else r j
theorem kpart_0 {r : Nat → Int32} {p : Nat} : kpart r p p = r := by
  funext j
  unfold kpart
  rw [if_neg (by omega)]
theorem kpart_s {r : Nat → Int32} {p i : Nat} (h : p ≤ i) : upd (kpart r p i) i (kpart r p i (i + 1)) = kpart r p (i + 1) := by
  funext j
  unfold upd kpart
  by_cases q : j = i
  · subst q
    rw [if_pos rfl, if_neg (by omega), if_pos (by omega)]
  · rw [if_neg q]
    by_cases q2 : p ≤ j ∧ j < i
    · rw [if_pos q2, if_pos (by omega)]
    · rw [if_neg q2, if_neg (by omega)]
def KDr (X X1 : qS) (p : Nat) : Prop := (∀ q, q < 23 ∨ 28 < q → X1 q = X q) ∧ X1 23 = upd (X 23) 5 (nI (nK X - 1)) ∧ ∀ q, 24 ≤ q → q ≤ 28 → X1 q = kpart (X q) p (nK X - 1)
theorem xForget (h : WX X) {p : Nat} (hp : p < nK X) : ∃ X1, fX1_forget (nI p) X = some X1 ∧ KDr X X1 p := by
  have hb := h.k3.2
  unfold fX1_forget
  have key : ∀ r i f Y, i + 1 + r = nK X → r < f → p ≤ i → (∀ q, q < 24 ∨ 28 < q → Y q = X q) → (∀ q, 24 ≤ q → q ≤ 28 → Y q = kpart (X q) p i) → ∃ X1, fX1_forget_2 (nI p) f (nI i) Y = some X1 ∧ KDr X X1 p := by
    intro r
    induction r with
    | zero =>
      intro i f Y hi hf hpi e1 e2
      obtain ⟨f, rfl⟩ : ∃ g, f = g + 1 := ⟨f - 1, by omega⟩
      rw [fX1_forget_2, e1 23 (Or.inl (by omega)), h.k3.1, nI_1, if_pos (nI_le (by omega) (by omega))]
      refine ⟨_, rfl, ?_, ?_, ?_⟩
      · intro q hq
        rw [q_up_n _ _ _ _ (by omega)]
        exact e1 q (by omega)
      · rw [q_up_s, e1 23 (Or.inl (by omega)), nI_dec (by omega)]
      · intro q h1 h2
        rw [q_up_n _ _ _ _ (by omega), e2 q h1 h2]
        rw [show nK X - 1 = i by omega]
    | succ r ih =>
      intro i f Y hi hf hpi e1 e2
      obtain ⟨f, rfl⟩ : ∃ g, f = g + 1 := ⟨f - 1, by omega⟩
      rw [fX1_forget_2, e1 23 (Or.inl (by omega)), h.k3.1, nI_1, if_neg (nI_ge (show i + 1 < nK X by omega) (by omega))]
      simp only [if_pos (z_inb (show i < 6 by omega) (show 6 < 2 ^ 31 by omega)), if_pos (z_inb (show i + 1 < 6 by omega) (show 6 < 2 ^ 31 by omega)), nI_clamp (show i < 2 ^ 31 by omega), nI_clamp (show i + 1 < 2 ^ 31 by omega)]
      refine ih (i + 1) f _ (by omega) (by omega) (by omega) ?_ ?_
      · intro q hq
        rw [q_up_n _ _ _ _ (by omega), q_up_n _ _ _ _ (by omega), q_up_n _ _ _ _ (by omega), q_up_n _ _ _ _ (by omega), q_up_n _ _ _ _ (by omega)]
        exact e1 q hq
      · intro q h1 h2
        rcases (show q = 24 ∨ q = 25 ∨ q = 26 ∨ q = 27 ∨ q = 28 by omega) with rfl | rfl | rfl | rfl | rfl
        · show upd (Y 24) i (Y 24 (i + 1)) = _
          rw [e2 24 (by omega) (by omega), kpart_s hpi]
        · show upd (Y 25) i (Y 25 (i + 1)) = _
          rw [e2 25 (by omega) (by omega), kpart_s hpi]
        · show upd (Y 26) i (Y 26 (i + 1)) = _
          rw [e2 26 (by omega) (by omega), kpart_s hpi]
        · show upd (Y 27) i (Y 27 (i + 1)) = _
          rw [e2 27 (by omega) (by omega), kpart_s hpi]
        · show upd (Y 28) i (Y 28 (i + 1)) = _
          rw [e2 28 (by omega) (by omega), kpart_s hpi]
  exact key (nK X - 1 - p) p 20000 X (by omega) (by omega) (Nat.le_refl _) (fun _ _ => rfl) (fun q _ _ => kpart_0.symm)
def mpart (m : Nat → Int32) (p i : Nat) : Nat → Int32 := fun j => if p ≤ j ∧ j < i then m (j + 5) else m j
theorem mpart_0 {m : Nat → Int32} {p : Nat} : mpart m p p = m := by
  funext j
  unfold mpart
  rw [if_neg (by omega)]
theorem mpart_s {m : Nat → Int32} {p i : Nat} (h : p ≤ i) : upd (mpart m p i) i (mpart m p i (i + 5)) = mpart m p (i + 1) := by
  funext j
  unfold upd mpart
  by_cases q : j = i
  · subst q
    rw [if_pos rfl, if_neg (by omega), if_pos (by omega)]
  · rw [if_neg q]
    by_cases q2 : p ≤ j ∧ j < i
    · rw [if_pos q2, if_pos (by omega)]
    · rw [if_neg q2, if_neg (by omega)]
theorem mDrops (h : Rl X S) {p : Nat} (hp : p < nK X) : ∃ S1, fX9_drops (nI p) S = some S1 ∧ (∀ q, q ≠ 34 → q ≠ 38 → S1 q = S q) ∧ S1 34 = upd (S 34) 8 (nI (nK X - 1)) ∧ S1 38 = mpart (S 38) (5 * p) (5 * (nK X - 1)) := by
  have hb := h.1.k3.2
  unfold fX9_drops
  rw [h.k8, nI_dec (by omega), z_5]
  have key : ∀ r i f Y, i + r = 5 * (nK X - 1) → r < f → 5 * p ≤ i → (∀ q, q ≠ 34 → q ≠ 38 → Y q = S q) → Y 34 = upd (S 34) 8 (nI (nK X - 1)) → Y 38 = mpart (S 38) (5 * p) i → ∃ S1, fX9_drops_14 (nI p) f (nI i) Y = some S1 ∧ (∀ q, q ≠ 34 → q ≠ 38 → S1 q = S q) ∧ S1 34 = upd (S 34) 8 (nI (nK X - 1)) ∧ S1 38 = mpart (S 38) (5 * p) (5 * (nK X - 1)) := by
    intro r
    induction r with
    | zero =>
      intro i f Y hi hf hpi e1 e2 e3
      obtain ⟨f, rfl⟩ : ∃ g, f = g + 1 := ⟨f - 1, by omega⟩
      rw [fX9_drops_14, e2, upd_s, z_5, if_pos (nI_le (by omega) (by omega))]
      exact ⟨Y, rfl, e1, e2, by rw [e3, show 5 * (nK X - 1) = i by omega]⟩
    | succ r ih =>
      intro i f Y hi hf hpi e1 e2 e3
      obtain ⟨f, rfl⟩ : ∃ g, f = g + 1 := ⟨f - 1, by omega⟩
      rw [fX9_drops_14, e2, upd_s, z_5, if_neg (nI_ge (show i < 5 * (nK X - 1) by omega) (by omega)), z_p5, if_pos (z_inb (by omega) (by omega)), if_pos (z_inb (by omega) (by omega)), nI_clamp (by omega), nI_clamp (by omega), nI_1]
      refine ih (i + 1) f _ (by omega) (by omega) (by omega) ?_ ?_ ?_
      · intro q h1 h2
        rw [q_up_n _ _ _ _ h2]; exact e1 q h1 h2
      · rw [q_up_n _ _ _ _ (by omega)]; exact e2
      · rw [q_up_s, e3, mpart_s hpi]
  exact key (5 * (nK X - 1) - 5 * p) (5 * p) 20000 _ (by omega) (by omega) (Nat.le_refl _) (fun q h1 _ => q_up_n _ _ _ _ h1) (q_up_s _ _ _ _) (by rw [q_up_n _ _ _ _ (by omega)]; exact mpart_0.symm)
/-- both have dropped the same answer -/
theorem drop_both (h : Rl X S) {p : Nat} (hp : p < nK X) {X1 S1 : qS} (hx : KDr X X1 p) (m1 : ∀ q, q ≠ 34 → q ≠ 38 → S1 q = S q) (m2 : S1 34 = upd (S 34) 8 (nI (nK X - 1))) (m3 : S1 38 = mpart (S 38) (5 * p) (5 * (nK X - 1))) : Rl X1 S1 ∧ nK X1 = nK X - 1 ∧ ∀ i, i < nK X - 1 → ∃ j, j < nK X ∧ j ≠ p ∧ X1 24 i = X 24 j ∧ X1 25 i = X 25 j ∧ X1 26 i = X 26 j := by
  obtain ⟨x1, x2, x3⟩ := hx
  have hb := h.1.k3.2
  have en : nr (X1 23) 5 = nK X - 1 := by rw [x2]; exact nr_s (by omega)
  -- where an answer comes from
  have src : ∀ i, i < nK X - 1 → ∃ j, j < nK X ∧ j ≠ p ∧ (∀ q, 24 ≤ q → q ≤ 28 → X1 q i = X q j) ∧ (∀ c, c < 5 → S1 38 (5 * i + c) = S 38 (5 * j + c)) ∧ j = if p ≤ i then i + 1 else i := by
    intro i hi
    by_cases q : p ≤ i
    · refine ⟨i + 1, by omega, by omega, fun r h1 h2 => ?_, fun c hc => ?_, by rw [if_pos q]⟩
      · rw [x3 r h1 h2]
        unfold kpart
        rw [if_pos ⟨q, hi⟩]
      · rw [m3]
        unfold mpart
        rw [if_pos (by omega)]
        congr 1
        omega
    · refine ⟨i, by omega, by omega, fun r h1 h2 => ?_, fun c hc => ?_, by rw [if_neg q]⟩
      · rw [x3 r h1 h2]
        unfold kpart
        rw [if_neg (by omega)]
      · rw [m3]
        unfold mpart
        rw [if_neg (by omega)]
  refine ⟨⟨?_, ?_⟩, en, fun i hi => ?_⟩
  · obtain ⟨w0, wn, wz, wc, ⟨k1, k2, k3⟩, wt⟩ := h.1
    unfold WX
    rw [x1 0 (by omega), x1 2 (by omega), x1 3 (by omega), x1 4 (by omega), x1 5 (by omega), x1 10 (by omega), x1 11 (by omega), x1 12 (by omega), x1 13 (by omega), x1 14 (by omega), x1 16 (by omega), x1 17 (by omega), x1 18 (by omega), x1 19 (by omega), x1 20 (by omega), x1 21 (by omega), x1 22 (by omega), x1 29 (by omega)]
    refine ⟨w0, wn, wz, wc, ⟨by rw [x2]; exact isN_s (by omega) (by omega), ?_, ?_⟩, wt⟩
    · intro i hi
      rw [en] at hi
      obtain ⟨j, hj, hjp, g1, _, _⟩ := src i hi
      obtain ⟨c1, c2, c3, c4⟩ := k2 j hj
      have f : ∀ q, 24 ≤ q → q ≤ 28 → nr (X1 q) i = nr (X q) j := fun q h1 h2 => by unfold nr; rw [g1 q h1 h2]
      refine ⟨?_, ?_, ?_, ?_⟩
      · unfold isN; rw [f 24 (by omega) (by omega), g1 24 (by omega) (by omega)]; exact c1
      · unfold isN; rw [f 25 (by omega) (by omega), g1 25 (by omega) (by omega)]; exact c2
      · rw [f 25 (by omega) (by omega)]; exact c3
      · unfold isN; rw [f 26 (by omega) (by omega), g1 26 (by omega) (by omega)]; exact c4
    · intro a b hab hbn hk
      rw [en] at hbn
      obtain ⟨ja, hja, _, ga, _, ea⟩ := src a (by omega)
      obtain ⟨jb, hjb, _, gb, _, eb⟩ := src b hbn
      have hlt : ja < jb := by
        rw [ea, eb]
        split <;> split <;> omega
      refine k3 ja jb hlt hjb ?_
      rw [← ga 24 (by omega) (by omega), ← ga 25 (by omega) (by omega), ← ga 26 (by omega) (by omega), ← gb 24 (by omega) (by omega), ← gb 25 (by omega) (by omega), ← gb 26 (by omega) (by omega)]
      exact hk
  · obtain ⟨⟨a0, a1, a2, a3, a4, a5, a6, a7⟩, b1, b2, b3, b4, b5⟩ := h.2
    unfold RM
    rw [x1 0 (by omega), x1 2 (by omega), x1 3 (by omega), x1 4 (by omega), x1 5 (by omega), x1 6 (by omega), x1 7 (by omega), x1 10 (by omega), x1 11 (by omega), x1 12 (by omega), x1 13 (by omega), x1 14 (by omega), x1 16 (by omega), x1 17 (by omega), x1 19 (by omega), x1 20 (by omega), x1 21 (by omega), x1 22 (by omega), x1 29 (by omega), x1 30 (by omega), m2, x2, m1 35 (by omega) (by omega), m1 36 (by omega) (by omega), m1 37 (by omega) (by omega), m1 39 (by omega) (by omega)]
    rw [upd_n (show 0 ≠ 8 by decide), upd_n (show 2 ≠ 8 by decide), upd_n (show 4 ≠ 8 by decide), upd_n (show 6 ≠ 8 by decide), upd_s, upd_n (show 9 ≠ 8 by decide), upd_n (show 10 ≠ 8 by decide), upd_n (show 12 ≠ 8 by decide), upd_s, upd_n (show 7 ≠ 5 by decide), upd_n (show 6 ≠ 5 by decide)]
    refine ⟨⟨a0, a1, a2, a3, rfl, a5, a6, a7⟩, b1, b2, b3, ?_, b5⟩
    rw [nr_s (by omega)]
    intro i hi
    obtain ⟨j, hj, _, g1, g2, _⟩ := src i hi
    obtain ⟨d0, d1, d2, d3, d4⟩ := b4 j hj
    refine ⟨?_, ?_, ?_, ?_, ?_⟩
    · have := g2 0 (by omega)
      rw [Nat.add_zero, Nat.add_zero] at this
      rw [this, g1 24 (by omega) (by omega)]; exact d0
    · rw [g2 1 (by omega), g1 25 (by omega) (by omega)]; exact d1
    · rw [g2 2 (by omega), g1 26 (by omega) (by omega)]; exact d2
    · rw [g2 3 (by omega), g1 27 (by omega) (by omega)]; exact d3
    · rw [g2 4 (by omega), g1 28 (by omega) (by omega)]; exact d4
  · obtain ⟨j, hj, hjp, g1, _, _⟩ := src i hi
    exact ⟨j, hj, hjp, g1 24 (by omega) (by omega), g1 25 (by omega) (by omega), g1 26 (by omega) (by omega)⟩
end
