theorem z_2 (i : Nat) : (2 : Int32) * nI i = nI (2 * i) := pk_mul 2 i
theorem z_p0 (i : Nat) : nI i + 0 = nI i := by rw [show (0 : Int32) = nI 0 from rfl, nI_add]; rfl
theorem nI_inj {a b : Nat} (ha : a < 2 ^ 31) (hb : b < 2 ^ 31) (h : nI a = nI b) : a = b := (nI_eq ha hb).mp h
theorem isN_int {r : Nat → Int32} {i b : Nat} (h : isN r i b) (hb : b < 2 ^ 31) : (r i).toInt = (nr r i : Int) := by
  have h2 := h.2
  rw [h.1, nI_toInt (by omega)]
theorem isN_eq {r q : Nat → Int32} {i j b d : Nat} (h : isN r i b) (k : isN q j d) (hb : b < 2 ^ 31) (hd : d < 2 ^ 31) : r i = q j ↔ nr r i = nr q j := by
  rw [z_eq, isN_int h hb, isN_int k hd]; omega
theorem isN_le {r q : Nat → Int32} {i j b d : Nat} (h : isN r i b) (k : isN q j d) (hb : b < 2 ^ 31) (hd : d < 2 ^ 31) : r i ≤ q j ↔ nr r i ≤ nr q j := by
  rw [z_le, isN_int h hb, isN_int k hd]; omega
/-! Zones.find -/
def cZF (n : Nat) (r11 r12 r13 r14 : Nat → Int32) (v a t : Int32) : Option Nat := fst1 (fun i => decide (r13 i = v) && decide (r14 i = a) && cTh (r11 i) (r12 i) t) n
def o2i (o : Option Nat) : Int32 := match o with
  | some i => nI i
  | none => -1
theorem zX7_find {S : qS} (h3 : isN (S 10) 3 10) (v a t : Int32) : fX7_find v a t S = some (o2i (cZF (nr (S 10) 3) (S 11) (S 12) (S 13) (S 14) v a t)) := by
  have hb := h3.2
  unfold fX7_find
  rw [lp_fst (nr (S 10) 3) (fun i => decide (S 13 i = v) && decide (S 14 i = a) && cTh (S 11 i) (S 12 i) t) (fun f i => fX7_find_3 v a t f i S) (fun i => some (nI i)) (some (-1)) ?_ ?_ 20000 (by omega)]
  · unfold cZF
    cases fst1 _ (nr (S 10) 3) <;> rfl
  · intro f i hi
    show fX7_find_3 v a t (f + 1) (nI i) S = _
    rw [fX7_find_3, h3.1, if_neg (nI_ge hi (by omega)), if_pos (z_inb (by omega) (by omega)), if_pos (z_inb (by omega) (by omega)), nI_clamp (by omega), nI_1, zX5_isThere_10 h3 hi, Option.bind_some]
    by_cases q1 : S 13 i = v
    · rw [if_pos q1]
      by_cases q2 : S 14 i = a
      · rw [if_pos q2]; simp only [q1, q2, decide_true, Bool.true_and]
      · rw [if_neg q2]; simp [q2]
    · rw [if_neg q1]; simp [q1]
  · intro f
    show fX7_find_3 v a t (f + 1) (nI (nr (S 10) 3)) S = _
    rw [fX7_find_3, h3.1, if_pos (nI_le (Nat.le_refl _) (by omega))]
/-! the responsible zone -/
def cCand (r11 r12 r13 r14 : Nat → Int32) (v : Int32) (k : Nat) (t : Int32) (i : Nat) : Bool := (decide (r13 i = v) || decide (r13 i = 0)) && zAt k (nr r14 i) && cTh (r11 i) (r12 i) t
def cBet (r13 r14 : Nat → Int32) (i j : Nat) : Bool := if r14 i = r14 j then !decide (r13 i = 0) else decide (zW (nr r14 j) < zW (nr r14 i))
def rsPick (r13 r14 : Nat → Int32) (o : Option Nat) (i : Nat) : Option Nat := match o with
  | none => some i
  | some j => if cBet r13 r14 i j = true then some i else some j
def rsStep (r11 r12 r13 r14 : Nat → Int32) (v : Int32) (k : Nat) (t : Int32) (o : Option Nat) (i : Nat) : Option Nat := if cCand r11 r12 r13 r14 v k t i = true then rsPick r13 r14 o i else o
def cRs (n : Nat) (r11 r12 r13 r14 : Nat → Int32) (v : Int32) (k : Nat) (t : Int32) : Option Nat := fld (rsStep r11 r12 r13 r14 v k t) none n
theorem zX7_hides {S : qS} {i j : Nat} (hi : i < 10) (hj : j < 10) (ai : isN (S 14) i 124) (aj : isN (S 14) j 124) : fX7_hides (nI i) (nI j) S = some (cBet (S 13) (S 14) i j) := by
  have b1 := ai.2
  have b2 := aj.2
  unfold fX7_hides
  simp only [if_pos (z_inb hi (show 10 < 2 ^ 31 by omega)), if_pos (z_inb hj (show 10 < 2 ^ 31 by omega)), nI_clamp (show i < 2 ^ 31 by omega), nI_clamp (show j < 2 ^ 31 by omega)]
  unfold cBet
  by_cases q : S 14 i = S 14 j
  · rw [if_pos q, if_pos q]
    by_cases q2 : S 13 i = 0 <;> simp [q2]
  · rw [if_neg q, if_neg q]
    unfold fX2_isLonger
    rw [ai.1, aj.1, (zN_tab (by omega) S).2.2.2.2.1, Option.bind_some, (zN_tab (by omega) S).2.2.2.2.1, Option.bind_some]
    have w1 : zW (nr (S 14) i) ≤ 25 := by unfold zW; split <;> (try split) <;> omega
    have w2 : zW (nr (S 14) j) ≤ 25 := by unfold zW; split <;> (try split) <;> omega
    by_cases q3 : zW (nr (S 14) j) < zW (nr (S 14) i)
    · rw [if_neg (nI_ge q3 (by omega)), decide_eq_true q3]; rfl
    · rw [if_pos (nI_le (by omega) (by omega)), decide_eq_false q3]; rfl
theorem zX7_responsible {S : qS} (h3 : isN (S 10) 3 10) (hA : ∀ i, i < nr (S 10) 3 → isN (S 14) i 124 ∧ zNm (nr (S 14) i) = true) (v : Int32) {k : Nat} (hk : zNm k = true) (t : Int32) : fX7_responsible v (nI k) t S = some (o2i (cRs (nr (S 10) 3) (S 11) (S 12) (S 13) (S 14) v k t)) ∧ ∀ j, cRs (nr (S 10) 3) (S 11) (S 12) (S 13) (S 14) v k t = some j → j < nr (S 10) 3 := by
  have hb := h3.2
  unfold fX7_responsible
  have key := lp_fld (nr (S 10) 3) (rsStep (S 11) (S 12) (S 13) (S 14) v k t) none (fun f o i => fX7_responsible_6 v (nI k) t f (o2i o) i S) (fun o => some (o2i o)) (fun o i => ∀ j, o = some j → j < i) (fun j h => by cases h) ?_ ?_ 20000 (by omega)
  · exact key
  · intro f o i hi hI
    constructor
    · show fX7_responsible_6 v (nI k) t (f + 1) (o2i o) (nI i) S = _
      have aN := hA i hi
      rw [fX7_responsible_6, h3.1, if_neg (nI_ge hi (by omega))]
      simp only [if_pos (z_inb (show i < 10 by omega) (show 10 < 2 ^ 31 by omega)), nI_clamp (show i < 2 ^ 31 by omega), nI_1]
      have eAt : fX2_isAt (nI k) (S 14 i) S = some (zAt k (nr (S 14) i)) := by
        rw [aN.1.1]
        have := (zN_tab2 hk aN.2 S).1
        rw [← aN.1.1] at this ⊢
        exact this
      rw [eAt, zX5_isThere_10 h3 hi]
      simp only [Option.bind_some]
      have body : (if zAt k (nr (S 14) i) = true then if cTh (S 11 i) (S 12 i) t = true then if o2i o = -1 then fX7_responsible_6 v (nI k) t f (nI i) (nI (i + 1)) S else (fX7_hides (nI i) (o2i o) S).bind fun r89 => if r89 = true then fX7_responsible_6 v (nI k) t f (nI i) (nI (i + 1)) S else fX7_responsible_6 v (nI k) t f (o2i o) (nI (i + 1)) S else fX7_responsible_6 v (nI k) t f (o2i o) (nI (i + 1)) S else fX7_responsible_6 v (nI k) t f (o2i o) (nI (i + 1)) S) = fX7_responsible_6 v (nI k) t f (o2i (if (zAt k (nr (S 14) i) && cTh (S 11 i) (S 12 i) t) = true then rsPick (S 13) (S 14) o i else o)) (nI (i + 1)) S := by
        by_cases q1 : zAt k (nr (S 14) i) = true
        · rw [if_pos q1, q1, Bool.true_and]
          by_cases q2 : cTh (S 11 i) (S 12 i) t = true
          · rw [if_pos q2, if_pos q2]
            cases o with
            | none => rw [if_pos (show o2i none = -1 from rfl)]; rfl
            | some j =>
              have hj := hI j rfl
              rw [if_neg (show ¬ o2i (some j) = -1 from fun e => by
                have := (z_eq _ _).mp e
                rw [show o2i (some j) = nI j from rfl, nI_toInt (by omega), z_m1] at this
                omega)]
              rw [show o2i (some j) = nI j from rfl, zX7_hides (by omega) (by omega) aN.1 (hA j (by omega)).1, Option.bind_some]
              by_cases q3 : cBet (S 13) (S 14) i j = true
              · rw [if_pos q3]; simp only [rsPick, q3, if_true]; rfl
              · rw [if_neg q3]; simp only [rsPick, q3]; rfl
          · rw [if_neg q2, if_neg q2]
        · rw [if_neg q1, if_neg (by simp [q1])]
      rw [body]
      unfold rsStep cCand
      by_cases p1 : S 13 i = v
      · rw [if_pos p1]; simp only [p1, decide_true, Bool.true_or, Bool.true_and]
      · rw [if_neg p1]
        by_cases p2 : S 13 i = 0
        · rw [if_pos p2]; simp only [p2, decide_true, Bool.or_true, Bool.true_and]
        · rw [if_neg p2]; simp [p1, p2]
    · intro j hj
      unfold rsStep at hj
      split at hj
      · cases o with
        | none => cases hj; omega
        | some q =>
          have := hI q rfl
          dsimp only [rsPick] at hj
          split at hj <;> cases hj <;> omega
      · have := hI j hj; omega
  · intro f o _
    show fX7_responsible_6 v (nI k) t (f + 1) (o2i o) (nI (nr (S 10) 3)) S = _
    rw [fX7_responsible_6, h3.1, if_pos (nI_le (Nat.le_refl _) (by omega))]
