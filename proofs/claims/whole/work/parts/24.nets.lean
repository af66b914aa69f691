theorem z_5 (i : Nat) : (5 : Int32) * nI i = nI (5 * i) := pk_mul 5 i
theorem z_4 (i : Nat) : (4 : Int32) * nI i = nI (4 * i) := pk_mul 4 i
theorem z_p1 (i : Nat) : nI i + 1 = nI (i + 1) := nI_add i 1
theorem z_p2 (i : Nat) : nI i + 2 = nI (i + 2) := nI_add i 2
theorem z_p3 (i : Nat) : nI i + 3 = nI (i + 3) := nI_add i 3
theorem z_p4 (i : Nat) : nI i + 4 = nI (i + 4) := nI_add i 4
theorem z_p5 (i : Nat) : nI i + 5 = nI (i + 5) := nI_add i 5
theorem z_p6 (i : Nat) : nI i + 6 = nI (i + 6) := nI_add i 6
theorem toU_th {f u t : Int32} (hu : 0 ≤ u.toInt) (ht : t.toInt < 10000) : (if t < f then some false else if toU u < 0 then some true else if toU u ≤ t then some false else some true) = some (cTh f u t) := by
  have e1 : (10000 : Int32).toInt = 10000 := by decide
  by_cases h : t < f
  · rw [if_pos h, cTh, decide_eq_false (fun q => z_nlt.mpr q h), Bool.false_and]
  · rw [if_neg h, cTh, decide_eq_true (z_nlt.mp h), Bool.true_and]
    by_cases h1 : u = 10000
    · rw [toU, if_pos h1, if_pos (by decide), h1, decide_eq_true]
      rw [z_lt]; omega
    · rw [toU, if_neg h1, if_neg (by rw [z_lt, zz0]; omega)]
      by_cases h2 : u ≤ t
      · rw [if_pos h2, decide_eq_false (fun q => z_nle.mpr q h2)]
      · rw [if_neg h2, decide_eq_true (z_nle.mp h2)]
/-- whether an address is in a net -/
def cCt (r6 r7 : Nat → Int32) (i : Nat) (a : Int32) : Bool := decide (a >>> ((8 - r7 i) &&& 31) = r6 i >>> ((8 - r7 i) &&& 31))
theorem z_xor_shr (a b k : Int32) : (a ^^^ b) >>> k = 0 ↔ a >>> k = b >>> k := by
  have h1 : ∀ x y : Int32, x = y ↔ x.toBitVec = y.toBitVec := fun x y => Int32.toBitVec_inj.symm
  rw [h1, h1]
  simp only [Int32.toBitVec_shiftRight, Int32.toBitVec_xor, BitVec.sshiftRight', BitVec.sshiftRight_xor_distrib]
  exact ⟨fun h => by
    have := BitVec.xor_eq_zero_iff.mp (by simpa using h)
    exact this, fun h => by rw [h]; simp⟩
def vStep (r3 r4 r5 r6 r7 : Nat → Int32) (a t : Int32) (s : Int32 × Int32) (i : Nat) : Int32 × Int32 := if (decide (s.1 < r7 i) && cCt r6 r7 i a && cTh (r3 i) (r4 i) t) = true then (r7 i, r5 i) else s
def cVA (n : Nat) (r3 r4 r5 r6 r7 : Nat → Int32) (a t : Int32) : Int32 := (fld (vStep r3 r4 r5 r6 r7 a t) (0, 0) n).2
theorem zX3_viewAt {S : qS} (h3 : isN (S 2) 3 10) (a t : Int32) : fX3_viewAt a t S = some (cVA (nr (S 2) 3) (S 3) (S 4) (S 5) (S 6) (S 7) a t) := by
  have hb := h3.2
  unfold fX3_viewAt
  refine (lp_fld (nr (S 2) 3) (vStep (S 3) (S 4) (S 5) (S 6) (S 7) a t) (0, 0) (fun f s i => fX3_viewAt_8 a t f s.1 s.2 i S) (fun s => some s.2) (fun _ _ => True) trivial ?_ ?_ 20000 (by omega)).1
  · intro f s i hi _
    refine ⟨?_, trivial⟩
    show fX3_viewAt_8 a t (f + 1) s.1 s.2 (nI i) S = _
    rw [fX3_viewAt_8, h3.1, if_neg (nI_ge hi (by omega)), if_pos (z_inb (by omega) (by omega)), nI_clamp (by omega), nI_1]
    have hc : fX3_contains (nI i) a S = some (cCt (S 6) (S 7) i a) := by
      unfold fX3_contains
      rw [if_pos (z_inb (by omega) (by omega)), if_pos (z_inb (by omega) (by omega)), nI_clamp (by omega)]
      by_cases q : a >>> ((8 - S 7 i) &&& 31) = S 6 i >>> ((8 - S 7 i) &&& 31)
      · rw [if_pos q, cCt, decide_eq_true q]
      · rw [if_neg q, cCt, decide_eq_false q]
    rw [hc, zX5_isThere_2 h3 hi, Option.bind_some, Option.bind_some, if_pos (z_inb (by omega) (by omega)), if_pos (z_inb (by omega) (by omega))]
    unfold vStep
    by_cases q1 : S 7 i ≤ s.1
    · rw [if_pos q1, decide_eq_false (fun q => z_nle.mpr q q1), Bool.false_and, Bool.false_and, if_neg (by decide)]
    · rw [if_neg q1, decide_eq_true (z_nle.mp q1), Bool.true_and]
      by_cases q2 : cCt (S 6) (S 7) i a = true
      · rw [if_pos q2, q2, Bool.true_and]
        by_cases q3 : cTh (S 3 i) (S 4 i) t = true
        · rw [if_pos q3, if_pos q3]
        · rw [if_neg q3, if_neg q3]
      · rw [if_neg q2, if_neg (by simp [q2])]
  · intro f s _
    show fX3_viewAt_8 a t (f + 1) s.1 s.2 (nI (nr (S 2) 3)) S = _
    rw [fX3_viewAt_8, h3.1, if_pos (nI_le (Nat.le_refl _) (by omega))]
theorem zM_isNetThere {S : qS} {n : Nat} {r3 r4 r5 r6 r7 : Nat → Int32} (hn : n ≤ 10) (hM : Mn n r3 r4 r5 r6 r7 (S 35)) {i : Nat} (hi : i < n) (hu : 0 ≤ (r4 i).toInt) {t : Int32} (ht : t.toInt < 10000) : fX9_isNetThere (nI i) t S = some (cTh (r3 i) (r4 i) t) := by
  obtain ⟨e0, e1, e2, e3, e4⟩ := hM i hi
  unfold fX9_isNetThere
  simp only [z_5, z_p1, z_p2, z_p3, z_p4]
  rw [if_pos (z_inb (by omega) (by omega)), if_pos (z_inb (by omega) (by omega)), nI_clamp (by omega), nI_clamp (by omega), e3, e4]
  exact toU_th hu ht
theorem zM_viewAt {S : qS} {n : Nat} {r3 r4 r5 r6 r7 : Nat → Int32} (h34 : S 34 2 = nI n) (hn : n ≤ 10) (hM : Mn n r3 r4 r5 r6 r7 (S 35)) (hu : ∀ i, i < n → 0 ≤ (r4 i).toInt) (a : Int32) {t : Int32} (ht : t.toInt < 10000) : fX9_viewAt a t S = some (cVA n r3 r4 r5 r6 r7 a t) := by
  unfold fX9_viewAt
  refine (lp_fld n (vStep r3 r4 r5 r6 r7 a t) (0, 0) (fun f s i => fX9_viewAt_8 a t f s.2 s.1 i S) (fun s => some s.2) (fun _ _ => True) trivial ?_ ?_ 20000 (by omega)).1
  · intro f s i hi _
    refine ⟨?_, trivial⟩
    show fX9_viewAt_8 a t (f + 1) s.2 s.1 (nI i) S = _
    obtain ⟨e0, e1, e2, e3, e4⟩ := hM i hi
    rw [fX9_viewAt_8, h34, if_neg (nI_ge hi (by omega))]
    rw [zM_isNetThere hn hM hi (hu i hi) ht, Option.bind_some]
    simp only [z_5, z_p1, z_p2, z_p3, z_p4]
    rw [if_pos (z_inb (by omega) (by omega)), if_pos (z_inb (by omega) (by omega)), if_pos (z_inb (by omega) (by omega)), nI_clamp (by omega), nI_clamp (by omega), nI_clamp (by omega), e0, e1, e2]
    unfold vStep
    by_cases q2 : cCt r6 r7 i a = true
    · rw [if_pos ((z_xor_shr _ _ _).mpr (by simpa [cCt] using q2)), q2, Bool.and_true]
      by_cases q3 : cTh (r3 i) (r4 i) t = true
      · rw [if_pos q3, q3, Bool.and_true]
        by_cases q1 : r7 i ≤ s.1
        · rw [if_pos q1, decide_eq_false (fun q => z_nle.mpr q q1), if_neg (by decide)]
        · rw [if_neg q1, decide_eq_true (z_nle.mp q1), if_pos rfl]
      · rw [if_neg q3, if_neg (by simp [q3])]
    · rw [if_neg (fun q => q2 (by simpa [cCt] using (z_xor_shr _ _ _).mp q)), if_neg (by simp [q2])]
  · intro f s _
    show fX9_viewAt_8 a t (f + 1) s.2 s.1 (nI n) S = _
    rw [fX9_viewAt_8, h34, if_pos (nI_le (Nat.le_refl _) (by omega))]
/-- the view is one of the four -/
theorem cVA_view {n : Nat} {r3 r4 r5 r6 r7 : Nat → Int32} (h : ∀ i, i < n → isN r5 i 3) (a t : Int32) : ∃ v : Nat, v ≤ 3 ∧ cVA n r3 r4 r5 r6 r7 a t = nI v := by
  have key : ∀ m, m ≤ n → ∃ v : Nat, v ≤ 3 ∧ (fld (vStep r3 r4 r5 r6 r7 a t) (0, 0) m).2 = nI v := by
    intro m
    induction m with
    | zero => intro _; exact ⟨0, by omega, rfl⟩
    | succ m ih =>
      intro hm
      obtain ⟨v, hv, e⟩ := ih (by omega)
      unfold fld
      generalize fld (vStep r3 r4 r5 r6 r7 a t) (0, 0) m = s at e
      unfold vStep
      split
      · exact ⟨nr r5 m, (h m (by omega)).2, (h m (by omega)).1⟩
      · exact ⟨v, hv, e⟩
  exact key n (Nat.le_refl n)
