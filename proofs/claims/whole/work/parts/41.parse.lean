/-! the text, read -/
def inR (t : Nat → Int32) (L : Nat) (lo hi : Int32) (i : Nat) : Bool := decide (i < L) && cRg lo.toInt hi.toInt (t i)
def isC (t : Nat → Int32) (L : Nat) (c : Int32) (i : Nat) : Bool := decide (i < L) && decide (t i = c)
def dgc (t : Nat → Int32) (L : Nat) (lo hi : Int32) (s : Nat) : Nat := if inR t L lo hi s = true then (if inR t L lo hi (s + 1) = true then (if inR t L lo hi (s + 2) = true then 3 else 2) else 1) else 0
def dv (t : Nat → Int32) (i : Nat) : Nat := nr t i - 48
def pNm (t : Nat → Int32) (s n : Nat) : Nat := match n with
  | 0 => 0
  | 1 => dv t s
  | 2 => dv t s + 5 * dv t (s + 1)
  | _ => dv t s + 5 * dv t (s + 1) + 25 * dv t (s + 2)
def pNu (t : Nat → Int32) (s n : Nat) : Nat := match n with
  | 0 => 0
  | 1 => dv t s
  | 2 => 10 * dv t s + dv t (s + 1)
  | _ => 100 * dv t s + 10 * dv t (s + 1) + dv t (s + 2)
def pN2 (t : Nat → Int32) (L y e : Nat) : Nat := if y = 1 then dgc t L 49 52 e else dgc t L 48 57 e
def pW (t : Nat → Int32) (y e n : Nat) : Nat := if y = 1 then pNm t e n else pNu t e n
def prs (t : Nat → Int32) (L s : Nat) : Option (Nat × Nat × Nat × Int32) :=
  if dgc t L 49 52 s = 0 then none else
  if isC t L 58 (s + dgc t L 49 52 s) = true then
    if inR t L 48 50 (s + dgc t L 49 52 s + 1) = true then
      if isC t L 61 (s + dgc t L 49 52 s + 2) = true then
        if pN2 t L (dv t (s + dgc t L 49 52 s + 1)) (s + dgc t L 49 52 s + 3) = 0 then none else
        if cVv (nI (dv t (s + dgc t L 49 52 s + 1))) (nI (pW t (dv t (s + dgc t L 49 52 s + 1)) (s + dgc t L 49 52 s + 3) (pN2 t L (dv t (s + dgc t L 49 52 s + 1)) (s + dgc t L 49 52 s + 3)))) = true then
          if isC t L 59 (s + dgc t L 49 52 s + 3 + pN2 t L (dv t (s + dgc t L 49 52 s + 1)) (s + dgc t L 49 52 s + 3)) = true then
            some (s + dgc t L 49 52 s + 3 + pN2 t L (dv t (s + dgc t L 49 52 s + 1)) (s + dgc t L 49 52 s + 3) + 1, pNm t s (dgc t L 49 52 s), dv t (s + dgc t L 49 52 s + 1), nI (pW t (dv t (s + dgc t L 49 52 s + 1)) (s + dgc t L 49 52 s + 3) (pN2 t L (dv t (s + dgc t L 49 52 s + 1)) (s + dgc t L 49 52 s + 3))))
          else none
        else none
      else if isC t L 45 (s + dgc t L 49 52 s + 2) = true then
        if isC t L 59 (s + dgc t L 49 52 s + 3) = true then some (s + dgc t L 49 52 s + 4, pNm t s (dgc t L 49 52 s), dv t (s + dgc t L 49 52 s + 1), -1) else none
      else none
    else none
  else none
theorem dgc_le (t : Nat → Int32) (L : Nat) (lo hi : Int32) (s : Nat) : dgc t L lo hi s ≤ 3 := by unfold dgc; split <;> (try split) <;> (try split) <;> omega
theorem dgc_in {t : Nat → Int32} {L : Nat} {lo hi : Int32} {s i : Nat} (h : i < dgc t L lo hi s) : inR t L lo hi (s + i) = true := by
  unfold dgc at h
  by_cases q0 : inR t L lo hi s = true
  · rw [if_pos q0] at h
    by_cases q1 : inR t L lo hi (s + 1) = true
    · rw [if_pos q1] at h
      by_cases q2 : inR t L lo hi (s + 2) = true
      · rw [if_pos q2] at h
        rcases (show i = 0 ∨ i = 1 ∨ i = 2 by omega) with rfl | rfl | rfl <;> assumption
      · rw [if_neg q2] at h
        rcases (show i = 0 ∨ i = 1 by omega) with rfl | rfl <;> assumption
    · rw [if_neg q1] at h
      have : i = 0 := by omega
      subst this; exact q0
  · rw [if_neg q0] at h; omega
theorem inR_dv {t : Nat → Int32} {L : Nat} {lo hi : Int32} {l k i : Nat} (hl : lo.toInt = ((48 + l : Nat) : Int)) (hh : hi.toInt = ((48 + k : Nat) : Int)) (hk : k ≤ 9) (h : inR t L lo hi i = true) : i < L ∧ t i = nI (48 + dv t i) ∧ l ≤ dv t i ∧ dv t i ≤ k := by
  unfold inR at h
  simp only [Bool.and_eq_true, decide_eq_true_eq] at h
  obtain ⟨j, h1, h2, e⟩ := cRg_of hl hh (by omega) h.2
  have en : nr t i = j := nr_mk e (by omega)
  have ed : dv t i = j - 48 := by unfold dv; rw [en]
  refine ⟨h.1, ?_, by omega, by omega⟩
  rw [e, ed, show 48 + (j - 48) = j by omega]
section
variable {X : qS}
def chx (X : qS) (i : Nat) : Int32 := if i < nT X then X 30 i else -1
theorem xChar (h : WX X) {i : Nat} (hi : i < 1000) : fX6_characterAt (nI i) X = some (chx X i) := by
  have hb := h.t3.2
  unfold fX6_characterAt chx
  rw [if_neg (nI_pos (by omega)), h.t3.1]
  by_cases q : i < nT X
  · rw [if_neg (nI_ge q (by omega)), if_pos (z_inb (by omega) (by omega)), nI_clamp (by omega), if_pos q]
  · rw [if_pos (nI_le (by omega) (by omega)), if_neg q]
theorem xDigits (h : WX X) {lo hi : Int32} (hlo : (-1 : Int32) < lo) {s : Nat} (hs : s < 900) : fX6_digits (nI s) lo hi X = some (nI (dgc (X 30) (nT X) lo hi s)) := by
  have stp : ∀ f v, v < 3 → fX6_digits_3 (nI s) lo hi (f + 1) (nI v) X = if inR (X 30) (nT X) lo hi (s + v) = true then fX6_digits_3 (nI s) lo hi f (nI (v + 1)) X else some (nI v) := by
    intro f v hv
    rw [fX6_digits_3, if_neg (show ¬ (3 : Int32) ≤ nI v from nI_ge (b := 3) hv (by omega)), nI_add, xChar h (by omega), Option.bind_some, Option.bind_some, nI_1]
    unfold chx inR cRg
    by_cases q : s + v < nT X
    · rw [if_pos q, decide_eq_true q, Bool.true_and]
      by_cases q1 : X 30 (s + v) < lo
      · rw [if_pos q1, if_neg]
        rw [z_lt] at q1
        simp only [decide_eq_true_eq]; omega
      · rw [if_neg q1]
        rw [z_lt] at q1
        by_cases q2 : hi < X 30 (s + v)
        · rw [if_pos q2, if_neg]
          rw [z_lt] at q2
          simp only [decide_eq_true_eq]; omega
        · rw [if_neg q2, if_pos]
          rw [z_lt] at q2
          simp only [decide_eq_true_eq]; omega
    · rw [if_neg q, if_pos hlo, decide_eq_false q, Bool.false_and, if_neg (by decide)]
  have last : ∀ f, fX6_digits_3 (nI s) lo hi (f + 1) (nI 3) X = some (nI 3) := by
    intro f
    rw [fX6_digits_3, if_pos (by decide)]
  unfold fX6_digits dgc
  rw [show (20000 : Nat) = 19996 + 1 + 1 + 1 + 1 from rfl, show (0 : Int32) = nI 0 from rfl, stp _ 0 (by omega), Nat.add_zero]
  by_cases q0 : inR (X 30) (nT X) lo hi s = true
  · rw [if_pos q0, if_pos q0, stp _ 1 (by omega)]
    by_cases q1 : inR (X 30) (nT X) lo hi (s + 1) = true
    · rw [if_pos q1, if_pos q1, stp _ 2 (by omega)]
      by_cases q2 : inR (X 30) (nT X) lo hi (s + 2) = true
      · rw [if_pos q2, if_pos q2, last]
      · rw [if_neg q2, if_neg q2]
    · rw [if_neg q1, if_neg q1]
  · rw [if_neg q0, if_neg q0]
theorem z_s48 {x : Nat} (h : 48 ≤ x) : nI x - 48 = nI (x - 48) := pk_sub (b := 48) h
theorem z_m5 (i : Nat) : nI i * 5 = nI (i * 5) := pk_mul i 5
theorem z_m10 (i : Nat) : nI i * 10 = nI (i * 10) := pk_mul i 10
/-- characters that are digits -/
def dgs (X : qS) (s n : Nat) : Prop := ∀ i, i < n → s + i < nT X ∧ X 30 (s + i) = nI (48 + dv (X 30) (s + i)) ∧ dv (X 30) (s + i) ≤ 9
theorem xNameIn (h : WX X) {s n : Nat} (hs : s < 900) (hn : n ≤ 3) (hd : dgs X s n) : fX6_nameIn (nI s) (nI (s + n)) X = some (nI (pNm (X 30) s n)) := by
  have hb := h.t3.2
  have stp : ∀ f v i, i < n → fX6_nameIn_7 (nI s) (nI (s + n)) (f + 1) (nI v) (nI (s + i)) X = fX6_nameIn_7 (nI s) (nI (s + n)) f (nI (v * 5 + dv (X 30) (s + i))) (nI (s + i) + (-1)) X := by
    intro f v i hi
    obtain ⟨d1, d2, d3⟩ := hd i hi
    rw [fX6_nameIn_7, if_neg (nI_nlt (by omega) (by omega)), xChar h (by omega), Option.bind_some]
    unfold chx
    rw [if_pos d1, d2, z_m5, nI_add, z_s48 (by omega), show v * 5 + (48 + dv (X 30) (s + i)) - 48 = v * 5 + dv (X 30) (s + i) by omega]
  have fin : ∀ f v, fX6_nameIn_7 (nI s) (nI (s + n)) (f + 1) v (nI s + (-1)) X = some v := by
    intro f v
    rw [fX6_nameIn_7, if_pos]
    rw [z_lt]
    rcases Nat.eq_zero_or_pos s with q | q
    · subst q; decide
    · obtain ⟨u, rfl⟩ : ∃ u, s = u + 1 := ⟨s - 1, by omega⟩
      rw [pk_m1, nI_toInt (by omega), nI_toInt (by omega)]; omega
  have pre : ∀ i, nI (s + (i + 1)) + (-1) = nI (s + i) := fun i => pk_m1 (s + i)
  unfold fX6_nameIn
  rw [show (20000 : Nat) = 19996 + 1 + 1 + 1 + 1 from rfl, show (0 : Int32) = nI 0 from rfl]
  have stp0 : ∀ f v, 0 < n → fX6_nameIn_7 (nI s) (nI (s + n)) (f + 1) (nI v) (nI s) X = fX6_nameIn_7 (nI s) (nI (s + n)) f (nI (v * 5 + dv (X 30) s)) (nI s + (-1)) X := fun f v h0 => stp f v 0 h0
  have pre0 : nI (s + 1) + (-1) = nI s := pk_m1 s
  rcases (show n = 0 ∨ n = 1 ∨ n = 2 ∨ n = 3 by omega) with rfl | rfl | rfl | rfl
  · have e : nI (s + 0) - 1 = nI s + (-1) := Int32.sub_eq_add_neg _ _
    rw [e, fin]; rfl
  · have e1 : nI (s + 1) - 1 = nI s := nI_pred s
    have e2 : (0 * 5 + dv (X 30) s) = pNm (X 30) s 1 := by rw [Nat.zero_mul, Nat.zero_add]; rfl
    rw [e1, stp0 (19996 + 1 + 1 + 1) 0 (by omega), fin (19996 + 1 + 1) _, e2]
  · have e2 : (0 * 5 + dv (X 30) (s + 1)) * 5 + dv (X 30) s = pNm (X 30) s 2 := by show _ = dv (X 30) s + 5 * dv (X 30) (s + 1); omega
    rw [show nI (s + 2) - 1 = nI (s + 1) from nI_pred (s + 1), stp (19996 + 1 + 1 + 1) 0 1 (by omega), pre0, stp0 (19996 + 1 + 1) _ (by omega), fin (19996 + 1) _, e2]
  · rw [show nI (s + 3) - 1 = nI (s + 2) from nI_pred (s + 2), stp (19996 + 1 + 1 + 1) 0 2 (by omega), show nI (s + 2) + (-1) = nI (s + 1) from pk_m1 (s + 1), stp (19996 + 1 + 1) _ 1 (by omega), pre0, stp0 (19996 + 1) _ (by omega), fin 19996 _]
    have e2 : ((0 * 5 + dv (X 30) (s + 2)) * 5 + dv (X 30) (s + 1)) * 5 + dv (X 30) s = pNm (X 30) s 3 := by show _ = dv (X 30) s + 5 * dv (X 30) (s + 1) + 25 * dv (X 30) (s + 2); omega
    rw [e2]
theorem xNumberIn (h : WX X) {s n : Nat} (hs : s < 900) (hn : n ≤ 3) (hd : dgs X s n) : fX6_numberIn (nI s) (nI (s + n)) X = some (nI (pNu (X 30) s n)) := by
  have hb := h.t3.2
  have stp : ∀ f v i, i < n → fX6_numberIn_5 (nI s) (nI (s + n)) (f + 1) (nI v) (nI (s + i)) X = fX6_numberIn_5 (nI s) (nI (s + n)) f (nI (v * 10 + dv (X 30) (s + i))) (nI (s + (i + 1))) X := by
    intro f v i hi
    obtain ⟨d1, d2, d3⟩ := hd i hi
    rw [fX6_numberIn_5, if_neg (nI_ge (by omega) (by omega)), xChar h (by omega), Option.bind_some]
    unfold chx
    rw [if_pos d1, d2, z_m10, nI_add, z_s48 (by omega), show v * 10 + (48 + dv (X 30) (s + i)) - 48 = v * 10 + dv (X 30) (s + i) by omega, nI_1]
    rfl
  have fin : ∀ f v, fX6_numberIn_5 (nI s) (nI (s + n)) (f + 1) v (nI (s + n)) X = some v := by
    intro f v
    rw [fX6_numberIn_5, if_pos (nI_le (Nat.le_refl _) (by omega))]
  unfold fX6_numberIn
  rw [show (20000 : Nat) = 19996 + 1 + 1 + 1 + 1 from rfl, show (0 : Int32) = nI 0 from rfl]
  have stp0 : ∀ f v, 0 < n → fX6_numberIn_5 (nI s) (nI (s + n)) (f + 1) (nI v) (nI s) X = fX6_numberIn_5 (nI s) (nI (s + n)) f (nI (v * 10 + dv (X 30) s)) (nI (s + 1)) X := fun f v h0 => stp f v 0 h0
  rcases (show n = 0 ∨ n = 1 ∨ n = 2 ∨ n = 3 by omega) with rfl | rfl | rfl | rfl
  · have f0 := fin (19996 + 1 + 1 + 1) (nI 0)
    rw [show nI (s + 0) = nI s from rfl] at f0
    rw [show nI (s + 0) = nI s from rfl, f0]; rfl
  · have e2 : (0 * 10 + dv (X 30) s) = pNu (X 30) s 1 := by rw [Nat.zero_mul, Nat.zero_add]; rfl
    rw [stp0 (19996 + 1 + 1 + 1) 0 (by omega), fin (19996 + 1 + 1) _, e2]
  · have e2 : (0 * 10 + dv (X 30) s) * 10 + dv (X 30) (s + 1) = pNu (X 30) s 2 := by show _ = 10 * dv (X 30) s + dv (X 30) (s + 1); omega
    rw [stp0 (19996 + 1 + 1 + 1) 0 (by omega), stp (19996 + 1 + 1) _ 1 (by omega), show s + (1 + 1) = s + 2 from rfl, fin (19996 + 1) _, e2]
  · have e2 : ((0 * 10 + dv (X 30) s) * 10 + dv (X 30) (s + 1)) * 10 + dv (X 30) (s + 2) = pNu (X 30) s 3 := by show _ = 100 * dv (X 30) s + 10 * dv (X 30) (s + 1) + dv (X 30) (s + 2); omega
    rw [stp0 (19996 + 1 + 1 + 1) 0 (by omega), stp (19996 + 1 + 1) _ 1 (by omega), show s + (1 + 1) = s + 2 from rfl, stp (19996 + 1) _ 2 (by omega), show s + (2 + 1) = s + 3 from rfl, fin 19996 _, e2]
theorem dgs_lab {s : Nat} : dgs X s (dgc (X 30) (nT X) 49 52 s) := by
  intro i hi
  have := inR_dv (l := 1) (k := 4) (by decide) (by decide) (by omega) (dgc_in hi)
  exact ⟨this.1, this.2.1, by omega⟩
theorem dgs_dig {s : Nat} : dgs X s (dgc (X 30) (nT X) 48 57 s) := by
  intro i hi
  have := inR_dv (l := 0) (k := 9) (by decide) (by decide) (by omega) (dgc_in hi)
  exact ⟨this.1, this.2.1, by omega⟩
theorem chx_C {c : Int32} (hc : ¬ c = -1) {i : Nat} : chx X i = c ↔ isC (X 30) (nT X) c i = true := by
  unfold chx isC
  by_cases q : i < nT X
  · rw [if_pos q, decide_eq_true q, Bool.true_and, decide_eq_true_eq]
  · rw [if_neg q, decide_eq_false q, Bool.false_and]
    exact ⟨fun e => absurd e.symm hc, fun e => by cases e⟩
theorem z_sub_add (a b : Int32) : a - b + b = a := Int32.sub_add_cancel a b
theorem chx_ty {i : Nat} : cRg 0 2 (chx X i - 48) = inR (X 30) (nT X) 48 50 i ∧ (inR (X 30) (nT X) 48 50 i = true → chx X i - 48 = nI (dv (X 30) i) ∧ dv (X 30) i ≤ 2) := by
  have h2 : inR (X 30) (nT X) 48 50 i = true → chx X i - 48 = nI (dv (X 30) i) ∧ dv (X 30) i ≤ 2 := by
    intro q
    have := inR_dv (l := 0) (k := 2) (by decide) (by decide) (by omega) q
    refine ⟨?_, this.2.2.2⟩
    unfold chx
    rw [if_pos this.1, this.2.1, z_s48 (by omega), show 48 + dv (X 30) i - 48 = dv (X 30) i by omega]
  refine ⟨bool_eq ⟨fun q => ?_, fun q => ?_⟩, h2⟩
  · obtain ⟨y, -, hy, e⟩ := cRg_of (lo := 0) (hi := 2) (l := 0) (k := 2) (by decide) (by decide) (by omega) q
    have e2 : chx X i = nI (y + 48) := by
      rw [← z_sub_add (chx X i) 48, e]
      exact nI_add y 48
    unfold chx at e2
    by_cases ql : i < nT X
    · rw [if_pos ql] at e2
      unfold inR
      rw [decide_eq_true ql, Bool.true_and, e2]
      simp only [cRg, decide_eq_true_eq]
      rw [nI_toInt (by omega)]
      have c1 : (48 : Int32).toInt = 48 := by decide
      have c2 : (50 : Int32).toInt = 50 := by decide
      omega
    · rw [if_neg ql] at e2
      have := (z_eq _ _).mp e2
      rw [nI_toInt (by omega), z_m1] at this
      omega
  · obtain ⟨e, hy⟩ := h2 q
    rw [e]
    simp only [cRg, decide_eq_true_eq]
    rw [nI_toInt (by omega)]; omega
theorem prs_adv {t : Nat → Int32} {L s nx k y : Nat} {v : Int32} (h : prs t L s = some (nx, k, y, v)) : s + 5 ≤ nx ∧ nx ≤ L := by
  have hC : ∀ c i, isC t L c i = true → i < L := by
    intro c i q
    unfold isC at q
    simp only [Bool.and_eq_true, decide_eq_true_eq] at q
    exact q.1
  unfold prs at h
  split at h
  · cases h
  · rename_i q0
    split at h
    · split at h
      · split at h
        · split at h
          · cases h
          · split at h
            · split at h
              · rename_i q9
                cases h
                have := hC _ _ q9
                omega
              · cases h
            · cases h
        · split at h
          · split at h
            · rename_i q9
              cases h
              have := hC _ _ q9
              omega
            · cases h
          · cases h
      · cases h
    · cases h
end
