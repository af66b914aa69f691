theorem lp_fstN {ρ : Type} (n : Nat) (P : Nat → Bool) (I : Nat → Prop) (L : Nat → Nat → ρ) (yes : Nat → ρ) (no : ρ) (hI0 : I 0) (hI : ∀ i, i < n → I i → P i = false → I (i + 1))
    (h1 : ∀ f i, i < n → I i → L (f + 1) i = if P i = true then yes i else L f (i + 1)) (h2 : ∀ f, I n → L (f + 1) n = no) :
    ∀ f, n < f → L f 0 = match fst1 P n with
      | some i => yes i
      | none => no := by
  have key : ∀ r i f, i + r = n → r < f → I i → fst1 P i = none → L f i = match fst1 P n with
      | some i => yes i
      | none => no := by
    intro r
    induction r with
    | zero =>
      intro i f hi hf hI' hn
      obtain ⟨f, rfl⟩ : ∃ g, f = g + 1 := ⟨f - 1, by omega⟩
      have : i = n := by omega
      subst this
      rw [h2 f hI', hn]
    | succ r ih =>
      intro i f hi hf hI' hn
      obtain ⟨f, rfl⟩ : ∃ g, f = g + 1 := ⟨f - 1, by omega⟩
      rw [h1 f i (by omega) hI']
      by_cases hp : P i = true
      · rw [if_pos hp, (fst1_some n i).mpr ⟨by omega, hp, (fst1_none i).mp hn⟩]
      · rw [if_neg hp]
        refine ih (i + 1) f (by omega) (by omega) (hI i (by omega) hI' (by simpa using hp)) ?_
        unfold fst1
        rw [hn]
        simp [hp]
  intro f hf
  exact key n 0 f (by omega) hf hI0 rfl
theorem z_add0 (a : Int32) : a + 0 = a := Int32.add_zero a
section
variable {X S : qS}
theorem WX.c3 (h : WX X) : X 16 3 = nI (nC X) ∧ nC X ≤ 70 := h.n3.2.2.1
theorem WX.z3 (h : WX X) : X 10 3 = nI (nZ X) ∧ nZ X ≤ 10 := h.n3.2.1
theorem WX.m3 (h : WX X) : X 2 3 = nI (nN X) ∧ nN X ≤ 10 := h.n3.1
theorem mPart (h : Rl X S) {i : Nat} (hi : i < nC X) : fX9_part (nI i) 0 S = some (X 19 i) ∧ fX9_part (nI i) 1 S = some (X 17 i) ∧ fX9_part (nI i) 2 S = some (X 20 i) ∧ fX9_part (nI i) 3 S = some (X 21 i) ∧ fX9_part (nI i) 4 S = some (X 22 i) := zM_part h.1.c3.2 h.2.2.2.2.1 hi
theorem o_zoneInfo (h : Rl X S) (a b : Int32) : Rr (fX8_zoneInfo a b X) (fX9_zoneInfo a b S) := by
  unfold fX8_zoneInfo fX9_zoneInfo Rr
  rw [zX_zone h.1, zM_isZone h, zM_in]
  simp only [Option.bind_some]
  cases h1 : cMd (nZ X) a with
  | false => exact ⟨_, rfl, rfl⟩
  | true =>
    have hb := h.1.z3.2
    obtain ⟨z, hz, rfl⟩ := cMd_of h1 (by omega)
    obtain ⟨e0, e1, e2, e3⟩ := h.2.2.2.1 z hz
    rw [if_pos (z_inb (show z < 10 by omega) (by omega)), if_pos (z_inb (show z < 10 by omega) (by omega)), if_pos (z_inb (show z < 10 by omega) (by omega)), if_pos (z_inb (show z < 10 by omega) (by omega)), nI_clamp (show z < 2 ^ 31 by omega), xZnow h.1 hz, mGone h hz, z_4]
    simp only [Option.bind_some, if_true]
    by_cases q0 : b = 0
    · subst q0
      rw [if_pos rfl, if_pos (show cRg (Int32.toInt 0) (Int32.toInt 3) 0 = true by decide), if_neg (show ¬ (0 : Int32) = 3 by decide), z_p0, if_pos (z_inb (by omega) (by omega)), nI_clamp (by omega), e0]
      exact ⟨_, rfl, rfl⟩
    · rw [if_neg q0]
      by_cases q1 : b = 1
      · subst q1
        rw [if_pos rfl, if_pos (show cRg (Int32.toInt 0) (Int32.toInt 3) 1 = true by decide), if_neg (show ¬ (1 : Int32) = 3 by decide), z_p1, if_pos (z_inb (by omega) (by omega)), nI_clamp (by omega), e1]
        exact ⟨_, rfl, rfl⟩
      · rw [if_neg q1]
        by_cases q2 : b = 2
        · subst q2
          rw [if_pos rfl, if_pos (show cRg (Int32.toInt 0) (Int32.toInt 3) 2 = true by decide), if_neg (show ¬ (2 : Int32) = 3 by decide), z_p2, if_pos (z_inb (by omega) (by omega)), nI_clamp (by omega), e2]
          exact ⟨_, rfl, rfl⟩
        · rw [if_neg q2]
          by_cases q3 : b = 3
          · subst q3
            rw [if_pos rfl, if_pos (show cRg (Int32.toInt 0) (Int32.toInt 3) 3 = true by decide), if_pos rfl, z_p3, if_pos (z_inb (by omega) (by omega)), nI_clamp (by omega), e3]
            by_cases q : X 12 z = 10000
            · rw [decide_eq_true q]
              exact ⟨_, rfl, rfl⟩
            · rw [decide_eq_false q, toU, if_neg q]
              exact ⟨_, rfl, rfl⟩
          · rw [if_neg q3, if_neg]
            · exact ⟨_, rfl, rfl⟩
            · simp only [cRg, decide_eq_true_eq]
              rw [z_eq] at q0 q1 q2 q3
              have c0 : (0 : Int32).toInt = 0 := by decide
              have c1 : (1 : Int32).toInt = 1 := by decide
              have c2 : (2 : Int32).toInt = 2 := by decide
              have c3 : (3 : Int32).toInt = 3 := by decide
              omega
theorem o_serial (h : Rl X S) (a b : Int32) : Rr (fX8_serial a b X) (fX9_serial a b S) := by
  unfold fX8_serial fX9_serial Rr
  rw [zX_zone h.1, zM_isZone h, zX_isTick h.1, zM_isTick h]
  simp only [Option.bind_some]
  cases h1 : cMd (nZ X) a with
  | false => exact ⟨_, rfl, rfl⟩
  | true =>
    cases h2 : cTk X b with
    | false => exact ⟨_, rfl, rfl⟩
    | true =>
      have hb := h.1.c3.2
      rw [zX4_countChanges h.1.n3.2.2.1]
      simp only [Option.bind_some, if_true]
      refine ⟨_, rfl, ?_⟩
      refine lp_cnt (nC X) (fun i => decide (X 19 i = a) && decide (X 17 i ≤ b)) (fun f c i => fX9_serial_23 a b f c i S) some ?_ ?_ 20000 (by omega)
      · intro f c i hi
        show fX9_serial_23 a b (f + 1) (nI c) (nI i) S = _
        obtain ⟨p0, p1, -⟩ := mPart h hi
        rw [fX9_serial_23, h.2.1.2.2.2.1, h.1.c3.1, if_neg (nI_ge hi (by omega)), p0, p1]
        simp only [Option.bind_some, z_p0, nI_1]
        by_cases q1 : X 19 i = a
        · rw [if_pos q1]
          by_cases q2 : b < X 17 i
          · rw [if_pos q2, if_neg (by simp [z_nle.mpr q2])]
          · rw [if_neg q2, if_pos (by simp [q1, z_nlt.mp q2])]
        · rw [if_neg q1, if_neg (by simp [q1])]
      · intro f c
        show fX9_serial_23 a b (f + 1) (nI c) (nI (nC X)) S = _
        rw [fX9_serial_23, h.2.1.2.2.2.1, h.1.c3.1, if_pos (nI_le (Nat.le_refl _) (by omega))]
def xCh (X : qS) (z : Int32) (m : Nat) : Option Nat := fst1 (fun i => decide (X 19 i = z) && decide (cnt (fun i => decide (X 19 i = z)) i = m)) (nC X)
theorem xFindChange (h : WX X) (z : Int32) {m : Nat} (hm : m < 2 ^ 31) : fX4_findChange z (nI m) X = some (o2i (xCh X z m)) := by
  have hb := h.c3.2
  unfold fX4_findChange
  have := lp_fstN (nC X) (fun i => decide (X 19 i = z) && decide (cnt (fun i => decide (X 19 i = z)) i = m)) (fun _ => True) (fun f i => fX4_findChange_5 z (nI m) f (nI (cnt (fun i => decide (X 19 i = z)) i)) (nI i) X) (fun i => some (nI i)) (some (-1)) trivial (fun _ _ _ _ => trivial) ?_ ?_ 20000 (by omega)
  · show fX4_findChange_5 z (nI m) 20000 (nI (cnt (fun i => decide (X 19 i = z)) 0)) (nI 0) X = _
    rw [this]
    unfold xCh
    cases fst1 _ (nC X) <;> rfl
  · intro f i hi _
    show fX4_findChange_5 z (nI m) (f + 1) (nI (cnt (fun i => decide (X 19 i = z)) i)) (nI i) X = _
    have hcl := cnt_le (fun i => decide (X 19 i = z)) i
    have e1 : cnt (fun i => decide (X 19 i = z)) (i + 1) = if decide (X 19 i = z) = true then cnt (fun i => decide (X 19 i = z)) i + 1 else cnt (fun i => decide (X 19 i = z)) i := rfl
    rw [fX4_findChange_5, h.c3.1, if_neg (nI_ge hi (by omega)), if_pos (z_inb (by omega) (by omega)), nI_clamp (by omega), nI_1, nI_1]
    by_cases q1 : X 19 i = z
    · rw [if_pos q1]
      have c1 := nI_eq (a := cnt (fun i => decide (X 19 i = z)) i) (b := m) (by omega) hm
      by_cases q2 : cnt (fun i => decide (X 19 i = z)) i = m
      · rw [if_pos (c1.mpr q2), if_pos (by simp [q1, q2])]
      · rw [if_neg (fun e => q2 (c1.mp e)), if_neg (by simp [q2]), e1, if_pos (by simp [q1])]
    · rw [if_neg q1, if_neg (by simp [q1]), e1, if_neg (by simp [q1])]
  · intro f _
    show fX4_findChange_5 z (nI m) (f + 1) (nI (cnt (fun i => decide (X 19 i = z)) (nC X))) (nI (nC X)) X = _
    rw [fX4_findChange_5, h.c3.1, if_pos (nI_le (Nat.le_refl _) (by omega))]
theorem o_change (h : Rl X S) (a b c : Int32) : Rr (fX8_change a b c X) (fX9_change a b c S) := by
  unfold fX8_change fX9_change Rr
  rw [zX_zone h.1, zM_isZone h, zM_in]
  simp only [Option.bind_some]
  cases h1 : cMd (nZ X) a with
  | false => exact ⟨_, rfl, rfl⟩
  | true =>
    simp only [if_true]
    by_cases hb0 : b < 0
    · rw [if_pos hb0, if_pos hb0]; exact ⟨_, rfl, rfl⟩
    · rw [if_neg hb0, if_neg hb0]
      have c0 : (0 : Int32).toInt = 0 := by decide
      have c3 : (3 : Int32).toInt = 3 := by decide
      by_cases hc0 : c < 0
      · rw [if_pos hc0, if_neg]
        · exact ⟨_, rfl, rfl⟩
        · rw [z_lt] at hc0
          simp only [cRg, decide_eq_true_eq]; omega
      · rw [if_neg hc0]
        by_cases hc3 : c ≤ 3
        · rw [if_pos hc3, if_pos (by rw [z_lt] at hc0; rw [z_le] at hc3; simp only [cRg, decide_eq_true_eq]; omega)]
          have hbn := h.1.c3.2
          obtain ⟨m, hm, rfl⟩ := nI_of hb0
          rw [xFindChange h.1 a hm, Option.bind_some]
          have hM : fX9_change_29 a (nI m) c 20000 (nI m) 0 S = match xCh X a m with
              | some i => (fX9_part (nI i) (1 + c) S).bind fun r60 => some r60
              | none => some (-4) := by
            have := lp_fstN (nC X) (fun i => decide (X 19 i = a) && decide (cnt (fun i => decide (X 19 i = a)) i = m)) (fun i => cnt (fun i => decide (X 19 i = a)) i ≤ m) (fun f i => fX9_change_29 a (nI m) c f (nI (m - cnt (fun i => decide (X 19 i = a)) i)) (nI i) S) (fun i => (fX9_part (nI i) (1 + c) S).bind fun r60 => some r60) (some (-4)) (Nat.zero_le _) ?_ ?_ ?_ 20000 (by omega)
            · exact this
            · intro i hi hI hp
              have e1 : cnt (fun i => decide (X 19 i = a)) (i + 1) = if decide (X 19 i = a) = true then cnt (fun i => decide (X 19 i = a)) i + 1 else cnt (fun i => decide (X 19 i = a)) i := rfl
              rw [e1]
              by_cases q1 : X 19 i = a
              · rw [if_pos (by simp [q1])]
                simp only [q1, decide_true, Bool.true_and, decide_eq_false_iff_not] at hp
                omega
              · rw [if_neg (by simp [q1])]; exact hI
            · intro f i hi hI
              show fX9_change_29 a (nI m) c (f + 1) (nI (m - cnt (fun i => decide (X 19 i = a)) i)) (nI i) S = _
              have e1 : cnt (fun i => decide (X 19 i = a)) (i + 1) = if decide (X 19 i = a) = true then cnt (fun i => decide (X 19 i = a)) i + 1 else cnt (fun i => decide (X 19 i = a)) i := rfl
              rw [fX9_change_29, h.2.1.2.2.2.1, h.1.c3.1, if_neg (nI_ge hi (by omega)), (mPart h hi).1, Option.bind_some, nI_1]
              by_cases q1 : X 19 i = a
              · rw [if_pos q1]
                by_cases q2 : cnt (fun i => decide (X 19 i = a)) i = m
                · rw [if_pos (show nI (m - cnt (fun i => decide (X 19 i = a)) i) = 0 by rw [q2, Nat.sub_self]; rfl), if_pos (by simp [q1, q2])]
                · rw [if_neg (nI_ne0 (by omega) (by omega)), if_neg (by simp [q2]), e1, if_pos (by simp [q1])]
                  obtain ⟨u, hu⟩ : ∃ u, m - cnt (fun i => decide (X 19 i = a)) i = u + 1 := ⟨m - cnt (fun i => decide (X 19 i = a)) i - 1, by omega⟩
                  rw [hu, pk_m1, show m - (cnt (fun i => decide (X 19 i = a)) i + 1) = u by omega]
              · rw [if_neg q1, if_neg (by simp [q1]), e1, if_neg (by simp [q1])]
            · intro f _
              show fX9_change_29 a (nI m) c (f + 1) _ (nI (nC X)) S = _
              rw [fX9_change_29, h.2.1.2.2.2.1, h.1.c3.1, if_pos (nI_le (Nat.le_refl _) (by omega))]
          rw [hM]
          cases hx : xCh X a m with
          | none => rw [if_pos (show o2i none = -1 from rfl)]; exact ⟨_, rfl, rfl⟩
          | some i =>
            have hi : i < nC X := ((fst1_some _ _).mp hx).1
            obtain ⟨p0, p1, p2, p3, p4⟩ := mPart h hi
            rw [if_neg (fun q => by cases (o2i_m1 (fun j hj => by cases hj; omega)).mp q), show o2i (some i) = nI i from rfl]
            simp only [if_pos (z_inb (show i < 70 by omega) (show 70 < 2 ^ 31 by omega)), nI_clamp (show i < 2 ^ 31 by omega)]
            by_cases q0 : c = 0
            · subst q0
              rw [if_pos rfl, show (1 : Int32) + 0 = 1 from rfl, p1]; exact ⟨_, rfl, rfl⟩
            · rw [if_neg q0]
              by_cases q1 : c = 1
              · subst q1
                rw [if_pos rfl, show (1 : Int32) + 1 = 2 from rfl, p2]; exact ⟨_, rfl, rfl⟩
              · rw [if_neg q1]
                by_cases q2 : c = 2
                · subst q2
                  rw [if_pos rfl, show (1 : Int32) + 2 = 3 from rfl, p3]; exact ⟨_, rfl, rfl⟩
                · have q3 : c = 3 := by
                    rw [z_eq] at q0 q1 q2 ⊢
                    rw [z_lt] at hc0
                    rw [z_le] at hc3
                    have c1 : (1 : Int32).toInt = 1 := by decide
                    have c2 : (2 : Int32).toInt = 2 := by decide
                    omega
                  subst q3
                  rw [if_neg q2, show (1 : Int32) + 3 = 4 from rfl, p4]; exact ⟨_, rfl, rfl⟩
        · rw [if_neg hc3, if_neg]
          · exact ⟨_, rfl, rfl⟩
          · rw [z_le] at hc3
            simp only [cRg, decide_eq_true_eq]; omega
theorem toU_ge {u : Int32} (hu : 0 ≤ u.toInt) : 0 ≤ toU u ↔ ¬ u = 10000 := by
  rw [← toU_neg hu, z_nlt]
theorem o_count (h : Rl X S) (a : Int32) : Rr (fX8_count a X) (fX9_count a S) := by
  have hT := h.1.now
  unfold fX8_count fX9_count Rr
  by_cases q0 : a = 0
  · rw [if_pos q0, if_pos q0, zX5_countThere_2 h.1.n3.1]
    refine ⟨_, rfl, ?_⟩
    have hb := h.1.m3.2
    rw [show cnt (fun i => cTh (X 3 i) (X 4 i) (X 0 6)) (nr (X 2) 3) = cnt (fun i => decide (X 4 i = 10000)) (nN X) from cnt_congr _ (fun i hi => by rw [hT.1, th_now hT.2 (h.1.2.1.2.2 i hi).1])]
    refine lp_cnt (nN X) (fun i => decide (X 4 i = 10000)) (fun f c i => fX9_count_42 a f c i S) some ?_ ?_ 20000 (by omega)
    · intro f c i hi
      show fX9_count_42 a (f + 1) (nI c) (nI i) S = _
      rw [fX9_count_42, h.2.1.2.1, h.1.m3.1, if_neg (nI_ge hi (by omega)), z_5, z_p4, if_pos (z_inb (by omega) (by omega)), nI_clamp (by omega), (h.2.2.1 i hi).2.2.2.2, z_p0, nI_1, nI_1]
      have := toU_ge (h.nu hi)
      by_cases q : X 4 i = 10000
      · rw [if_neg (fun e => this.mp e q), if_pos (by simp [q])]
      · rw [if_pos (this.mpr q), if_neg (by simp [q])]
    · intro f c
      show fX9_count_42 a (f + 1) (nI c) (nI (nN X)) S = _
      rw [fX9_count_42, h.2.1.2.1, h.1.m3.1, if_pos (nI_le (Nat.le_refl _) (by omega))]
  · rw [if_neg q0, if_neg q0]
    have hb := h.1.z3.2
    by_cases q1 : a = 1
    · rw [if_pos q1, if_pos q1, zX5_countThere_10 h.1.n3.2.1]
      refine ⟨_, rfl, ?_⟩
      rw [show cnt (fun i => cTh (X 11 i) (X 12 i) (X 0 6)) (nr (X 10) 3) = cnt (fun i => decide (X 12 i = 10000)) (nZ X) from cnt_congr _ (fun i hi => by rw [hT.1, th_now hT.2 (h.1.2.2.1.2.2.1 i hi).1])]
      refine lp_cnt (nZ X) (fun i => decide (X 12 i = 10000)) (fun f c i => fX9_count_81 a f c i S) some ?_ ?_ 20000 (by omega)
      · intro f c i hi
        show fX9_count_81 a (f + 1) (nI c) (nI i) S = _
        rw [fX9_count_81, h.2.1.2.2.1, h.1.z3.1, if_neg (nI_ge hi (by omega)), mGone h hi, Option.bind_some, z_p0, nI_1, nI_1]
        cases decide (X 12 i = 10000) <;> rfl
      · intro f c
        show fX9_count_81 a (f + 1) (nI c) (nI (nZ X)) S = _
        rw [fX9_count_81, h.2.1.2.2.1, h.1.z3.1, if_pos (nI_le (Nat.le_refl _) (by omega))]
    · rw [if_neg q1, if_neg q1]
      by_cases q2 : a = 2
      · rw [if_pos q2, if_pos q2]
        have hx : fX0_countRecords (X 0 6) X = some (fld (fun v i => if decide (X 12 i = 10000) = true then v + nI (cCI (nC X) (X 17) (X 18) (X 19) (nI i) (X 0 6)) else v) 0 (nZ X)) := by
          unfold fX0_countRecords
          refine (lp_fld (nZ X) (fun v i => if decide (X 12 i = 10000) = true then v + nI (cCI (nC X) (X 17) (X 18) (X 19) (nI i) (X 0 6)) else v) 0 (fun f v i => fX0_countRecords_4 (X 0 6) f v i X) some (fun _ _ => True) trivial ?_ ?_ 20000 (by omega)).1
          · intro f v i hi _
            refine ⟨?_, trivial⟩
            show fX0_countRecords_4 (X 0 6) (f + 1) v (nI i) X = _
            rw [fX0_countRecords_4, h.1.z3.1, if_neg (nI_ge hi (by omega)), xZnow h.1 hi, Option.bind_some, zX4_countIn h.1.n3.2.2.1, Option.bind_some, nI_1]
            cases decide (X 12 i = 10000) <;> rfl
          · intro f v _
            show fX0_countRecords_4 (X 0 6) (f + 1) v (nI (nZ X)) X = _
            rw [fX0_countRecords_4, h.1.z3.1, if_pos (nI_le (Nat.le_refl _) (by omega))]
        rw [hx]
        refine ⟨_, rfl, ?_⟩
        refine (lp_fld (nZ X) (fun v i => if decide (X 12 i = 10000) = true then v + nI (cCI (nC X) (X 17) (X 18) (X 19) (nI i) (X 0 6)) else v) 0 (fun f v i => fX9_count_115 a f v i S) some (fun _ _ => True) trivial ?_ ?_ 20000 (by omega)).1
        · intro f v i hi _
          refine ⟨?_, trivial⟩
          show fX9_count_115 a (f + 1) v (nI i) S = _
          rw [fX9_count_115, h.2.1.2.2.1, h.1.z3.1, if_neg (nI_ge hi (by omega)), mGone h hi, Option.bind_some, zM_records h.mr h.now, Option.bind_some, z_add0, nI_1, h.1.now.1]
          cases decide (X 12 i = 10000) <;> rfl
        · intro f v _
          show fX9_count_115 a (f + 1) v (nI (nZ X)) S = _
          rw [fX9_count_115, h.2.1.2.2.1, h.1.z3.1, if_pos (nI_le (Nat.le_refl _) (by omega))]
      · rw [if_neg q2, if_neg q2]
        by_cases q3 : a = 3
        · rw [if_pos q3, if_pos q3, h.2.1.2.2.2.1]; exact ⟨_, rfl, rfl⟩
        · rw [if_neg q3, if_neg q3]
          by_cases q4 : a = 4
          · rw [if_pos q4, if_pos q4, h.2.1.2.2.2.2.1]; exact ⟨_, rfl, rfl⟩
          · rw [if_neg q4, if_neg q4]
            by_cases q5 : a = 5
            · rw [if_pos q5, if_pos q5, h.2.1.2.2.2.2.2.2.1]; exact ⟨_, rfl, rfl⟩
            · rw [if_neg q5, if_neg q5]; exact ⟨_, rfl, rfl⟩
end
