def xSto (X : qS) (c k y : Nat) (v : Int32) : qS := q_up (q_up (q_up (q_up X 31 c (nI k)) 32 c (nI y)) 33 c v) 29 5 (nI (c + 1))
section
variable {X : qS}
def pRes (X : qS) (c : Nat) (o : Option (Nat × Nat × Nat × Int32)) : Option (Int32 × qS) := match o with
  | none => some (-1, X)
  | some (nx, k, y, v) => some (nI nx, xSto X c k y v)
theorem cRg2 {y : Nat} (h : y ≤ 2) : cRg 0 2 (nI y) = true := by
  simp only [cRg, decide_eq_true_eq]
  rw [nI_toInt (by omega)]; omega
set_option maxHeartbeats 4000000 in
theorem xReadChange (h : WX X) {s c : Nat} (hs : s ≤ 60) (hc : X 29 5 = nI c) (h5 : 5 * c ≤ s) : fX6_readChange (nI s) X = pRes X c (prs (X 30) (nT X) s) := by
  have hb := h.t3.2
  have hC : ∀ ch i, isC (X 30) (nT X) ch i = true → i < 60 := by
    intro ch i q
    unfold isC at q
    simp only [Bool.and_eq_true, decide_eq_true_eq] at q
    omega
  unfold fX6_readChange prs
  rw [xDigits h (by decide) (by omega), Option.bind_some]
  have hd1 : dgs X s (dgc (X 30) (nT X) 49 52 s) := dgs_lab
  have hl1 : dgc (X 30) (nT X) 49 52 s ≤ 3 := dgc_le _ _ _ _ _
  generalize dgc (X 30) (nT X) 49 52 s = n1 at *
  rw [nI_add, nI_1, z_p2, nI_1, xChar h (show s + n1 + 1 < 1000 by omega), Option.bind_some]
  by_cases q0 : n1 = 0
  · subst q0
    rw [if_pos (show nI (s + 0) = nI s from rfl), if_pos rfl]; rfl
  · have ne : ¬ nI (s + n1) = nI s := fun e => q0 (by have := nI_inj (by omega) (by omega) e; omega)
    rw [if_neg ne, if_neg q0, xChar h (show s + n1 < 1000 by omega), Option.bind_some]
    have c58 := chx_C (X := X) (c := 58) (by decide) (i := s + n1)
    by_cases q1 : isC (X 30) (nT X) 58 (s + n1) = true
    · rw [if_pos (c58.mpr q1), if_pos q1, zX_isType, Option.bind_some, chx_ty.1]
      by_cases q2 : inR (X 30) (nT X) 48 50 (s + n1 + 1) = true
      · obtain ⟨ey, hy⟩ := (chx_ty (X := X) (i := s + n1 + 1)).2 q2
        rw [if_pos q2, if_pos q2, ey]
        generalize dv (X 30) (s + n1 + 1) = y at *
        rw [xChar h (show s + n1 + 2 < 1000 by omega), Option.bind_some]
        have e3 : s + n1 + 2 + 1 = s + n1 + 3 := rfl
        rw [e3]
        -- the end of a change
        have fin : ∀ (E : Nat) (v : Int32), E < 100 → (isC (X 30) (nT X) 59 E = true → s + 4 ≤ E) → ((fX6_characterAt (nI E) X).bind fun r171 => if r171 = 59 then if X 29 5 < 12 then (fX6_nameIn (nI s) (nI (s + n1)) X).bind fun r201 => if q_inb (X 29 5) 12 = true then if q_inb (X 29 5) 12 = true then if q_inb (X 29 5) 12 = true then some (nI E + 1, q_up (q_up (q_up (q_up X 31 (X 29 5).toNatClampNeg r201) 32 (X 29 5).toNatClampNeg (nI y)) 33 (X 29 5).toNatClampNeg v) 29 5 (X 29 5 + 1)) else none else none else none else some (-1, X) else some (-1, X)) = if isC (X 30) (nT X) 59 E = true then some (nI (E + 1), xSto X c (pNm (X 30) s n1) y v) else some (-1, X) := by
          intro E v hE hlow
          rw [xChar h (show E < 1000 by omega), Option.bind_some]
          have c59 := chx_C (X := X) (c := 59) (by decide) (i := E)
          by_cases q9 : isC (X 30) (nT X) 59 E = true
          · have l1 := hC _ _ q9
            have l2 := hlow q9
            have c12 : c < 12 := by omega
            rw [if_pos (c59.mpr q9), if_pos q9, hc, if_pos (show nI c < (12 : Int32) from nI_lt (b := 12) c12 (by omega)), xNameIn h (by omega) hl1 hd1, Option.bind_some, if_pos (z_inb c12 (by omega)), if_pos (z_inb c12 (by omega)), if_pos (z_inb c12 (by omega)), nI_clamp (by omega), nI_1, nI_1]
            rfl
          · rw [if_neg (fun e => q9 (c59.mp e)), if_neg q9]
        have c61 := chx_C (X := X) (c := 61) (by decide) (i := s + n1 + 2)
        by_cases q3 : isC (X 30) (nT X) 61 (s + n1 + 2) = true
        · rw [if_pos (c61.mpr q3), if_pos q3]
          have hval : ∀ w, fX8_isValue (nI y) (nI w) X = some (cVv (nI y) (nI w)) := fun w => by
            rw [zX_isValue, cRg2 hy, Bool.true_and]
          -- a value of n2 characters
          have val : ∀ n2 w, n2 ≤ 3 → ((if nI (s + n1 + 3 + n2) = nI (s + n1 + 3) then some ((-1), X) else (fX8_isValue (nI y) (nI w) X).bind fun r147 => if r147 = true then (fX6_characterAt (nI (s + n1 + 3 + n2)) X).bind fun r171 => if r171 = 59 then if X 29 5 < 12 then (fX6_nameIn (nI s) (nI (s + n1)) X).bind fun r201 => if q_inb (X 29 5) 12 = true then if q_inb (X 29 5) 12 = true then if q_inb (X 29 5) 12 = true then some (nI (s + n1 + 3 + n2) + 1, q_up (q_up (q_up (q_up X 31 (X 29 5).toNatClampNeg r201) 32 (X 29 5).toNatClampNeg (nI y)) 33 (X 29 5).toNatClampNeg (nI w)) 29 5 (X 29 5 + 1)) else none else none else none else some (-1, X) else some (-1, X) else some ((-1), X)) : Option (Int32 × qS)) = pRes X c (if n2 = 0 then none else if cVv (nI y) (nI w) = true then if isC (X 30) (nT X) 59 (s + n1 + 3 + n2) = true then some (s + n1 + 3 + n2 + 1, pNm (X 30) s n1, y, nI w) else none else none) := by
            intro n2 w hn2
            by_cases p0 : n2 = 0
            · subst p0
              rw [if_pos rfl, if_pos rfl]; rfl
            · rw [if_neg (fun e => p0 (by have := nI_inj (by omega) (by omega) e; omega)), if_neg p0, hval, Option.bind_some]
              by_cases p1 : cVv (nI y) (nI w) = true
              · rw [if_pos p1, if_pos p1, fin _ _ (by omega) (fun _ => by omega)]
                by_cases p2 : isC (X 30) (nT X) 59 (s + n1 + 3 + n2) = true
                · rw [if_pos p2, if_pos p2]; rfl
                · rw [if_neg p2, if_neg p2]; rfl
              · rw [if_neg p1, if_neg p1]; rfl
          by_cases qy : y = 1
          · subst qy
            rw [if_pos (show nI 1 = (1 : Int32) from rfl), xDigits h (by decide) (by omega), Option.bind_some, if_pos (show nI 1 = (1 : Int32) from rfl), nI_add]
            have hd2 : dgs X (s + n1 + 3) (dgc (X 30) (nT X) 49 52 (s + n1 + 3)) := dgs_lab
            have hl2 : dgc (X 30) (nT X) 49 52 (s + n1 + 3) ≤ 3 := dgc_le _ _ _ _ _
            rw [xNameIn h (by omega) hl2 hd2, Option.bind_some]
            have e1 : pN2 (X 30) (nT X) 1 (s + n1 + 3) = dgc (X 30) (nT X) 49 52 (s + n1 + 3) := if_pos rfl
            have e2 : ∀ n, pW (X 30) 1 (s + n1 + 3) n = pNm (X 30) (s + n1 + 3) n := fun n => if_pos rfl
            rw [e1, e2]
            exact val _ _ hl2
          · have ny : ¬ nI y = (1 : Int32) := fun e => qy (nI_inj (b := 1) (by omega) (by omega) e)
            rw [if_neg ny, xDigits h (by decide) (by omega), Option.bind_some, if_neg ny, nI_add]
            have hd2 : dgs X (s + n1 + 3) (dgc (X 30) (nT X) 48 57 (s + n1 + 3)) := dgs_dig
            have hl2 : dgc (X 30) (nT X) 48 57 (s + n1 + 3) ≤ 3 := dgc_le _ _ _ _ _
            rw [xNumberIn h (by omega) hl2 hd2, Option.bind_some]
            have e1 : pN2 (X 30) (nT X) y (s + n1 + 3) = dgc (X 30) (nT X) 48 57 (s + n1 + 3) := if_neg qy
            have e2 : ∀ n, pW (X 30) y (s + n1 + 3) n = pNu (X 30) (s + n1 + 3) n := fun n => if_neg qy
            rw [e1, e2]
            exact val _ _ hl2
        · rw [if_neg (fun e => q3 (c61.mp e)), if_neg q3]
          have c45 := chx_C (X := X) (c := 45) (by decide) (i := s + n1 + 2)
          rw [Option.bind_some]
          by_cases q4 : isC (X 30) (nT X) 45 (s + n1 + 2) = true
          · rw [if_pos (c45.mpr q4), if_pos q4, fin _ _ (by omega) (fun _ => by omega)]
            by_cases p2 : isC (X 30) (nT X) 59 (s + n1 + 3) = true
            · rw [if_pos p2, if_pos p2]; rfl
            · rw [if_neg p2, if_neg p2]; rfl
          · rw [if_neg (fun e => q4 (c45.mp e)), if_neg q4]; rfl
      · rw [if_neg q2, if_neg q2]; rfl
    · rw [if_neg (fun e => q1 (c58.mp e)), if_neg q1]; rfl
/-! reading the whole text -/
def XSc (X X' : qS) : Prop := (∀ q, q ≠ 29 → q ≠ 31 → q ≠ 32 → q ≠ 33 → X' q = X q) ∧ ∀ j, j ≠ 5 → X' 29 j = X 29 j
theorem XSc.rf : XSc X X := ⟨fun _ _ _ _ _ => rfl, fun _ _ => rfl⟩
theorem XSc.tr {Y Z : qS} (h : XSc X Y) (k : XSc Y Z) : XSc X Z := ⟨fun q a b c d => (k.1 q a b c d).trans (h.1 q a b c d), fun j hj => (k.2 j hj).trans (h.2 j hj)⟩
theorem XSc.sto (c k y : Nat) (v : Int32) : XSc X (xSto X c k y v) := by
  unfold xSto
  refine ⟨fun q a b cc d => ?_, fun j hj => ?_⟩
  · rw [q_up_n _ _ _ _ a, q_up_n _ _ _ _ d, q_up_n _ _ _ _ cc, q_up_n _ _ _ _ b]
  · rw [q_up_s, upd_n hj, q_up_n _ _ _ _ (by omega), q_up_n _ _ _ _ (by omega), q_up_n _ _ _ _ (by omega)]
theorem WX.xsc {X' : qS} (h : WX X) (k : XSc X X') : WX X' := by
  have e : ∀ q, q ≠ 29 → q ≠ 31 → q ≠ 32 → q ≠ 33 → X' q = X q := k.1
  unfold WX at h ⊢
  rw [e 0 (by omega) (by omega) (by omega) (by omega), e 2 (by omega) (by omega) (by omega) (by omega), e 3 (by omega) (by omega) (by omega) (by omega), e 4 (by omega) (by omega) (by omega) (by omega), e 5 (by omega) (by omega) (by omega) (by omega), e 10 (by omega) (by omega) (by omega) (by omega), e 11 (by omega) (by omega) (by omega) (by omega), e 12 (by omega) (by omega) (by omega) (by omega), e 13 (by omega) (by omega) (by omega) (by omega), e 14 (by omega) (by omega) (by omega) (by omega), e 16 (by omega) (by omega) (by omega) (by omega), e 17 (by omega) (by omega) (by omega) (by omega), e 18 (by omega) (by omega) (by omega) (by omega), e 19 (by omega) (by omega) (by omega) (by omega), e 20 (by omega) (by omega) (by omega) (by omega), e 21 (by omega) (by omega) (by omega) (by omega), e 22 (by omega) (by omega) (by omega) (by omega), e 23 (by omega) (by omega) (by omega) (by omega), e 24 (by omega) (by omega) (by omega) (by omega), e 25 (by omega) (by omega) (by omega) (by omega), e 26 (by omega) (by omega) (by omega) (by omega)]
  refine ⟨h.1, h.2.1, h.2.2.1, h.2.2.2.1, h.2.2.2.2.1, ?_⟩
  unfold Wt isN nr
  rw [k.2 1 (by omega)]
  exact h.2.2.2.2.2
theorem RM.xsc {X' S : qS} (h : RM X S) (k : XSc X X') : RM X' S := by
  have e : ∀ q, q ≠ 29 → q ≠ 31 → q ≠ 32 → q ≠ 33 → X' q = X q := k.1
  have e1 : nr (X' 29) 1 = nr (X 29) 1 := by unfold nr; rw [k.2 1 (by omega)]
  unfold RM at h ⊢
  rw [e 0 (by omega) (by omega) (by omega) (by omega), e 2 (by omega) (by omega) (by omega) (by omega), e 3 (by omega) (by omega) (by omega) (by omega), e 4 (by omega) (by omega) (by omega) (by omega), e 5 (by omega) (by omega) (by omega) (by omega), e 6 (by omega) (by omega) (by omega) (by omega), e 7 (by omega) (by omega) (by omega) (by omega), e 10 (by omega) (by omega) (by omega) (by omega), e 11 (by omega) (by omega) (by omega) (by omega), e 12 (by omega) (by omega) (by omega) (by omega), e 13 (by omega) (by omega) (by omega) (by omega), e 14 (by omega) (by omega) (by omega) (by omega), e 16 (by omega) (by omega) (by omega) (by omega), e 17 (by omega) (by omega) (by omega) (by omega), e 19 (by omega) (by omega) (by omega) (by omega), e 20 (by omega) (by omega) (by omega) (by omega), e 21 (by omega) (by omega) (by omega) (by omega), e 22 (by omega) (by omega) (by omega) (by omega), e 23 (by omega) (by omega) (by omega) (by omega), e 24 (by omega) (by omega) (by omega) (by omega), e 25 (by omega) (by omega) (by omega) (by omega), e 26 (by omega) (by omega) (by omega) (by omega), e 27 (by omega) (by omega) (by omega) (by omega), e 28 (by omega) (by omega) (by omega) (by omega), e 30 (by omega) (by omega) (by omega) (by omega), k.2 1 (by omega), e1]
  exact h
/-- the changes of the text from a place on; and the fault -/
def pAll (t : Nat → Int32) (L : Nat) : Nat → Nat → List (Nat × Nat × Int32) × Int32
  | 0, s => ([], nI s)
  | f + 1, s => if L ≤ s then ([], -4) else match prs t L s with
    | none => ([], nI s)
    | some (nx, k, y, v) => ((k, y, v) :: (pAll t L f nx).1, (pAll t L f nx).2)
/-- the rows hold these changes from a place on -/
def hasL (X : qS) (c : Nat) (l : List (Nat × Nat × Int32)) : Prop := ∀ i k y v, l[i]? = some (k, y, v) → X 31 (c + i) = nI k ∧ X 32 (c + i) = nI y ∧ X 33 (c + i) = v
theorem hasL_mono {X' : qS} {c : Nat} {l : List (Nat × Nat × Int32)} (h : ∀ i, c ≤ i → i < c + l.length → X' 31 i = X 31 i ∧ X' 32 i = X 32 i ∧ X' 33 i = X 33 i) (k : hasL X c l) : hasL X' c l := by
  intro i k1 y v hi
  have hl := (List.getElem?_eq_some_iff.mp hi).1
  obtain ⟨e1, e2, e3⟩ := h (c + i) (by omega) (by omega)
  rw [e1, e2, e3]
  exact k i k1 y v hi
theorem xRead_loop {X0 : qS} (h0 : WX X0) : ∀ r s c f n X, 60 ≤ s + 5 * r → s ≤ 60 → r < f → r < n → 5 * c ≤ s → XSc X0 X → X 29 5 = nI c → ∃ X', fX6_read_9 f (nI s) (nI c) X = some ((pAll (X0 30) (nT X0) n s).2, X') ∧ XSc X0 X' ∧ X' 29 5 = nI (c + (pAll (X0 30) (nT X0) n s).1.length) ∧ hasL X' c (pAll (X0 30) (nT X0) n s).1 ∧ ∀ i, i < c → X' 31 i = X 31 i ∧ X' 32 i = X 32 i ∧ X' 33 i = X 33 i := by
  have hb := h0.t3.2
  intro r
  induction r with
  | zero =>
    intro s c f n X hr hs hf hn h5 hx hc
    obtain ⟨f, rfl⟩ : ∃ g, f = g + 1 := ⟨f - 1, by omega⟩
    obtain ⟨n, rfl⟩ : ∃ g, n = g + 1 := ⟨n - 1, by omega⟩
    have e1 : X 29 1 = nI (nT X0) := by rw [hx.2 1 (by omega)]; exact h0.t3.1
    have le : nI (nT X0) ≤ nI s := nI_le (by omega) (by omega)
    rw [fX6_read_9, e1, if_pos le, if_pos le]
    unfold pAll
    rw [if_pos (show nT X0 ≤ s by omega)]
    refine ⟨X, ?_, hx, hc, fun i k y v hi => by simp at hi, fun i _ => ⟨rfl, rfl, rfl⟩⟩
    split <;> rfl
  | succ r ih =>
    intro s c f n X hr hs hf hn h5 hx hc
    obtain ⟨f, rfl⟩ : ∃ g, f = g + 1 := ⟨f - 1, by omega⟩
    obtain ⟨n, rfl⟩ : ∃ g, n = g + 1 := ⟨n - 1, by omega⟩
    have e1 : X 29 1 = nI (nT X0) := by rw [hx.2 1 (by omega)]; exact h0.t3.1
    have wx := h0.xsc hx
    have et : X 30 = X0 30 := hx.1 30 (by omega) (by omega) (by omega) (by omega)
    have eT : nT X = nT X0 := by unfold nT nr; rw [hx.2 1 (by omega)]
    rw [fX6_read_9, e1]
    by_cases ql : nT X0 ≤ s
    · have le : nI (nT X0) ≤ nI s := nI_le ql (by omega)
      rw [if_pos le, if_pos le]
      unfold pAll
      rw [if_pos ql]
      refine ⟨X, ?_, hx, hc, fun i k y v hi => by simp at hi, fun i _ => ⟨rfl, rfl, rfl⟩⟩
      split <;> rfl
    · have nle : ¬ nI (nT X0) ≤ nI s := nI_ge (by omega) (by omega)
      rw [if_neg nle, if_neg nle, if_neg (show ¬ (12 : Int32) ≤ nI c from nI_ge (b := 12) (by omega) (by omega)), xReadChange wx hs hc h5, et, eT]
      unfold pAll
      rw [if_neg ql]
      cases hp : prs (X0 30) (nT X0) s with
      | none =>
        refine ⟨X, ?_, hx, hc, fun i k y v hi => by simp at hi, fun i _ => ⟨rfl, rfl, rfl⟩⟩
        show (if (-1 : Int32) = -1 then some (nI s, X) else fX6_read_9 f (-1) (nI c + 1) X) = some (nI s, X)
        rw [if_pos rfl]
      | some o =>
        obtain ⟨nx, k, y, v⟩ := o
        have adv := prs_adv hp
        have hx2 : XSc X0 (xSto X c k y v) := hx.tr (XSc.sto c k y v)
        have hc2 : (xSto X c k y v) 29 5 = nI (c + 1) := by
          unfold xSto
          rw [q_up_s, upd_s]
        obtain ⟨X', g1, g2, g3, g4, g5⟩ := ih nx (c + 1) f n (xSto X c k y v) (by omega) (by omega) (by omega) (by omega) (by omega) hx2 hc2
        refine ⟨X', ?_, g2, ?_, ?_, ?_⟩
        · show (if nI nx = -1 then _ else fX6_read_9 f (nI nx) (nI c + 1) (xSto X c k y v)) = _
          rw [if_neg (nI_nm1 (by omega)), nI_1]
          exact g1
        · rw [g3]
          show _ = nI (c + (((k, y, v) :: (pAll (X0 30) (nT X0) n nx).1).length))
          rw [List.length_cons, show c + 1 + (pAll (X0 30) (nT X0) n nx).1.length = c + ((pAll (X0 30) (nT X0) n nx).1.length + 1) by omega]
        · intro i k1 y1 v1 hi
          have hi' : ((k, y, v) :: (pAll (X0 30) (nT X0) n nx).1)[i]? = some (k1, y1, v1) := hi
          cases i with
          | zero =>
            have e : (k, y, v) = (k1, y1, v1) := by simpa using hi'
            cases e
            obtain ⟨u1, u2, u3⟩ := g5 c (by omega)
            rw [Nat.add_zero, u1, u2, u3]
            refine ⟨?_, ?_, ?_⟩
            · show upd (X 31) c (nI k) c = _
              rw [upd_s]
            · show upd (X 32) c (nI y) c = _
              rw [upd_s]
            · show upd (X 33) c v c = _
              rw [upd_s]
          | succ i =>
            have hi2 : (pAll (X0 30) (nT X0) n nx).1[i]? = some (k1, y1, v1) := by simpa using hi'
            have := g4 i k1 y1 v1 hi2
            rw [show c + (i + 1) = c + 1 + i by omega]
            exact this
        · intro i hi
          obtain ⟨u1, u2, u3⟩ := g5 i (by omega)
          rw [u1, u2, u3]
          refine ⟨?_, ?_, ?_⟩
          · show upd (X 31) c (nI k) i = _
            rw [upd_n (by omega)]
          · show upd (X 32) c (nI y) i = _
            rw [upd_n (by omega)]
          · show upd (X 33) c v i = _
            rw [upd_n (by omega)]
def pX (X : qS) : List (Nat × Nat × Int32) × Int32 := pAll (X 30) (nT X) 100 0
theorem xRead (h : WX X) : ∃ X', fX6_read X = some ((pX X).2, X') ∧ XSc X X' ∧ X' 29 5 = nI ((pX X).1.length) ∧ hasL X' 0 (pX X).1 := by
  have hx : XSc X (q_up X 29 5 0) := ⟨fun q a _ _ _ => q_up_n _ _ _ _ a, fun j hj => by rw [q_up_s, upd_n hj]⟩
  obtain ⟨X', g1, g2, g3, g4, _⟩ := xRead_loop h 12 0 0 20000 100 (q_up X 29 5 0) (by omega) (by omega) (by omega) (by omega) (by omega) hx (by rw [q_up_s, upd_s]; rfl)
  rw [Nat.zero_add] at g3
  exact ⟨X', g1, g2, g3, g4⟩
end
