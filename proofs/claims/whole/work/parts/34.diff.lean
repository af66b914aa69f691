section
variable {X S : qS}
theorem zN_nIk {b : Nat} (hb : b < 125) : zN (nI b) = zNm b := by
  simp only [zN, nI_toInt (show b < 2 ^ 31 by omega), Int.toNat_natCast]
  rw [decide_eq_true (by omega), Bool.true_and]
theorem diff_lock (p1 p3 ty : Int32) {τ1 τ2 : Nat} (h1 : τ1 ≤ tk X) (h2 : τ2 ≤ tk X) : ∀ r b f f' c S, b + r = 125 → r < f → r < f' → c ≤ b → Rl X S → ∃ v S', fX8_countDiffering_6 p1 (nI τ1) p3 (nI τ2) ty f (nI c) (nI b) X = some v ∧ fX9_parts_6 p1 p3 ty (nI τ1) (nI τ2) (-1) f' (nI c) (nI b) S = some (v, S') ∧ Scr S S' := by
  intro r
  induction r with
  | zero =>
    intro b f f' c S hb hf hf' hc h
    obtain ⟨f, rfl⟩ : ∃ g, f = g + 1 := ⟨f - 1, by omega⟩
    obtain ⟨f', rfl⟩ : ∃ g, f' = g + 1 := ⟨f' - 1, by omega⟩
    have : b = 125 := by omega
    subst this
    rw [fX8_countDiffering_6, fX9_parts_6, if_pos (by decide), if_pos (by decide), if_neg (by decide)]
    exact ⟨_, S, rfl, rfl, Scr.rf⟩
  | succ r ih =>
    intro b f f' c S hb hf hf' hc h
    obtain ⟨f, rfl⟩ : ∃ g, f = g + 1 := ⟨f - 1, by omega⟩
    obtain ⟨f', rfl⟩ : ∃ g, f' = g + 1 := ⟨f' - 1, by omega⟩
    have nl : ¬ (124 : Int32) < nI b := nI_nlt (a := 124) (by omega) (by omega)
    rw [fX8_countDiffering_6, fX9_parts_6, if_neg nl, if_neg nl, zX_isName, zM_isName, zN_nIk (by omega), nI_1]
    simp only [Option.bind_some]
    cases hn : zNm b with
    | false => exact ih (b + 1) f f' c S (by omega) (by omega) (by omega) (by omega) h
    | true =>
      simp only [if_true]
      rw [xLk h.1 p1 hn ty h1, xLk h.1 p3 hn ty h2]
      obtain ⟨S1, e1, s1⟩ := mFi h p1 hn ty h1
      obtain ⟨S2, e2, s2⟩ := mFi (h.scr s1) p3 hn ty h2
      rw [e1]
      simp only [Option.bind_some]
      rw [e2]
      simp only [Option.bind_some]
      have h' := h.scr (s1.tr s2)
      by_cases q : xLU X p1 b ty (nI τ1) = xLU X p3 b ty (nI τ2)
      · rw [if_pos q, if_pos q]
        obtain ⟨v, S', g1, g2, g3⟩ := ih (b + 1) f f' c S2 (by omega) (by omega) (by omega) (by omega) h'
        exact ⟨v, S', g1, g2, (s1.tr s2).tr g3⟩
      · rw [if_neg q, if_neg q, if_neg (show ¬ nI c = -1 from fun e => by
          have := (z_eq _ _).mp e
          rw [nI_toInt (by omega), z_m1] at this
          omega), nI_1]
        obtain ⟨v, S', g1, g2, g3⟩ := ih (b + 1) f f' (c + 1) S2 (by omega) (by omega) (by omega) (by omega) h'
        exact ⟨v, S', g1, g2, (s1.tr s2).tr g3⟩
theorem diff1_lock (p1 ty : Int32) {p5 : Int32} (hp5 : 0 ≤ p5) {τ1 τ2 : Nat} (h1 : τ1 ≤ tk X) (h2 : τ2 ≤ tk X) : ∀ r b f f' c S, b + r = 125 → r < f → r < f' → Rl X S → ∃ v S', fX8_difference_44 p1 ty (nI τ1) (nI τ2) p5 f c (nI b) X = some v ∧ fX9_parts_6 p1 p1 ty (nI τ1) (nI τ2) p5 f' c (nI b) S = some (v, S') ∧ Scr S S' := by
  intro r
  induction r with
  | zero =>
    intro b f f' c S hb hf hf' h
    obtain ⟨f, rfl⟩ : ∃ g, f = g + 1 := ⟨f - 1, by omega⟩
    obtain ⟨f', rfl⟩ : ∃ g, f' = g + 1 := ⟨f' - 1, by omega⟩
    have : b = 125 := by omega
    subst this
    rw [fX8_difference_44, fX9_parts_6, if_pos (by decide), if_pos (by decide), if_pos hp5]
    exact ⟨_, S, rfl, rfl, Scr.rf⟩
  | succ r ih =>
    intro b f f' c S hb hf hf' h
    obtain ⟨f, rfl⟩ : ∃ g, f = g + 1 := ⟨f - 1, by omega⟩
    obtain ⟨f', rfl⟩ : ∃ g, f' = g + 1 := ⟨f' - 1, by omega⟩
    have nl : ¬ (124 : Int32) < nI b := nI_nlt (a := 124) (by omega) (by omega)
    rw [fX8_difference_44, fX9_parts_6, if_neg nl, if_neg nl, zX_isName, zM_isName, zN_nIk (by omega), nI_1]
    simp only [Option.bind_some]
    cases hn : zNm b with
    | false => exact ih (b + 1) f f' c S (by omega) (by omega) (by omega) h
    | true =>
      simp only [if_true]
      rw [xLk h.1 p1 hn ty h1, xLk h.1 p1 hn ty h2]
      obtain ⟨S1, e1, s1⟩ := mFi h p1 hn ty h1
      obtain ⟨S2, e2, s2⟩ := mFi (h.scr s1) p1 hn ty h2
      rw [e1]
      simp only [Option.bind_some]
      rw [e2]
      simp only [Option.bind_some]
      have h' := h.scr (s1.tr s2)
      by_cases q : xLU X p1 b ty (nI τ1) = xLU X p1 b ty (nI τ2)
      · rw [if_pos q, if_pos q]
        obtain ⟨v, S', g1, g2, g3⟩ := ih (b + 1) f f' c S2 (by omega) (by omega) (by omega) h'
        exact ⟨v, S', g1, g2, (s1.tr s2).tr g3⟩
      · rw [if_neg q, if_neg q]
        by_cases q2 : c = p5
        · rw [if_pos q2, if_pos q2]; exact ⟨_, S2, rfl, rfl, s1.tr s2⟩
        · rw [if_neg q2, if_neg q2]
          obtain ⟨v, S', g1, g2, g3⟩ := ih (b + 1) f f' (c + 1) S2 (by omega) (by omega) (by omega) h'
          exact ⟨v, S', g1, g2, (s1.tr s2).tr g3⟩
theorem o_differences (h : Rl X S) (a b c d : Int32) : Rd S (fX8_differences a b c d X) (fX9_differences a b c d S) := by
  unfold fX8_differences fX9_differences Rd fX8_countDiffering fX9_parts
  rw [zX_isView, zM_isView, zX_isType, zM_isType, zX_isTick h.1, zM_isTick h, zX_isTick h.1, zM_isTick h]
  simp only [Option.bind_some]
  cases h1 : cRg 0 3 a with
  | false => exact ⟨_, _, rfl, rfl, Scr.rf⟩
  | true =>
    cases h2 : cRg 0 2 b with
    | false => exact ⟨_, _, rfl, rfl, Scr.rf⟩
    | true =>
      cases h3 : cTk X c with
      | false => exact ⟨_, _, rfl, rfl, Scr.rf⟩
      | true =>
        cases h4 : cTk X d with
        | false => exact ⟨_, _, rfl, rfl, Scr.rf⟩
        | true =>
          obtain ⟨τ1, g1, rfl⟩ := cTk_of h3 h.tk9
          obtain ⟨τ2, g2, rfl⟩ := cTk_of h4 h.tk9
          obtain ⟨v, S', e1, e2, e3⟩ := diff_lock a a b g1 g2 124 1 20000 20000 0 S rfl (by omega) (by omega) (by omega) h
          rw [show nI 0 = (0 : Int32) from rfl, show nI 1 = (1 : Int32) from rfl] at e1 e2
          rw [e1, e2]
          exact ⟨v, S', rfl, rfl, e3⟩
theorem o_split (h : Rl X S) (a b c d : Int32) : Rd S (fX8_split a b c d X) (fX9_split a b c d S) := by
  unfold fX8_split fX9_split Rd fX8_countDiffering fX9_parts
  rw [zX_isView, zM_isView, zX_isView, zM_isView, zX_isType, zM_isType, zX_isTick h.1, zM_isTick h]
  simp only [Option.bind_some]
  cases h1 : cRg 0 3 a with
  | false => exact ⟨_, _, rfl, rfl, Scr.rf⟩
  | true =>
    cases h2 : cRg 0 3 b with
    | false => exact ⟨_, _, rfl, rfl, Scr.rf⟩
    | true =>
      cases h3 : cRg 0 2 c with
      | false => exact ⟨_, _, rfl, rfl, Scr.rf⟩
      | true =>
        cases h4 : cTk X d with
        | false => exact ⟨_, _, rfl, rfl, Scr.rf⟩
        | true =>
          obtain ⟨τ2, g2, rfl⟩ := cTk_of h4 h.tk9
          obtain ⟨v, S', e1, e2, e3⟩ := diff_lock a b c g2 g2 124 1 20000 20000 0 S rfl (by omega) (by omega) (by omega) h
          rw [show nI 0 = (0 : Int32) from rfl, show nI 1 = (1 : Int32) from rfl] at e1 e2
          rw [e1, e2]
          exact ⟨v, S', rfl, rfl, e3⟩
theorem o_difference (h : Rl X S) (a b c d e : Int32) : Rd S (fX8_difference a b c d e X) (fX9_difference a b c d e S) := by
  unfold fX8_difference fX9_difference Rd fX9_parts
  rw [zX_isView, zM_isView, zX_isType, zM_isType, zX_isTick h.1, zM_isTick h, zX_isTick h.1, zM_isTick h]
  simp only [Option.bind_some]
  cases h1 : cRg 0 3 a with
  | false => exact ⟨_, _, rfl, rfl, Scr.rf⟩
  | true =>
    cases h2 : cRg 0 2 b with
    | false => exact ⟨_, _, rfl, rfl, Scr.rf⟩
    | true =>
      cases h3 : cTk X c with
      | false => exact ⟨_, _, rfl, rfl, Scr.rf⟩
      | true =>
        cases h4 : cTk X d with
        | false => exact ⟨_, _, rfl, rfl, Scr.rf⟩
        | true =>
          simp only [if_true]
          by_cases h5 : 0 ≤ e
          · rw [if_pos h5, if_pos h5]
            obtain ⟨τ1, g1, rfl⟩ := cTk_of h3 h.tk9
            obtain ⟨τ2, g2, rfl⟩ := cTk_of h4 h.tk9
            obtain ⟨v, S', e1, e2, e3⟩ := diff1_lock a b h5 g1 g2 124 1 20000 20000 0 S rfl (by omega) (by omega) h
            rw [show nI 1 = (1 : Int32) from rfl] at e1 e2
            rw [e1, e2]
            exact ⟨v, S', rfl, rfl, e3⟩
          · rw [if_neg h5, if_neg h5]; exact ⟨_, _, rfl, rfl, Scr.rf⟩
/-! since -/
def uN (τ l e : Nat) : Nat := if τ < e then l else if l < e then e else l
def leZ (X : qS) (τ l i : Nat) : Nat := uN τ (uN τ l (nr (X 11) i)) (nr (X 12) i)
def leC (X : qS) (τ l i : Nat) : Nat := uN τ l (nr (X 17) i)
def xLE (X : qS) (τ : Nat) : Nat := fld (leC X τ) (fld (leZ X τ) 0 (nZ X)) (nC X)
theorem uN_le {τ l e : Nat} (h : l ≤ τ) : uN τ l e ≤ τ := by unfold uN; split <;> (try split) <;> omega
theorem later_eq {r : Nat → Int32} {i b τ l : Nat} (h : isN r i b) (hb : b ≤ 10000) (hτ : τ ≤ 9999) (hl : l ≤ τ) : fX0_laterUpTo (nI τ) (nI l) (r i) X = some (nI (uN τ l (nr r i))) := by
  have h2 := h.2
  unfold fX0_laterUpTo uN
  rw [h.1]
  have e : nr r i = nr r i := rfl
  generalize nr r i = m at *
  by_cases q : τ < m
  · rw [if_pos (nI_lt q (by omega)), if_pos q]
  · rw [if_neg (nI_nlt (by omega) (by omega)), if_neg q]
    by_cases q2 : l < m
    · rw [if_pos (nI_lt q2 (by omega)), if_pos q2]
    · rw [if_neg (nI_nlt (by omega) (by omega)), if_neg q2]
theorem xLast (h : WX X) {τ : Nat} (hτ : τ ≤ 9999) : fX0_lastEvent (nI τ) X = some (nI (xLE X τ)) ∧ xLE X τ ≤ τ := by
  have hz := h.z3.2
  have hc := h.c3.2
  have wz := h.2.2.1.2.2.1
  have wc := h.2.2.2.1.2.2.1
  have hT := h.now.2
  have two : ∀ l0, l0 ≤ τ → fX0_lastEvent_62 (nI τ) 20000 (nI l0) 0 X = some (nI (fld (leC X τ) l0 (nC X))) ∧ fld (leC X τ) l0 (nC X) ≤ τ := by
    intro l0 hl0
    refine lp_fld (nC X) (leC X τ) l0 (fun f l i => fX0_lastEvent_62 (nI τ) f (nI l) i X) (fun l => some (nI l)) (fun l _ => l ≤ τ) hl0 ?_ ?_ 20000 (by omega)
    · intro f l i hi hI
      refine ⟨?_, uN_le hI⟩
      show fX0_lastEvent_62 (nI τ) (f + 1) (nI l) (nI i) X = _
      rw [fX0_lastEvent_62, h.c3.1, if_neg (nI_ge hi (by omega)), if_pos (z_inb (by omega) (by omega)), nI_clamp (by omega), later_eq (wc i hi).1 (by have : nr (X 0) 6 ≤ 9999 := hT; omega) hτ hI, Option.bind_some, nI_1]
      rfl
    · intro f l _
      show fX0_lastEvent_62 (nI τ) (f + 1) (nI l) (nI (nC X)) X = _
      rw [fX0_lastEvent_62, h.c3.1, if_pos (nI_le (Nat.le_refl _) (by omega))]
  have one := lp_fld (nZ X) (leZ X τ) 0 (fun f l i => fX0_lastEvent_4 (nI τ) f (nI l) i X) (fun l => fX0_lastEvent_62 (nI τ) 20000 (nI l) 0 X) (fun l _ => l ≤ τ) (Nat.zero_le _) ?_ ?_ 20000 (by omega)
  · refine ⟨?_, (two _ one.2).2⟩
    unfold fX0_lastEvent
    have := one.1
    rw [(two _ one.2).1] at this
    exact this
  · intro f l i hi hI
    refine ⟨?_, uN_le (uN_le hI)⟩
    show fX0_lastEvent_4 (nI τ) (f + 1) (nI l) (nI i) X = _
    rw [fX0_lastEvent_4, h.z3.1, if_neg (nI_ge hi (by omega)), if_pos (z_inb (by omega) (by omega)), nI_clamp (by omega), later_eq (wz i hi).1.1 (by have : nr (X 0) 6 ≤ 9999 := hT; omega) hτ hI, Option.bind_some, if_pos (z_inb (by omega) (by omega)), later_eq (wz i hi).1.2.1 (by omega) hτ (uN_le hI), Option.bind_some, nI_1]
    rfl
  · intro f l _
    show fX0_lastEvent_4 (nI τ) (f + 1) (nI l) (nI (nZ X)) X = _
    rw [fX0_lastEvent_4, h.z3.1, if_pos (nI_le (Nat.le_refl _) (by omega))]
theorem mup {ρ : Type} {τ l e : Nat} (hτ : τ ≤ 9999) (hl : l ≤ τ) (he : e ≤ 10000) (g : Int32 → ρ) : (if nI τ < nI e then g (nI l) else if nI e ≤ nI l then g (nI l) else g (nI e)) = g (nI (uN τ l e)) := by
  unfold uN
  by_cases q : τ < e
  · rw [if_pos (nI_lt q (by omega)), if_pos q]
  · rw [if_neg (nI_nlt (by omega) (by omega)), if_neg q]
    by_cases q2 : l < e
    · rw [if_neg (nI_ge q2 (by omega)), if_pos q2]
    · rw [if_pos (nI_le (by omega) (by omega)), if_neg q2]
theorem mupU {ρ : Type} {r : Nat → Int32} {i τ l : Nat} (h : isN r i 10000) (hτ : τ ≤ 9999) (hl : l ≤ τ) (g : Int32 → ρ) : (if nI τ < toU (r i) then g (nI l) else if toU (r i) ≤ nI l then g (nI l) else g (toU (r i))) = g (nI (uN τ l (nr r i))) := by
  have h2 := h.2
  unfold toU
  by_cases q : r i = 10000
  · rw [if_pos q]
    have e : nr r i = 10000 := nr_mk (k := 10000) q (by omega)
    rw [if_neg (show ¬ nI τ < -1 by rw [z_lt, nI_toInt (by omega), z_m1]; omega), if_pos (show (-1 : Int32) ≤ nI l by rw [z_le, nI_toInt (by omega), z_m1]; omega), e, uN, if_pos (by omega)]
  · rw [if_neg q, h.1, mup hτ hl h2 g]
theorem mLast (h : Rl X S) {τ : Nat} (hτ : τ ≤ 9999) : fX9_latestEvent (nI τ) S = some (nI (xLE X τ)) := by
  have hz := h.1.z3.2
  have hc := h.1.c3.2
  have wz := h.1.2.2.1.2.2.1
  have wc := h.1.2.2.2.1.2.2.1
  have hT := h.1.now.2
  have two : ∀ l0, l0 ≤ τ → fX9_latestEvent_82 (nI τ) 20000 (nI l0) 0 S = some (nI (fld (leC X τ) l0 (nC X))) := by
    intro l0 hl0
    refine (lp_fld (nC X) (leC X τ) l0 (fun f l i => fX9_latestEvent_82 (nI τ) f (nI l) i S) (fun l => some (nI l)) (fun l _ => l ≤ τ) hl0 ?_ ?_ 20000 (by omega)).1
    · intro f l i hi hI
      refine ⟨?_, uN_le hI⟩
      show fX9_latestEvent_82 (nI τ) (f + 1) (nI l) (nI i) S = _
      have e17 := (wc i hi).1
      have b17 : nr (X 17) i ≤ 9999 := Nat.le_trans e17.2 hT
      rw [fX9_latestEvent_82, h.2.1.2.2.2.1, h.1.c3.1, if_neg (nI_ge hi (by omega)), (mPart h hi).2.1, Option.bind_some, nI_1, e17.1]
      exact mup hτ hI (by omega) (fun x => fX9_latestEvent_82 (nI τ) f x (nI (i + 1)) S)
    · intro f l _
      show fX9_latestEvent_82 (nI τ) (f + 1) (nI l) (nI (nC X)) S = _
      rw [fX9_latestEvent_82, h.2.1.2.2.2.1, h.1.c3.1, if_pos (nI_le (Nat.le_refl _) (by omega))]
  have one := lp_fld (nZ X) (leZ X τ) 0 (fun f l i => fX9_latestEvent_4 (nI τ) f (nI l) i S) (fun l => fX9_latestEvent_82 (nI τ) 20000 (nI l) 0 S) (fun l _ => l ≤ τ) (Nat.zero_le _) ?_ ?_ 20000 (by omega)
  · unfold fX9_latestEvent
    have g := one.1
    rw [two _ one.2] at g
    exact g
  · intro f l i hi hI
    refine ⟨?_, uN_le (uN_le hI)⟩
    show fX9_latestEvent_4 (nI τ) (f + 1) (nI l) (nI i) S = _
    obtain ⟨e0, e1, e2, e3⟩ := h.2.2.2.1 i hi
    have e11 := (wz i hi).1.1
    have b11 : nr (X 11) i ≤ 9999 := Nat.le_trans e11.2 hT
    have e12 := (wz i hi).1.2.1
    rw [fX9_latestEvent_4, h.2.1.2.2.1, h.1.z3.1, if_neg (nI_ge hi (by omega)), z_4, z_p2, z_p3, if_pos (z_inb (by omega) (by omega)), if_pos (z_inb (by omega) (by omega)), nI_clamp (by omega), nI_clamp (by omega), e2, e3, nI_1]
    have inner := fun l' (hl' : l' ≤ τ) => mupU e12 hτ hl' (fun x => fX9_latestEvent_4 (nI τ) f x (nI (i + 1)) S)
    have in1 := inner l hI
    rw [in1]
    by_cases q : nI τ < X 11 i
    · rw [if_pos q]
      unfold leZ
      rw [e11.1] at q
      have : uN τ l (nr (X 11) i) = l := by
        unfold uN
        rw [if_pos]
        exact (nI_ltI (by omega) (by omega)).mp q
      rw [this]
    · rw [if_neg q]
      by_cases q2 : X 11 i ≤ nI l
      · rw [if_pos q2]
        unfold leZ
        rw [e11.1] at q q2
        have a1 := (nI_leI (a := nr (X 11) i) (b := l) (by omega) (by omega)).mp q2
        have : uN τ l (nr (X 11) i) = l := by
          unfold uN
          split
          · rfl
          · rw [if_neg (by omega)]
        rw [this]
      · rw [if_neg q2]
        have a0 : nr (X 11) i ≤ τ := by
          rw [e11.1] at q
          exact Nat.le_of_not_lt (fun z => q ((nI_ltI (a := τ) (b := nr (X 11) i) (by omega) (by omega)).mpr z))
        have a1 : l < nr (X 11) i := by
          rw [e11.1] at q2
          exact Nat.lt_of_not_le (fun z => q2 ((nI_leI (a := nr (X 11) i) (b := l) (by omega) (by omega)).mpr z))
        have in2 := inner (nr (X 11) i) a0
        rw [e11.1, in2]
        unfold leZ
        have : uN τ l (nr (X 11) i) = nr (X 11) i := by
          unfold uN
          rw [if_neg (by omega), if_pos a1]
        rw [this]
  · intro f l _
    show fX9_latestEvent_4 (nI τ) (f + 1) (nI l) (nI (nZ X)) S = _
    rw [fX9_latestEvent_4, h.2.1.2.2.1, h.1.z3.1, if_pos (nI_le (Nat.le_refl _) (by omega))]
theorem nI_dec {s : Nat} (h : 0 < s) : nI s - 1 = nI (s - 1) := by
  obtain ⟨u, rfl⟩ : ∃ u, s = u + 1 := ⟨s - 1, by omega⟩
  rw [nI_pred]; rfl
theorem since_lock (v ty p4 : Int32) {k : Nat} (hk : zNm k = true) : ∀ n s a f f' S, s ≤ n → s ≤ tk X → a + s ≤ 9999 → s < f → s < f' → Rl X S → ∃ r S', fX8_since_49 v (nI k) ty p4 f (nI s) (nI a) X = some r ∧ fX9_since_35 v (nI k) ty p4 f' (nI s) S = some (r, S') ∧ Scr S S' := by
  intro n
  induction n with
  | zero =>
    intro s a f f' S hn hs ha hf hf' h
    obtain ⟨f, rfl⟩ : ∃ g, f = g + 1 := ⟨f - 1, by omega⟩
    obtain ⟨f', rfl⟩ : ∃ g, f' = g + 1 := ⟨f' - 1, by omega⟩
    have : s = 0 := by omega
    subst this
    rw [fX8_since_49, fX9_since_35, if_pos (show nI 0 ≤ 0 by decide), if_pos (show nI 0 ≤ 0 by decide)]
    refine ⟨nI 0, S, ?_, rfl, Scr.rf⟩
    split <;> rfl
  | succ n ih =>
    intro s a f f' S hn hs ha hf hf' h
    obtain ⟨f, rfl⟩ : ∃ g, f = g + 1 := ⟨f - 1, by omega⟩
    obtain ⟨f', rfl⟩ : ∃ g, f' = g + 1 := ⟨f' - 1, by omega⟩
    have hT := h.tk9
    by_cases hs0 : s = 0
    · subst hs0
      rw [fX8_since_49, fX9_since_35, if_pos (show nI 0 ≤ 0 by decide), if_pos (show nI 0 ≤ 0 by decide)]
      refine ⟨nI 0, S, ?_, rfl, Scr.rf⟩
      split <;> rfl
    · have np : ¬ nI s ≤ 0 := nI_nle (by omega) (by omega)
      rw [fX8_since_49, fX9_since_35, if_neg (show ¬ (9999 : Int32) ≤ nI a from nI_ge (b := 9999) (by omega) (by omega)), if_neg np, if_neg np, nI_dec (by omega)]
      rw [xLk h.1 v hk ty (show s - 1 ≤ tk X by omega)]
      obtain ⟨S1, e1, s1⟩ := mFi h v hk ty (show s - 1 ≤ tk X by omega)
      rw [e1]
      simp only [Option.bind_some]
      by_cases q : xLU X v k ty (nI (s - 1)) = p4
      · rw [if_pos q, if_pos q, (xLast h.1 (show s - 1 ≤ 9999 by omega)).1, mLast (h.scr s1) (show s - 1 ≤ 9999 by omega)]
        simp only [Option.bind_some]
        have le := (xLast h.1 (show s - 1 ≤ 9999 by omega)).2
        rw [nI_1]
        obtain ⟨r, S', g1, g2, g3⟩ := ih (xLE X (s - 1)) (a + 1) f f' S1 (by omega) (by omega) (by omega) (by omega) (by omega) (h.scr s1)
        exact ⟨r, S', g1, g2, s1.tr g3⟩
      · rw [if_neg q, if_neg q]
        exact ⟨_, S1, rfl, rfl, s1⟩
theorem o_since (h : Rl X S) (a b c : Int32) : Rd S (fX8_since a b c X) (fX9_since a b c S) := by
  unfold fX8_since fX9_since Rd
  rw [zX_isView, zM_isQuestion, zX_isQuestion, h.1.now.1, h.now]
  simp only [Option.bind_some]
  cases h1 : cRg 0 3 a with
  | false => exact ⟨_, _, rfl, rfl, Scr.rf⟩
  | true =>
    cases h2 : zN b with
    | false => exact ⟨_, _, rfl, rfl, Scr.rf⟩
    | true =>
      cases h3 : cRg 0 2 c with
      | false => exact ⟨_, _, rfl, rfl, Scr.rf⟩
      | true =>
        have hT := h.tk9
        obtain ⟨k, -, hk, rfl⟩ := zN_of h2
        rw [xLk h.1 a hk c (Nat.le_refl _)]
        obtain ⟨S1, e1, s1⟩ := mFi h a hk c (Nat.le_refl (tk X))
        rw [e1]
        simp only [Option.bind_some, Bool.and_self, if_true]
        rw [(h.scr s1).now, (xLast h.1 hT).1, mLast (h.scr s1) hT]
        simp only [Option.bind_some]
        have le := (xLast h.1 hT).2
        obtain ⟨r, S', g1, g2, g3⟩ := since_lock a c (xLU X a k c (nI (tk X))) hk _ (xLE X (tk X)) 0 20000 20000 S1 (Nat.le_refl _) le (by omega) (by omega) (by omega) (h.scr s1)
        exact ⟨r, S', g1, g2, s1.tr g3⟩
/-! seenBy -/
theorem xCA (h : WX X) (v : Nat) (t : Int32) : fX3_countAddresses (nI v) t X = some (nI (cnt (fun a => decide (xVA X (nI a) t = nI v)) 256)) := by
  unfold fX3_countAddresses
  refine lp_cnt 256 (fun a => decide (xVA X (nI a) t = nI v)) (fun f c i => fX3_countAddresses_5 (nI v) t f c i X) some ?_ ?_ 20000 (by omega)
  · intro f c i hi
    show fX3_countAddresses_5 (nI v) t (f + 1) (nI c) (nI i) X = _
    rw [fX3_countAddresses_5, if_neg (show ¬ (255 : Int32) < nI i from nI_nlt (a := 255) (by omega) (by omega)), xVw h, Option.bind_some, nI_1, nI_1]
    by_cases q : xVA X (nI i) t = nI v
    · rw [if_pos q, if_pos (by simp [q])]
    · rw [if_neg q, if_neg (by simp [q])]
  · intro f c
    show fX3_countAddresses_5 (nI v) t (f + 1) (nI c) (nI 256) X = _
    rw [fX3_countAddresses_5, if_pos (by decide)]
def mk4 (E : Nat → Bool) : Int32 := (((((0 : Int32) ||| (if E 0 = true then 1 <<< (nI 0 &&& 31) else 0)) ||| (if E 1 = true then 1 <<< (nI 1 &&& 31) else 0)) ||| (if E 2 = true then 1 <<< (nI 2 &&& 31) else 0)) ||| (if E 3 = true then 1 <<< (nI 3 &&& 31) else 0))
theorem mk4_bit (E : Nat → Bool) {w : Nat} (hw : w ≤ 3) : (mk4 E >>> (nI w &&& 31)) &&& 1 = nI (bn (E w)) := by
  unfold mk4
  rcases (show w = 0 ∨ w = 1 ∨ w = 2 ∨ w = 3 by omega) with rfl | rfl | rfl | rfl <;> cases E 0 <;> cases E 1 <;> cases E 2 <;> cases E 3 <;> decide
theorem o_seenBy (h : Rl X S) (a b c d : Int32) : Rd S (fX8_seenBy a b c d X) (fX9_seenBy a b c d S) := by
  unfold fX8_seenBy fX9_seenBy Rd
  rw [zM_isQuestion, zX_isQuestion, zX_isTick h.1, zM_isTick h]
  simp only [Option.bind_some, show cRg 0 3 0 = true from rfl, Bool.true_and]
  cases h2 : zN a with
  | false => exact ⟨_, _, rfl, rfl, Scr.rf⟩
  | true =>
    cases h3 : cRg 0 2 b with
    | false => exact ⟨_, _, rfl, rfl, Scr.rf⟩
    | true =>
      cases h4 : cTk X d with
      | false => exact ⟨_, _, rfl, rfl, Scr.rf⟩
      | true =>
        obtain ⟨k, -, hk, rfl⟩ := zN_of h2
        obtain ⟨τ, hτ, rfl⟩ := cTk_of h4 h.tk9
        simp only [Bool.and_self, if_true]
        -- which views get the answer
        generalize hE : (fun v : Nat => decide (xLU X (nI v) k b (nI τ) = c)) = E
        have hEv : ∀ v, E v = decide (xLU X (nI v) k b (nI τ) = c) := fun v => by rw [← hE]
        -- the class
        have xs : ∀ f n v, v < 4 → fX8_seenBy_25 (nI k) b c (nI τ) (f + 1) (nI n) (nI v) X = fX8_seenBy_25 (nI k) b c (nI τ) f (nI (n + bn (E v) * cnt (fun a => decide (xVA X (nI a) (nI τ) = nI v)) 256)) (nI (v + 1)) X := by
          intro f n v hv
          rw [fX8_seenBy_25, if_neg (show ¬ (3 : Int32) < nI v from nI_nlt (a := 3) (by omega) (by omega)), xLk h.1 (nI v) hk b hτ, Option.bind_some, xCA h.1, Option.bind_some, hEv, nI_1]
          by_cases q : xLU X (nI v) k b (nI τ) = c
          · rw [if_pos q, decide_eq_true q, nI_add]
            show _ = fX8_seenBy_25 (nI k) b c (nI τ) f (nI (n + 1 * _)) (nI (v + 1)) X
            rw [Nat.one_mul]
          · rw [if_neg q, decide_eq_false q]
            show _ = fX8_seenBy_25 (nI k) b c (nI τ) f (nI (n + 0 * _)) (nI (v + 1)) X
            rw [Nat.zero_mul]; rfl
        have hx : fX8_seenBy_25 (nI k) b c (nI τ) 20000 0 0 X = some (nI (sm (fun v => bn (E v) * cnt (fun a => decide (xVA X (nI a) (nI τ) = nI v)) 256) 4)) := by
          rw [show (0 : Int32) = nI 0 from rfl, show (20000 : Nat) = 19995 + 1 + 1 + 1 + 1 + 1 from rfl, xs _ _ _ (by omega), xs _ _ _ (by omega), xs _ _ _ (by omega), xs _ _ _ (by omega), fX8_seenBy_25, if_pos (show (3 : Int32) < nI (0 + 1 + 1 + 1 + 1) by decide)]
          rfl
        rw [hx]
        -- the reference: the views
        have ms : ∀ f m v S, v < 4 → Rl X S → ∃ S', fX9_seenBy_27 (nI k) b c (nI τ) (f + 1) m (nI v) S = fX9_seenBy_27 (nI k) b c (nI τ) f (m ||| (if E v = true then 1 <<< (nI v &&& 31) else 0)) (nI (v + 1)) S' ∧ Scr S S' := by
          intro f m v S hv hR
          obtain ⟨S1, e1, s1⟩ := mFi hR (nI v) hk b hτ
          refine ⟨S1, ?_, s1⟩
          rw [fX9_seenBy_27, if_neg (show ¬ (4 : Int32) ≤ nI v from nI_ge (b := 4) (by omega) (by omega)), e1, Option.bind_some, hEv, nI_1]
          dsimp only
          by_cases q : xLU X (nI v) k b (nI τ) = c
          · rw [if_pos q, decide_eq_true q, if_pos rfl]
          · rw [if_neg q, decide_eq_false q, if_neg (by decide)]
        obtain ⟨S1, a1, s1⟩ := ms 19999 0 0 S (by omega) h
        obtain ⟨S2, a2, s2⟩ := ms 19998 _ 1 S1 (by omega) (h.scr s1)
        obtain ⟨S3, a3, s3⟩ := ms 19997 _ 2 S2 (by omega) (h.scr (s1.tr s2))
        obtain ⟨S4, a4, s4⟩ := ms 19996 _ 3 S3 (by omega) (h.scr ((s1.tr s2).tr s3))
        have s5 := ((s1.tr s2).tr s3).tr s4
        have hR := h.scr s5
        have fin : ∀ m, fX9_seenBy_27 (nI k) b c (nI τ) (19995 + 1) m (nI (3 + 1)) S4 = fX9_seenBy_72 (nI k) b c (nI τ) m 20000 0 0 S4 := by
          intro m
          rw [fX9_seenBy_27, if_pos (by decide)]
        have all := a1.trans (a2.trans (a3.trans (a4.trans (fin _))))
        rw [show nI 0 = (0 : Int32) from rfl] at all
        rw [show (20000 : Nat) = 19999 + 1 from rfl, all]
        -- the reference: the addresses
        have hm := lp_cnt 256 (fun a => decide (xLU X (xVA X (nI a) (nI τ)) k b (nI τ) = c)) (fun f n i => fX9_seenBy_72 (nI k) b c (nI τ) (mk4 E) f n i S4) (fun n => some (n, S4)) ?_ ?_ 20000 (by omega)
        · refine ⟨_, S4, rfl, ?_, s5⟩
          have e : sm (fun v => bn (E v) * cnt (fun a => decide (xVA X (nI a) (nI τ) = nI v)) 256) 4 = cnt (fun a => decide (xLU X (xVA X (nI a) (nI τ)) k b (nI τ) = c)) 256 := by
            have t1 : ∀ v, bn (E v) * cnt (fun a => decide (xVA X (nI a) (nI τ) = nI v)) 256 = sm (fun a => bn (E v) * bn (decide (xVA X (nI a) (nI τ) = nI v))) 256 := by
              intro v
              rw [cnt_sm]
              cases E v with
              | true =>
                show 1 * _ = _
                rw [Nat.one_mul]
                exact sm_congr _ (fun i _ => (Nat.one_mul _).symm)
              | false =>
                show 0 * _ = _
                rw [Nat.zero_mul]
                rw [← sm_zero 256]
                exact sm_congr _ (fun i _ => (Nat.zero_mul _).symm)
            rw [sm_congr 4 (fun v _ => t1 v), sm_swap, cnt_sm]
            refine sm_congr _ (fun i hi => ?_)
            obtain ⟨w, hw, ew⟩ := xVA_b h.1 (nI i) (nI τ)
            rw [ew]
            have t2 : ∀ v, v < 4 → bn (E v) * bn (decide (nI w = nI v)) = if v = w then bn (E w) else 0 := by
              intro v hv
              by_cases q : v = w
              · subst q
                rw [if_pos rfl, decide_eq_true rfl]
                exact Nat.mul_one _
              · rw [if_neg q, decide_eq_false (fun e => q (nI_inj (by omega) (by omega) e).symm)]
                exact Nat.mul_zero _
            rw [sm_congr 4 t2, sm_ind, if_pos (by omega), hEv]
          rw [e]
          exact hm
        · intro f n i hi
          show fX9_seenBy_72 (nI k) b c (nI τ) (mk4 E) (f + 1) (nI n) (nI i) S4 = _
          obtain ⟨w, hw, ew⟩ := xVA_b h.1 (nI i) (nI τ)
          rw [fX9_seenBy_72, if_neg (show ¬ (256 : Int32) ≤ nI i from nI_ge (b := 256) (by omega) (by omega)), mVw hR (nI i) hτ, Option.bind_some, ew, mk4_bit E hw, nI_add, nI_1, hEv]
          cases decide (xLU X (nI w) k b (nI τ) = c) <;> rfl
        · intro f n
          show fX9_seenBy_72 (nI k) b c (nI τ) (mk4 E) (f + 1) (nI n) (nI 256) S4 = _
          rw [fX9_seenBy_72, if_pos (by decide)]
end
