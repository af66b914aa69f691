/-! changes from the text -/
def okE (e : Nat × Nat × Int32) : Prop := zNm e.1 = true ∧ e.2.1 ≤ 2 ∧ (e.2.2 = -1 ∨ ∃ w, w ≤ 999 ∧ e.2.2 = nI w ∧ (e.2.1 = 1 → zNm w = true))
theorem pNm_ok {t : Nat → Int32} {L s : Nat} (h : ¬ dgc t L 49 52 s = 0) : zNm (pNm t s (dgc t L 49 52 s)) = true := by
  have hd : ∀ i, i < dgc t L 49 52 s → 1 ≤ dv t (s + i) ∧ dv t (s + i) ≤ 4 := by
    intro i hi
    have := inR_dv (l := 1) (k := 4) (by decide) (by decide) (by omega) (dgc_in hi)
    exact ⟨this.2.2.1, this.2.2.2⟩
  have hl := dgc_le t L 49 52 s
  generalize dgc t L 49 52 s = n at *
  simp only [zNm, decide_eq_true_eq]
  rcases (show n = 1 ∨ n = 2 ∨ n = 3 by omega) with rfl | rfl | rfl
  · have d0 := hd 0 (by omega)
    rw [Nat.add_zero] at d0
    show 0 < dv t s ∧ dv t s < 125 ∧ dv t s % 5 ≠ 0 ∧ (dv t s / 5 % 5 ≠ 0 ∨ dv t s / 25 = 0)
    omega
  · have d0 := hd 0 (by omega)
    have d1 := hd 1 (by omega)
    rw [Nat.add_zero] at d0
    show 0 < dv t s + 5 * dv t (s + 1) ∧ dv t s + 5 * dv t (s + 1) < 125 ∧ (dv t s + 5 * dv t (s + 1)) % 5 ≠ 0 ∧ ((dv t s + 5 * dv t (s + 1)) / 5 % 5 ≠ 0 ∨ (dv t s + 5 * dv t (s + 1)) / 25 = 0)
    omega
  · have d0 := hd 0 (by omega)
    have d1 := hd 1 (by omega)
    have d2 := hd 2 (by omega)
    rw [Nat.add_zero] at d0
    show 0 < dv t s + 5 * dv t (s + 1) + 25 * dv t (s + 2) ∧ dv t s + 5 * dv t (s + 1) + 25 * dv t (s + 2) < 125 ∧ (dv t s + 5 * dv t (s + 1) + 25 * dv t (s + 2)) % 5 ≠ 0 ∧ ((dv t s + 5 * dv t (s + 1) + 25 * dv t (s + 2)) / 5 % 5 ≠ 0 ∨ (dv t s + 5 * dv t (s + 1) + 25 * dv t (s + 2)) / 25 = 0)
    omega
theorem prs_ok {t : Nat → Int32} {L s nx k y : Nat} {v : Int32} (h : prs t L s = some (nx, k, y, v)) : okE (k, y, v) := by
  unfold prs at h
  split at h
  · cases h
  · rename_i q0
    have hk := pNm_ok q0
    split at h
    · split at h
      · rename_i q2
        have hy := (inR_dv (l := 0) (k := 2) (by decide) (by decide) (by omega) q2).2.2.2
        split at h
        · split at h
          · cases h
          · split at h
            · rename_i q5
              split at h
              · cases h
                refine ⟨hk, hy, Or.inr ?_⟩
                obtain ⟨y', w, hy', ey, hw, ew, ha⟩ := cVv_of (cRg2 hy) q5
                have e := nI_inj (by omega) (by omega) ey
                rw [← e] at ha
                exact ⟨w, hw, ew, ha⟩
              · cases h
            · cases h
        · split at h
          · split at h
            · cases h
              exact ⟨hk, hy, Or.inl rfl⟩
            · cases h
          · cases h
      · cases h
    · cases h
theorem pAll_len {t : Nat → Int32} {L : Nat} (hL : L ≤ 60) : ∀ n s, s ≤ 60 → 5 * (pAll t L n s).1.length + s ≤ 60 := by
  intro n
  induction n with
  | zero => intro s hs; show 5 * 0 + s ≤ 60; omega
  | succ n ih =>
    intro s hs
    unfold pAll
    by_cases ql : L ≤ s
    · rw [if_pos ql]; show 5 * 0 + s ≤ 60; omega
    · rw [if_neg ql]
      cases hp : prs t L s with
      | none => show 5 * 0 + s ≤ 60; omega
      | some o =>
        obtain ⟨nx, k, y, v⟩ := o
        have adv := prs_adv hp
        have := ih nx (by omega)
        show 5 * ((pAll t L n nx).1.length + 1) + s ≤ 60
        omega
theorem pAll_res {t : Nat → Int32} {L : Nat} (hL : L ≤ 60) : ∀ n s, s ≤ 60 → (pAll t L n s).2 = -4 ∨ ∃ j, j ≤ 60 ∧ (pAll t L n s).2 = nI j := by
  intro n
  induction n with
  | zero => intro s hs; exact Or.inr ⟨s, hs, rfl⟩
  | succ n ih =>
    intro s hs
    unfold pAll
    by_cases ql : L ≤ s
    · rw [if_pos ql]; exact Or.inl rfl
    · rw [if_neg ql]
      cases hp : prs t L s with
      | none => exact Or.inr ⟨s, hs, rfl⟩
      | some o =>
        obtain ⟨nx, k, y, v⟩ := o
        have adv := prs_adv hp
        exact ih nx (by omega)
theorem nI_nm4 {n : Nat} (h : n ≤ 60) : ¬ nI n = -4 := fun e => by
  have := (z_eq _ _).mp e
  rw [nI_toInt (by omega)] at this
  have e4 : (-4 : Int32).toInt = -4 := by decide
  omega
def lAll (o : Nat) (l : List (Nat × Nat × Int32)) : Bool := l.all (fun e => zAt e.1 o)
section
variable {X : qS}
theorem xAllAt {o : Nat} {a : Int32} (ho : a = nI o) (hz : zNm o = true) : ∀ l i f, l.length < f → i + l.length ≤ 12 → X 29 5 = nI (i + l.length) → hasL X i l → (∀ e ∈ l, zNm e.1 = true) → fX6_isAllAt_2 a f (nI i) X = some (lAll o l) := by
  intro l
  induction l with
  | nil =>
    intro i f hf hi hc hl hn
    obtain ⟨f, rfl⟩ : ∃ g, f = g + 1 := ⟨f - 1, by omega⟩
    rw [List.length_nil, Nat.add_zero] at hc hi
    rw [fX6_isAllAt_2, hc, if_pos (nI_le (Nat.le_refl _) (by omega))]; rfl
  | cons e l ih =>
    intro i f hf hi hc hl hn
    rw [List.length_cons] at hf hi hc
    obtain ⟨f, rfl⟩ : ∃ g, f = g + 1 := ⟨f - 1, by omega⟩
    obtain ⟨k, y, v⟩ := e
    obtain ⟨e1, -, -⟩ := hl 0 k y v rfl
    rw [Nat.add_zero] at e1
    have hk : zNm k = true := hn _ List.mem_cons_self
    rw [fX6_isAllAt_2, hc, if_neg (nI_ge (by omega) (by omega)), if_pos (z_inb (by omega) (by omega)), nI_clamp (by omega), e1, ho, (zN_tab2 hk hz X).1, Option.bind_some, nI_1]
    by_cases q : zAt k o = true
    · have := ih (i + 1) f (by omega) (by omega) (by rw [hc, show i + 1 + l.length = i + (l.length + 1) by omega]) (fun j k1 y1 v1 hj => by
        rw [show i + 1 + j = i + (j + 1) by omega]
        exact hl (j + 1) k1 y1 v1 (by simpa using hj)) (fun e he => hn e (List.mem_cons_of_mem _ he))
      rw [ho] at this
      rw [if_pos q, this]
      show some (lAll o l) = some (zAt k o && lAll o l)
      rw [q, Bool.true_and]
    · rw [if_neg q]
      show some false = some (zAt k o && lAll o l)
      simp only [Bool.not_eq_true] at q
      rw [q, Bool.false_and]
def fl01 (b : Bool) : Int32 := if b = true then 1 else 0
theorem mLay37 {z o : Nat} (hzb : z < 10) (hz : zNm o = true) : ∀ r s f n c b S, 60 ≤ s + 5 * r → s ≤ 60 → r < f → r < n → c + r ≤ 100 → Tx X S → S 36 (4 * z + 1) = nI o → S 34 14 = nI s → (pAll (X 30) (nT X) n s).2 = -4 → ∃ S', Scr S S' ∧ fX9_lay_37 (nI z) f (nI c) (fl01 b) S = if (b && lAll o (pAll (X 30) (nT X) n s).1) = true then (if S 34 6 + nI (c + (pAll (X 30) (nT X) n s).1.length) ≤ 70 then fX9_lay_119 (nI z) (nI (c + (pAll (X 30) (nT X) n s).1.length)) 1 20000 (q_up S' 34 14 0) else some (-3, S')) else some (-2, S') := by
  have endd : ∀ f c b s S, Tx X S → S 34 14 = nI s → nT X ≤ s → s ≤ 60 → fX9_lay_37 (nI z) (f + 1) (nI c) (fl01 b) S = if (b && lAll o []) = true then (if S 34 6 + nI (c + 0) ≤ 70 then fX9_lay_119 (nI z) (nI (c + 0)) 1 20000 (q_up S 34 14 0) else some (-3, S)) else some (-2, S) := by
    intro f c b s S hT h14 hl hs
    rw [fX9_lay_37, hT.1, h14, if_pos (nI_le hl (by omega)), Nat.add_zero]
    cases b
    · rfl
    · rfl
  intro r
  induction r with
  | zero =>
    intro s f n c b S hr hs hf hn hcr hT ho h14 hp
    have hL := hT.2.2
    obtain ⟨f, rfl⟩ : ∃ g, f = g + 1 := ⟨f - 1, by omega⟩
    obtain ⟨n, rfl⟩ : ∃ g, n = g + 1 := ⟨n - 1, by omega⟩
    unfold pAll
    rw [if_pos (show nT X ≤ s by omega)]
    exact ⟨S, Scr.rf, endd f c b s S hT h14 (by omega) hs⟩
  | succ r ih =>
    intro s f n c b S hr hs hf hn hcr hT ho h14 hp
    have hL := hT.2.2
    obtain ⟨f, rfl⟩ : ∃ g, f = g + 1 := ⟨f - 1, by omega⟩
    obtain ⟨n, rfl⟩ : ∃ g, n = g + 1 := ⟨n - 1, by omega⟩
    unfold pAll at hp ⊢
    by_cases ql : nT X ≤ s
    · rw [if_pos ql]
      exact ⟨S, Scr.rf, endd f c b s S hT h14 ql hs⟩
    · rw [if_neg ql] at hp ⊢
      obtain ⟨S1, g1, c1, c2⟩ := mChange hT hs h14
      cases hpr : prs (X 30) (nT X) s with
      | none =>
        rw [hpr] at hp
        exact absurd hp (nI_nm4 hs)
      | some e =>
        obtain ⟨nx, k, y, v⟩ := e
        rw [hpr] at hp g1
        have adv := prs_adv hpr
        have ok := prs_ok hpr
        obtain ⟨a1, a2, -⟩ := c2 nx k y v hpr
        have e36 : S1 36 (4 * z + 1) = nI o := by rw [c1.1 36 (by omega) (by omega)]; exact ho
        have e6 : S1 34 6 = S 34 6 := c1.2 6 (by omega) (by omega) (by omega)
        obtain ⟨S2, s2, g2⟩ := ih nx f n (c + 1) (b && zAt k o) S1 (by omega) (by omega) (by omega) (by omega) (by omega) (hT.scr c1) e36 a1 hp
        refine ⟨S2, c1.tr s2, ?_⟩
        have st : fX9_lay_37 (nI z) (f + 1) (nI c) (fl01 b) S = fX9_lay_37 (nI z) f (nI (c + 1)) (fl01 (b && zAt k o)) S1 := by
          rw [fX9_lay_37, hT.1, h14, if_neg (nI_ge (by omega) (by omega)), g1, Option.bind_some]
          show (if true = true then _ else _) = _
          rw [if_pos rfl, if_pos (by decide), z_4, z_p1, if_pos (z_inb (by omega) (by omega)), nI_clamp (by omega), e36, a2, (zN_tab2 ok.1 hz S1).2.1, Option.bind_some, nI_1]
          cases zAt k o
          · rw [Bool.and_false]; rfl
          · rw [Bool.and_true, if_pos rfl]
            cases b <;> rfl
        rw [st, g2, e6, Bool.and_assoc]
        show _ = if (b && (zAt k o && lAll o (pAll (X 30) (nT X) n nx).1)) = true then (if S 34 6 + nI (c + ((pAll (X 30) (nT X) n nx).1.length + 1)) ≤ 70 then fX9_lay_119 (nI z) (nI (c + ((pAll (X 30) (nT X) n nx).1.length + 1))) 1 20000 (q_up S2 34 14 0) else some (-3, S2)) else some (-2, S2)
        rw [show c + 1 + (pAll (X 30) (nT X) n nx).1.length = c + ((pAll (X 30) (nT X) n nx).1.length + 1) by omega]
/-- both make the changes -/
theorem lay_both {t : Nat → Int32} {L z : Nat} (p2 p3 : Int32) : ∀ r s f g n i X S, 60 ≤ s + 5 * r → s ≤ 60 → r < f → r < g → r < n → Rl X S → X 30 = t → nT X = L → S 34 14 = nI s → (pAll t L n s).2 = -4 → hasL X i (pAll t L n s).1 → X 29 5 = nI (i + (pAll t L n s).1.length) → i + (pAll t L n s).1.length ≤ 12 → nC X + (pAll t L n s).1.length ≤ 70 → z < nZ X →
    ∃ X' S', fX8_layChanges_2 (nI z) f (nI i) X = some X' ∧ fX9_lay_119 (nI z) p2 p3 g S = some (nI (cCI (nr (X' 16) 3) (X' 17) (X' 18) (X' 19) (nI z) (nI (tk X'))), S') ∧ Rl X' S' ∧ (∀ q, 34 ≤ q → X' q = X q) ∧ ∀ q, q < 34 → S' q = S q := by
  have endd : ∀ f g i s X S, Rl X S → S 34 14 = nI s → nT X ≤ s → s ≤ 60 → i ≤ 12 → X 29 5 = nI (i + 0) → ∃ X' S', fX8_layChanges_2 (nI z) (f + 1) (nI i) X = some X' ∧ fX9_lay_119 (nI z) p2 p3 (g + 1) S = some (nI (cCI (nr (X' 16) 3) (X' 17) (X' 18) (X' 19) (nI z) (nI (tk X'))), S') ∧ Rl X' S' ∧ (∀ q, 34 ≤ q → X' q = X q) ∧ ∀ q, q < 34 → S' q = S q := by
    intro f g i s X S hR h14 hl hs hi hc
    refine ⟨X, S, ?_, ?_, hR, fun _ _ => rfl, fun _ _ => rfl⟩
    · rw [fX8_layChanges_2, hc, if_pos (nI_le (by omega) (by omega))]
    · rw [fX9_lay_119, hR.tx.1, h14, if_pos (nI_le hl (by omega)), zM_records hR.mr hR.now]; rfl
  intro r
  induction r with
  | zero =>
    intro s f g n i X S hr hs hf hg hn hR et eL h14 hp hl hc hi hN hz
    subst et eL
    have hL := hR.tx.2.2
    obtain ⟨f, rfl⟩ : ∃ g, f = g + 1 := ⟨f - 1, by omega⟩
    obtain ⟨g, rfl⟩ : ∃ h, g = h + 1 := ⟨g - 1, by omega⟩
    obtain ⟨n, rfl⟩ : ∃ g, n = g + 1 := ⟨n - 1, by omega⟩
    unfold pAll at hc hi
    rw [if_pos (show nT X ≤ s by omega)] at hc hi
    exact endd f g i s X S hR h14 (by omega) hs hi hc
  | succ r ih =>
    intro s f g n i X S hr hs hf hg hn hR et eL h14 hp hl hc hi hN hz
    subst et eL
    have hL := hR.tx.2.2
    obtain ⟨f, rfl⟩ : ∃ g, f = g + 1 := ⟨f - 1, by omega⟩
    obtain ⟨g, rfl⟩ : ∃ h, g = h + 1 := ⟨g - 1, by omega⟩
    obtain ⟨n, rfl⟩ : ∃ g, n = g + 1 := ⟨n - 1, by omega⟩
    unfold pAll at hp hl hc hi hN
    by_cases ql : nT X ≤ s
    · rw [if_pos ql] at hc hi
      exact endd f g i s X S hR h14 ql hs hi hc
    · rw [if_neg ql] at hp hl hc hi hN
      obtain ⟨S1, g1, c1, c2⟩ := mChange hR.tx hs h14
      cases hpr : prs (X 30) (nT X) s with
      | none =>
        rw [hpr] at hp
        exact absurd hp (nI_nm4 hs)
      | some e =>
        obtain ⟨nx, k, y, v⟩ := e
        rw [hpr] at hp g1 hl hc hi hN
        have adv := prs_adv hpr
        obtain ⟨hk, hy, hv⟩ := prs_ok hpr
        obtain ⟨a1, a2, a3, a4⟩ := c2 nx k y v hpr
        have hR1 : Rl X S1 := hR.scr c1
        have hp' : (pAll (X 30) (nT X) n nx).2 = -4 := hp
        have hl' : hasL X i ((k, y, v) :: (pAll (X 30) (nT X) n nx).1) := hl
        have hc' : X 29 5 = nI (i + ((pAll (X 30) (nT X) n nx).1.length + 1)) := hc
        have hi' : i + ((pAll (X 30) (nT X) n nx).1.length + 1) ≤ 12 := hi
        have hN' : nC X + ((pAll (X 30) (nT X) n nx).1.length + 1) ≤ 70 := hN
        clear hp hl hc hi hN
        obtain ⟨b1, b2, b3⟩ := hl' 0 k y v rfl
        rw [Nat.add_zero] at b1 b2 b3
        have hl2 : hasL X (i + 1) (pAll (X 30) (nT X) n nx).1 := fun j k1 y1 v1 hj => by
          rw [show i + 1 + j = i + (j + 1) by omega]
          exact hl' (j + 1) k1 y1 v1 (by simpa using hj)
        have xs : fX8_layChanges_2 (nI z) (f + 1) (nI i) X = if v = -1 then (if o2i (xFd X (nI z) (nI k) (nI y) (nI (tk X))) = -1 then fX8_layChanges_2 (nI z) f (nI (i + 1)) X else (fX4_drop (o2i (xFd X (nI z) (nI k) (nI y) (nI (tk X)))) (nI (tk X)) X).bind (fun T113 => fX8_layChanges_2 (nI z) f (nI (i + 1)) T113)) else (fX4_put (nI z) (nI k) (nI y) v (nI (tk X)) X).bind (fun T62 => fX8_layChanges_2 (nI z) f (nI (i + 1)) T62) := by
          have ib : q_inb (nI i) 12 = true := z_inb (by omega) (by omega)
          rw [fX8_layChanges_2, hc', if_neg (nI_ge (by omega) (by omega)), if_pos ib, if_pos ib, if_pos ib, if_pos ib, if_pos ib, if_pos ib, nI_clamp (by omega), b1, b2, b3, hR.1.now.1, zX_fd hR.1, Option.bind_some, nI_1]
        have ms : fX9_lay_119 (nI z) p2 p3 (g + 1) S = if 0 ≤ v then (fX9_makes (nI z) (nI k) (nI y) v S1).bind (fun T194 => fX9_lay_119 (nI z) p2 p3 g T194) else if oV (X 22) (xFd X (nI z) (nI k) (nI y) (nI (tk X))) < 0 then fX9_lay_119 (nI z) p2 p3 g S1 else (fX9_makes (nI z) (nI k) (nI y) v S1).bind (fun T194 => fX9_lay_119 (nI z) p2 p3 g T194) := by
          rw [fX9_lay_119, hR.tx.1, h14, if_neg (nI_ge (by omega) (by omega)), g1, Option.bind_some]
          show (if true = true then _ else _) = _
          rw [if_pos rfl, if_pos (by decide), a4, a2, a3, hR1.now, mVa hR1 _ _ _ (Nat.le_refl _), Option.bind_some]
          rfl
        -- one change, made by both
        have chg : ∀ X1, Chg X X1 z k y v → ∃ S2, fX9_makes (nI z) (nI k) (nI y) v S1 = some S2 ∧ ∃ X' S', fX8_layChanges_2 (nI z) f (nI (i + 1)) X1 = some X' ∧ fX9_lay_119 (nI z) p2 p3 g S2 = some (nI (cCI (nr (X' 16) 3) (X' 17) (X' 18) (X' 19) (nI z) (nI (tk X'))), S') ∧ Rl X' S' ∧ (∀ q, 34 ≤ q → X' q = X q) ∧ ∀ q, q < 34 → S' q = S q := by
          intro X1 hC
          obtain ⟨S2, m1, m2, m3, m4⟩ := mk_both hR1 hC
          have wx := hC.wx hR.1
          have fr := hC.choose_spec.choose_spec.1
          have eT : nT X1 = nT X := by unfold nT; rw [fr 29 (Or.inr (by omega))]
          have e30 : X1 30 = X 30 := fr 30 (Or.inr (by omega))
          have eZ : nZ X1 = nZ X := by unfold nZ; rw [fr 10 (Or.inl (by omega))]
          obtain ⟨X', S', i1, i2, i3, i4, i5⟩ := ih nx f g n (i + 1) X1 S2 (by omega) (by omega) (by omega) (by omega) (by omega) m2 e30 eT (by rw [m4 14 (by omega)]; exact a1) hp' (hasL_mono (fun j _ _ => by rw [fr 31 (Or.inr (by omega)), fr 32 (Or.inr (by omega)), fr 33 (Or.inr (by omega))]; exact ⟨rfl, rfl, rfl⟩) hl2) (by rw [fr 29 (Or.inr (by omega)), hc', show i + 1 + (pAll (X 30) (nT X) n nx).1.length = i + ((pAll (X 30) (nT X) n nx).1.length + 1) by omega]) (by omega) (by rw [wx.2]; omega) (by rw [eZ]; exact hz)
          refine ⟨S2, m1, X', S', i1, i2, i3, fun q hq => (i4 q hq).trans (fr q (Or.inr (by omega))), fun q hq => ?_⟩
          rw [i5 q hq, m3 q (by omega) (by omega)]
          exact c1.lo q hq
        rcases hv with hv | ⟨w, hw, hv, hal⟩
        · simp only at hv
          rw [xs, ms, if_pos hv, if_neg (show ¬ (0 : Int32) ≤ v by rw [hv]; decide)]
          have lt := mVa_lt hR1 (nI z) (nI k) (nI y) (Nat.le_refl (tk X))
          cases hf : xFd X (nI z) (nI k) (nI y) (nI (tk X)) with
          | none =>
            rw [hf] at lt
            rw [if_pos (show o2i none = -1 from rfl), if_pos (lt.mpr rfl)]
            obtain ⟨X', S', i1, i2, i3, i4, i5⟩ := ih nx f g n (i + 1) X S1 (by omega) (by omega) (by omega) (by omega) (by omega) hR1 rfl rfl a1 hp' hl2 (by rw [hc', show i + 1 + (pAll (X 30) (nT X) n nx).1.length = i + ((pAll (X 30) (nT X) n nx).1.length + 1) by omega]) (by omega) (by omega) hz
            exact ⟨X', S', i1, i2, i3, i4, fun q hq => (i5 q hq).trans (c1.lo q hq)⟩
          | some j =>
            rw [hf] at lt
            have hj := (xFd_some hf).1
            obtain ⟨X1, d1, d2, -⟩ := xDrop hR.1 (show nC X < 70 by omega) hz hk hy hf
            rw [← hv] at d2
            obtain ⟨S2, m1, X', S', i1, i2, i3, i4, i5⟩ := chg X1 d2
            refine ⟨X', S', ?_, ?_, i3, i4, i5⟩
            · rw [if_neg (fun q => by cases (o2i_m1 (fun i hi => by cases hi; omega)).mp q), show o2i (some j) = nI j from rfl, d1, Option.bind_some, i1]
            · rw [if_neg (fun q => by cases lt.mp q), m1, Option.bind_some, i2]
        · simp only at hv hal
          obtain ⟨X1, d1, d2⟩ := xPut hR.1 (show nC X < 70 by omega) hz hk hy hw hv hal
          obtain ⟨S2, m1, X', S', i1, i2, i3, i4, i5⟩ := chg X1 d2
          have ge : (0 : Int32) ≤ v := by rw [hv]; exact nI_pos' (by omega)
          refine ⟨X', S', ?_, ?_, i3, i4, i5⟩
          · rw [xs, if_neg (show ¬ v = -1 by rw [hv]; exact nI_nm1 (by omega)), d1, Option.bind_some, i1]
          · rw [ms, if_pos ge, m1, Option.bind_some, i2]
end
section
variable {S : qS}
theorem w_lay (h : Rl S S) (a : Int32) : Wr (fX8_lay a) (fX9_lay a) S := by
  have hzb := h.1.z3.2
  have hcb := h.1.c3.2
  have hL := h.1.t3.2
  cases h1 : cMd (nZ S) a with
  | false =>
    refine Wr.no (r := -1) h ?_ ?_
    · unfold fX8_lay; rw [zX_zone h.1, h1]; rfl
    · unfold fX9_lay; rw [zM_isZone h, h1]; rfl
  | true =>
    obtain ⟨z, hz, rfl⟩ := cMd_of h1 (by omega)
    by_cases h6 : S 12 z = 10000
    · obtain ⟨X1, g1, g2, g3, g4⟩ := xRead h.1
      have hR1 : Rl S X1 := h.hi (fun q hq => g2.1 q (by omega) (by omega) (by omega) (by omega))
      have hRR : Rl X1 X1 := ⟨hR1.1.xsc g2, hR1.2.xsc g2⟩
      have wzn := h.1.zon z hz
      have e14 : X1 14 z = nI (nr (S 14) z) := by rw [g2.1 14 (by omega) (by omega) (by omega) (by omega)]; exact wzn.1.1
      have hlen := pAll_len (t := S 30) hL 100 0 (by omega)
      have len12 : (pX S).1.length ≤ 12 := by unfold pX; omega
      have hok : ∀ n s, ∀ e ∈ (pAll (S 30) (nT S) n s).1, zNm e.1 = true := by
        intro n
        induction n with
        | zero => intro s e he; cases he
        | succ n ih =>
          intro s e he
          unfold pAll at he
          split at he
          · cases he
          · split at he
            · cases he
            · rename_i nx k y v hp
              rcases List.mem_cons.mp he with q | q
              · subst q; exact (prs_ok hp).1
              · exact ih nx e q
      have xh : fX8_lay (nI z) S = if (pX S).2 = -4 then (if lAll (nr (S 14) z) (pX S).1 = true then (if decide (nC S + (pX S).1.length ≤ 70) = true then (fX8_layChanges (nI z) X1).bind (fun T93 => (fX4_countIn (nI z) (T93 0 6) T93).bind (fun r105 => some (r105, T93))) else some (-3, X1)) else some (-2, X1)) else some (-2, X1) := by
        unfold fX8_lay
        rw [zX_zone h.1, h1, Option.bind_some, if_pos rfl, xZnow h.1 hz, Option.bind_some, if_pos (decide_eq_true h6), g1, Option.bind_some]
        dsimp only
        have ea : fX6_isAllAt (X1 14 z) X1 = some (lAll (nr (S 14) z) (pX S).1) := by
          unfold fX6_isAllAt
          exact xAllAt e14 wzn.2 (pX S).1 0 20000 (by omega) (by omega) (by rw [Nat.zero_add]; exact g3) g4 (hok 100 0)
        have er : fX5_hasRoomFor_16 (X1 29 5) X1 = some (decide (nC S + (pX S).1.length ≤ 70)) := by
          unfold fX5_hasRoomFor_16
          rw [g3, g2.1 16 (by omega) (by omega) (by omega) (by omega), h.1.2.2.2.1.1, h.1.c3.1, show (70 : Int32) = nI 70 from rfl, nI_sub hcb]
          by_cases q : nC S + (pX S).1.length ≤ 70
          · rw [if_neg (nI_nlt (by omega) (by omega)), decide_eq_true q]
          · rw [if_pos (nI_lt (by omega) (by omega)), decide_eq_false q]
        rw [if_pos (z_inb (by omega) (by omega)), nI_clamp (by omega), ea, Option.bind_some, er, Option.bind_some]
      have mh : ∀ S', Rl S S' → ∃ S1, Scr S' S1 ∧ fX9_lay (nI z) S' = if (pX S).2 < 0 then fX9_lay_37 (nI z) 20000 0 1 (q_up S1 34 14 0) else some (-2, S1) := by
        intro S' hR
        obtain ⟨S1, m1, m2⟩ := mFault hR.tx
        refine ⟨S1, m2, ?_⟩
        unfold fX9_lay
        rw [zM_isZone hR, h1, Option.bind_some, if_pos rfl, mGone hR hz, Option.bind_some, decide_eq_true h6, if_neg (by decide), m1, Option.bind_some]
      rcases pAll_res (t := S 30) hL 100 0 (by omega) with hp | ⟨j, hj, hp⟩
      · -- no fault
        have hpx : (pX S).2 = -4 := hp
        have mh2 : ∀ S', Rl S S' → ∃ S1, Scr S' S1 ∧ fX9_lay (nI z) S' = if lAll (nr (S 14) z) (pX S).1 = true then (if decide (nC S + (pX S).1.length ≤ 70) = true then fX9_lay_119 (nI z) (nI (pX S).1.length) 1 20000 (q_up S1 34 14 0) else some (-3, S1)) else some (-2, S1) := by
          intro S' hR
          obtain ⟨S1, m2, m1⟩ := mh S' hR
          have s0 : Scr S' (q_up S1 34 14 0) := m2.tr (Scr.up 14 _ (by omega))
          have hR2 := hR.scr s0
          have e36 : (q_up S1 34 14 0) 36 (4 * z + 1) = nI (nr (S 14) z) := by rw [(hR2.2.2.2.1 z hz).2.1]; exact wzn.1.1
          obtain ⟨S2, n1, n2⟩ := mLay37 (X := S) (o := nr (S 14) z) (show z < 10 by omega) wzn.2 12 0 20000 100 0 true (q_up S1 34 14 0) (by omega) (by omega) (by omega) (by omega) (by omega) hR2.tx e36 (by rw [q_up_s, upd_s]; rfl) hp
          refine ⟨S2, s0.tr n1, ?_⟩
          have e6 : (q_up S1 34 14 0) 34 6 = nI (nC S) := by rw [hR2.2.1.2.2.2.1]; exact h.1.c3.1
          have n2' : fX9_lay_37 (nI z) 20000 0 1 (q_up S1 34 14 0) = if lAll (nr (S 14) z) (pX S).1 = true then (if (q_up S1 34 14 0) 34 6 + nI (0 + (pX S).1.length) ≤ 70 then fX9_lay_119 (nI z) (nI (0 + (pX S).1.length)) 1 20000 (q_up S2 34 14 0) else some (-3, S2)) else some (-2, S2) := n2
          rw [m1, if_pos (show (pX S).2 < 0 by rw [hpx]; decide), n2', e6, Nat.zero_add, nI_add]
          by_cases q : nC S + (pX S).1.length ≤ 70
          · rw [if_pos (show nI (nC S + (pX S).1.length) ≤ (70 : Int32) from nI_le (b := 70) q (by omega)), if_pos (decide_eq_true q)]
          · rw [if_neg (show ¬ nI (nC S + (pX S).1.length) ≤ (70 : Int32) from nI_ge (a := 70) (by omega) (by omega)), if_neg (show ¬ decide (nC S + (pX S).1.length ≤ 70) = true by rw [decide_eq_false q]; decide)]
        rw [if_pos hpx] at xh
        by_cases qa : lAll (nr (S 14) z) (pX S).1 = true
        · rw [if_pos qa] at xh
          by_cases qr : nC S + (pX S).1.length ≤ 70
          · rw [if_pos (decide_eq_true qr)] at xh
            have eT : nT X1 = nT S := by unfold nT nr; rw [g2.2 1 (by omega)]
            have e30 : X1 30 = S 30 := g2.1 30 (by omega) (by omega) (by omega) (by omega)
            have eC : nC X1 = nC S := by unfold nC; rw [g2.1 16 (by omega) (by omega) (by omega) (by omega)]
            have eZ : nZ X1 = nZ S := by unfold nZ; rw [g2.1 10 (by omega) (by omega) (by omega) (by omega)]
            -- the class first
            have lay : ∀ S1, Rl X1 S1 → S1 34 14 = nI 0 → _ := fun S1 hS h14 => lay_both (t := S 30) (L := nT S) (z := z) (nI (pX S).1.length) 1 12 0 20000 20000 100 0 X1 S1 (by omega) (by omega) (by omega) (by omega) (by omega) hS e30 eT h14 hp g4 (by rw [g3, Nat.zero_add]; rfl) (by have := len12; unfold pX at this; omega) (by rw [eC]; exact qr) (by rw [eZ]; exact hz)
            obtain ⟨X', S', i1, -, -, i4, -⟩ := lay (q_up X1 34 14 0) (hRR.scr (Scr.up 14 _ (by omega))) (by rw [q_up_s, upd_s]; rfl)
            have hRS : Rl S X' := hR1.hi (fun q hq => i4 q hq)
            have hRX : Rl X1 X' := hRR.hi (fun q hq => i4 q hq)
            obtain ⟨S1, s1, m1⟩ := mh2 X' hRS
            have s2 : Scr X' (q_up S1 34 14 0) := s1.tr (Scr.up 14 _ (by omega))
            obtain ⟨X2, S2, j1, j2, j3, j4, j5⟩ := lay (q_up S1 34 14 0) (hRX.scr s2) (by rw [q_up_s, upd_s]; rfl)
            have ex : X2 = X' := by
              have := j1.symm.trans i1
              exact Option.some.inj this
            subst ex
            refine ⟨nI (cCI (nr (X2 16) 3) (X2 17) (X2 18) (X2 19) (nI z) (nI (tk X2))), X2, S2, ?_, ?_, ?_⟩
            · rw [xh]
              unfold fX8_layChanges
              rw [show (0 : Int32) = nI 0 from rfl, j1, Option.bind_some, zX4_countIn j3.1.n3.2.2.1, j3.1.now.1]
              rfl
            · rw [m1, if_pos qa, if_pos (decide_eq_true qr), j2]
            · exact j3.lo (fun q hq => by rw [j5 q hq]; exact s2.lo q hq)
          · rw [if_neg (show ¬ decide (nC S + (pX S).1.length ≤ 70) = true by rw [decide_eq_false qr]; decide)] at xh
            obtain ⟨S1, s1, m1⟩ := mh2 X1 hR1
            refine ⟨-3, X1, S1, xh, ?_, (hRR.scr s1).lo s1.lo⟩
            rw [m1, if_pos qa, if_neg (show ¬ decide (nC S + (pX S).1.length ≤ 70) = true by rw [decide_eq_false qr]; decide)]
        · rw [if_neg qa] at xh
          obtain ⟨S1, s1, m1⟩ := mh2 X1 hR1
          refine ⟨-2, X1, S1, xh, ?_, (hRR.scr s1).lo s1.lo⟩
          rw [m1, if_neg qa]
      · have hpx : (pX S).2 = nI j := hp
        obtain ⟨S1, s1, m1⟩ := mh X1 hR1
        refine ⟨-2, X1, S1, ?_, ?_, (hRR.scr s1).lo s1.lo⟩
        · rw [xh, hpx, if_neg (nI_nm4 hj)]
        · rw [m1, hpx, if_neg (nI_pos (by omega))]
    · refine Wr.no (r := -2) h ?_ ?_
      · unfold fX8_lay; rw [zX_zone h.1, h1, Option.bind_some, if_pos rfl, xZnow h.1 hz, decide_eq_false h6]; rfl
      · unfold fX9_lay; rw [zM_isZone h, h1, Option.bind_some, if_pos rfl, mGone h hz, decide_eq_false h6]; rfl
end
