section
variable {X S : qS}
theorem Rl.tk9 (h : Rl X S) : tk X ≤ 9999 := h.1.n3.2.2.2.2.2.2
theorem Rl.mr (h : Rl X S) : MR (tk X) (nZ X) (X 16) (X 17) (X 18) (X 19) (X 20) (X 21) (X 22) S := ⟨h.tk9, h.2.1.2.2.2.1, h.1.2.2.2.1, h.2.2.2.2.1⟩
theorem nI_lt4 {τ : Nat} (h : τ ≤ 9999) : (nI τ).toInt < 10000 := by rw [nI_toInt (by omega)]; omega
theorem mRs (h : Rl X S) (v : Int32) {k : Nat} (hk : zNm k = true) {τ : Nat} (hτ : τ ≤ tk X) : fX9_responsible v (nI k) (nI τ) S = some (o2m (xRs X v k (nI τ))) := by
  have := h.tk9
  exact zM_responsible h.tk9 h.2.1.2.2.1 h.1.2.2.1 h.2.2.2.1 v hk (nI_lt4 (by omega))
theorem mEx (h : Rl X S) (z : Int32) {k : Nat} (hk : zNm k = true) {τ : Nat} (hτ : τ ≤ tk X) : fX9_exists z (nI k) (nI τ) S = some (xEx X z k (nI τ)) := zM_exists h.mr z hk hτ
theorem mVa (h : Rl X S) (z n ty : Int32) {τ : Nat} (hτ : τ ≤ tk X) : fX9_valueAt z n ty (nI τ) S = some (oV (X 22) (xFd X z n ty (nI τ))) := zM_valueAt h.tk9 h.mr.2.1 h.mr.2.2.1 h.mr.2.2.2 z n ty hτ
theorem mVa_lt (h : Rl X S) (z n ty : Int32) {τ : Nat} (hτ : τ ≤ tk X) : oV (X 22) (xFd X z n ty (nI τ)) < 0 ↔ xFd X z n ty (nI τ) = none := oV_lt h.tk9 h.mr.2.2.1 z n ty hτ
theorem mVa_ge (h : Rl X S) (z n ty : Int32) {τ : Nat} (hτ : τ ≤ tk X) : 0 ≤ oV (X 22) (xFd X z n ty (nI τ)) ↔ ¬ xFd X z n ty (nI τ) = none := by
  rw [← mVa_lt h z n ty hτ, z_nlt]
end
def rbT (X : qS) (v ty t : Int32) (r : Nat) (z s : Nat) : Nat ⊕ Int32 := match xFd X (nI z) (nI s) ty t with
  | some c => .inl c
  | none => match xFd X (nI z) (nI s) 1 t with
    | none => .inr (-13)
    | some c => xRB X v ty t r (nr (X 22) c)
theorem xRB_s (X : qS) (v ty t : Int32) (r k : Nat) : xRB X v ty t (r + 1) k = match xRs X v k t with
    | none => .inr (-11)
    | some z => match xSt X z k t with
      | none => .inr (-12)
      | some s => rbT X v ty t r z s := rfl
def fnd (X : qS) (S : qS) (o : Nat ⊕ Int32) (q : Option (Int32 × qS)) : Prop := ∃ S', q = some (rbV X o, S') ∧ Scr S S' ∧ ∀ c, o = .inl c → S' 34 13 = X 20 c
theorem zM_finds {X S : qS} (h : Rl X S) (v : Int32) {k : Nat} (hk : zNm k = true) (ty : Int32) {τ : Nat} (hτ : τ ≤ tk X) : fnd X S (xRB X v ty (nI τ) 5 k) (fX9_finds v (nI k) ty (nI τ) S) := by
  have hW := h.1
  have hb : nZ X ≤ 10 := hW.n3.2.1.2
  unfold fX9_finds
  have key : ∀ r a k' f S, a + r = 5 → r < f → zNm k' = true → Rl X S → fnd X S (xRB X v ty (nI τ) r k') (fX9_finds_6 v (nI k) ty (nI τ) f (nI k') (nI a) S) := by
    intro r
    induction r with
    | zero =>
      intro a k' f S ha hf hk' hR
      obtain ⟨f, rfl⟩ : ∃ g, f = g + 1 := ⟨f - 1, by omega⟩
      have : a = 5 := by omega
      subst this
      rw [fX9_finds_6, if_pos (by decide)]
      exact ⟨S, rfl, Scr.rf, fun c hc => (by cases hc)⟩
    | succ r ih =>
      intro a k' f S ha hf hk' hR
      obtain ⟨f, rfl⟩ : ∃ g, f = g + 1 := ⟨f - 1, by omega⟩
      have hk2 := zNm_lt hk'
      have tail : ∀ (z s : Nat) (S1 : qS), z < nZ X → zNm s = true → Rl X S1 → S1 34 13 = nI s → Scr S S1 → fnd X S (rbT X v ty (nI τ) r z s) ((fX9_valueAt (nI z) (nI s) ty (nI τ) S1).bind fun r116 => if r116 < 0 then (fX9_valueAt (nI z) (nI s) 1 (nI τ) S1).bind fun r139 => if 0 ≤ r139 then fX9_finds_6 v (nI k) ty (nI τ) f r139 (nI a + 1) S1 else some (-13, S1) else some (r116, S1)) := by
        intro z s S1 hz hs hR1 h13 hsc
        rw [mVa hR1 (nI z) (nI s) ty hτ, Option.bind_some, mVa hR1 (nI z) (nI s) 1 hτ, Option.bind_some]
        have g1 := mVa_lt hR1 (nI z) (nI s) ty hτ
        have g2 := mVa_ge hR1 (nI z) (nI s) 1 hτ
        unfold rbT
        cases h1 : xFd X (nI z) (nI s) ty (nI τ) with
        | some c =>
          rw [h1] at g1
          rw [if_neg (fun q => by cases g1.mp q)]
          refine ⟨S1, rfl, hsc, fun c' hc => ?_⟩
          cases hc
          rw [h13, (xFd_some h1).2.2.1]
        | none =>
          rw [h1] at g1
          rw [if_pos (g1.mpr rfl)]
          dsimp only
          cases h2 : xFd X (nI z) (nI s) 1 (nI τ) with
          | none =>
            rw [h2] at g2
            rw [if_neg (fun q => g2.mp q rfl)]
            exact ⟨S1, rfl, hsc, fun c hc => (by cases hc)⟩
          | some c =>
            rw [h2] at g2
            have al := xAl hW hτ rfl h2
            rw [if_pos (g2.mpr (fun q => by cases q))]
            show fnd X S _ (fX9_finds_6 v (nI k) ty (nI τ) f (X 22 c) (nI a + 1) S1)
            rw [al.1, nI_1]
            obtain ⟨S', e1, e2, e3⟩ := ih (a + 1) _ f S1 (by omega) (by omega) al.2 hR1
            exact ⟨S', e1, hsc.tr e2, e3⟩
      rw [fX9_finds_6, if_neg (show ¬ (5 : Int32) ≤ nI a from nI_ge (b := 5) (by omega) (by omega)), mRs hR v hk' hτ, Option.bind_some, xRB_s]
      cases hz : xRs X v k' (nI τ) with
      | none =>
        rw [if_neg (show ¬ 0 ≤ o2m none by decide)]
        exact ⟨S, rfl, Scr.rf, fun c hc => (by cases hc)⟩
      | some z =>
        have hz2 := (zX_rs hW v hk' (nI τ)).2 z hz
        rw [show o2m (some z) = nI z from rfl, if_pos (nI_pos' (by omega))]
        dsimp only
        have sc1 : Scr S (q_up S 34 13 (nI k')) := Scr.up 13 _ (Or.inl rfl)
        have hR1 : Rl X (q_up S 34 13 (nI k')) := hR.scr sc1
        rw [mEx hR1 (nI z) hk' hτ, Option.bind_some]
        unfold xSt
        by_cases q1 : xEx X (nI z) k' (nI τ) = true
        · rw [if_pos q1, if_pos q1]
          exact tail z k' _ hz2 hk' hR1 (by rw [q_up_s]; simp [upd]) sc1
        · rw [if_neg q1, if_neg q1, (zN_tab hk2.1 _).2.2.2.2.2.2.2, Option.bind_some]
          have sc2 : Scr S (q_up (q_up S 34 13 (nI k')) 34 13 (nI (zPF k'))) := sc1.tr (Scr.up 13 _ (Or.inl rfl))
          have hR2 : Rl X (q_up (q_up S 34 13 (nI k')) 34 13 (nI (zPF k'))) := hR.scr sc2
          rw [(zN_tab hk2.1 _).2.2.2.1, Option.bind_some]
          by_cases q2 : zPat k' = true
          · rw [if_pos q2, if_pos q2]
            exact ⟨_, rfl, sc2, fun c hc => (by cases hc)⟩
          · rw [if_neg q2, if_neg q2, z_4, z_p1, if_pos (z_inb (by omega) (by omega)), nI_clamp (by omega)]
            have hp := zPF_nm hk' q2
            have hz' := hW.zon z hz2
            have e36 : S 36 (4 * z + 1) = X 14 z := (hR.2.2.2.1 z hz2).2.1
            have eBl : ∀ S2, fX9_isBelow (nI (zPF k')) (S 36 (4 * z + 1)) S2 = some (zBl (zPF k') (nr (X 14) z)) := by
              intro S2
              have := (zN_tab2 hp hz'.2 S2).2.2.2
              rw [← hz'.1.1] at this
              rw [e36]
              exact this
            rw [eBl, Option.bind_some, mEx hR2 (nI z) hp hτ, Option.bind_some]
            by_cases q3 : zBl (zPF k') (nr (X 14) z) = true
            · rw [if_pos q3, if_pos q3]
              by_cases q4 : xEx X (nI z) (zPF k') (nI τ) = true
              · rw [if_pos q4, if_pos q4]
                exact tail z (zPF k') _ hz2 hp hR2 (by rw [q_up_s]; simp [upd]) sc2
              · rw [if_neg q4, if_neg q4]
                exact ⟨_, rfl, sc2, fun c hc => (by cases hc)⟩
            · rw [if_neg q3, if_neg q3]
              exact ⟨_, rfl, sc2, fun c hc => (by cases hc)⟩
  exact key 5 0 k 20000 S rfl (by omega) hk h
