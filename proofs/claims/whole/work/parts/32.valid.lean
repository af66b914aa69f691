def cRg (lo hi : Int) (a : Int32) : Bool := decide (lo ≤ a.toInt ∧ a.toInt ≤ hi)
theorem zRg (a b c : Int32) {α : Type} (x y : α) : (if a < b then some x else if c < a then some x else some y) = some (if cRg b.toInt c.toInt a = true then y else x) := by
  by_cases h : a < b
  · rw [if_pos h]
    rw [z_lt] at h
    rw [if_neg (by simp only [cRg, decide_eq_true_eq]; omega)]
  · rw [if_neg h]
    rw [z_lt] at h
    by_cases h2 : c < a
    · rw [if_pos h2]
      rw [z_lt] at h2
      rw [if_neg (by simp only [cRg, decide_eq_true_eq]; omega)]
    · rw [if_neg h2]
      rw [z_lt] at h2
      rw [if_pos (by simp only [cRg, decide_eq_true_eq]; omega)]
theorem ite_b (b : Bool) : (if b = true then true else false) = b := by cases b <;> rfl
theorem zM_in (a b c : Int32) (S : qS) : fX9_in a b c S = some (cRg b.toInt c.toInt a) := by
  unfold fX9_in
  rw [zRg, ite_b]
theorem zX_isView (a : Int32) (S : qS) : fX8_isView a S = some (cRg 0 3 a) := by
  unfold fX8_isView
  rw [zRg, ite_b]; rfl
theorem zX_isAddress (a : Int32) (S : qS) : fX8_isAddress a S = some (cRg 0 255 a) := by
  unfold fX8_isAddress
  rw [zRg, ite_b]; rfl
theorem zX_isType (a : Int32) (S : qS) : fX8_isType a S = some (cRg 0 2 a) := by
  unfold fX8_isType
  rw [zRg, ite_b]; rfl
theorem zX_isLength (a : Int32) (S : qS) : fX3_isLength a S = some (cRg 1 8 a) := by
  unfold fX3_isLength
  rw [zRg, ite_b]; rfl
theorem zM_isView (a : Int32) (S : qS) : fX9_isView a S = some (cRg 0 3 a) := by
  unfold fX9_isView
  rw [zM_in, Option.bind_some]; rfl
theorem zM_isAddress (a : Int32) (S : qS) : fX9_isAddress a S = some (cRg 0 255 a) := by
  unfold fX9_isAddress
  rw [zM_in, Option.bind_some]; rfl
theorem zM_isType (a : Int32) (S : qS) : fX9_isType a S = some (cRg 0 2 a) := by
  unfold fX9_isType
  rw [zM_in, Option.bind_some]; rfl
theorem zX_isQuestion (a b : Int32) (S : qS) : fX8_isQuestion a b S = some (zN a && cRg 0 2 b) := by
  unfold fX8_isQuestion
  rw [zX_isName, Option.bind_some, zX_isType, Option.bind_some]
  cases zN a <;> cases cRg 0 2 b <;> rfl
theorem zM_isQuestion (v a b : Int32) (S : qS) : fX9_isQuestion v a b S = some (cRg 0 3 v && (zN a && cRg 0 2 b)) := by
  unfold fX9_isQuestion
  rw [zM_isView, Option.bind_some, zM_isName, Option.bind_some, zM_isType, Option.bind_some]
  cases cRg 0 3 v <;> cases zN a <;> cases cRg 0 2 b <;> rfl
def cTk (X : qS) (a : Int32) : Bool := cRg 0 (tk X) a
section
variable {X S : qS}
theorem WX.now (h : WX X) : X 0 6 = nI (tk X) ∧ tk X ≤ 9999 := h.n3.2.2.2.2.2
theorem WX.nowI (h : WX X) : (X 0 6).toInt = (tk X : Int) := by
  have := h.now.2
  rw [h.now.1, nI_toInt (by omega)]
theorem zX_isTick (h : WX X) (a : Int32) : fX8_isTick a X = some (cTk X a) := by
  unfold fX8_isTick
  rw [zRg, ite_b, h.nowI]; rfl
theorem Rl.now (h : Rl X S) : S 34 0 = nI (tk X) := by rw [h.2.1.1]; exact h.1.now.1
theorem zM_isTick (h : Rl X S) (a : Int32) : fX9_isTick a S = some (cTk X a) := by
  unfold fX9_isTick
  rw [zM_in, Option.bind_some, h.2.1.1, h.1.nowI]; rfl
theorem cTk_of {a : Int32} (h : cTk X a = true) (hT : tk X ≤ 9999) : ∃ τ, τ ≤ tk X ∧ a = nI τ := by
  simp only [cTk, cRg, decide_eq_true_eq] at h
  obtain ⟨j, hj, e⟩ := z_of (x := a) (n := tk X + 1) h.1 (by omega) (by omega)
  exact ⟨j, by omega, e⟩
theorem nI_subI {n : Nat} (h : n ≤ 70) : (nI n - 1).toInt = (n : Int) - 1 := pk_sub_toInt (b := 1) (by omega) (by omega)
theorem cMd_rg {n : Nat} (h : n ≤ 70) (a : Int32) : cRg 0 (nI n - 1).toInt a = cMd n a := by
  rw [nI_subI h]
  unfold cRg cMd
  by_cases q : 0 ≤ a.toInt ∧ a.toInt < (n : Int)
  · rw [decide_eq_true q, decide_eq_true (by omega)]
  · rw [decide_eq_false q, decide_eq_false (by omega)]
theorem zX_zone (h : WX X) (a : Int32) : fX5_isMade_10 a X = some (cMd (nZ X) a) := zX5_isMade_10 h.n3.2.1 a
theorem zX_net (h : WX X) (a : Int32) : fX5_isMade_2 a X = some (cMd (nN X) a) := zX5_isMade_2 h.n3.1 a
theorem zM_isZone (h : Rl X S) (a : Int32) : fX9_isZone a S = some (cMd (nZ X) a) := by
  have hb : nZ X ≤ 10 := h.1.n3.2.1.2
  have e : X 10 3 = nI (nZ X) := h.1.n3.2.1.1
  unfold fX9_isZone
  rw [zM_in, Option.bind_some, h.2.1.2.2.1, e]
  exact congrArg some (cMd_rg (by omega) a)
theorem Rl.zu (h : Rl X S) {i : Nat} (hi : i < nZ X) : 0 ≤ (X 12 i).toInt := by
  rw [isN_int (h.1.2.2.1.2.2.1 i hi).1.2.1 (by omega)]; omega
theorem Rl.nu (h : Rl X S) {i : Nat} (hi : i < nN X) : 0 ≤ (X 4 i).toInt := by
  rw [isN_int (h.1.2.1.2.2 i hi).1.2.1 (by omega)]; omega
theorem mZth (h : Rl X S) {i τ : Nat} (hi : i < nZ X) (hτ : τ ≤ tk X) : fX9_isThere (nI i) (nI τ) S = some (cTh (X 11 i) (X 12 i) (nI τ)) := by
  have := h.tk9
  exact zM_isThere h.1.n3.2.1.2 h.2.2.2.1 hi (h.zu hi) (nI_lt4 (by omega))
theorem mGone (h : Rl X S) {i : Nat} (hi : i < nZ X) : fX9_isGone (nI i) S = some (!decide (X 12 i = 10000)) := zM_isGone h.1.n3.2.1.2 h.2.2.2.1 hi (h.zu hi)
theorem xZth (h : WX X) {i : Nat} (hi : i < nZ X) (t : Int32) : fX5_isThere_10 (nI i) t X = some (cTh (X 11 i) (X 12 i) t) := zX5_isThere_10 h.n3.2.1 hi t
theorem xZnow (h : WX X) {i : Nat} (hi : i < nZ X) : fX5_isThere_10 (nI i) (X 0 6) X = some (decide (X 12 i = 10000)) := by
  rw [xZth h hi, h.now.1, th_now h.now.2 (h.2.2.1.2.2.1 i hi).1]
def xVA (X : qS) (a t : Int32) : Int32 := cVA (nN X) (X 3) (X 4) (X 5) (X 6) (X 7) a t
theorem xVw (h : WX X) (a t : Int32) : fX3_viewAt a t X = some (xVA X a t) := zX3_viewAt h.n3.1 a t
theorem mVw (h : Rl X S) (a : Int32) {τ : Nat} (hτ : τ ≤ tk X) : fX9_viewAt a (nI τ) S = some (xVA X a (nI τ)) := by
  have := h.tk9
  exact zM_viewAt (by rw [h.2.1.2.1]; exact h.1.n3.1.1) h.1.n3.1.2 h.2.2.1 (fun i hi => h.nu hi) a (nI_lt4 (by omega))
theorem xVA_b (h : WX X) (a t : Int32) : ∃ v : Nat, v ≤ 3 ∧ xVA X a t = nI v := cVA_view (fun i hi => (h.2.1.2.2 i hi).2.1) a t
/-- a reading call of both -/
def Rd (S : qS) (fx : Option Int32) (fm : Option (Int32 × qS)) : Prop := ∃ r S', fx = some r ∧ fm = some (r, S') ∧ Scr S S'
def Rr (fx fm : Option Int32) : Prop := ∃ r, fx = some r ∧ fm = some r
theorem o_time (h : Rl X S) : Rr (fX8_time X) (fX9_time S) := ⟨X 0 6, rfl, by unfold fX9_time; rw [h.2.1.1]⟩
theorem o_viewOf (h : Rl X S) (a b : Int32) : Rr (fX8_viewOf a b X) (fX9_viewOf a b S) := by
  unfold fX8_viewOf fX9_viewOf Rr
  rw [zX_isAddress, zM_isAddress, zX_isTick h.1, zM_isTick h]
  simp only [Option.bind_some]
  cases h1 : cRg 0 255 a with
  | false => exact ⟨_, rfl, rfl⟩
  | true =>
    cases h2 : cTk X b with
    | false => exact ⟨_, rfl, rfl⟩
    | true =>
      obtain ⟨τ, hτ, rfl⟩ := cTk_of h2 h.tk9
      rw [xVw h.1, mVw h a hτ]
      exact ⟨_, rfl, rfl⟩
theorem o_record (h : Rl X S) (a b c d : Int32) : Rr (fX8_record a b c d X) (fX9_record a b c d S) := by
  unfold fX8_record fX9_record Rr
  rw [zX_zone h.1, zM_isZone h, zX_isName, zM_isName, zX_isType, zM_isType, zX_isTick h.1, zM_isTick h]
  simp only [Option.bind_some]
  cases h1 : cMd (nZ X) a with
  | false => exact ⟨_, rfl, rfl⟩
  | true =>
    have hb : nZ X ≤ 10 := h.1.n3.2.1.2
    have hcb : nC X ≤ 70 := h.1.n3.2.2.1.2
    obtain ⟨z, hz, rfl⟩ := cMd_of h1 (by omega)
    cases h2 : zN b with
    | false => exact ⟨_, rfl, rfl⟩
    | true =>
      cases h3 : cRg 0 2 c with
      | false => exact ⟨_, rfl, rfl⟩
      | true =>
        cases h4 : cTk X d with
        | false => exact ⟨_, rfl, rfl⟩
        | true =>
          obtain ⟨τ, hτ, rfl⟩ := cTk_of h4 h.tk9
          rw [xZth h.1 hz, mZth h hz hτ, zX_fd h.1, mVa h _ _ _ hτ]
          simp only [Option.bind_some, if_true]
          cases h5 : cTh (X 11 z) (X 12 z) (nI τ) with
          | false => exact ⟨_, rfl, rfl⟩
          | true =>
            simp only [if_true]
            have g := mVa_ge h (nI z) b c hτ
            cases h6 : xFd X (nI z) b c (nI τ) with
            | none =>
              rw [h6] at g
              rw [if_pos (show o2i none = -1 from rfl), if_neg (fun q => g.mp q rfl)]
              exact ⟨_, rfl, rfl⟩
            | some e =>
              rw [h6] at g
              have he := (xFd_some h6).1
              rw [if_neg (fun q => by cases (o2i_m1 (fun j hj => by cases hj; omega)).mp q), if_pos (g.mpr (fun q => by cases q))]
              rw [show o2i (some e) = nI e from rfl, if_pos (z_inb (by omega) (by omega)), nI_clamp (by omega)]
              exact ⟨_, rfl, rfl⟩
theorem o_zoneFor (h : Rl X S) (a b c : Int32) : Rr (fX8_zoneFor a b c X) (fX9_zoneFor a b c S) := by
  unfold fX8_zoneFor fX9_zoneFor Rr
  rw [zX_isView, zM_isQuestion, zX_isName, zX_isTick h.1, zM_isTick h]
  simp only [Option.bind_some, show cRg 0 2 0 = true from rfl, Bool.and_true]
  cases h1 : cRg 0 3 a with
  | false => exact ⟨_, rfl, rfl⟩
  | true =>
    cases h2 : zN b with
    | false => exact ⟨_, rfl, rfl⟩
    | true =>
      cases h4 : cTk X c with
      | false => exact ⟨_, rfl, rfl⟩
      | true =>
        obtain ⟨k, -, hk, rfl⟩ := zN_of h2
        obtain ⟨τ, hτ, rfl⟩ := cTk_of h4 h.tk9
        have hb : nZ X ≤ 10 := h.1.n3.2.1.2
        have hr := zX_rs h.1 a hk (nI τ)
        rw [hr.1, mRs h a hk hτ]
        simp only [Option.bind_some, Bool.and_self, if_true]
        cases h5 : xRs X a k (nI τ) with
        | none => exact ⟨_, rfl, rfl⟩
        | some z =>
          have hz := hr.2 z h5
          rw [if_neg (fun q => by cases (o2i_m1 (fun j hj => by cases hj; omega)).mp q)]
          exact ⟨_, rfl, rfl⟩
theorem xLk (h : WX X) (v : Int32) {k : Nat} (hk : zNm k = true) (ty : Int32) {τ : Nat} (hτ : τ ≤ tk X) : fX0_lookUp v (nI k) ty (nI τ) X = some (xLU X v k ty (nI τ)) := zX0_lookUp h v hk ty hτ
theorem mFi (h : Rl X S) (v : Int32) {k : Nat} (hk : zNm k = true) (ty : Int32) {τ : Nat} (hτ : τ ≤ tk X) : ∃ S', fX9_finds v (nI k) ty (nI τ) S = some (xLU X v k ty (nI τ), S') ∧ Scr S S' := by
  obtain ⟨S', e1, e2, _⟩ := zM_finds h v hk ty hτ
  exact ⟨S', e1, e2⟩
theorem o_viewAnswer (h : Rl X S) (a b c d : Int32) : Rd S (fX8_viewAnswer a b c d X) (fX9_viewAnswer a b c d S) := by
  unfold fX8_viewAnswer fX9_viewAnswer Rd
  rw [zX_isView, zM_isQuestion, zX_isQuestion, zX_isTick h.1, zM_isTick h]
  simp only [Option.bind_some]
  cases h1 : cRg 0 3 a with
  | false => exact ⟨_, _, rfl, rfl, Scr.rf⟩
  | true =>
    cases h2 : zN b with
    | false => exact ⟨_, _, rfl, rfl, Scr.rf⟩
    | true =>
      cases h3 : cRg 0 2 c with
      | false => exact ⟨_, _, rfl, rfl, Scr.rf⟩
      | true =>
        cases h4 : cTk X d with
        | false => exact ⟨_, _, rfl, rfl, Scr.rf⟩
        | true =>
          obtain ⟨k, -, hk, rfl⟩ := zN_of h2
          obtain ⟨τ, hτ, rfl⟩ := cTk_of h4 h.tk9
          obtain ⟨S', e1, e2⟩ := mFi h a hk c hτ
          rw [xLk h.1 a hk c hτ, e1]
          exact ⟨_, S', rfl, rfl, e2⟩
theorem o_answer (h : Rl X S) (a b c d : Int32) : Rd S (fX8_answer a b c d X) (fX9_answer a b c d S) := by
  unfold fX8_answer fX9_answer Rd fX8_answerFor
  rw [zX_isAddress, zM_isAddress, zM_isQuestion, zX_isQuestion, zX_isTick h.1, zM_isTick h]
  simp only [Option.bind_some, show cRg 0 3 0 = true from rfl, Bool.true_and]
  cases h1 : cRg 0 255 a with
  | false => exact ⟨_, _, rfl, rfl, Scr.rf⟩
  | true =>
    cases h2 : zN b with
    | false => exact ⟨_, _, rfl, rfl, Scr.rf⟩
    | true =>
      cases h3 : cRg 0 2 c with
      | false => exact ⟨_, _, rfl, rfl, Scr.rf⟩
      | true =>
        cases h4 : cTk X d with
        | false => exact ⟨_, _, rfl, rfl, Scr.rf⟩
        | true =>
          obtain ⟨k, -, hk, rfl⟩ := zN_of h2
          obtain ⟨τ, hτ, rfl⟩ := cTk_of h4 h.tk9
          obtain ⟨S', e1, e2⟩ := mFi h (xVA X a (nI τ)) hk c hτ
          rw [xVw h.1, mVw h a hτ]
          simp only [Option.bind_some]
          rw [xLk h.1 _ hk c hτ, e1]
          exact ⟨_, S', rfl, rfl, e2⟩
theorem o_source (h : Rl X S) (a b c d : Int32) : Rd S (fX8_source a b c d X) (fX9_source a b c d S) := by
  unfold fX8_source fX9_source Rd
  rw [zX_isView, zM_isQuestion, zX_isQuestion, zX_isTick h.1, zM_isTick h]
  simp only [Option.bind_some]
  cases h1 : cRg 0 3 a with
  | false => exact ⟨_, _, rfl, rfl, Scr.rf⟩
  | true =>
    cases h2 : zN b with
    | false => exact ⟨_, _, rfl, rfl, Scr.rf⟩
    | true =>
      cases h3 : cRg 0 2 c with
      | false => exact ⟨_, _, rfl, rfl, Scr.rf⟩
      | true =>
        cases h4 : cTk X d with
        | false => exact ⟨_, _, rfl, rfl, Scr.rf⟩
        | true =>
          obtain ⟨k, -, hk, rfl⟩ := zN_of h2
          obtain ⟨τ, hτ, rfl⟩ := cTk_of h4 h.tk9
          have hcb : nC X ≤ 70 := h.1.n3.2.2.1.2
          obtain ⟨S', e1, e2, e3⟩ := zM_finds h a hk c hτ
          rw [zX0_recordBehind h.1 a hk c hτ, e1]
          simp only [Option.bind_some, Bool.and_self, if_true]
          have ok := xRB_ok (X := X) a c (nI τ) 5 k
          cases h5 : xRB X a c (nI τ) 5 k with
          | inr e =>
            have hn := xLU_neg a k c (nI τ) h5
            show ∃ r S'', (if 0 ≤ e then _ else some (-4)) = some r ∧ (if 0 ≤ e then _ else some (-4, S')) = some (r, S'') ∧ Scr S S''
            rw [if_neg (z_nle.mpr hn), if_neg (z_nle.mpr hn)]
            exact ⟨_, S', rfl, rfl, e2⟩
          | inl e =>
            have he := ok.1 e h5
            have hv : 0 ≤ X 22 e := by
              rcases (h.1.2.2.2.1.2.2.1 e he).2.2.2.2.2.2.2.2 with q | q
              · exfalso
                -- a record that is found has a value
                have : ∀ r k', xRB X a c (nI τ) r k' = .inl e → ¬ X 22 e = -1 := by
                  intro r
                  induction r with
                  | zero => intro k' q; cases q
                  | succ r ih =>
                    intro k' q
                    rw [xRB_s] at q
                    cases hz : xRs X a k' (nI τ) with
                    | none => rw [hz] at q; cases q
                    | some z =>
                      rw [hz] at q
                      dsimp only at q
                      cases hs : xSt X z k' (nI τ) with
                      | none => rw [hs] at q; cases q
                      | some s =>
                        rw [hs] at q
                        dsimp only [rbT] at q
                        cases hf : xFd X (nI z) (nI s) c (nI τ) with
                        | some c' =>
                          rw [hf] at q
                          cases q
                          exact ((lst_fd h.tk9 h.1.2.2.2.1 (z := nI z) (n := nI s) (ty := c) hτ).2 e hf).2
                        | none =>
                          rw [hf] at q
                          dsimp only at q
                          cases hg : xFd X (nI z) (nI s) 1 (nI τ) with
                          | none => rw [hg] at q; cases q
                          | some c' => rw [hg] at q; exact ih _ q
                exact this 5 k h5 q
              · rw [z_le, zz0, isN_int q.1 (by omega)]; omega
            show ∃ r S'', (if 0 ≤ nI e then (if q_inb (nI e) 70 = true then some (X 20 (nI e).toNatClampNeg) else none) else some (-4)) = some r ∧ (if 0 ≤ X 22 e then some (S' 34 13, S') else some (-4, S')) = some (r, S'') ∧ Scr S S''
            rw [if_pos (nI_pos' (by omega)), if_pos (z_inb (by omega) (by omega)), nI_clamp (by omega), if_pos hv, e3 e h5]
            exact ⟨_, S', rfl, rfl, e2⟩
end
