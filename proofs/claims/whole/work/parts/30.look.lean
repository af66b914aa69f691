/-! the class and the reference together -/
def Rl (X S : qS) : Prop := WX X ∧ RM X S
def Scr (S S' : qS) : Prop := (∀ k, k ≠ 34 → k ≠ 40 → S' k = S k) ∧ ∀ j, j ≠ 13 → j ≠ 14 → j ≠ 16 → S' 34 j = S 34 j
theorem Scr.rf {S : qS} : Scr S S := ⟨fun _ _ _ => rfl, fun _ _ _ _ => rfl⟩
theorem Scr.tr {A B C : qS} (h : Scr A B) (k : Scr B C) : Scr A C := ⟨fun i a b => (k.1 i a b).trans (h.1 i a b), fun j a b c => (k.2 j a b c).trans (h.2 j a b c)⟩
theorem Scr.up {S : qS} (j : Nat) (v : Int32) (h : j = 13 ∨ j = 14 ∨ j = 16) : Scr S (q_up S 34 j v) := by
  refine ⟨fun k h1 _ => q_up_n S 34 j v h1, fun i a b c => ?_⟩
  rw [q_up_s]
  unfold upd
  rw [if_neg]
  omega
theorem Scr.up40 {S : qS} (j : Nat) (v : Int32) : Scr S (q_up S 40 j v) := by
  refine ⟨fun k _ h2 => q_up_n S 40 j v h2, fun i a b c => ?_⟩
  rw [q_up_n S 40 j v (by omega)]
theorem RM.scr {X S S' : qS} (h : RM X S) (k : Scr S S') : RM X S' := by
  obtain ⟨⟨a0, a1, a2, a3, a4, a5, a6, a7⟩, b1, b2, b3, b4, b5⟩ := h
  refine ⟨⟨?_, ?_, ?_, ?_, ?_, ?_, ?_, ?_⟩, ?_, ?_, ?_, ?_, ?_⟩
  · rw [k.2 0 (by decide) (by decide) (by decide)]; exact a0
  · rw [k.2 2 (by decide) (by decide) (by decide)]; exact a1
  · rw [k.2 4 (by decide) (by decide) (by decide)]; exact a2
  · rw [k.2 6 (by decide) (by decide) (by decide)]; exact a3
  · rw [k.2 8 (by decide) (by decide) (by decide)]; exact a4
  · rw [k.2 9 (by decide) (by decide) (by decide)]; exact a5
  · rw [k.2 10 (by decide) (by decide) (by decide)]; exact a6
  · rw [k.2 12 (by decide) (by decide) (by decide)]; exact a7
  · rw [k.1 35 (by decide) (by decide)]; exact b1
  · rw [k.1 36 (by decide) (by decide)]; exact b2
  · rw [k.1 37 (by decide) (by decide)]; exact b3
  · rw [k.1 38 (by decide) (by decide)]; exact b4
  · rw [k.1 39 (by decide) (by decide)]; exact b5
theorem Rl.scr {X S S' : qS} (h : Rl X S) (k : Scr S S') : Rl X S' := ⟨h.1, h.2.scr k⟩
def tk (X : qS) : Nat := nr (X 0) 6
def nN (X : qS) : Nat := nr (X 2) 3
def nZ (X : qS) : Nat := nr (X 10) 3
def nC (X : qS) : Nat := nr (X 16) 3
def nK (X : qS) : Nat := nr (X 23) 5
def nT (X : qS) : Nat := nr (X 29) 1
def xRs (X : qS) (v : Int32) (k : Nat) (t : Int32) : Option Nat := cRs (nZ X) (X 11) (X 12) (X 13) (X 14) v k t
def xEx (X : qS) (z : Int32) (k : Nat) (t : Int32) : Bool := cEx (nC X) (X 17) (X 18) (X 19) (X 20) z k t
def xFd (X : qS) (z n ty t : Int32) : Option Nat := cFd (nC X) (X 17) (X 18) (X 19) (X 20) (X 21) z n ty t
def xSt (X : qS) (z k : Nat) (t : Int32) : Option Nat := if xEx X (nI z) k t = true then some k else if zPat k = true then none else if zBl (zPF k) (nr (X 14) z) = true then (if xEx X (nI z) (zPF k) t = true then some (zPF k) else none) else none
def xRB (X : qS) (v ty t : Int32) : Nat → Nat → Nat ⊕ Int32
  | 0, _ => .inr (-14)
  | r + 1, k => match xRs X v k t with
    | none => .inr (-11)
    | some z => match xSt X z k t with
      | none => .inr (-12)
      | some s => match xFd X (nI z) (nI s) ty t with
        | some c => .inl c
        | none => match xFd X (nI z) (nI s) 1 t with
          | none => .inr (-13)
          | some c => xRB X v ty t r (nr (X 22) c)
def rbI (o : Nat ⊕ Int32) : Int32 := match o with
  | .inl c => nI c
  | .inr e => e
def rbV (X : qS) (o : Nat ⊕ Int32) : Int32 := match o with
  | .inl c => X 22 c
  | .inr e => e
def xLU (X : qS) (v : Int32) (k : Nat) (ty t : Int32) : Int32 := rbV X (xRB X v ty t 5 k)
theorem zPF_nm_t : (List.range 125).all (fun k => !zNm k || zPat k || zNm (zPF k)) = true := by decide +kernel
theorem zPF_nm {k : Nat} (h : zNm k = true) (h2 : ¬ zPat k = true) : zNm (zPF k) = true := by
  have hk : k < 125 := by simp only [zNm, decide_eq_true_eq] at h; omega
  have := z_all zPF_nm_t hk
  simpa [h, h2] using this
theorem zNm_lt {k : Nat} (h : zNm k = true) : k < 125 ∧ 0 < k := by simp only [zNm, decide_eq_true_eq] at h; omega
theorem o2i_m1 {o : Option Nat} (h : ∀ j, o = some j → j < 2 ^ 31) : o2i o = -1 ↔ o = none := by
  cases o with
  | none => exact ⟨fun _ => rfl, fun _ => rfl⟩
  | some j =>
    refine ⟨fun e => ?_, fun e => by cases e⟩
    have := (z_eq _ _).mp e
    rw [show o2i (some j) = nI j from rfl, nI_toInt (h j rfl), z_m1] at this
    omega
section
variable {X : qS}
theorem WX.rec (h : WX X) : ∀ i, i < nC X → isN (X 20) i 124 ∧ zNm (nr (X 20) i) = true := fun i hi => by
  have := h.2.2.2.1.2.2.1 i hi
  exact ⟨this.2.2.2.2.2.1, this.2.2.2.2.2.2.1⟩
theorem WX.zon (h : WX X) : ∀ i, i < nZ X → isN (X 14) i 124 ∧ zNm (nr (X 14) i) = true := fun i hi => by
  have := h.2.2.1.2.2.1 i hi
  exact ⟨this.2.2.1, this.2.2.2⟩
theorem WX.n3 (h : WX X) : isN (X 2) 3 10 ∧ isN (X 10) 3 10 ∧ isN (X 16) 3 70 ∧ isN (X 23) 5 6 ∧ isN (X 29) 1 60 ∧ isN (X 0) 6 9999 := ⟨h.2.1.2.1, h.2.2.1.2.1, h.2.2.2.1.2.1, h.2.2.2.2.1.1, h.2.2.2.2.2, h.1⟩
theorem xSt_nm {z k : Nat} (hk : zNm k = true) {t : Int32} {s : Nat} (h : xSt X z k t = some s) : zNm s = true := by
  unfold xSt at h
  split at h
  · cases h; exact hk
  · split at h
    · cases h
    · rename_i hp
      split at h
      · split at h
        · cases h; exact zPF_nm hk hp
        · cases h
      · cases h
theorem xFd_some {z n ty t : Int32} {c : Nat} (h : xFd X z n ty t = some c) : c < nC X ∧ X 19 c = z ∧ X 20 c = n ∧ X 21 c = ty := by
  obtain ⟨h1, h2, _⟩ := (fst1_some _ _).mp h
  simp only [Bool.and_eq_true] at h2
  exact ⟨h1, cKey_iff.mp h2.1⟩
theorem zX_rs (hW : WX X) (v : Int32) {k : Nat} (hk : zNm k = true) (t : Int32) : fX7_responsible v (nI k) t X = some (o2i (xRs X v k t)) ∧ ∀ j, xRs X v k t = some j → j < nZ X := zX7_responsible hW.n3.2.1 hW.zon v hk t
theorem zX_fd (hW : WX X) (z n ty t : Int32) : fX4_find z n ty t X = some (o2i (xFd X z n ty t)) := zX4_find hW.n3.2.2.1 z n ty t
theorem zX_ex (hW : WX X) (z : Int32) {k : Nat} (hk : zNm k = true) (t : Int32) : fX4_exists z (nI k) t X = some (xEx X z k t) := zX4_exists hW.n3.2.2.1 hW.rec z hk t
theorem zX0_standingFor (hW : WX X) {z k : Nat} (hz : z < nZ X) (hk : zNm k = true) (t : Int32) : fX0_standingFor (nI z) (nI k) t X = some (o2i (xSt X z k t)) := by
  obtain ⟨-, n10, n16, -⟩ := hW.n3
  have hb : nZ X ≤ 10 := n10.2
  have hk' := zNm_lt hk
  unfold fX0_standingFor
  rw [zX_ex hW (nI z) hk t, Option.bind_some, (zN_tab hk'.1 X).2.2.1, Option.bind_some, (zN_tab hk'.1 X).2.2.2.2.2.2.1, Option.bind_some]
  unfold xSt
  by_cases q1 : xEx X (nI z) k t = true
  · rw [if_pos q1, if_pos q1]; rfl
  · rw [if_neg q1, if_neg q1]
    by_cases q2 : zPat k = true
    · rw [if_pos q2, if_pos q2]; rfl
    · rw [if_neg q2, if_neg q2, if_pos (z_inb (by omega) (by omega)), nI_clamp (by omega)]
      have hp := zPF_nm hk q2
      have hz' := hW.zon z hz
      have eBl : fX2_isBelow (nI (zPF k)) (X 14 z) X = some (zBl (zPF k) (nr (X 14) z)) := by
        have := (zN_tab2 hp hz'.2 X).2.2.1
        rw [← hz'.1.1] at this
        exact this
      rw [eBl, Option.bind_some, zX_ex hW (nI z) hp t, Option.bind_some]
      by_cases q3 : zBl (zPF k) (nr (X 14) z) = true
      · rw [if_pos q3, if_pos q3]
        by_cases q4 : xEx X (nI z) (zPF k) t = true
        · rw [if_pos q4, if_pos q4]; rfl
        · rw [if_neg q4, if_neg q4]; rfl
      · rw [if_neg q3, if_neg q3]; rfl
theorem xAl (hW : WX X) {z n t : Int32} {τ : Nat} (hτ : τ ≤ tk X) (ht : t = nI τ) {c : Nat} (h : xFd X z n 1 t = some c) : X 22 c = nI (nr (X 22) c) ∧ zNm (nr (X 22) c) = true := by
  subst ht
  obtain ⟨h1, h2, h3, h4⟩ := xFd_some h
  have hT : tk X ≤ 9999 := hW.n3.2.2.2.2.2.2
  have hv := ((lst_fd hT hW.2.2.2.1 (z := z) (n := n) (ty := 1) hτ).2 c h).2
  have := (hW.2.2.2.1.2.2.1 c h1).2.2.2.2.2.2.2.2
  rcases this with q | q
  · exact absurd q hv
  · exact ⟨q.1.1, q.2 (nr_mk (k := 1) h4 (by omega))⟩
theorem xRB_ok (v ty t : Int32) : ∀ r k, (∀ c, xRB X v ty t r k = .inl c → c < nC X) ∧ ∀ e, xRB X v ty t r k = .inr e → e = -11 ∨ e = -12 ∨ e = -13 ∨ e = -14 := by
  intro r
  induction r with
  | zero => intro k; exact ⟨fun c h => (by cases h), fun e h => (by cases h; simp)⟩
  | succ r ih =>
    intro k
    unfold xRB
    cases xRs X v k t with
    | none => exact ⟨fun c h => (by cases h), fun e h => (by cases h; simp)⟩
    | some z =>
      dsimp only
      cases xSt X z k t with
      | none => exact ⟨fun c h => (by cases h), fun e h => (by cases h; simp)⟩
      | some s =>
        dsimp only
        cases hc : xFd X (nI z) (nI s) ty t with
        | some c => exact ⟨fun c' h => (by cases h; exact (xFd_some hc).1), fun e h => (by cases h)⟩
        | none =>
          dsimp only
          cases xFd X (nI z) (nI s) 1 t with
          | none => exact ⟨fun c h => (by cases h), fun e h => (by cases h; simp)⟩
          | some c => exact ih _
theorem zX0_recordBehind (hW : WX X) (v : Int32) {k : Nat} (hk : zNm k = true) (ty : Int32) {τ : Nat} (hτ : τ ≤ tk X) : fX0_recordBehind v (nI k) ty (nI τ) X = some (rbI (xRB X v ty (nI τ) 5 k)) := by
  obtain ⟨-, n10, n16, -⟩ := hW.n3
  have hb : nZ X ≤ 10 := n10.2
  have hc : nC X ≤ 70 := n16.2
  unfold fX0_recordBehind
  have key : ∀ r a k' f, a + r = 5 → r < f → zNm k' = true → fX0_recordBehind_6 v (nI k) ty (nI τ) f (nI k') (nI a) X = some (rbI (xRB X v ty (nI τ) r k')) := by
    intro r
    induction r with
    | zero =>
      intro a k' f ha hf hk'
      obtain ⟨f, rfl⟩ : ∃ g, f = g + 1 := ⟨f - 1, by omega⟩
      have : a = 5 := by omega
      subst this
      rw [fX0_recordBehind_6, if_pos (by decide)]; rfl
    | succ r ih =>
      intro a k' f ha hf hk'
      obtain ⟨f, rfl⟩ : ∃ g, f = g + 1 := ⟨f - 1, by omega⟩
      have hr := zX_rs hW v hk' (nI τ)
      rw [fX0_recordBehind_6, if_neg (show ¬ (4 : Int32) < nI a from nI_nlt (a := 4) (by omega) (by omega)), hr.1, Option.bind_some]
      unfold xRB
      cases hz : xRs X v k' (nI τ) with
      | none => rw [if_pos (show o2i none = -1 from rfl)]; rfl
      | some z =>
        have hz2 := hr.2 z hz
        rw [if_neg (fun e => by cases (o2i_m1 (fun j hj => by cases hj; omega)).mp e)]
        rw [show o2i (some z) = nI z from rfl, zX0_standingFor hW hz2 hk', Option.bind_some]
        dsimp only
        cases hs : xSt X z k' (nI τ) with
        | none => rw [if_pos (show o2i none = -1 from rfl)]; rfl
        | some s =>
          have hs2 := zNm_lt (xSt_nm hk' hs)
          rw [if_neg (fun e => by cases (o2i_m1 (fun j hj => by cases hj; omega)).mp e)]
          rw [show o2i (some s) = nI s from rfl, zX_fd hW, Option.bind_some, zX_fd hW, Option.bind_some]
          dsimp only
          cases h1 : xFd X (nI z) (nI s) ty (nI τ) with
          | some c =>
            have := (xFd_some h1).1
            rw [if_neg (fun e => by cases (o2i_m1 (fun j hj => by cases hj; omega)).mp e)]; rfl
          | none =>
            rw [if_pos (show o2i none = -1 from rfl)]
            cases h2 : xFd X (nI z) (nI s) 1 (nI τ) with
            | none => rw [if_pos (show o2i none = -1 from rfl)]; rfl
            | some c =>
              have := (xFd_some h2).1
              have al := xAl hW hτ rfl h2
              rw [if_neg (fun e => by cases (o2i_m1 (fun j hj => by cases hj; omega)).mp e)]
              show (if q_inb (nI c) 70 = true then fX0_recordBehind_6 v (nI k) ty (nI τ) f (X 22 (nI c).toNatClampNeg) (nI a + 1) X else none) = _
              rw [if_pos (z_inb (by omega) (by omega)), nI_clamp (by omega), nI_1, al.1, ih (a + 1) _ f (by omega) (by omega) al.2]
  exact key 5 0 k 20000 rfl (by omega) hk
theorem xLU_neg (v : Int32) (k : Nat) (ty t : Int32) {e : Int32} (h : xRB X v ty t 5 k = .inr e) : e < 0 := by
  rcases (xRB_ok v ty t 5 k).2 e h with q | q | q | q <;> subst q <;> decide
theorem zX0_lookUp (hW : WX X) (v : Int32) {k : Nat} (hk : zNm k = true) (ty : Int32) {τ : Nat} (hτ : τ ≤ tk X) : fX0_lookUp v (nI k) ty (nI τ) X = some (xLU X v k ty (nI τ)) := by
  have hc : nC X ≤ 70 := hW.n3.2.2.1.2
  unfold fX0_lookUp
  rw [zX0_recordBehind hW v hk ty hτ, Option.bind_some]
  unfold xLU
  have ok := xRB_ok (X := X) v ty (nI τ) 5 k
  cases h : xRB X v ty (nI τ) 5 k with
  | inl c =>
    have := ok.1 c h
    show (if 0 ≤ nI c then _ else _) = _
    rw [if_pos (nI_pos' (by omega))]
    show (if q_inb (nI c) 70 = true then some (X 22 (nI c).toNatClampNeg) else none) = _
    rw [if_pos (z_inb (by omega) (by omega)), nI_clamp (by omega)]; rfl
  | inr e =>
    show (if 0 ≤ e then _ else _) = _
    rw [if_neg (z_nle.mpr (xLU_neg v k ty (nI τ) h))]; rfl
end
