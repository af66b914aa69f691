def sm (g : Nat → Nat) : Nat → Nat
  | 0 => 0
  | n + 1 => sm g n + g n
def bn (b : Bool) : Nat := match b with
  | true => 1
  | false => 0
theorem sm_congr {g h : Nat → Nat} : ∀ n, (∀ i, i < n → g i = h i) → sm g n = sm h n := by
  intro n
  induction n with
  | zero => intro _; rfl
  | succ n ih => intro e; unfold sm; rw [ih (fun i hi => e i (by omega)), e n (by omega)]
theorem sm_add (g h : Nat → Nat) : ∀ n, sm (fun i => g i + h i) n = sm g n + sm h n := by
  intro n
  induction n with
  | zero => rfl
  | succ n ih => unfold sm; rw [ih]; omega
theorem sm_zero : ∀ n, sm (fun _ => 0) n = 0 := by
  intro n
  induction n with
  | zero => rfl
  | succ n ih => unfold sm; rw [ih]
theorem sm_ind (m v : Nat) : ∀ n, sm (fun i => if i = m then v else 0) n = if m < n then v else 0 := by
  intro n
  induction n with
  | zero => rfl
  | succ n ih =>
    unfold sm
    rw [ih]
    by_cases h : n = m
    · subst h
      rw [if_neg (by omega), if_pos rfl, if_pos (by omega)]; omega
    · rw [if_neg h]
      by_cases h2 : m < n
      · rw [if_pos h2, if_pos (by omega)]; rfl
      · rw [if_neg h2, if_neg (by omega)]
theorem cnt_sm (P : Nat → Bool) : ∀ n, cnt P n = sm (fun i => bn (P i)) n := by
  intro n
  induction n with
  | zero => rfl
  | succ n ih =>
    unfold cnt sm
    rw [ih]
    cases P n <;> rfl
theorem one_cnt {P : Nat → Bool} : ∀ n, (∀ i j, i < j → j < n → P i = true → P j = false) → bn (fst1 P n).isSome = cnt P n := by
  intro n
  induction n with
  | zero => intro _; rfl
  | succ n ih =>
    intro h
    have ih := ih (fun i j h1 h2 => h i j h1 (by omega))
    unfold fst1 cnt
    cases hc : fst1 P n with
    | none =>
      rw [hc] at ih
      by_cases hp : P n = true
      · simp only [hp, if_true]
        rw [← ih]; rfl
      · simp only [hp]
        exact ih
    | some i =>
      rw [hc] at ih
      obtain ⟨a, b, _⟩ := (fst1_some n i).mp hc
      have := h i n a (by omega) b
      simp only [this]
      exact ih
theorem sm_swap (g : Nat → Nat → Nat) (n : Nat) : ∀ m, sm (fun a => sm (fun b => g a b) n) m = sm (fun b => sm (fun a => g a b) m) n := by
  intro m
  induction m with
  | zero => show 0 = sm (fun _ => 0) n; rw [sm_zero]
  | succ m ih =>
    show sm (fun a => sm (fun b => g a b) n) m + sm (fun b => g m b) n = sm (fun b => sm (fun a => g a b) m + g m b) n
    rw [ih, sm_add]
/-- the reference's number of records is the class's -/
theorem recs_eq {T nZ : Nat} {r16 r17 r18 r19 r20 r21 r22 : Nat → Int32} (hT : T ≤ 9999) (hW : Wc T nZ r16 r17 r18 r19 r20 r21 r22) (z : Int32) {τ : Nat} (ht : τ ≤ T) : sm (fun b => sm (fun ty => bn (cFd (nr r16 3) r17 r18 r19 r20 r21 z (nI (b + 1)) (nI ty) (nI τ)).isSome) 3) 124 = cCI (nr r16 3) r17 r18 r19 z (nI τ) := by
  obtain ⟨w1, w2, w3, w4, w5, w6, w7⟩ := hW
  have et : (nI τ).toInt = (τ : Int) := nI_toInt (by omega)
  have one : ∀ b ty, bn (cFd (nr r16 3) r17 r18 r19 r20 r21 z (nI (b + 1)) (nI ty) (nI τ)).isSome = sm (fun i => bn (cKey r19 r20 r21 z (nI (b + 1)) (nI ty) i && cTh (r17 i) (r18 i) (nI τ))) (nr r16 3) := by
    intro b ty
    rw [← cnt_sm]
    refine one_cnt _ (fun i j hij hj hp => ?_)
    simp only [Bool.and_eq_true, cTh_t] at hp
    obtain ⟨ki, t1, t2⟩ := hp
    by_cases kj : cKey r19 r20 r21 z (nI (b + 1)) (nI ty) j = true
    · rw [cKey_iff] at ki
      have kj' := cKey_iff.mp kj
      have := w5 i j hij hj ⟨ki.1.trans kj'.1.symm, ki.2.1.trans kj'.2.1.symm, ki.2.2.trans kj'.2.2.symm⟩
      rw [z_lt, isN_int (w3 i (by omega)).2.1 (by omega), et] at t2
      have : ¬ r17 j ≤ nI τ := by
        rw [z_le, isN_int (w3 j hj).1 (by omega), et]; omega
      simp [cTh, this]
    · simp [kj]
  rw [sm_congr 124 (fun b _ => (sm_congr 3 (fun ty _ => one b ty)).trans (sm_swap _ _ 3)), sm_swap]
  unfold cCI
  rw [cnt_sm]
  refine sm_congr _ (fun i hi => ?_)
  obtain ⟨_, _, _, _, _, n1, n2, y1, _⟩ := w3 i hi
  have b1 := n1.2
  have b2 := y1.2
  have b3 : 0 < nr r20 i := by
    unfold zNm at n2
    simp only [decide_eq_true_eq] at n2
    exact n2.1
  have inner : ∀ b, b < 124 → sm (fun ty => bn (cKey r19 r20 r21 z (nI (b + 1)) (nI ty) i && cTh (r17 i) (r18 i) (nI τ))) 3 = if b = nr r20 i - 1 then bn (decide (r19 i = z) && cTh (r17 i) (r18 i) (nI τ)) else 0 := by
    intro b hb
    have e1 : ∀ ty, ty < 3 → bn (cKey r19 r20 r21 z (nI (b + 1)) (nI ty) i && cTh (r17 i) (r18 i) (nI τ)) = if ty = nr r21 i then (if b = nr r20 i - 1 then bn (decide (r19 i = z) && cTh (r17 i) (r18 i) (nI τ)) else 0) else 0 := by
      intro ty hty
      have c1 : r20 i = nI (b + 1) ↔ b = nr r20 i - 1 := by
        rw [n1.1, nI_eq (by omega) (by omega)]; omega
      have c2 : r21 i = nI ty ↔ ty = nr r21 i := by
        rw [y1.1, nI_eq (by omega) (by omega)]; omega
      unfold cKey
      by_cases q2 : ty = nr r21 i
      · rw [if_pos q2, decide_eq_true (c2.mpr q2), Bool.and_true]
        by_cases q1 : b = nr r20 i - 1
        · rw [if_pos q1, decide_eq_true (c1.mpr q1), Bool.and_true]
        · rw [if_neg q1, decide_eq_false (fun h => q1 (c1.mp h)), Bool.and_false, Bool.false_and]; rfl
      · rw [if_neg q2, decide_eq_false (fun h => q2 (c2.mp h)), Bool.and_false, Bool.false_and]; rfl
    rw [sm_congr 3 e1, sm_ind, if_pos (by omega)]
  rw [sm_congr 124 inner, sm_ind, if_pos (by omega)]
theorem zM_records {S : qS} {T nZ : Nat} {r16 r17 r18 r19 r20 r21 r22 : Nat → Int32} (hR : MR T nZ r16 r17 r18 r19 r20 r21 r22 S) (h0 : S 34 0 = nI T) (z : Int32) : fX9_records z S = some (nI (cCI (nr r16 3) r17 r18 r19 z (nI T))) := by
  obtain ⟨hT, h34, hW, hM⟩ := hR
  rw [← recs_eq hT hW z (Nat.le_refl T)]
  unfold fX9_records
  -- one inner step
  have stp : ∀ f c b ty, ty < 3 → fX9_records_L z (f + 1) false (nI c) (nI (b + 1)) (nI ty) S = fX9_records_L z f false (nI (c + bn (cFd (nr r16 3) r17 r18 r19 r20 r21 z (nI (b + 1)) (nI ty) (nI T)).isSome)) (nI (b + 1)) (nI (ty + 1)) S := by
    intro f c b ty hty
    rw [fX9_records_L, if_neg (show ¬ (3 : Int32) ≤ nI ty from nI_ge (b := 3) hty (by omega)), h0, zM_valueAt hT h34 hW hM z (nI (b + 1)) (nI ty) (Nat.le_refl T), Option.bind_some]
    have g := oV_lt hT hW z (nI (b + 1)) (nI ty) (Nat.le_refl T)
    cases hc : cFd (nr r16 3) r17 r18 r19 r20 r21 z (nI (b + 1)) (nI ty) (nI T) with
    | none =>
      rw [hc] at g
      rw [if_pos (g.mpr rfl), z_p0, nI_1]; rfl
    | some e =>
      rw [hc] at g
      rw [if_neg (fun q => by cases g.mp q), nI_1, nI_1]; rfl
  have outer : ∀ f c b, b < 124 → ∀ v4, fX9_records_L z (f + 5) true (nI c) (nI (b + 1)) v4 S = fX9_records_L z f true (nI (c + sm (fun ty => bn (cFd (nr r16 3) r17 r18 r19 r20 r21 z (nI (b + 1)) (nI ty) (nI T)).isSome) 3)) (nI (b + 1 + 1)) 3 S := by
    intro f c b hb v4
    rw [show f + 5 = f + 4 + 1 from rfl, fX9_records_L, if_neg (show ¬ (124 : Int32) < nI (b + 1) from nI_nlt (a := 124) (by omega) (by omega))]
    rw [show (0 : Int32) = nI 0 from rfl, show f + 4 = f + 3 + 1 from rfl, stp _ _ _ _ (by omega), show f + 3 = f + 2 + 1 from rfl, stp _ _ _ _ (by omega), show f + 2 = f + 1 + 1 from rfl, stp _ _ _ _ (by omega)]
    rw [fX9_records_L, if_pos (show (3 : Int32) ≤ nI (0 + 1 + 1 + 1) by decide), nI_1]
    show fX9_records_L z f true (nI _) (nI (b + 1 + 1)) 3 S = fX9_records_L z f true (nI (c + (0 + _ + _ + _))) (nI (b + 1 + 1)) 3 S
    congr 2
    show _ = c + (0 + bn (cFd (nr r16 3) r17 r18 r19 r20 r21 z (nI (b + 1)) (nI 0) (nI T)).isSome + bn (cFd (nr r16 3) r17 r18 r19 r20 r21 z (nI (b + 1)) (nI (0 + 1)) (nI T)).isSome + bn (cFd (nr r16 3) r17 r18 r19 r20 r21 z (nI (b + 1)) (nI (0 + 1 + 1)) (nI T)).isSome)
    omega
  have key : ∀ r b f, b + r = 124 → 5 * r < f → ∀ v4, fX9_records_L z f true (nI (sm (fun b => sm (fun ty => bn (cFd (nr r16 3) r17 r18 r19 r20 r21 z (nI (b + 1)) (nI ty) (nI T)).isSome) 3) b)) (nI (b + 1)) v4 S = some (nI (sm (fun b => sm (fun ty => bn (cFd (nr r16 3) r17 r18 r19 r20 r21 z (nI (b + 1)) (nI ty) (nI T)).isSome) 3) 124)) := by
    intro r
    induction r with
    | zero =>
      intro b f hb hf v4
      obtain ⟨f, rfl⟩ : ∃ g, f = g + 1 := ⟨f - 1, by omega⟩
      have : b = 124 := by omega
      subst this
      rw [fX9_records_L, if_pos (show (124 : Int32) < nI (124 + 1) from nI_lt (a := 124) (by omega) (by omega))]
    | succ r ih =>
      intro b f hb hf v4
      obtain ⟨f, rfl⟩ : ∃ g, f = g + 5 := ⟨f - 5, by omega⟩
      rw [outer f _ b (by omega) v4]
      exact ih (b + 1) f (by omega) (by omega) 3
  exact key 124 0 20000 rfl (by omega) 0
