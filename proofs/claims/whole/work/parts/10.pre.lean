/-! helpers of the decompiled functions -/
def q_inb (i : Int32) (n : Nat) : Bool := !decide (i < 0) && decide (i.toNatClampNeg < n)
theorem q_inb_of {i : Int32} {n : Nat} (h : q_inb i n = true) : vp_in i n := by
  simp only [q_inb, Bool.and_eq_true, Bool.not_eq_true', decide_eq_false_iff_not, decide_eq_true_eq] at h
  exact fun q => q.elim h.1 (fun z => by omega)
theorem q_ift {α : Type} {c : Prop} [Decidable c] {a b r : α} (hc : c) (h : (if c then a else b) = r) : a = r := by rw [if_pos hc] at h; exact h
theorem q_iff {α : Type} {c : Prop} [Decidable c] {a b r : α} (hc : ¬ c) (h : (if c then a else b) = r) : b = r := by rw [if_neg hc] at h; exact h
theorem q_ifb {α : Type} {c : Bool} {a b r : α} (hc : c = false) (h : (if c = true then a else b) = r) : b = r := by subst hc; exact h
theorem q_gd {α : Type} {i : Int32} {n : Nat} {a : Option α} {r : α} (h : (if q_inb i n = true then a else none) = some r) : vp_in i n ∧ a = some r := by
  by_cases hc : q_inb i n = true
  · rw [if_pos hc] at h; exact ⟨q_inb_of hc, h⟩
  · rw [if_neg hc] at h; cases h
theorem q_gz {α : Type} {y : Int32} {a : Option α} {r : α} (h : (if y = 0 then none else a) = some r) : ¬ y = 0 ∧ a = some r := by
  by_cases hc : y = 0
  · rw [if_pos hc] at h; cases h
  · rw [if_neg hc] at h; exact ⟨hc, h⟩
theorem q_bnd {α β : Type} {o : Option α} {g : α → Option β} {r : β} (h : o.bind g = some r) : ∃ q, o = some q ∧ g q = some r := by
  cases o with
  | none => cases h
  | some q => exact ⟨q, rfl, h⟩
theorem q_no {α : Type} {x : α} {P : Prop} (h : (none : Option α) = some x) : P := by cases h
theorem q_lfi {Q : Int32 → qS → Prop} {v r : Int32} {S : qS} (h : some v = some r) (k : Q r S) : q_Qi Q (some v) S := by cases h; exact k
theorem q_lfiw {Q : Int32 → qS → Prop} {v r : Int32} {S S' : qS} (h : some (v, S) = some (r, S')) (k : Q r S') : q_Qi Q (some v) S := by cases h; exact k
theorem q_lfb {Q : Int32 → qS → Prop} {v r : Bool} {S : qS} (h : some v = some r) (k : Q (q_b r) S) : q_Qi Q (some (q_b v)) S := by cases h; exact k
theorem q_lfbw {Q : Int32 → qS → Prop} {v r : Bool} {S S' : qS} (h : some (v, S) = some (r, S')) (k : Q (q_b r) S') : q_Qi Q (some (q_b v)) S := by cases h; exact k
theorem q_lfv {Q : qS → Prop} {S S' : qS} (h : some S = some S') (k : Q S') : q_Qv Q none S := by cases h; exact k
theorem q_ti {x y : Int32} {n : Int} (hc : ¬ x = y) (hy : y.toInt = n) : x.toInt ≠ n := fun e => hc (Int32.toInt_inj.mp (e.trans hy.symm))
def q_le : List (Option qV) → List (Option qV) → Prop
  | [], _ => True
  | none :: a, _ :: b => q_le a b
  | some v :: a, w :: b => w = some v ∧ q_le a b
  | _ :: _, [] => False
theorem q_le_get : ∀ {a b : List (Option qV)}, q_le a b → ∀ (i : Nat) (v : qV), a[i]? = some (some v) → b[i]? = some (some v) := by
  intro a
  induction a with
  | nil => intro b _ i v h; simp at h
  | cons x a ih =>
    intro b hb i v h
    cases b with
    | nil => cases x <;> exact hb.elim
    | cons y b =>
      cases x with
      | none =>
        cases i with
        | zero => simp at h
        | succ i => simpa using ih (b := b) hb i v (by simpa using h)
      | some w =>
        obtain ⟨h1, h2⟩ : y = some w ∧ q_le a b := hb
        cases i with
        | zero =>
          have : w = v := by simpa using h
          subst this
          simp [h1]
        | succ i => simpa using ih (b := b) h2 i v (by simpa using h)
theorem q_sub {l : Launch} {cc : ByteArray} {nL : Nat} {ret : Option FieldType} {own : String} {d : Nat} {S : qS} {pc : Nat} {ls ls' : List (Option qV)} {st : List qV} {Q : Option Int32 → qS → Prop} (k : q_E l cc nL ret own d S pc ls' st Q) (h : q_le ls' ls) : q_E l cc nL ret own d S pc ls st Q := by
  intro p e R s m args below meth c D cA ad A0 H locs lsa C hP hD hS hl
  exact k p e R s m args below meth c D cA ad A0 H locs lsa C hP hD hS ⟨hl.1, hl.2.1, fun i v hi => hl.2.2 i v (q_le_get h i v hi)⟩
