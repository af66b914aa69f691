/-! tools for the decompiled functions -/
theorem z_lit (n : Nat) : (OfNat.ofNat n : Int32) = nI n := rfl
theorem z_inb {i n : Nat} (h : i < n) (hn : n < 2 ^ 31) : q_inb (nI i) n = true := by
  simp only [q_inb, nI_clamp (show i < 2 ^ 31 by omega), Bool.and_eq_true, Bool.not_eq_true', decide_eq_false_iff_not, decide_eq_true_eq]
  exact ⟨nI_pos (by omega), h⟩
theorem z_of {x : Int32} {n : Nat} (h0 : 0 ≤ x.toInt) (h1 : x.toInt < (n : Int)) (hn : n < 2 ^ 31) : ∃ j : Nat, j < n ∧ x = nI j := by
  refine ⟨x.toInt.toNat, by omega, ?_⟩
  apply Int32.toInt_inj.mp
  rw [nI_toInt (by omega)]
  omega
theorem z_m1 : (-1 : Int32).toInt = -1 := by decide
theorem z_lt (a b : Int32) : a < b ↔ a.toInt < b.toInt := Int32.lt_iff_toInt_lt
theorem z_le (a b : Int32) : a ≤ b ↔ a.toInt ≤ b.toInt := Int32.le_iff_toInt_le
theorem z_eq (a b : Int32) : a = b ↔ a.toInt = b.toInt := Int32.toInt_inj.symm
/-- names -/
def zW (n : Nat) : Nat := if n < 5 then 1 else if n < 25 then 5 else 25
def zNm (n : Nat) : Bool := decide (0 < n ∧ n < 125 ∧ n % 5 ≠ 0 ∧ (n / 5 % 5 ≠ 0 ∨ n / 25 = 0))
def zAt (n o : Nat) : Bool := if o < 5 then n % 5 == o else if o < 25 then n % 25 == o else n == o
def zBl (n o : Nat) : Bool := n != o && zAt n o
def zPat (n : Nat) : Bool := decide (4 * zW n ≤ n)
def zPF (n : Nat) : Nat := n % zW n + 4 * zW n
def zLab (n : Nat) : Nat := if n < 5 then 1 else if n < 25 then 2 else 3
def zS0 : qS := fun _ _ => 0
theorem z_all {P : Nat → Bool} {n : Nat} (h : (List.range n).all P = true) {k : Nat} (hk : k < n) : P k = true := List.all_eq_true.mp h k (List.mem_range.mpr hk)
theorem zX_name_t : (List.range 125).all (fun k => (fX2_isName (nI k) zS0 == some (zNm k)) && (fX9_isName (nI k) zS0 == some (zNm k)) && (fX2_isPattern (nI k) zS0 == some (zPat k)) && (fX9_isPattern (nI k) zS0 == some (zPat k)) && (fX2_lastWeight (nI k) zS0 == some (nI (zW k))) && (fX9_labels (nI k) zS0 == some (nI (zLab k))) && (fX2_patternFor (nI k) zS0 == some (nI (zPF k))) && (fX9_patternFor (nI k) zS0 == some (nI (zPF k)))) = true := by decide +kernel
def zNames : List Nat := (List.range 125).filter (fun k => zNm k)
theorem zX_at_t : zNames.all (fun k => zNames.all (fun j => (fX2_isAt (nI k) (nI j) zS0 == some (zAt k j)) && (fX9_isAt (nI k) (nI j) zS0 == some (zAt k j)) && (fX2_isBelow (nI k) (nI j) zS0 == some (zBl k j)) && (fX9_isBelow (nI k) (nI j) zS0 == some (zBl k j)))) = true := by decide +kernel
