def fX5_countThere_2_4 (p1 : Int32) : Nat → Int32 → Int32 → qS → Option Int32
  | 0, _, _, _ => none
  | n + 1, v2, v3, S => if (S 2 3) ≤ v3 then some v2 else (fX5_isThere_2 v3 p1 S).bind (fun r15 => if r15 = true then fX5_countThere_2_4 p1 n (v2 + 1) (v3 + 1) S else fX5_countThere_2_4 p1 n v2 (v3 + 1) S)
set_option maxHeartbeats 4000000 in
set_option maxRecDepth 100000 in
theorem sX5_countThere_2_4 {l : Launch} {d : Nat} (hd : 1 ≤ d) {S : qS} {p1 : Int32} {r : Int32} {Q : Int32 → qS → Prop} (k : Q r S) : ∀ (n : Nat) (v2 : Int32) (v3 : Int32), fX5_countThere_2_4 p1 n v2 v3 S = some r → q_E l cX5_countThere 4 (some .int) RX5 d S 4 [some (.inr 2), some (.inl p1), some (.inl v2), some (.inl v3)] [] (q_Qi Q) := by
  intro n
  induction n with
  | zero => intro v2 v3 h; exact q_no h
  | succ n ih =>
    intro v2 v3 h
    rw [fX5_countThere_2_4] at h
    refine q_iload_n dX5_countThere_4 rfl ?_
    refine q_aload_n dX5_countThere_5 rfl ?_
    refine q_geti dX5_countThere_6 fl_X5_28 rfl rfl ?_
    refine q_icmp_ge 30 dX5_countThere_9 (by decide) (fun c9 => ?_) (fun c9 => ?_)
    · replace h := q_ift c9 h
      refine q_iload_n dX5_countThere_30 rfl ?_
      exact q_ret dX5_countThere_31 rfl rfl (q_lfi h k)
    · replace h := q_iff c9 h
      refine q_aload_n dX5_countThere_12 rfl ?_
      refine q_iload_n dX5_countThere_13 rfl ?_
      refine q_iload_n dX5_countThere_14 rfl ?_
      obtain ⟨r15, h15, h⟩ := q_bnd h
      refine q_callVi2 dX5_countThere_15 cl_X5_31 rfl (Nat.le_of_ble_eq_true rfl) (by omega) (sX5_isThere_2 (by omega) h15 ?_)
      refine q_if_eq_b 24 dX5_countThere_18 (by decide) (fun c18 => ?_) (fun c18 => ?_)
      · replace h := q_ifb c18 h
        refine q_iinc (v := (v3 + 1)) dX5_countThere_24 rfl rfl (by decide) ?_
        refine q_goto 4 dX5_countThere_27 (by decide) ?_
        exact q_sub (ih _ _ h) (And.intro rfl (And.intro rfl (And.intro rfl (And.intro rfl trivial))))
      · replace h := q_ift c18 h
        refine q_iinc (v := (v2 + 1)) dX5_countThere_21 rfl rfl (by decide) ?_
        refine q_iinc (v := (v3 + 1)) dX5_countThere_24 rfl rfl (by decide) ?_
        refine q_goto 4 dX5_countThere_27 (by decide) ?_
        exact q_sub (ih _ _ h) (And.intro rfl (And.intro rfl (And.intro rfl (And.intro rfl trivial))))
def fX5_countThere_2 (a1 : Int32) (S : qS) : Option Int32 := fX5_countThere_2_4 a1 20000 0 0 S
set_option maxHeartbeats 4000000 in
set_option maxRecDepth 100000 in
theorem sX5_countThere_2 {l : Launch} {d : Nat} (hd : 1 ≤ d) {S : qS} {a1 : Int32} {r : Int32} (h : fX5_countThere_2 a1 S = some r) {Q : Int32 → qS → Prop} (k : Q r S) : q_Mi l d yX5_countThere cX5_countThere 4 (some .int) [.inr 2, .inl a1] S Q := by
  refine q_Mi_of (own := RX5) rfl rfl [some (.inr 2), some (.inl a1), none, none] rfl (Nat.le_of_ble_eq_true rfl) ?_
  unfold fX5_countThere_2 at h
  refine q_iconst (v := 0) dX5_countThere_0 (by decide) ?_
  refine q_istore_n dX5_countThere_1 (by decide) ?_
  refine q_iconst (v := 0) dX5_countThere_2 (by decide) ?_
  refine q_istore_n dX5_countThere_3 (by decide) ?_
  exact q_sub (sX5_countThere_2_4 hd k 20000 _ _ h) (And.intro rfl (And.intro rfl (And.intro rfl (And.intro rfl trivial))))
def fX5_countThere_10_4 (p1 : Int32) : Nat → Int32 → Int32 → qS → Option Int32
  | 0, _, _, _ => none
  | n + 1, v2, v3, S => if (S 10 3) ≤ v3 then some v2 else (fX5_isThere_10 v3 p1 S).bind (fun r15 => if r15 = true then fX5_countThere_10_4 p1 n (v2 + 1) (v3 + 1) S else fX5_countThere_10_4 p1 n v2 (v3 + 1) S)
set_option maxHeartbeats 4000000 in
set_option maxRecDepth 100000 in
theorem sX5_countThere_10_4 {l : Launch} {d : Nat} (hd : 1 ≤ d) {S : qS} {p1 : Int32} {r : Int32} {Q : Int32 → qS → Prop} (k : Q r S) : ∀ (n : Nat) (v2 : Int32) (v3 : Int32), fX5_countThere_10_4 p1 n v2 v3 S = some r → q_E l cX5_countThere 4 (some .int) RX5 d S 4 [some (.inr 10), some (.inl p1), some (.inl v2), some (.inl v3)] [] (q_Qi Q) := by
  intro n
  induction n with
  | zero => intro v2 v3 h; exact q_no h
  | succ n ih =>
    intro v2 v3 h
    rw [fX5_countThere_10_4] at h
    refine q_iload_n dX5_countThere_4 rfl ?_
    refine q_aload_n dX5_countThere_5 rfl ?_
    refine q_geti dX5_countThere_6 fl_X5_28 rfl rfl ?_
    refine q_icmp_ge 30 dX5_countThere_9 (by decide) (fun c9 => ?_) (fun c9 => ?_)
    · replace h := q_ift c9 h
      refine q_iload_n dX5_countThere_30 rfl ?_
      exact q_ret dX5_countThere_31 rfl rfl (q_lfi h k)
    · replace h := q_iff c9 h
      refine q_aload_n dX5_countThere_12 rfl ?_
      refine q_iload_n dX5_countThere_13 rfl ?_
      refine q_iload_n dX5_countThere_14 rfl ?_
      obtain ⟨r15, h15, h⟩ := q_bnd h
      refine q_callVi2 dX5_countThere_15 cl_X5_31 rfl (Nat.le_of_ble_eq_true rfl) (by omega) (sX5_isThere_10 (by omega) h15 ?_)
      refine q_if_eq_b 24 dX5_countThere_18 (by decide) (fun c18 => ?_) (fun c18 => ?_)
      · replace h := q_ifb c18 h
        refine q_iinc (v := (v3 + 1)) dX5_countThere_24 rfl rfl (by decide) ?_
        refine q_goto 4 dX5_countThere_27 (by decide) ?_
        exact q_sub (ih _ _ h) (And.intro rfl (And.intro rfl (And.intro rfl (And.intro rfl trivial))))
      · replace h := q_ift c18 h
        refine q_iinc (v := (v2 + 1)) dX5_countThere_21 rfl rfl (by decide) ?_
        refine q_iinc (v := (v3 + 1)) dX5_countThere_24 rfl rfl (by decide) ?_
        refine q_goto 4 dX5_countThere_27 (by decide) ?_
        exact q_sub (ih _ _ h) (And.intro rfl (And.intro rfl (And.intro rfl (And.intro rfl trivial))))
def fX5_countThere_10 (a1 : Int32) (S : qS) : Option Int32 := fX5_countThere_10_4 a1 20000 0 0 S
set_option maxHeartbeats 4000000 in
set_option maxRecDepth 100000 in
theorem sX5_countThere_10 {l : Launch} {d : Nat} (hd : 1 ≤ d) {S : qS} {a1 : Int32} {r : Int32} (h : fX5_countThere_10 a1 S = some r) {Q : Int32 → qS → Prop} (k : Q r S) : q_Mi l d yX5_countThere cX5_countThere 4 (some .int) [.inr 10, .inl a1] S Q := by
  refine q_Mi_of (own := RX5) rfl rfl [some (.inr 10), some (.inl a1), none, none] rfl (Nat.le_of_ble_eq_true rfl) ?_
  unfold fX5_countThere_10 at h
  refine q_iconst (v := 0) dX5_countThere_0 (by decide) ?_
  refine q_istore_n dX5_countThere_1 (by decide) ?_
  refine q_iconst (v := 0) dX5_countThere_2 (by decide) ?_
  refine q_istore_n dX5_countThere_3 (by decide) ?_
  exact q_sub (sX5_countThere_10_4 hd k 20000 _ _ h) (And.intro rfl (And.intro rfl (And.intro rfl (And.intro rfl trivial))))
def fX5_countThere_16_4 (p1 : Int32) : Nat → Int32 → Int32 → qS → Option Int32
  | 0, _, _, _ => none
  | n + 1, v2, v3, S => if (S 16 3) ≤ v3 then some v2 else (fX5_isThere_16 v3 p1 S).bind (fun r15 => if r15 = true then fX5_countThere_16_4 p1 n (v2 + 1) (v3 + 1) S else fX5_countThere_16_4 p1 n v2 (v3 + 1) S)
set_option maxHeartbeats 4000000 in
set_option maxRecDepth 100000 in
theorem sX5_countThere_16_4 {l : Launch} {d : Nat} (hd : 1 ≤ d) {S : qS} {p1 : Int32} {r : Int32} {Q : Int32 → qS → Prop} (k : Q r S) : ∀ (n : Nat) (v2 : Int32) (v3 : Int32), fX5_countThere_16_4 p1 n v2 v3 S = some r → q_E l cX5_countThere 4 (some .int) RX5 d S 4 [some (.inr 16), some (.inl p1), some (.inl v2), some (.inl v3)] [] (q_Qi Q) := by
  intro n
  induction n with
  | zero => intro v2 v3 h; exact q_no h
  | succ n ih =>
    intro v2 v3 h
    rw [fX5_countThere_16_4] at h
    refine q_iload_n dX5_countThere_4 rfl ?_
    refine q_aload_n dX5_countThere_5 rfl ?_
    refine q_geti dX5_countThere_6 fl_X5_28 rfl rfl ?_
    refine q_icmp_ge 30 dX5_countThere_9 (by decide) (fun c9 => ?_) (fun c9 => ?_)
    · replace h := q_ift c9 h
      refine q_iload_n dX5_countThere_30 rfl ?_
      exact q_ret dX5_countThere_31 rfl rfl (q_lfi h k)
    · replace h := q_iff c9 h
      refine q_aload_n dX5_countThere_12 rfl ?_
      refine q_iload_n dX5_countThere_13 rfl ?_
      refine q_iload_n dX5_countThere_14 rfl ?_
      obtain ⟨r15, h15, h⟩ := q_bnd h
      refine q_callVi2 dX5_countThere_15 cl_X5_31 rfl (Nat.le_of_ble_eq_true rfl) (by omega) (sX5_isThere_16 (by omega) h15 ?_)
      refine q_if_eq_b 24 dX5_countThere_18 (by decide) (fun c18 => ?_) (fun c18 => ?_)
      · replace h := q_ifb c18 h
        refine q_iinc (v := (v3 + 1)) dX5_countThere_24 rfl rfl (by decide) ?_
        refine q_goto 4 dX5_countThere_27 (by decide) ?_
        exact q_sub (ih _ _ h) (And.intro rfl (And.intro rfl (And.intro rfl (And.intro rfl trivial))))
      · replace h := q_ift c18 h
        refine q_iinc (v := (v2 + 1)) dX5_countThere_21 rfl rfl (by decide) ?_
        refine q_iinc (v := (v3 + 1)) dX5_countThere_24 rfl rfl (by decide) ?_
        refine q_goto 4 dX5_countThere_27 (by decide) ?_
        exact q_sub (ih _ _ h) (And.intro rfl (And.intro rfl (And.intro rfl (And.intro rfl trivial))))
def fX5_countThere_16 (a1 : Int32) (S : qS) : Option Int32 := fX5_countThere_16_4 a1 20000 0 0 S
set_option maxHeartbeats 4000000 in
set_option maxRecDepth 100000 in
theorem sX5_countThere_16 {l : Launch} {d : Nat} (hd : 1 ≤ d) {S : qS} {a1 : Int32} {r : Int32} (h : fX5_countThere_16 a1 S = some r) {Q : Int32 → qS → Prop} (k : Q r S) : q_Mi l d yX5_countThere cX5_countThere 4 (some .int) [.inr 16, .inl a1] S Q := by
  refine q_Mi_of (own := RX5) rfl rfl [some (.inr 16), some (.inl a1), none, none] rfl (Nat.le_of_ble_eq_true rfl) ?_
  unfold fX5_countThere_16 at h
  refine q_iconst (v := 0) dX5_countThere_0 (by decide) ?_
  refine q_istore_n dX5_countThere_1 (by decide) ?_
  refine q_iconst (v := 0) dX5_countThere_2 (by decide) ?_
  refine q_istore_n dX5_countThere_3 (by decide) ?_
  exact q_sub (sX5_countThere_16_4 hd k 20000 _ _ h) (And.intro rfl (And.intro rfl (And.intro rfl (And.intro rfl trivial))))
def fX5_begin_2 (a1 : Int32) (S : qS) : Option (Int32 × qS) := (fX5_isFull_2 S).bind (fun r1 => if r1 = true then some ((-1), S) else if q_inb (S 2 3) 10 = true then if q_inb (S 2 3) 10 = true then some ((S 2 3), (q_up (q_up (q_up S 3 ((S 2 3).toNatClampNeg) a1) 4 ((S 2 3).toNatClampNeg) 10000) 2 3 ((S 2 3) + 1))) else none else none)
set_option maxHeartbeats 4000000 in
set_option maxRecDepth 100000 in
theorem sX5_begin_2 {l : Launch} {d : Nat} (hd : 1 ≤ d) {S : qS} {a1 : Int32} {r : Int32} {S' : qS} (h : fX5_begin_2 a1 S = some (r, S')) {Q : Int32 → qS → Prop} (k : Q r S') : q_Mi l d yX5_begin cX5_begin 3 (some .int) [.inr 2, .inl a1] S Q := by
  refine q_Mi_of (own := RX5) rfl rfl [some (.inr 2), some (.inl a1), none] rfl (Nat.le_of_ble_eq_true rfl) ?_
  unfold fX5_begin_2 at h
  refine q_aload_n dX5_begin_0 rfl ?_
  obtain ⟨r1, h1, h⟩ := q_bnd h
  refine q_callVi0 dX5_begin_1 cl_X5_35 rfl (Nat.le_of_ble_eq_true rfl) (by omega) (sX5_isFull_2 (by omega) h1 ?_)
  refine q_if_eq_b 9 dX5_begin_4 (by decide) (fun c4 => ?_) (fun c4 => ?_)
  · replace h := q_ifb c4 h
    refine q_aload_n dX5_begin_9 rfl ?_
    refine q_geti dX5_begin_10 fl_X5_28 rfl rfl ?_
    refine q_istore_n dX5_begin_13 (by decide) ?_
    refine q_aload_n dX5_begin_14 rfl ?_
    refine q_getr dX5_begin_15 fl_X5_21 rfl rfl ?_
    refine q_iload_n dX5_begin_18 rfl ?_
    refine q_iload_n dX5_begin_19 rfl ?_
    obtain ⟨g20, h⟩ := q_gd h
    refine q_iast dX5_begin_20 rfl g20 ?_
    refine q_aload_n dX5_begin_21 rfl ?_
    refine q_getr dX5_begin_22 fl_X5_25 rfl rfl ?_
    refine q_iload_n dX5_begin_25 rfl ?_
    refine q_sipush (v := 10000) dX5_begin_26 (by decide) ?_
    obtain ⟨g29, h⟩ := q_gd h
    refine q_iast dX5_begin_29 rfl g29 ?_
    refine q_aload_n dX5_begin_30 rfl ?_
    refine q_dup dX5_begin_31 ?_
    refine q_geti dX5_begin_32 fl_X5_28 rfl rfl ?_
    refine q_iconst (v := 1) dX5_begin_35 (by decide) ?_
    refine q_iadd dX5_begin_36 ?_
    refine q_put dX5_begin_37 fl_X5_28 fp_4_3 rfl rfl ?_
    refine q_iload_n dX5_begin_40 rfl ?_
    exact q_ret dX5_begin_41 rfl rfl (q_lfiw h k)
  · replace h := q_ift c4 h
    refine q_iconst (v := (-1)) dX5_begin_7 (by decide) ?_
    exact q_ret dX5_begin_8 rfl rfl (q_lfiw h k)
def fX5_begin_10 (a1 : Int32) (S : qS) : Option (Int32 × qS) := (fX5_isFull_10 S).bind (fun r1 => if r1 = true then some ((-1), S) else if q_inb (S 10 3) 10 = true then if q_inb (S 10 3) 10 = true then some ((S 10 3), (q_up (q_up (q_up S 11 ((S 10 3).toNatClampNeg) a1) 12 ((S 10 3).toNatClampNeg) 10000) 10 3 ((S 10 3) + 1))) else none else none)
set_option maxHeartbeats 4000000 in
set_option maxRecDepth 100000 in
theorem sX5_begin_10 {l : Launch} {d : Nat} (hd : 1 ≤ d) {S : qS} {a1 : Int32} {r : Int32} {S' : qS} (h : fX5_begin_10 a1 S = some (r, S')) {Q : Int32 → qS → Prop} (k : Q r S') : q_Mi l d yX5_begin cX5_begin 3 (some .int) [.inr 10, .inl a1] S Q := by
  refine q_Mi_of (own := RX5) rfl rfl [some (.inr 10), some (.inl a1), none] rfl (Nat.le_of_ble_eq_true rfl) ?_
  unfold fX5_begin_10 at h
  refine q_aload_n dX5_begin_0 rfl ?_
  obtain ⟨r1, h1, h⟩ := q_bnd h
  refine q_callVi0 dX5_begin_1 cl_X5_35 rfl (Nat.le_of_ble_eq_true rfl) (by omega) (sX5_isFull_10 (by omega) h1 ?_)
  refine q_if_eq_b 9 dX5_begin_4 (by decide) (fun c4 => ?_) (fun c4 => ?_)
  · replace h := q_ifb c4 h
    refine q_aload_n dX5_begin_9 rfl ?_
    refine q_geti dX5_begin_10 fl_X5_28 rfl rfl ?_
    refine q_istore_n dX5_begin_13 (by decide) ?_
    refine q_aload_n dX5_begin_14 rfl ?_
    refine q_getr dX5_begin_15 fl_X5_21 rfl rfl ?_
    refine q_iload_n dX5_begin_18 rfl ?_
    refine q_iload_n dX5_begin_19 rfl ?_
    obtain ⟨g20, h⟩ := q_gd h
    refine q_iast dX5_begin_20 rfl g20 ?_
    refine q_aload_n dX5_begin_21 rfl ?_
    refine q_getr dX5_begin_22 fl_X5_25 rfl rfl ?_
    refine q_iload_n dX5_begin_25 rfl ?_
    refine q_sipush (v := 10000) dX5_begin_26 (by decide) ?_
    obtain ⟨g29, h⟩ := q_gd h
    refine q_iast dX5_begin_29 rfl g29 ?_
    refine q_aload_n dX5_begin_30 rfl ?_
    refine q_dup dX5_begin_31 ?_
    refine q_geti dX5_begin_32 fl_X5_28 rfl rfl ?_
    refine q_iconst (v := 1) dX5_begin_35 (by decide) ?_
    refine q_iadd dX5_begin_36 ?_
    refine q_put dX5_begin_37 fl_X5_28 fp_4_3 rfl rfl ?_
    refine q_iload_n dX5_begin_40 rfl ?_
    exact q_ret dX5_begin_41 rfl rfl (q_lfiw h k)
  · replace h := q_ift c4 h
    refine q_iconst (v := (-1)) dX5_begin_7 (by decide) ?_
    exact q_ret dX5_begin_8 rfl rfl (q_lfiw h k)
def fX5_begin_16 (a1 : Int32) (S : qS) : Option (Int32 × qS) := (fX5_isFull_16 S).bind (fun r1 => if r1 = true then some ((-1), S) else if q_inb (S 16 3) 70 = true then if q_inb (S 16 3) 70 = true then some ((S 16 3), (q_up (q_up (q_up S 17 ((S 16 3).toNatClampNeg) a1) 18 ((S 16 3).toNatClampNeg) 10000) 16 3 ((S 16 3) + 1))) else none else none)
set_option maxHeartbeats 4000000 in
set_option maxRecDepth 100000 in
theorem sX5_begin_16 {l : Launch} {d : Nat} (hd : 1 ≤ d) {S : qS} {a1 : Int32} {r : Int32} {S' : qS} (h : fX5_begin_16 a1 S = some (r, S')) {Q : Int32 → qS → Prop} (k : Q r S') : q_Mi l d yX5_begin cX5_begin 3 (some .int) [.inr 16, .inl a1] S Q := by
  refine q_Mi_of (own := RX5) rfl rfl [some (.inr 16), some (.inl a1), none] rfl (Nat.le_of_ble_eq_true rfl) ?_
  unfold fX5_begin_16 at h
  refine q_aload_n dX5_begin_0 rfl ?_
  obtain ⟨r1, h1, h⟩ := q_bnd h
  refine q_callVi0 dX5_begin_1 cl_X5_35 rfl (Nat.le_of_ble_eq_true rfl) (by omega) (sX5_isFull_16 (by omega) h1 ?_)
  refine q_if_eq_b 9 dX5_begin_4 (by decide) (fun c4 => ?_) (fun c4 => ?_)
  · replace h := q_ifb c4 h
    refine q_aload_n dX5_begin_9 rfl ?_
    refine q_geti dX5_begin_10 fl_X5_28 rfl rfl ?_
    refine q_istore_n dX5_begin_13 (by decide) ?_
    refine q_aload_n dX5_begin_14 rfl ?_
    refine q_getr dX5_begin_15 fl_X5_21 rfl rfl ?_
    refine q_iload_n dX5_begin_18 rfl ?_
    refine q_iload_n dX5_begin_19 rfl ?_
    obtain ⟨g20, h⟩ := q_gd h
    refine q_iast dX5_begin_20 rfl g20 ?_
    refine q_aload_n dX5_begin_21 rfl ?_
    refine q_getr dX5_begin_22 fl_X5_25 rfl rfl ?_
    refine q_iload_n dX5_begin_25 rfl ?_
    refine q_sipush (v := 10000) dX5_begin_26 (by decide) ?_
    obtain ⟨g29, h⟩ := q_gd h
    refine q_iast dX5_begin_29 rfl g29 ?_
    refine q_aload_n dX5_begin_30 rfl ?_
    refine q_dup dX5_begin_31 ?_
    refine q_geti dX5_begin_32 fl_X5_28 rfl rfl ?_
    refine q_iconst (v := 1) dX5_begin_35 (by decide) ?_
    refine q_iadd dX5_begin_36 ?_
    refine q_put dX5_begin_37 fl_X5_28 fp_4_3 rfl rfl ?_
    refine q_iload_n dX5_begin_40 rfl ?_
    exact q_ret dX5_begin_41 rfl rfl (q_lfiw h k)
  · replace h := q_ift c4 h
    refine q_iconst (v := (-1)) dX5_begin_7 (by decide) ?_
    exact q_ret dX5_begin_8 rfl rfl (q_lfiw h k)
def fX5_end_2 (a1 a2 : Int32) (S : qS) : Option qS := (fX5_isMade_2 a1 S).bind (fun r2 => if r2 = true then if q_inb a1 10 = true then some (q_up S 4 a1.toNatClampNeg a2) else none else some S)
set_option maxHeartbeats 4000000 in
set_option maxRecDepth 100000 in
theorem sX5_end_2 {l : Launch} {d : Nat} (hd : 1 ≤ d) {S : qS} {a1 a2 : Int32} {S' : qS} (h : fX5_end_2 a1 a2 S = some S') {Q : qS → Prop} (k : Q S') : q_Mv l d yX5_end cX5_end 3 none [.inr 2, .inl a1, .inl a2] S Q := by
  refine q_Mv_of (own := RX5) rfl rfl [some (.inr 2), some (.inl a1), some (.inl a2)] rfl (Nat.le_of_ble_eq_true rfl) ?_
  unfold fX5_end_2 at h
  refine q_aload_n dX5_end_0 rfl ?_
  refine q_iload_n dX5_end_1 rfl ?_
  obtain ⟨r2, h2, h⟩ := q_bnd h
  refine q_callVi1 dX5_end_2 cl_X5_39 rfl (Nat.le_of_ble_eq_true rfl) (by omega) (sX5_isMade_2 (by omega) h2 ?_)
  refine q_if_eq_b 15 dX5_end_5 (by decide) (fun c5 => ?_) (fun c5 => ?_)
  · replace h := q_ifb c5 h
    exact q_vret dX5_end_15 rfl (q_lfv h k)
  · replace h := q_ift c5 h
    refine q_aload_n dX5_end_8 rfl ?_
    refine q_getr dX5_end_9 fl_X5_25 rfl rfl ?_
    refine q_iload_n dX5_end_12 rfl ?_
    refine q_iload_n dX5_end_13 rfl ?_
    obtain ⟨g14, h⟩ := q_gd h
    refine q_iast dX5_end_14 rfl g14 ?_
    exact q_vret dX5_end_15 rfl (q_lfv h k)
def fX5_end_10 (a1 a2 : Int32) (S : qS) : Option qS := (fX5_isMade_10 a1 S).bind (fun r2 => if r2 = true then if q_inb a1 10 = true then some (q_up S 12 a1.toNatClampNeg a2) else none else some S)
set_option maxHeartbeats 4000000 in
set_option maxRecDepth 100000 in
theorem sX5_end_10 {l : Launch} {d : Nat} (hd : 1 ≤ d) {S : qS} {a1 a2 : Int32} {S' : qS} (h : fX5_end_10 a1 a2 S = some S') {Q : qS → Prop} (k : Q S') : q_Mv l d yX5_end cX5_end 3 none [.inr 10, .inl a1, .inl a2] S Q := by
  refine q_Mv_of (own := RX5) rfl rfl [some (.inr 10), some (.inl a1), some (.inl a2)] rfl (Nat.le_of_ble_eq_true rfl) ?_
  unfold fX5_end_10 at h
  refine q_aload_n dX5_end_0 rfl ?_
  refine q_iload_n dX5_end_1 rfl ?_
  obtain ⟨r2, h2, h⟩ := q_bnd h
  refine q_callVi1 dX5_end_2 cl_X5_39 rfl (Nat.le_of_ble_eq_true rfl) (by omega) (sX5_isMade_10 (by omega) h2 ?_)
  refine q_if_eq_b 15 dX5_end_5 (by decide) (fun c5 => ?_) (fun c5 => ?_)
  · replace h := q_ifb c5 h
    exact q_vret dX5_end_15 rfl (q_lfv h k)
  · replace h := q_ift c5 h
    refine q_aload_n dX5_end_8 rfl ?_
    refine q_getr dX5_end_9 fl_X5_25 rfl rfl ?_
    refine q_iload_n dX5_end_12 rfl ?_
    refine q_iload_n dX5_end_13 rfl ?_
    obtain ⟨g14, h⟩ := q_gd h
    refine q_iast dX5_end_14 rfl g14 ?_
    exact q_vret dX5_end_15 rfl (q_lfv h k)
def fX5_end_16 (a1 a2 : Int32) (S : qS) : Option qS := (fX5_isMade_16 a1 S).bind (fun r2 => if r2 = true then if q_inb a1 70 = true then some (q_up S 18 a1.toNatClampNeg a2) else none else some S)
set_option maxHeartbeats 4000000 in
set_option maxRecDepth 100000 in
theorem sX5_end_16 {l : Launch} {d : Nat} (hd : 1 ≤ d) {S : qS} {a1 a2 : Int32} {S' : qS} (h : fX5_end_16 a1 a2 S = some S') {Q : qS → Prop} (k : Q S') : q_Mv l d yX5_end cX5_end 3 none [.inr 16, .inl a1, .inl a2] S Q := by
  refine q_Mv_of (own := RX5) rfl rfl [some (.inr 16), some (.inl a1), some (.inl a2)] rfl (Nat.le_of_ble_eq_true rfl) ?_
  unfold fX5_end_16 at h
  refine q_aload_n dX5_end_0 rfl ?_
  refine q_iload_n dX5_end_1 rfl ?_
  obtain ⟨r2, h2, h⟩ := q_bnd h
  refine q_callVi1 dX5_end_2 cl_X5_39 rfl (Nat.le_of_ble_eq_true rfl) (by omega) (sX5_isMade_16 (by omega) h2 ?_)
  refine q_if_eq_b 15 dX5_end_5 (by decide) (fun c5 => ?_) (fun c5 => ?_)
  · replace h := q_ifb c5 h
    exact q_vret dX5_end_15 rfl (q_lfv h k)
  · replace h := q_ift c5 h
    refine q_aload_n dX5_end_8 rfl ?_
    refine q_getr dX5_end_9 fl_X5_25 rfl rfl ?_
    refine q_iload_n dX5_end_12 rfl ?_
    refine q_iload_n dX5_end_13 rfl ?_
    obtain ⟨g14, h⟩ := q_gd h
    refine q_iast dX5_end_14 rfl g14 ?_
    exact q_vret dX5_end_15 rfl (q_lfv h k)
def fX3_isLength (a1 : Int32) (S : qS) : Option Bool := if a1 < 1 then some false else if 8 < a1 then some false else some true
set_option maxHeartbeats 4000000 in
set_option maxRecDepth 100000 in
theorem sX3_isLength {l : Launch} {d : Nat} (hd : 0 ≤ d) {S : qS} {a1 : Int32} {r : Bool} (h : fX3_isLength a1 S = some r) {Q : Int32 → qS → Prop} (k : Q (q_b r) S) : q_Mi l d yX3_isLength cX3_isLength 1 (some .boolean) [.inl a1] S Q := by
  refine q_Mi_of (own := RX3) rfl rfl [some (.inl a1)] rfl (Nat.le_of_ble_eq_true rfl) ?_
  unfold fX3_isLength at h
  refine q_iload_n dX3_isLength_0 rfl ?_
  refine q_iconst (v := 1) dX3_isLength_1 (by decide) ?_
  refine q_icmp_lt 15 dX3_isLength_2 (by decide) (fun c2 => ?_) (fun c2 => ?_)
  · replace h := q_ift c2 h
    refine q_iconst (v := 0) dX3_isLength_15 (by decide) ?_
    exact q_ret (v := q_b false) dX3_isLength_16 rfl (q_b_nar false) (q_lfb h k)
  · replace h := q_iff c2 h
    refine q_iload_n dX3_isLength_5 rfl ?_
    refine q_bipush (v := 8) dX3_isLength_6 (by decide) ?_
    refine q_icmp_gt 15 dX3_isLength_8 (by decide) (fun c8 => ?_) (fun c8 => ?_)
    · replace h := q_ift c8 h
      refine q_iconst (v := 0) dX3_isLength_15 (by decide) ?_
      exact q_ret (v := q_b false) dX3_isLength_16 rfl (q_b_nar false) (q_lfb h k)
    · replace h := q_iff c8 h
      refine q_iconst (v := 1) dX3_isLength_11 (by decide) ?_
      refine q_goto 16 dX3_isLength_12 (by decide) ?_
      exact q_ret (v := q_b true) dX3_isLength_16 rfl (q_b_nar true) (q_lfb h k)
def fX3_make (a1 a2 a3 a4 : Int32) (S : qS) : Option (Int32 × qS) := (fX5_begin_2 a4 S).bind (fun (r6, T6) => if r6 = (-1) then some (r6, T6) else if q_inb r6 10 = true then if q_inb r6 10 = true then if q_inb r6 10 = true then some (r6, (q_up (q_up (q_up T6 5 r6.toNatClampNeg a1) 6 r6.toNatClampNeg a2) 7 r6.toNatClampNeg a3)) else none else none else none)
set_option maxHeartbeats 4000000 in
set_option maxRecDepth 100000 in
theorem sX3_make {l : Launch} {d : Nat} (hd : 2 ≤ d) {S : qS} {a1 a2 a3 a4 : Int32} {r : Int32} {S' : qS} (h : fX3_make a1 a2 a3 a4 S = some (r, S')) {Q : Int32 → qS → Prop} (k : Q r S') : q_Mi l d yX3_make cX3_make 6 (some .int) [.inr 1, .inl a1, .inl a2, .inl a3, .inl a4] S Q := by
  refine q_Mi_of (own := RX3) rfl rfl [some (.inr 1), some (.inl a1), some (.inl a2), some (.inl a3), some (.inl a4), none] rfl (Nat.le_of_ble_eq_true rfl) ?_
  unfold fX3_make at h
  refine q_aload_n dX3_make_0 rfl ?_
  refine q_getr dX3_make_1 fl_X3_16 rfl rfl ?_
  refine q_iload dX3_make_4 rfl ?_
  obtain ⟨⟨r6, T6⟩, h6, h⟩ := q_bnd h
  dsimp only at h
  refine q_callVi1 dX3_make_6 cl_X3_30 rfl (Nat.le_of_ble_eq_true rfl) (by omega) (sX5_begin_2 (by omega) h6 ?_)
  refine q_istore dX3_make_9 (by decide) ?_
  refine q_iload dX3_make_11 rfl ?_
  refine q_iconst (v := (-1)) dX3_make_13 (by decide) ?_
  refine q_icmp_eq 41 dX3_make_14 (by decide) (fun c14 => ?_) (fun c14 => ?_)
  · replace h := q_ift c14 h
    refine q_iload dX3_make_41 rfl ?_
    exact q_ret dX3_make_43 rfl rfl (q_lfiw h k)
  · replace h := q_iff c14 h
    refine q_aload_n dX3_make_17 rfl ?_
    refine q_getr dX3_make_18 fl_X3_20 rfl rfl ?_
    refine q_iload dX3_make_21 rfl ?_
    refine q_iload_n dX3_make_23 rfl ?_
    obtain ⟨g24, h⟩ := q_gd h
    refine q_iast dX3_make_24 rfl g24 ?_
    refine q_aload_n dX3_make_25 rfl ?_
    refine q_getr dX3_make_26 fl_X3_24 rfl rfl ?_
    refine q_iload dX3_make_29 rfl ?_
    refine q_iload_n dX3_make_31 rfl ?_
    obtain ⟨g32, h⟩ := q_gd h
    refine q_iast dX3_make_32 rfl g32 ?_
    refine q_aload_n dX3_make_33 rfl ?_
    refine q_getr dX3_make_34 fl_X3_27 rfl rfl ?_
    refine q_iload dX3_make_37 rfl ?_
    refine q_iload_n dX3_make_39 rfl ?_
    obtain ⟨g40, h⟩ := q_gd h
    refine q_iast dX3_make_40 rfl g40 ?_
    refine q_iload dX3_make_41 rfl ?_
    exact q_ret dX3_make_43 rfl rfl (q_lfiw h k)
def fX3_contains (a1 a2 : Int32) (S : qS) : Option Bool := if q_inb a1 10 = true then if q_inb a1 10 = true then if (a2 >>> ((8 - (S 7 a1.toNatClampNeg)) &&& 31)) = ((S 6 a1.toNatClampNeg) >>> ((8 - (S 7 a1.toNatClampNeg)) &&& 31)) then some true else some false else none else none
set_option maxHeartbeats 4000000 in
set_option maxRecDepth 100000 in
theorem sX3_contains {l : Launch} {d : Nat} (hd : 0 ≤ d) {S : qS} {a1 a2 : Int32} {r : Bool} (h : fX3_contains a1 a2 S = some r) {Q : Int32 → qS → Prop} (k : Q (q_b r) S) : q_Mi l d yX3_contains cX3_contains 4 (some .boolean) [.inr 1, .inl a1, .inl a2] S Q := by
  refine q_Mi_of (own := RX3) rfl rfl [some (.inr 1), some (.inl a1), some (.inl a2), none] rfl (Nat.le_of_ble_eq_true rfl) ?_
  unfold fX3_contains at h
  refine q_bipush (v := 8) dX3_contains_0 (by decide) ?_
  refine q_aload_n dX3_contains_2 rfl ?_
  refine q_getr dX3_contains_3 fl_X3_27 rfl rfl ?_
  refine q_iload_n dX3_contains_6 rfl ?_
  obtain ⟨g7, h⟩ := q_gd h
  refine q_iald dX3_contains_7 rfl g7 ?_
  refine q_isub dX3_contains_8 ?_
  refine q_istore_n dX3_contains_9 (by decide) ?_
  refine q_iload_n dX3_contains_10 rfl ?_
  refine q_iload_n dX3_contains_11 rfl ?_
  refine q_ishr dX3_contains_12 ?_
  refine q_aload_n dX3_contains_13 rfl ?_
  refine q_getr dX3_contains_14 fl_X3_24 rfl rfl ?_
  refine q_iload_n dX3_contains_17 rfl ?_
  obtain ⟨g18, h⟩ := q_gd h
  refine q_iald dX3_contains_18 rfl g18 ?_
  refine q_iload_n dX3_contains_19 rfl ?_
  refine q_ishr dX3_contains_20 ?_
  refine q_icmp_ne 28 dX3_contains_21 (by decide) (fun c21 => ?_) (fun c21 => ?_)
  · replace h := q_iff c21 h
    refine q_iconst (v := 0) dX3_contains_28 (by decide) ?_
    exact q_ret (v := q_b false) dX3_contains_29 rfl (q_b_nar false) (q_lfb h k)
  · replace h := q_ift c21 h
    refine q_iconst (v := 1) dX3_contains_24 (by decide) ?_
    refine q_goto 29 dX3_contains_25 (by decide) ?_
    exact q_ret (v := q_b true) dX3_contains_29 rfl (q_b_nar true) (q_lfb h k)
def fX3_viewAt_8 (p1 p2 : Int32) : Nat → Int32 → Int32 → Int32 → qS → Option Int32
  | 0, _, _, _, _ => none
  | n + 1, v3, v4, v5, S => if (S 2 3) ≤ v5 then some v4 else if q_inb v5 10 = true then if (S 7 v5.toNatClampNeg) ≤ v3 then fX3_viewAt_8 p1 p2 n v3 v4 (v5 + 1) S else (fX3_contains v5 p1 S).bind (fun r35 => if r35 = true then (fX5_isThere_2 v5 p2 S).bind (fun r48 => if r48 = true then if q_inb v5 10 = true then if q_inb v5 10 = true then fX3_viewAt_8 p1 p2 n (S 7 v5.toNatClampNeg) (S 5 v5.toNatClampNeg) (v5 + 1) S else none else none else fX3_viewAt_8 p1 p2 n v3 v4 (v5 + 1) S) else fX3_viewAt_8 p1 p2 n v3 v4 (v5 + 1) S) else none
set_option maxHeartbeats 4000000 in
set_option maxRecDepth 100000 in
theorem sX3_viewAt_8 {l : Launch} {d : Nat} (hd : 1 ≤ d) {S : qS} {p1 p2 : Int32} {r : Int32} {Q : Int32 → qS → Prop} (k : Q r S) : ∀ (n : Nat) (v3 : Int32) (v4 : Int32) (v5 : Int32), fX3_viewAt_8 p1 p2 n v3 v4 v5 S = some r → q_E l cX3_viewAt 6 (some .int) RX3 d S 8 [some (.inr 1), some (.inl p1), some (.inl p2), some (.inl v3), some (.inl v4), some (.inl v5)] [] (q_Qi Q) := by
  intro n
  induction n with
  | zero => intro v3 v4 v5 h; exact q_no h
  | succ n ih =>
    intro v3 v4 v5 h
    rw [fX3_viewAt_8] at h
    refine q_iload dX3_viewAt_8 rfl ?_
    refine q_aload_n dX3_viewAt_10 rfl ?_
    refine q_getr dX3_viewAt_11 fl_X3_16 rfl rfl ?_
    refine q_geti dX3_viewAt_14 fl_X3_34 rfl rfl ?_
    refine q_icmp_ge 77 dX3_viewAt_17 (by decide) (fun c17 => ?_) (fun c17 => ?_)
    · replace h := q_ift c17 h
      refine q_iload dX3_viewAt_77 rfl ?_
      exact q_ret dX3_viewAt_79 rfl rfl (q_lfi h k)
    · replace h := q_iff c17 h
      refine q_aload_n dX3_viewAt_20 rfl ?_
      refine q_getr dX3_viewAt_21 fl_X3_27 rfl rfl ?_
      refine q_iload dX3_viewAt_24 rfl ?_
      obtain ⟨g26, h⟩ := q_gd h
      refine q_iald dX3_viewAt_26 rfl g26 ?_
      refine q_iload_n dX3_viewAt_27 rfl ?_
      refine q_icmp_le 71 dX3_viewAt_28 (by decide) (fun c28 => ?_) (fun c28 => ?_)
      · replace h := q_ift c28 h
        refine q_iinc (v := (v5 + 1)) dX3_viewAt_71 rfl rfl (by decide) ?_
        refine q_goto 8 dX3_viewAt_74 (by decide) ?_
        exact q_sub (ih _ _ _ h) (And.intro rfl (And.intro rfl (And.intro rfl (And.intro rfl (And.intro rfl (And.intro rfl trivial))))))
      · replace h := q_iff c28 h
        refine q_aload_n dX3_viewAt_31 rfl ?_
        refine q_iload dX3_viewAt_32 rfl ?_
        refine q_iload_n dX3_viewAt_34 rfl ?_
        obtain ⟨r35, h35, h⟩ := q_bnd h
        refine q_callVi2 dX3_viewAt_35 cl_X3_38 rfl (Nat.le_of_ble_eq_true rfl) (by omega) (sX3_contains (by omega) h35 ?_)
        refine q_if_eq_b 71 dX3_viewAt_38 (by decide) (fun c38 => ?_) (fun c38 => ?_)
        · replace h := q_ifb c38 h
          refine q_iinc (v := (v5 + 1)) dX3_viewAt_71 rfl rfl (by decide) ?_
          refine q_goto 8 dX3_viewAt_74 (by decide) ?_
          exact q_sub (ih _ _ _ h) (And.intro rfl (And.intro rfl (And.intro rfl (And.intro rfl (And.intro rfl (And.intro rfl trivial))))))
        · replace h := q_ift c38 h
          refine q_aload_n dX3_viewAt_41 rfl ?_
          refine q_getr dX3_viewAt_42 fl_X3_16 rfl rfl ?_
          refine q_iload dX3_viewAt_45 rfl ?_
          refine q_iload_n dX3_viewAt_47 rfl ?_
          obtain ⟨r48, h48, h⟩ := q_bnd h
          refine q_callVi2 dX3_viewAt_48 cl_X3_42 rfl (Nat.le_of_ble_eq_true rfl) (by omega) (sX5_isThere_2 (by omega) h48 ?_)
          refine q_if_eq_b 71 dX3_viewAt_51 (by decide) (fun c51 => ?_) (fun c51 => ?_)
          · replace h := q_ifb c51 h
            refine q_iinc (v := (v5 + 1)) dX3_viewAt_71 rfl rfl (by decide) ?_
            refine q_goto 8 dX3_viewAt_74 (by decide) ?_
            exact q_sub (ih _ _ _ h) (And.intro rfl (And.intro rfl (And.intro rfl (And.intro rfl (And.intro rfl (And.intro rfl trivial))))))
          · replace h := q_ift c51 h
            refine q_aload_n dX3_viewAt_54 rfl ?_
            refine q_getr dX3_viewAt_55 fl_X3_27 rfl rfl ?_
            refine q_iload dX3_viewAt_58 rfl ?_
            obtain ⟨g60, h⟩ := q_gd h
            refine q_iald dX3_viewAt_60 rfl g60 ?_
            refine q_istore_n dX3_viewAt_61 (by decide) ?_
            refine q_aload_n dX3_viewAt_62 rfl ?_
            refine q_getr dX3_viewAt_63 fl_X3_20 rfl rfl ?_
            refine q_iload dX3_viewAt_66 rfl ?_
            obtain ⟨g68, h⟩ := q_gd h
            refine q_iald dX3_viewAt_68 rfl g68 ?_
            refine q_istore dX3_viewAt_69 (by decide) ?_
            refine q_iinc (v := (v5 + 1)) dX3_viewAt_71 rfl rfl (by decide) ?_
            refine q_goto 8 dX3_viewAt_74 (by decide) ?_
            exact q_sub (ih _ _ _ h) (And.intro rfl (And.intro rfl (And.intro rfl (And.intro rfl (And.intro rfl (And.intro rfl trivial))))))
def fX3_viewAt (a1 a2 : Int32) (S : qS) : Option Int32 := fX3_viewAt_8 a1 a2 20000 0 0 0 S
set_option maxHeartbeats 4000000 in
set_option maxRecDepth 100000 in
theorem sX3_viewAt {l : Launch} {d : Nat} (hd : 1 ≤ d) {S : qS} {a1 a2 : Int32} {r : Int32} (h : fX3_viewAt a1 a2 S = some r) {Q : Int32 → qS → Prop} (k : Q r S) : q_Mi l d yX3_viewAt cX3_viewAt 6 (some .int) [.inr 1, .inl a1, .inl a2] S Q := by
  refine q_Mi_of (own := RX3) rfl rfl [some (.inr 1), some (.inl a1), some (.inl a2), none, none, none] rfl (Nat.le_of_ble_eq_true rfl) ?_
  unfold fX3_viewAt at h
  refine q_iconst (v := 0) dX3_viewAt_0 (by decide) ?_
  refine q_istore_n dX3_viewAt_1 (by decide) ?_
  refine q_iconst (v := 0) dX3_viewAt_2 (by decide) ?_
  refine q_istore dX3_viewAt_3 (by decide) ?_
  refine q_iconst (v := 0) dX3_viewAt_5 (by decide) ?_
  refine q_istore dX3_viewAt_6 (by decide) ?_
  exact q_sub (sX3_viewAt_8 hd k 20000 _ _ _ h) (And.intro rfl (And.intro rfl (And.intro rfl (And.intro rfl (And.intro rfl (And.intro rfl trivial))))))
def fX3_countAddresses_5 (p1 p2 : Int32) : Nat → Int32 → Int32 → qS → Option Int32
  | 0, _, _, _ => none
  | n + 1, v3, v4, S => if 255 < v4 then some v3 else (fX3_viewAt v4 p2 S).bind (fun r17 => if r17 = p1 then fX3_countAddresses_5 p1 p2 n (v3 + 1) (v4 + 1) S else fX3_countAddresses_5 p1 p2 n v3 (v4 + 1) S)
set_option maxHeartbeats 4000000 in
set_option maxRecDepth 100000 in
theorem sX3_countAddresses_5 {l : Launch} {d : Nat} (hd : 2 ≤ d) {S : qS} {p1 p2 : Int32} {r : Int32} {Q : Int32 → qS → Prop} (k : Q r S) : ∀ (n : Nat) (v3 : Int32) (v4 : Int32), fX3_countAddresses_5 p1 p2 n v3 v4 S = some r → q_E l cX3_countAddresses 5 (some .int) RX3 d S 5 [some (.inr 1), some (.inl p1), some (.inl p2), some (.inl v3), some (.inl v4)] [] (q_Qi Q) := by
  intro n
  induction n with
  | zero => intro v3 v4 h; exact q_no h
  | succ n ih =>
    intro v3 v4 h
    rw [fX3_countAddresses_5] at h
    refine q_iload dX3_countAddresses_5 rfl ?_
    refine q_sipush (v := 255) dX3_countAddresses_7 (by decide) ?_
    refine q_icmp_gt 33 dX3_countAddresses_10 (by decide) (fun c10 => ?_) (fun c10 => ?_)
    · replace h := q_ift c10 h
      refine q_iload_n dX3_countAddresses_33 rfl ?_
      exact q_ret dX3_countAddresses_34 rfl rfl (q_lfi h k)
    · replace h := q_iff c10 h
      refine q_aload_n dX3_countAddresses_13 rfl ?_
      refine q_iload dX3_countAddresses_14 rfl ?_
      refine q_iload_n dX3_countAddresses_16 rfl ?_
      obtain ⟨r17, h17, h⟩ := q_bnd h
      refine q_callVi2 dX3_countAddresses_17 cl_X3_45 rfl (Nat.le_of_ble_eq_true rfl) (by omega) (sX3_viewAt (by omega) h17 ?_)
      refine q_iload_n dX3_countAddresses_20 rfl ?_
      refine q_icmp_ne 27 dX3_countAddresses_21 (by decide) (fun c21 => ?_) (fun c21 => ?_)
      · replace h := q_iff c21 h
        refine q_iinc (v := (v4 + 1)) dX3_countAddresses_27 rfl rfl (by decide) ?_
        refine q_goto 5 dX3_countAddresses_30 (by decide) ?_
        exact q_sub (ih _ _ h) (And.intro rfl (And.intro rfl (And.intro rfl (And.intro rfl (And.intro rfl trivial)))))
      · replace h := q_ift c21 h
        refine q_iinc (v := (v3 + 1)) dX3_countAddresses_24 rfl rfl (by decide) ?_
        refine q_iinc (v := (v4 + 1)) dX3_countAddresses_27 rfl rfl (by decide) ?_
        refine q_goto 5 dX3_countAddresses_30 (by decide) ?_
        exact q_sub (ih _ _ h) (And.intro rfl (And.intro rfl (And.intro rfl (And.intro rfl (And.intro rfl trivial)))))
def fX3_countAddresses (a1 a2 : Int32) (S : qS) : Option Int32 := fX3_countAddresses_5 a1 a2 20000 0 0 S
set_option maxHeartbeats 4000000 in
set_option maxRecDepth 100000 in
theorem sX3_countAddresses {l : Launch} {d : Nat} (hd : 2 ≤ d) {S : qS} {a1 a2 : Int32} {r : Int32} (h : fX3_countAddresses a1 a2 S = some r) {Q : Int32 → qS → Prop} (k : Q r S) : q_Mi l d yX3_countAddresses cX3_countAddresses 5 (some .int) [.inr 1, .inl a1, .inl a2] S Q := by
  refine q_Mi_of (own := RX3) rfl rfl [some (.inr 1), some (.inl a1), some (.inl a2), none, none] rfl (Nat.le_of_ble_eq_true rfl) ?_
  unfold fX3_countAddresses at h
  refine q_iconst (v := 0) dX3_countAddresses_0 (by decide) ?_
  refine q_istore_n dX3_countAddresses_1 (by decide) ?_
  refine q_iconst (v := 0) dX3_countAddresses_2 (by decide) ?_
  refine q_istore dX3_countAddresses_3 (by decide) ?_
  exact q_sub (sX3_countAddresses_5 hd k 20000 _ _ h) (And.intro rfl (And.intro rfl (And.intro rfl (And.intro rfl (And.intro rfl trivial)))))
def fX7_make (a1 a2 a3 : Int32) (S : qS) : Option (Int32 × qS) := (fX5_begin_10 a3 S).bind (fun (r5, T5) => if r5 = (-1) then some (r5, T5) else if q_inb r5 10 = true then if q_inb r5 10 = true then some (r5, (q_up (q_up T5 13 r5.toNatClampNeg a1) 14 r5.toNatClampNeg a2)) else none else none)
set_option maxHeartbeats 4000000 in
set_option maxRecDepth 100000 in
theorem sX7_make {l : Launch} {d : Nat} (hd : 2 ≤ d) {S : qS} {a1 a2 a3 : Int32} {r : Int32} {S' : qS} (h : fX7_make a1 a2 a3 S = some (r, S')) {Q : Int32 → qS → Prop} (k : Q r S') : q_Mi l d yX7_make cX7_make 5 (some .int) [.inr 9, .inl a1, .inl a2, .inl a3] S Q := by
  refine q_Mi_of (own := RX7) rfl rfl [some (.inr 9), some (.inl a1), some (.inl a2), some (.inl a3), none] rfl (Nat.le_of_ble_eq_true rfl) ?_
  unfold fX7_make at h
  refine q_aload_n dX7_make_0 rfl ?_
  refine q_getr dX7_make_1 fl_X7_16 rfl rfl ?_
  refine q_iload_n dX7_make_4 rfl ?_
  obtain ⟨⟨r5, T5⟩, h5, h⟩ := q_bnd h
  dsimp only at h
  refine q_callVi1 dX7_make_5 cl_X7_27 rfl (Nat.le_of_ble_eq_true rfl) (by omega) (sX5_begin_10 (by omega) h5 ?_)
  refine q_istore dX7_make_8 (by decide) ?_
  refine q_iload dX7_make_10 rfl ?_
  refine q_iconst (v := (-1)) dX7_make_12 (by decide) ?_
  refine q_icmp_eq 32 dX7_make_13 (by decide) (fun c13 => ?_) (fun c13 => ?_)
  · replace h := q_ift c13 h
    refine q_iload dX7_make_32 rfl ?_
    exact q_ret dX7_make_34 rfl rfl (q_lfiw h k)
  · replace h := q_iff c13 h
    refine q_aload_n dX7_make_16 rfl ?_
    refine q_getr dX7_make_17 fl_X7_20 rfl rfl ?_
    refine q_iload dX7_make_20 rfl ?_
    refine q_iload_n dX7_make_22 rfl ?_
    obtain ⟨g23, h⟩ := q_gd h
    refine q_iast dX7_make_23 rfl g23 ?_
    refine q_aload_n dX7_make_24 rfl ?_
    refine q_getr dX7_make_25 fl_X7_24 rfl rfl ?_
    refine q_iload dX7_make_28 rfl ?_
    refine q_iload_n dX7_make_30 rfl ?_
    obtain ⟨g31, h⟩ := q_gd h
    refine q_iast dX7_make_31 rfl g31 ?_
    refine q_iload dX7_make_32 rfl ?_
    exact q_ret dX7_make_34 rfl rfl (q_lfiw h k)
