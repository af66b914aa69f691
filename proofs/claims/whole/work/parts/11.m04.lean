def fX4_countIn_5 (p1 p2 : Int32) : Nat → Int32 → Int32 → qS → Option Int32
  | 0, _, _, _ => none
  | n + 1, v3, v4, S => if (S 16 3) ≤ v4 then some v3 else if q_inb v4 70 = true then if (S 19 v4.toNatClampNeg) = p1 then (fX5_isThere_16 v4 p2 S).bind (fun r35 => if r35 = true then fX4_countIn_5 p1 p2 n (v3 + 1) (v4 + 1) S else fX4_countIn_5 p1 p2 n v3 (v4 + 1) S) else fX4_countIn_5 p1 p2 n v3 (v4 + 1) S else none
set_option maxHeartbeats 4000000 in
set_option maxRecDepth 100000 in
theorem sX4_countIn_5 {l : Launch} {d : Nat} (hd : 1 ≤ d) {S : qS} {p1 p2 : Int32} {r : Int32} {Q : Int32 → qS → Prop} (k : Q r S) : ∀ (n : Nat) (v3 : Int32) (v4 : Int32), fX4_countIn_5 p1 p2 n v3 v4 S = some r → q_E l cX4_countIn 5 (some .int) RX4 d S 5 [some (.inr 15), some (.inl p1), some (.inl p2), some (.inl v3), some (.inl v4)] [] (q_Qi Q) := by
  intro n
  induction n with
  | zero => intro v3 v4 h; exact q_no h
  | succ n ih =>
    intro v3 v4 h
    rw [fX4_countIn_5] at h
    refine q_iload dX4_countIn_5 rfl ?_
    refine q_aload_n dX4_countIn_7 rfl ?_
    refine q_getr dX4_countIn_8 fl_X4_16 rfl rfl ?_
    refine q_geti dX4_countIn_11 fl_X4_33 rfl rfl ?_
    refine q_icmp_ge 50 dX4_countIn_14 (by decide) (fun c14 => ?_) (fun c14 => ?_)
    · replace h := q_ift c14 h
      refine q_iload_n dX4_countIn_50 rfl ?_
      exact q_ret dX4_countIn_51 rfl rfl (q_lfi h k)
    · replace h := q_iff c14 h
      refine q_aload_n dX4_countIn_17 rfl ?_
      refine q_getr dX4_countIn_18 fl_X4_20 rfl rfl ?_
      refine q_iload dX4_countIn_21 rfl ?_
      obtain ⟨g23, h⟩ := q_gd h
      refine q_iald dX4_countIn_23 rfl g23 ?_
      refine q_iload_n dX4_countIn_24 rfl ?_
      refine q_icmp_ne 44 dX4_countIn_25 (by decide) (fun c25 => ?_) (fun c25 => ?_)
      · replace h := q_iff c25 h
        refine q_iinc (v := (v4 + 1)) dX4_countIn_44 rfl rfl (by decide) ?_
        refine q_goto 5 dX4_countIn_47 (by decide) ?_
        exact q_sub (ih _ _ h) (And.intro rfl (And.intro rfl (And.intro rfl (And.intro rfl (And.intro rfl trivial)))))
      · replace h := q_ift c25 h
        refine q_aload_n dX4_countIn_28 rfl ?_
        refine q_getr dX4_countIn_29 fl_X4_16 rfl rfl ?_
        refine q_iload dX4_countIn_32 rfl ?_
        refine q_iload_n dX4_countIn_34 rfl ?_
        obtain ⟨r35, h35, h⟩ := q_bnd h
        refine q_callVi2 dX4_countIn_35 cl_X4_37 rfl (Nat.le_of_ble_eq_true rfl) (by omega) (sX5_isThere_16 (by omega) h35 ?_)
        refine q_if_eq_b 44 dX4_countIn_38 (by decide) (fun c38 => ?_) (fun c38 => ?_)
        · replace h := q_ifb c38 h
          refine q_iinc (v := (v4 + 1)) dX4_countIn_44 rfl rfl (by decide) ?_
          refine q_goto 5 dX4_countIn_47 (by decide) ?_
          exact q_sub (ih _ _ h) (And.intro rfl (And.intro rfl (And.intro rfl (And.intro rfl (And.intro rfl trivial)))))
        · replace h := q_ift c38 h
          refine q_iinc (v := (v3 + 1)) dX4_countIn_41 rfl rfl (by decide) ?_
          refine q_iinc (v := (v4 + 1)) dX4_countIn_44 rfl rfl (by decide) ?_
          refine q_goto 5 dX4_countIn_47 (by decide) ?_
          exact q_sub (ih _ _ h) (And.intro rfl (And.intro rfl (And.intro rfl (And.intro rfl (And.intro rfl trivial)))))
def fX4_countIn (a1 a2 : Int32) (S : qS) : Option Int32 := fX4_countIn_5 a1 a2 20000 0 0 S
set_option maxHeartbeats 4000000 in
set_option maxRecDepth 100000 in
theorem sX4_countIn {l : Launch} {d : Nat} (hd : 1 ≤ d) {S : qS} {a1 a2 : Int32} {r : Int32} (h : fX4_countIn a1 a2 S = some r) {Q : Int32 → qS → Prop} (k : Q r S) : q_Mi l d yX4_countIn cX4_countIn 5 (some .int) [.inr 15, .inl a1, .inl a2] S Q := by
  refine q_Mi_of (own := RX4) rfl rfl [some (.inr 15), some (.inl a1), some (.inl a2), none, none] rfl (Nat.le_of_ble_eq_true rfl) ?_
  unfold fX4_countIn at h
  refine q_iconst (v := 0) dX4_countIn_0 (by decide) ?_
  refine q_istore_n dX4_countIn_1 (by decide) ?_
  refine q_iconst (v := 0) dX4_countIn_2 (by decide) ?_
  refine q_istore dX4_countIn_3 (by decide) ?_
  exact q_sub (sX4_countIn_5 hd k 20000 _ _ h) (And.intro rfl (And.intro rfl (And.intro rfl (And.intro rfl (And.intro rfl trivial)))))
def fX4_countChanges_5 (p1 p2 : Int32) : Nat → Int32 → Int32 → qS → Option Int32
  | 0, _, _, _ => none
  | n + 1, v3, v4, S => if (S 16 3) ≤ v4 then some v3 else if q_inb v4 70 = true then if (S 19 v4.toNatClampNeg) = p1 then if q_inb v4 70 = true then if p2 < (S 17 v4.toNatClampNeg) then fX4_countChanges_5 p1 p2 n v3 (v4 + 1) S else fX4_countChanges_5 p1 p2 n (v3 + 1) (v4 + 1) S else none else fX4_countChanges_5 p1 p2 n v3 (v4 + 1) S else none
set_option maxHeartbeats 4000000 in
set_option maxRecDepth 100000 in
theorem sX4_countChanges_5 {l : Launch} {d : Nat} (hd : 0 ≤ d) {S : qS} {p1 p2 : Int32} {r : Int32} {Q : Int32 → qS → Prop} (k : Q r S) : ∀ (n : Nat) (v3 : Int32) (v4 : Int32), fX4_countChanges_5 p1 p2 n v3 v4 S = some r → q_E l cX4_countChanges 5 (some .int) RX4 d S 5 [some (.inr 15), some (.inl p1), some (.inl p2), some (.inl v3), some (.inl v4)] [] (q_Qi Q) := by
  intro n
  induction n with
  | zero => intro v3 v4 h; exact q_no h
  | succ n ih =>
    intro v3 v4 h
    rw [fX4_countChanges_5] at h
    refine q_iload dX4_countChanges_5 rfl ?_
    refine q_aload_n dX4_countChanges_7 rfl ?_
    refine q_getr dX4_countChanges_8 fl_X4_16 rfl rfl ?_
    refine q_geti dX4_countChanges_11 fl_X4_33 rfl rfl ?_
    refine q_icmp_ge 51 dX4_countChanges_14 (by decide) (fun c14 => ?_) (fun c14 => ?_)
    · replace h := q_ift c14 h
      refine q_iload_n dX4_countChanges_51 rfl ?_
      exact q_ret dX4_countChanges_52 rfl rfl (q_lfi h k)
    · replace h := q_iff c14 h
      refine q_aload_n dX4_countChanges_17 rfl ?_
      refine q_getr dX4_countChanges_18 fl_X4_20 rfl rfl ?_
      refine q_iload dX4_countChanges_21 rfl ?_
      obtain ⟨g23, h⟩ := q_gd h
      refine q_iald dX4_countChanges_23 rfl g23 ?_
      refine q_iload_n dX4_countChanges_24 rfl ?_
      refine q_icmp_ne 45 dX4_countChanges_25 (by decide) (fun c25 => ?_) (fun c25 => ?_)
      · replace h := q_iff c25 h
        refine q_iinc (v := (v4 + 1)) dX4_countChanges_45 rfl rfl (by decide) ?_
        refine q_goto 5 dX4_countChanges_48 (by decide) ?_
        exact q_sub (ih _ _ h) (And.intro rfl (And.intro rfl (And.intro rfl (And.intro rfl (And.intro rfl trivial)))))
      · replace h := q_ift c25 h
        refine q_aload_n dX4_countChanges_28 rfl ?_
        refine q_getr dX4_countChanges_29 fl_X4_16 rfl rfl ?_
        refine q_getr dX4_countChanges_32 fl_X4_66 rfl rfl ?_
        refine q_iload dX4_countChanges_35 rfl ?_
        obtain ⟨g37, h⟩ := q_gd h
        refine q_iald dX4_countChanges_37 rfl g37 ?_
        refine q_iload_n dX4_countChanges_38 rfl ?_
        refine q_icmp_gt 45 dX4_countChanges_39 (by decide) (fun c39 => ?_) (fun c39 => ?_)
        · replace h := q_ift c39 h
          refine q_iinc (v := (v4 + 1)) dX4_countChanges_45 rfl rfl (by decide) ?_
          refine q_goto 5 dX4_countChanges_48 (by decide) ?_
          exact q_sub (ih _ _ h) (And.intro rfl (And.intro rfl (And.intro rfl (And.intro rfl (And.intro rfl trivial)))))
        · replace h := q_iff c39 h
          refine q_iinc (v := (v3 + 1)) dX4_countChanges_42 rfl rfl (by decide) ?_
          refine q_iinc (v := (v4 + 1)) dX4_countChanges_45 rfl rfl (by decide) ?_
          refine q_goto 5 dX4_countChanges_48 (by decide) ?_
          exact q_sub (ih _ _ h) (And.intro rfl (And.intro rfl (And.intro rfl (And.intro rfl (And.intro rfl trivial)))))
def fX4_countChanges (a1 a2 : Int32) (S : qS) : Option Int32 := fX4_countChanges_5 a1 a2 20000 0 0 S
set_option maxHeartbeats 4000000 in
set_option maxRecDepth 100000 in
theorem sX4_countChanges {l : Launch} {d : Nat} (hd : 0 ≤ d) {S : qS} {a1 a2 : Int32} {r : Int32} (h : fX4_countChanges a1 a2 S = some r) {Q : Int32 → qS → Prop} (k : Q r S) : q_Mi l d yX4_countChanges cX4_countChanges 5 (some .int) [.inr 15, .inl a1, .inl a2] S Q := by
  refine q_Mi_of (own := RX4) rfl rfl [some (.inr 15), some (.inl a1), some (.inl a2), none, none] rfl (Nat.le_of_ble_eq_true rfl) ?_
  unfold fX4_countChanges at h
  refine q_iconst (v := 0) dX4_countChanges_0 (by decide) ?_
  refine q_istore_n dX4_countChanges_1 (by decide) ?_
  refine q_iconst (v := 0) dX4_countChanges_2 (by decide) ?_
  refine q_istore dX4_countChanges_3 (by decide) ?_
  exact q_sub (sX4_countChanges_5 hd k 20000 _ _ h) (And.intro rfl (And.intro rfl (And.intro rfl (And.intro rfl (And.intro rfl trivial)))))
def fX4_findChange_5 (p1 p2 : Int32) : Nat → Int32 → Int32 → qS → Option Int32
  | 0, _, _, _ => none
  | n + 1, v3, v4, S => if (S 16 3) ≤ v4 then some (-1) else if q_inb v4 70 = true then if (S 19 v4.toNatClampNeg) = p1 then if v3 = p2 then some v4 else fX4_findChange_5 p1 p2 n (v3 + 1) (v4 + 1) S else fX4_findChange_5 p1 p2 n v3 (v4 + 1) S else none
set_option maxHeartbeats 4000000 in
set_option maxRecDepth 100000 in
theorem sX4_findChange_5 {l : Launch} {d : Nat} (hd : 0 ≤ d) {S : qS} {p1 p2 : Int32} {r : Int32} {Q : Int32 → qS → Prop} (k : Q r S) : ∀ (n : Nat) (v3 : Int32) (v4 : Int32), fX4_findChange_5 p1 p2 n v3 v4 S = some r → q_E l cX4_findChange 5 (some .int) RX4 d S 5 [some (.inr 15), some (.inl p1), some (.inl p2), some (.inl v3), some (.inl v4)] [] (q_Qi Q) := by
  intro n
  induction n with
  | zero => intro v3 v4 h; exact q_no h
  | succ n ih =>
    intro v3 v4 h
    rw [fX4_findChange_5] at h
    refine q_iload dX4_findChange_5 rfl ?_
    refine q_aload_n dX4_findChange_7 rfl ?_
    refine q_getr dX4_findChange_8 fl_X4_16 rfl rfl ?_
    refine q_geti dX4_findChange_11 fl_X4_33 rfl rfl ?_
    refine q_icmp_ge 45 dX4_findChange_14 (by decide) (fun c14 => ?_) (fun c14 => ?_)
    · replace h := q_ift c14 h
      refine q_iconst (v := (-1)) dX4_findChange_45 (by decide) ?_
      exact q_ret dX4_findChange_46 rfl rfl (q_lfi h k)
    · replace h := q_iff c14 h
      refine q_aload_n dX4_findChange_17 rfl ?_
      refine q_getr dX4_findChange_18 fl_X4_20 rfl rfl ?_
      refine q_iload dX4_findChange_21 rfl ?_
      obtain ⟨g23, h⟩ := q_gd h
      refine q_iald dX4_findChange_23 rfl g23 ?_
      refine q_iload_n dX4_findChange_24 rfl ?_
      refine q_icmp_ne 39 dX4_findChange_25 (by decide) (fun c25 => ?_) (fun c25 => ?_)
      · replace h := q_iff c25 h
        refine q_iinc (v := (v4 + 1)) dX4_findChange_39 rfl rfl (by decide) ?_
        refine q_goto 5 dX4_findChange_42 (by decide) ?_
        exact q_sub (ih _ _ h) (And.intro rfl (And.intro rfl (And.intro rfl (And.intro rfl (And.intro rfl trivial)))))
      · replace h := q_ift c25 h
        refine q_iload_n dX4_findChange_28 rfl ?_
        refine q_iload_n dX4_findChange_29 rfl ?_
        refine q_icmp_ne 36 dX4_findChange_30 (by decide) (fun c30 => ?_) (fun c30 => ?_)
        · replace h := q_iff c30 h
          refine q_iinc (v := (v3 + 1)) dX4_findChange_36 rfl rfl (by decide) ?_
          refine q_iinc (v := (v4 + 1)) dX4_findChange_39 rfl rfl (by decide) ?_
          refine q_goto 5 dX4_findChange_42 (by decide) ?_
          exact q_sub (ih _ _ h) (And.intro rfl (And.intro rfl (And.intro rfl (And.intro rfl (And.intro rfl trivial)))))
        · replace h := q_ift c30 h
          refine q_iload dX4_findChange_33 rfl ?_
          exact q_ret dX4_findChange_35 rfl rfl (q_lfi h k)
def fX4_findChange (a1 a2 : Int32) (S : qS) : Option Int32 := fX4_findChange_5 a1 a2 20000 0 0 S
set_option maxHeartbeats 4000000 in
set_option maxRecDepth 100000 in
theorem sX4_findChange {l : Launch} {d : Nat} (hd : 0 ≤ d) {S : qS} {a1 a2 : Int32} {r : Int32} (h : fX4_findChange a1 a2 S = some r) {Q : Int32 → qS → Prop} (k : Q r S) : q_Mi l d yX4_findChange cX4_findChange 5 (some .int) [.inr 15, .inl a1, .inl a2] S Q := by
  refine q_Mi_of (own := RX4) rfl rfl [some (.inr 15), some (.inl a1), some (.inl a2), none, none] rfl (Nat.le_of_ble_eq_true rfl) ?_
  unfold fX4_findChange at h
  refine q_iconst (v := 0) dX4_findChange_0 (by decide) ?_
  refine q_istore_n dX4_findChange_1 (by decide) ?_
  refine q_iconst (v := 0) dX4_findChange_2 (by decide) ?_
  refine q_istore dX4_findChange_3 (by decide) ?_
  exact q_sub (sX4_findChange_5 hd k 20000 _ _ h) (And.intro rfl (And.intro rfl (And.intro rfl (And.intro rfl (And.intro rfl trivial)))))
def fX0_standingFor (a1 a2 a3 : Int32) (S : qS) : Option Int32 := (fX4_exists a1 a2 a3 S).bind (fun r7 => if r7 = true then some a2 else (fX2_isPattern a2 S).bind (fun r16 => if r16 = true then some (-1) else (fX2_patternFor a2 S).bind (fun r25 => if q_inb a1 10 = true then (fX2_isBelow r25 (S 14 a1.toNatClampNeg) S).bind (fun r41 => if r41 = true then (fX4_exists a1 r25 a3 S).bind (fun r55 => if r55 = true then some r25 else some (-1)) else some (-1)) else none)))
set_option maxHeartbeats 4000000 in
set_option maxRecDepth 100000 in
theorem sX0_standingFor {l : Launch} {d : Nat} (hd : 2 ≤ d) {S : qS} {a1 a2 a3 : Int32} {r : Int32} (h : fX0_standingFor a1 a2 a3 S = some r) {Q : Int32 → qS → Prop} (k : Q r S) : q_Mi l d yX0_standingFor cX0_standingFor 6 (some .int) [.inr 8, .inl a1, .inl a2, .inl a3] S Q := by
  refine q_Mi_of (own := RX0) rfl rfl [some (.inr 8), some (.inl a1), some (.inl a2), some (.inl a3), none, none] rfl (Nat.le_of_ble_eq_true rfl) ?_
  unfold fX0_standingFor at h
  refine q_aload_n dX0_standingFor_0 rfl ?_
  refine q_getr dX0_standingFor_1 fl_X0_21 rfl rfl ?_
  refine q_iload_n dX0_standingFor_4 rfl ?_
  refine q_iload_n dX0_standingFor_5 rfl ?_
  refine q_iload_n dX0_standingFor_6 rfl ?_
  obtain ⟨r7, h7, h⟩ := q_bnd h
  refine q_callVi3 dX0_standingFor_7 cl_X0_43 rfl (Nat.le_of_ble_eq_true rfl) (by omega) (sX4_exists (by omega) h7 ?_)
  refine q_if_eq_b 15 dX0_standingFor_10 (by decide) (fun c10 => ?_) (fun c10 => ?_)
  · replace h := q_ifb c10 h
    refine q_iload_n dX0_standingFor_15 rfl ?_
    obtain ⟨r16, h16, h⟩ := q_bnd h
    refine q_callSi1 dX0_standingFor_16 cl_X0_47 (Nat.le_of_ble_eq_true rfl) (by omega) (sX2_isPattern (by omega) h16 ?_)
    refine q_if_eq_b 24 dX0_standingFor_19 (by decide) (fun c19 => ?_) (fun c19 => ?_)
    · replace h := q_ifb c19 h
      refine q_iload_n dX0_standingFor_24 rfl ?_
      obtain ⟨r25, h25, h⟩ := q_bnd h
      refine q_callSi1 dX0_standingFor_25 cl_X0_53 (Nat.le_of_ble_eq_true rfl) (by omega) (sX2_patternFor (by omega) h25 ?_)
      refine q_istore dX0_standingFor_28 (by decide) ?_
      refine q_iload dX0_standingFor_30 rfl ?_
      refine q_aload_n dX0_standingFor_32 rfl ?_
      refine q_getr dX0_standingFor_33 fl_X0_12 rfl rfl ?_
      refine q_getr dX0_standingFor_36 fl_X0_57 rfl rfl ?_
      refine q_iload_n dX0_standingFor_39 rfl ?_
      obtain ⟨g40, h⟩ := q_gd h
      refine q_iald dX0_standingFor_40 rfl g40 ?_
      obtain ⟨r41, h41, h⟩ := q_bnd h
      refine q_callSi2 dX0_standingFor_41 cl_X0_60 (Nat.le_of_ble_eq_true rfl) (by omega) (sX2_isBelow (by omega) h41 ?_)
      refine q_if_eq_b 65 dX0_standingFor_44 (by decide) (fun c44 => ?_) (fun c44 => ?_)
      · replace h := q_ifb c44 h
        refine q_iconst (v := 0) dX0_standingFor_65 (by decide) ?_
        refine q_istore dX0_standingFor_66 (by decide) ?_
        refine q_iload dX0_standingFor_68 rfl ?_
        refine q_if_eq 78 dX0_standingFor_70 (by decide) (fun _ => ?_) (fun c => absurd c (by decide))
        refine q_iconst (v := (-1)) dX0_standingFor_78 (by decide) ?_
        exact q_ret dX0_standingFor_79 rfl rfl (q_lfi h k)
      · replace h := q_ift c44 h
        refine q_aload_n dX0_standingFor_47 rfl ?_
        refine q_getr dX0_standingFor_48 fl_X0_21 rfl rfl ?_
        refine q_iload_n dX0_standingFor_51 rfl ?_
        refine q_iload dX0_standingFor_52 rfl ?_
        refine q_iload_n dX0_standingFor_54 rfl ?_
        obtain ⟨r55, h55, h⟩ := q_bnd h
        refine q_callVi3 dX0_standingFor_55 cl_X0_43 rfl (Nat.le_of_ble_eq_true rfl) (by omega) (sX4_exists (by omega) h55 ?_)
        refine q_if_eq_b 65 dX0_standingFor_58 (by decide) (fun c58 => ?_) (fun c58 => ?_)
        · replace h := q_ifb c58 h
          refine q_iconst (v := 0) dX0_standingFor_65 (by decide) ?_
          refine q_istore dX0_standingFor_66 (by decide) ?_
          refine q_iload dX0_standingFor_68 rfl ?_
          refine q_if_eq 78 dX0_standingFor_70 (by decide) (fun _ => ?_) (fun c => absurd c (by decide))
          refine q_iconst (v := (-1)) dX0_standingFor_78 (by decide) ?_
          exact q_ret dX0_standingFor_79 rfl rfl (q_lfi h k)
        · replace h := q_ift c58 h
          refine q_iconst (v := 1) dX0_standingFor_61 (by decide) ?_
          refine q_goto 66 dX0_standingFor_62 (by decide) ?_
          refine q_istore dX0_standingFor_66 (by decide) ?_
          refine q_iload dX0_standingFor_68 rfl ?_
          refine q_if_eq 78 dX0_standingFor_70 (by decide) (fun c => absurd c (by decide)) (fun _ => ?_)
          refine q_iload dX0_standingFor_73 rfl ?_
          refine q_goto 79 dX0_standingFor_75 (by decide) ?_
          exact q_ret dX0_standingFor_79 rfl rfl (q_lfi h k)
    · replace h := q_ift c19 h
      refine q_iconst (v := (-1)) dX0_standingFor_22 (by decide) ?_
      exact q_ret dX0_standingFor_23 rfl rfl (q_lfi h k)
  · replace h := q_ift c10 h
    refine q_iload_n dX0_standingFor_13 rfl ?_
    exact q_ret dX0_standingFor_14 rfl rfl (q_lfi h k)
def fX0_recordBehind_6 (p1 p2 p3 p4 : Int32) : Nat → Int32 → Int32 → qS → Option Int32
  | 0, _, _, _ => none
  | n + 1, v5, v6, S => if 4 < v6 then some (-14) else (fX7_responsible p1 v5 p4 S).bind (fun r21 => if r21 = (-1) then some (-11) else (fX0_standingFor r21 v5 p4 S).bind (fun r42 => if r42 = (-1) then some (-12) else (fX4_find r21 r42 p3 p4 S).bind (fun r67 => if r67 = (-1) then (fX4_find r21 r42 1 p4 S).bind (fun r92 => if r92 = (-1) then some (-13) else if q_inb r92 70 = true then fX0_recordBehind_6 p1 p2 p3 p4 n (S 22 r92.toNatClampNeg) (v6 + 1) S else none) else some r67)))
set_option maxHeartbeats 4000000 in
set_option maxRecDepth 100000 in
theorem sX0_recordBehind_6 {l : Launch} {d : Nat} (hd : 4 ≤ d) {S : qS} {p1 p2 p3 p4 : Int32} {r : Int32} {Q : Int32 → qS → Prop} (k : Q r S) : ∀ (n : Nat) (v5 : Int32) (v6 : Int32), fX0_recordBehind_6 p1 p2 p3 p4 n v5 v6 S = some r → q_E l cX0_recordBehind 11 (some .int) RX0 d S 6 [some (.inr 8), some (.inl p1), some (.inl p2), some (.inl p3), some (.inl p4), some (.inl v5), some (.inl v6), none, none, none, none] [] (q_Qi Q) := by
  intro n
  induction n with
  | zero => intro v5 v6 h; exact q_no h
  | succ n ih =>
    intro v5 v6 h
    rw [fX0_recordBehind_6] at h
    refine q_iload dX0_recordBehind_6 rfl ?_
    refine q_iconst (v := 4) dX0_recordBehind_8 (by decide) ?_
    refine q_icmp_gt 124 dX0_recordBehind_9 (by decide) (fun c9 => ?_) (fun c9 => ?_)
    · replace h := q_ift c9 h
      refine q_bipush (v := (-14)) dX0_recordBehind_124 (by decide) ?_
      exact q_ret dX0_recordBehind_126 rfl rfl (q_lfi h k)
    · replace h := q_iff c9 h
      refine q_aload_n dX0_recordBehind_12 rfl ?_
      refine q_getr dX0_recordBehind_13 fl_X0_12 rfl rfl ?_
      refine q_iload_n dX0_recordBehind_16 rfl ?_
      refine q_iload dX0_recordBehind_17 rfl ?_
      refine q_iload dX0_recordBehind_19 rfl ?_
      obtain ⟨r21, h21, h⟩ := q_bnd h
      refine q_callVi3 dX0_recordBehind_21 cl_X0_33 rfl (Nat.le_of_ble_eq_true rfl) (by omega) (sX7_responsible (by omega) h21 ?_)
      refine q_istore dX0_recordBehind_24 (by decide) ?_
      refine q_iload dX0_recordBehind_26 rfl ?_
      refine q_iconst (v := (-1)) dX0_recordBehind_28 (by decide) ?_
      refine q_icmp_ne 35 dX0_recordBehind_29 (by decide) (fun c29 => ?_) (fun c29 => ?_)
      · replace h := q_iff c29 h
        refine q_aload_n dX0_recordBehind_35 rfl ?_
        refine q_iload dX0_recordBehind_36 rfl ?_
        refine q_iload dX0_recordBehind_38 rfl ?_
        refine q_iload dX0_recordBehind_40 rfl ?_
        obtain ⟨r42, h42, h⟩ := q_bnd h
        refine q_callVi3 dX0_recordBehind_42 cl_X0_37 rfl (Nat.le_of_ble_eq_true rfl) (by omega) (sX0_standingFor (by omega) h42 ?_)
        refine q_istore dX0_recordBehind_45 (by decide) ?_
        refine q_iload dX0_recordBehind_47 rfl ?_
        refine q_iconst (v := (-1)) dX0_recordBehind_49 (by decide) ?_
        refine q_icmp_ne 56 dX0_recordBehind_50 (by decide) (fun c50 => ?_) (fun c50 => ?_)
        · replace h := q_iff c50 h
          refine q_aload_n dX0_recordBehind_56 rfl ?_
          refine q_getr dX0_recordBehind_57 fl_X0_21 rfl rfl ?_
          refine q_iload dX0_recordBehind_60 rfl ?_
          refine q_iload dX0_recordBehind_62 rfl ?_
          refine q_iload_n dX0_recordBehind_64 rfl ?_
          refine q_iload dX0_recordBehind_65 rfl ?_
          obtain ⟨r67, h67, h⟩ := q_bnd h
          refine q_callVi4 dX0_recordBehind_67 cl_X0_40 rfl (Nat.le_of_ble_eq_true rfl) (by omega) (sX4_find (by omega) h67 ?_)
          refine q_istore dX0_recordBehind_70 (by decide) ?_
          refine q_iload dX0_recordBehind_72 rfl ?_
          refine q_iconst (v := (-1)) dX0_recordBehind_74 (by decide) ?_
          refine q_icmp_eq 81 dX0_recordBehind_75 (by decide) (fun c75 => ?_) (fun c75 => ?_)
          · replace h := q_ift c75 h
            refine q_aload_n dX0_recordBehind_81 rfl ?_
            refine q_getr dX0_recordBehind_82 fl_X0_21 rfl rfl ?_
            refine q_iload dX0_recordBehind_85 rfl ?_
            refine q_iload dX0_recordBehind_87 rfl ?_
            refine q_iconst (v := 1) dX0_recordBehind_89 (by decide) ?_
            refine q_iload dX0_recordBehind_90 rfl ?_
            obtain ⟨r92, h92, h⟩ := q_bnd h
            refine q_callVi4 dX0_recordBehind_92 cl_X0_40 rfl (Nat.le_of_ble_eq_true rfl) (by omega) (sX4_find (by omega) h92 ?_)
            refine q_istore dX0_recordBehind_95 (by decide) ?_
            refine q_iload dX0_recordBehind_97 rfl ?_
            refine q_iconst (v := (-1)) dX0_recordBehind_99 (by decide) ?_
            refine q_icmp_ne 106 dX0_recordBehind_100 (by decide) (fun c100 => ?_) (fun c100 => ?_)
            · replace h := q_iff c100 h
              refine q_aload_n dX0_recordBehind_106 rfl ?_
              refine q_getr dX0_recordBehind_107 fl_X0_21 rfl rfl ?_
              refine q_getr dX0_recordBehind_110 fl_X0_29 rfl rfl ?_
              refine q_iload dX0_recordBehind_113 rfl ?_
              obtain ⟨g115, h⟩ := q_gd h
              refine q_iald dX0_recordBehind_115 rfl g115 ?_
              refine q_istore dX0_recordBehind_116 (by decide) ?_
              refine q_iinc (v := (v6 + 1)) dX0_recordBehind_118 rfl rfl (by decide) ?_
              refine q_goto 6 dX0_recordBehind_121 (by decide) ?_
              exact q_sub (ih _ _ h) (And.intro rfl (And.intro rfl (And.intro rfl (And.intro rfl (And.intro rfl (And.intro rfl (And.intro rfl trivial)))))))
            · replace h := q_ift c100 h
              refine q_bipush (v := (-13)) dX0_recordBehind_103 (by decide) ?_
              exact q_ret dX0_recordBehind_105 rfl rfl (q_lfi h k)
          · replace h := q_iff c75 h
            refine q_iload dX0_recordBehind_78 rfl ?_
            exact q_ret dX0_recordBehind_80 rfl rfl (q_lfi h k)
        · replace h := q_ift c50 h
          refine q_bipush (v := (-12)) dX0_recordBehind_53 (by decide) ?_
          exact q_ret dX0_recordBehind_55 rfl rfl (q_lfi h k)
      · replace h := q_ift c29 h
        refine q_bipush (v := (-11)) dX0_recordBehind_32 (by decide) ?_
        exact q_ret dX0_recordBehind_34 rfl rfl (q_lfi h k)
def fX0_recordBehind (a1 a2 a3 a4 : Int32) (S : qS) : Option Int32 := fX0_recordBehind_6 a1 a2 a3 a4 20000 a2 0 S
set_option maxHeartbeats 4000000 in
set_option maxRecDepth 100000 in
theorem sX0_recordBehind {l : Launch} {d : Nat} (hd : 4 ≤ d) {S : qS} {a1 a2 a3 a4 : Int32} {r : Int32} (h : fX0_recordBehind a1 a2 a3 a4 S = some r) {Q : Int32 → qS → Prop} (k : Q r S) : q_Mi l d yX0_recordBehind cX0_recordBehind 11 (some .int) [.inr 8, .inl a1, .inl a2, .inl a3, .inl a4] S Q := by
  refine q_Mi_of (own := RX0) rfl rfl [some (.inr 8), some (.inl a1), some (.inl a2), some (.inl a3), some (.inl a4), none, none, none, none, none, none] rfl (Nat.le_of_ble_eq_true rfl) ?_
  unfold fX0_recordBehind at h
  refine q_iload_n dX0_recordBehind_0 rfl ?_
  refine q_istore dX0_recordBehind_1 (by decide) ?_
  refine q_iconst (v := 0) dX0_recordBehind_3 (by decide) ?_
  refine q_istore dX0_recordBehind_4 (by decide) ?_
  exact q_sub (sX0_recordBehind_6 hd k 20000 _ _ h) (And.intro rfl (And.intro rfl (And.intro rfl (And.intro rfl (And.intro rfl (And.intro rfl (And.intro rfl trivial)))))))
def fX0_lookUp (a1 a2 a3 a4 : Int32) (S : qS) : Option Int32 := (fX0_recordBehind a1 a2 a3 a4 S).bind (fun r6 => if 0 ≤ r6 then if q_inb r6 70 = true then some (S 22 r6.toNatClampNeg) else none else some r6)
set_option maxHeartbeats 4000000 in
set_option maxRecDepth 100000 in
theorem sX0_lookUp {l : Launch} {d : Nat} (hd : 5 ≤ d) {S : qS} {a1 a2 a3 a4 : Int32} {r : Int32} (h : fX0_lookUp a1 a2 a3 a4 S = some r) {Q : Int32 → qS → Prop} (k : Q r S) : q_Mi l d yX0_lookUp cX0_lookUp 6 (some .int) [.inr 8, .inl a1, .inl a2, .inl a3, .inl a4] S Q := by
  refine q_Mi_of (own := RX0) rfl rfl [some (.inr 8), some (.inl a1), some (.inl a2), some (.inl a3), some (.inl a4), none] rfl (Nat.le_of_ble_eq_true rfl) ?_
  unfold fX0_lookUp at h
  refine q_aload_n dX0_lookUp_0 rfl ?_
  refine q_iload_n dX0_lookUp_1 rfl ?_
  refine q_iload_n dX0_lookUp_2 rfl ?_
  refine q_iload_n dX0_lookUp_3 rfl ?_
  refine q_iload dX0_lookUp_4 rfl ?_
  obtain ⟨r6, h6, h⟩ := q_bnd h
  refine q_callVi4 dX0_lookUp_6 cl_X0_25 rfl (Nat.le_of_ble_eq_true rfl) (by omega) (sX0_recordBehind (by omega) h6 ?_)
  refine q_istore dX0_lookUp_9 (by decide) ?_
  refine q_iload dX0_lookUp_11 rfl ?_
  refine q_if_ge 21 dX0_lookUp_13 (by decide) (fun c13 => ?_) (fun c13 => ?_)
  · replace h := q_ift c13 h
    refine q_aload_n dX0_lookUp_21 rfl ?_
    refine q_getr dX0_lookUp_22 fl_X0_21 rfl rfl ?_
    refine q_getr dX0_lookUp_25 fl_X0_29 rfl rfl ?_
    refine q_iload dX0_lookUp_28 rfl ?_
    obtain ⟨g30, h⟩ := q_gd h
    refine q_iald dX0_lookUp_30 rfl g30 ?_
    exact q_ret dX0_lookUp_31 rfl rfl (q_lfi h k)
  · replace h := q_iff c13 h
    refine q_iload dX0_lookUp_16 rfl ?_
    refine q_goto 31 dX0_lookUp_18 (by decide) ?_
    exact q_ret dX0_lookUp_31 rfl rfl (q_lfi h k)
def fX0_countRecords_4 (p1 : Int32) : Nat → Int32 → Int32 → qS → Option Int32
  | 0, _, _, _ => none
  | n + 1, v2, v3, S => if (S 10 3) ≤ v3 then some v2 else (fX5_isThere_10 v3 p1 S).bind (fun r27 => if r27 = true then (fX4_countIn v3 p1 S).bind (fun r40 => fX0_countRecords_4 p1 n (v2 + r40) (v3 + 1) S) else fX0_countRecords_4 p1 n v2 (v3 + 1) S)
set_option maxHeartbeats 4000000 in
set_option maxRecDepth 100000 in
theorem sX0_countRecords_4 {l : Launch} {d : Nat} (hd : 2 ≤ d) {S : qS} {p1 : Int32} {r : Int32} {Q : Int32 → qS → Prop} (k : Q r S) : ∀ (n : Nat) (v2 : Int32) (v3 : Int32), fX0_countRecords_4 p1 n v2 v3 S = some r → q_E l cX0_countRecords 4 (some .int) RX0 d S 4 [some (.inr 8), some (.inl p1), some (.inl v2), some (.inl v3)] [] (q_Qi Q) := by
  intro n
  induction n with
  | zero => intro v2 v3 h; exact q_no h
  | succ n ih =>
    intro v2 v3 h
    rw [fX0_countRecords_4] at h
    refine q_iload_n dX0_countRecords_4 rfl ?_
    refine q_aload_n dX0_countRecords_5 rfl ?_
    refine q_getr dX0_countRecords_6 fl_X0_12 rfl rfl ?_
    refine q_getr dX0_countRecords_9 fl_X0_64 rfl rfl ?_
    refine q_geti dX0_countRecords_12 fl_X0_68 rfl rfl ?_
    refine q_icmp_ge 51 dX0_countRecords_15 (by decide) (fun c15 => ?_) (fun c15 => ?_)
    · replace h := q_ift c15 h
      refine q_iload_n dX0_countRecords_51 rfl ?_
      exact q_ret dX0_countRecords_52 rfl rfl (q_lfi h k)
    · replace h := q_iff c15 h
      refine q_aload_n dX0_countRecords_18 rfl ?_
      refine q_getr dX0_countRecords_19 fl_X0_12 rfl rfl ?_
      refine q_getr dX0_countRecords_22 fl_X0_64 rfl rfl ?_
      refine q_iload_n dX0_countRecords_25 rfl ?_
      refine q_iload_n dX0_countRecords_26 rfl ?_
      obtain ⟨r27, h27, h⟩ := q_bnd h
      refine q_callVi2 dX0_countRecords_27 cl_X0_74 rfl (Nat.le_of_ble_eq_true rfl) (by omega) (sX5_isThere_10 (by omega) h27 ?_)
      refine q_if_eq_b 45 dX0_countRecords_30 (by decide) (fun c30 => ?_) (fun c30 => ?_)
      · replace h := q_ifb c30 h
        refine q_iinc (v := (v3 + 1)) dX0_countRecords_45 rfl rfl (by decide) ?_
        refine q_goto 4 dX0_countRecords_48 (by decide) ?_
        exact q_sub (ih _ _ h) (And.intro rfl (And.intro rfl (And.intro rfl (And.intro rfl trivial))))
      · replace h := q_ift c30 h
        refine q_iload_n dX0_countRecords_33 rfl ?_
        refine q_aload_n dX0_countRecords_34 rfl ?_
        refine q_getr dX0_countRecords_35 fl_X0_21 rfl rfl ?_
        refine q_iload_n dX0_countRecords_38 rfl ?_
        refine q_iload_n dX0_countRecords_39 rfl ?_
        obtain ⟨r40, h40, h⟩ := q_bnd h
        refine q_callVi2 dX0_countRecords_40 cl_X0_77 rfl (Nat.le_of_ble_eq_true rfl) (by omega) (sX4_countIn (by omega) h40 ?_)
        refine q_iadd dX0_countRecords_43 ?_
        refine q_istore_n dX0_countRecords_44 (by decide) ?_
        refine q_iinc (v := (v3 + 1)) dX0_countRecords_45 rfl rfl (by decide) ?_
        refine q_goto 4 dX0_countRecords_48 (by decide) ?_
        exact q_sub (ih _ _ h) (And.intro rfl (And.intro rfl (And.intro rfl (And.intro rfl trivial))))
def fX0_countRecords (a1 : Int32) (S : qS) : Option Int32 := fX0_countRecords_4 a1 20000 0 0 S
set_option maxHeartbeats 4000000 in
set_option maxRecDepth 100000 in
theorem sX0_countRecords {l : Launch} {d : Nat} (hd : 2 ≤ d) {S : qS} {a1 : Int32} {r : Int32} (h : fX0_countRecords a1 S = some r) {Q : Int32 → qS → Prop} (k : Q r S) : q_Mi l d yX0_countRecords cX0_countRecords 4 (some .int) [.inr 8, .inl a1] S Q := by
  refine q_Mi_of (own := RX0) rfl rfl [some (.inr 8), some (.inl a1), none, none] rfl (Nat.le_of_ble_eq_true rfl) ?_
  unfold fX0_countRecords at h
  refine q_iconst (v := 0) dX0_countRecords_0 (by decide) ?_
  refine q_istore_n dX0_countRecords_1 (by decide) ?_
  refine q_iconst (v := 0) dX0_countRecords_2 (by decide) ?_
  refine q_istore_n dX0_countRecords_3 (by decide) ?_
  exact q_sub (sX0_countRecords_4 hd k 20000 _ _ h) (And.intro rfl (And.intro rfl (And.intro rfl (And.intro rfl trivial))))
def fX0_laterUpTo (a1 a2 a3 : Int32) (S : qS) : Option Int32 := if a1 < a3 then some a2 else some (if a2 < a3 then a3 else a2)
set_option maxHeartbeats 4000000 in
set_option maxRecDepth 100000 in
theorem sX0_laterUpTo {l : Launch} {d : Nat} (hd : 1 ≤ d) {S : qS} {a1 a2 a3 : Int32} {r : Int32} (h : fX0_laterUpTo a1 a2 a3 S = some r) {Q : Int32 → qS → Prop} (k : Q r S) : q_Mi l d yX0_laterUpTo cX0_laterUpTo 3 (some .int) [.inl a1, .inl a2, .inl a3] S Q := by
  refine q_Mi_of (own := RX0) rfl rfl [some (.inl a1), some (.inl a2), some (.inl a3)] rfl (Nat.le_of_ble_eq_true rfl) ?_
  unfold fX0_laterUpTo at h
  refine q_iload_n dX0_laterUpTo_0 rfl ?_
  refine q_iload_n dX0_laterUpTo_1 rfl ?_
  refine q_icmp_gt 13 dX0_laterUpTo_2 (by decide) (fun c2 => ?_) (fun c2 => ?_)
  · replace h := q_ift c2 h
    refine q_iload_n dX0_laterUpTo_13 rfl ?_
    exact q_ret dX0_laterUpTo_14 rfl rfl (q_lfi h k)
  · replace h := q_iff c2 h
    refine q_iload_n dX0_laterUpTo_5 rfl ?_
    refine q_iload_n dX0_laterUpTo_6 rfl ?_
    refine q_max dX0_laterUpTo_7 ml_X0_91 (Nat.le_of_ble_eq_true rfl) (by omega) ?_
    refine q_goto 14 dX0_laterUpTo_10 (by decide) ?_
    exact q_ret dX0_laterUpTo_14 rfl rfl (q_lfi h k)
def fX0_lastEvent_62 (p1 : Int32) : Nat → Int32 → Int32 → qS → Option Int32
  | 0, _, _, _ => none
  | n + 1, v2, v3, S => if (S 16 3) ≤ v3 then some v2 else if q_inb v3 70 = true then (fX0_laterUpTo p1 v2 (S 17 v3.toNatClampNeg) S).bind (fun r90 => fX0_lastEvent_62 p1 n r90 (v3 + 1) S) else none
set_option maxHeartbeats 4000000 in
set_option maxRecDepth 100000 in
theorem sX0_lastEvent_62 {l : Launch} {d : Nat} (hd : 2 ≤ d) {S : qS} {p1 : Int32} {r : Int32} {Q : Int32 → qS → Prop} (k : Q r S) : ∀ (n : Nat) (v2 : Int32) (v3 : Int32), fX0_lastEvent_62 p1 n v2 v3 S = some r → q_E l cX0_lastEvent 4 (some .int) RX0 d S 62 [some (.inr 8), some (.inl p1), some (.inl v2), some (.inl v3)] [] (q_Qi Q) := by
  intro n
  induction n with
  | zero => intro v2 v3 h; exact q_no h
  | succ n ih =>
    intro v2 v3 h
    rw [fX0_lastEvent_62] at h
    refine q_iload_n dX0_lastEvent_62 rfl ?_
    refine q_aload_n dX0_lastEvent_63 rfl ?_
    refine q_getr dX0_lastEvent_64 fl_X0_21 rfl rfl ?_
    refine q_getr dX0_lastEvent_67 fl_X0_90 rfl rfl ?_
    refine q_geti dX0_lastEvent_70 fl_X0_68 rfl rfl ?_
    refine q_icmp_ge 100 dX0_lastEvent_73 (by decide) (fun c73 => ?_) (fun c73 => ?_)
    · replace h := q_ift c73 h
      refine q_iload_n dX0_lastEvent_100 rfl ?_
      exact q_ret dX0_lastEvent_101 rfl rfl (q_lfi h k)
    · replace h := q_iff c73 h
      refine q_iload_n dX0_lastEvent_76 rfl ?_
      refine q_iload_n dX0_lastEvent_77 rfl ?_
      refine q_aload_n dX0_lastEvent_78 rfl ?_
      refine q_getr dX0_lastEvent_79 fl_X0_21 rfl rfl ?_
      refine q_getr dX0_lastEvent_82 fl_X0_90 rfl rfl ?_
      refine q_getr dX0_lastEvent_85 fl_X0_81 rfl rfl ?_
      refine q_iload_n dX0_lastEvent_88 rfl ?_
      obtain ⟨g89, h⟩ := q_gd h
      refine q_iald dX0_lastEvent_89 rfl g89 ?_
      obtain ⟨r90, h90, h⟩ := q_bnd h
      refine q_callSi3 dX0_lastEvent_90 cl_X0_84 (Nat.le_of_ble_eq_true rfl) (by omega) (sX0_laterUpTo (by omega) h90 ?_)
      refine q_istore_n dX0_lastEvent_93 (by decide) ?_
      refine q_iinc (v := (v3 + 1)) dX0_lastEvent_94 rfl rfl (by decide) ?_
      refine q_goto 62 dX0_lastEvent_97 (by decide) ?_
      exact q_sub (ih _ _ h) (And.intro rfl (And.intro rfl (And.intro rfl (And.intro rfl trivial))))
def fX0_lastEvent_4 (p1 : Int32) : Nat → Int32 → Int32 → qS → Option Int32
  | 0, _, _, _ => none
  | n + 1, v2, v3, S => if (S 10 3) ≤ v3 then fX0_lastEvent_62 p1 20000 v2 0 S else if q_inb v3 10 = true then (fX0_laterUpTo p1 v2 (S 11 v3.toNatClampNeg) S).bind (fun r32 => if q_inb v3 10 = true then (fX0_laterUpTo p1 r32 (S 12 v3.toNatClampNeg) S).bind (fun r50 => fX0_lastEvent_4 p1 n r50 (v3 + 1) S) else none) else none
set_option maxHeartbeats 4000000 in
set_option maxRecDepth 100000 in
theorem sX0_lastEvent_4 {l : Launch} {d : Nat} (hd : 2 ≤ d) {S : qS} {p1 : Int32} {r : Int32} {Q : Int32 → qS → Prop} (k : Q r S) : ∀ (n : Nat) (v2 : Int32) (v3 : Int32), fX0_lastEvent_4 p1 n v2 v3 S = some r → q_E l cX0_lastEvent 4 (some .int) RX0 d S 4 [some (.inr 8), some (.inl p1), some (.inl v2), some (.inl v3)] [] (q_Qi Q) := by
  intro n
  induction n with
  | zero => intro v2 v3 h; exact q_no h
  | succ n ih =>
    intro v2 v3 h
    rw [fX0_lastEvent_4] at h
    refine q_iload_n dX0_lastEvent_4 rfl ?_
    refine q_aload_n dX0_lastEvent_5 rfl ?_
    refine q_getr dX0_lastEvent_6 fl_X0_12 rfl rfl ?_
    refine q_getr dX0_lastEvent_9 fl_X0_64 rfl rfl ?_
    refine q_geti dX0_lastEvent_12 fl_X0_68 rfl rfl ?_
    refine q_icmp_ge 60 dX0_lastEvent_15 (by decide) (fun c15 => ?_) (fun c15 => ?_)
    · replace h := q_ift c15 h
      refine q_iconst (v := 0) dX0_lastEvent_60 (by decide) ?_
      refine q_istore_n dX0_lastEvent_61 (by decide) ?_
      exact q_sub (sX0_lastEvent_62 hd k 20000 _ _ h) (And.intro rfl (And.intro rfl (And.intro rfl (And.intro rfl trivial))))
    · replace h := q_iff c15 h
      refine q_iload_n dX0_lastEvent_18 rfl ?_
      refine q_iload_n dX0_lastEvent_19 rfl ?_
      refine q_aload_n dX0_lastEvent_20 rfl ?_
      refine q_getr dX0_lastEvent_21 fl_X0_12 rfl rfl ?_
      refine q_getr dX0_lastEvent_24 fl_X0_64 rfl rfl ?_
      refine q_getr dX0_lastEvent_27 fl_X0_81 rfl rfl ?_
      refine q_iload_n dX0_lastEvent_30 rfl ?_
      obtain ⟨g31, h⟩ := q_gd h
      refine q_iald dX0_lastEvent_31 rfl g31 ?_
      obtain ⟨r32, h32, h⟩ := q_bnd h
      refine q_callSi3 dX0_lastEvent_32 cl_X0_84 (Nat.le_of_ble_eq_true rfl) (by omega) (sX0_laterUpTo (by omega) h32 ?_)
      refine q_istore_n dX0_lastEvent_35 (by decide) ?_
      refine q_iload_n dX0_lastEvent_36 rfl ?_
      refine q_iload_n dX0_lastEvent_37 rfl ?_
      refine q_aload_n dX0_lastEvent_38 rfl ?_
      refine q_getr dX0_lastEvent_39 fl_X0_12 rfl rfl ?_
      refine q_getr dX0_lastEvent_42 fl_X0_64 rfl rfl ?_
      refine q_getr dX0_lastEvent_45 fl_X0_87 rfl rfl ?_
      refine q_iload_n dX0_lastEvent_48 rfl ?_
      obtain ⟨g49, h⟩ := q_gd h
      refine q_iald dX0_lastEvent_49 rfl g49 ?_
      obtain ⟨r50, h50, h⟩ := q_bnd h
      refine q_callSi3 dX0_lastEvent_50 cl_X0_84 (Nat.le_of_ble_eq_true rfl) (by omega) (sX0_laterUpTo (by omega) h50 ?_)
      refine q_istore_n dX0_lastEvent_53 (by decide) ?_
      refine q_iinc (v := (v3 + 1)) dX0_lastEvent_54 rfl rfl (by decide) ?_
      refine q_goto 4 dX0_lastEvent_57 (by decide) ?_
      exact q_sub (ih _ _ h) (And.intro rfl (And.intro rfl (And.intro rfl (And.intro rfl trivial))))
def fX0_lastEvent (a1 : Int32) (S : qS) : Option Int32 := fX0_lastEvent_4 a1 20000 0 0 S
set_option maxHeartbeats 4000000 in
set_option maxRecDepth 100000 in
theorem sX0_lastEvent {l : Launch} {d : Nat} (hd : 2 ≤ d) {S : qS} {a1 : Int32} {r : Int32} (h : fX0_lastEvent a1 S = some r) {Q : Int32 → qS → Prop} (k : Q r S) : q_Mi l d yX0_lastEvent cX0_lastEvent 4 (some .int) [.inr 8, .inl a1] S Q := by
  refine q_Mi_of (own := RX0) rfl rfl [some (.inr 8), some (.inl a1), none, none] rfl (Nat.le_of_ble_eq_true rfl) ?_
  unfold fX0_lastEvent at h
  refine q_iconst (v := 0) dX0_lastEvent_0 (by decide) ?_
  refine q_istore_n dX0_lastEvent_1 (by decide) ?_
  refine q_iconst (v := 0) dX0_lastEvent_2 (by decide) ?_
  refine q_istore_n dX0_lastEvent_3 (by decide) ?_
  exact q_sub (sX0_lastEvent_4 hd k 20000 _ _ h) (And.intro rfl (And.intro rfl (And.intro rfl (And.intro rfl trivial))))
