def fX7_find_3 (p1 p2 p3 : Int32) : Nat → Int32 → qS → Option Int32
  | 0, _, _ => none
  | n + 1, v4, S => if (S 10 3) ≤ v4 then some (-1) else if q_inb v4 10 = true then if (S 13 v4.toNatClampNeg) = p1 then if q_inb v4 10 = true then if (S 14 v4.toNatClampNeg) = p2 then (fX5_isThere_10 v4 p3 S).bind (fun r44 => if r44 = true then some v4 else fX7_find_3 p1 p2 p3 n (v4 + 1) S) else fX7_find_3 p1 p2 p3 n (v4 + 1) S else none else fX7_find_3 p1 p2 p3 n (v4 + 1) S else none
set_option maxHeartbeats 4000000 in
set_option maxRecDepth 100000 in
theorem sX7_find_3 {l : Launch} {d : Nat} (hd : 1 ≤ d) {S : qS} {p1 p2 p3 : Int32} {r : Int32} {Q : Int32 → qS → Prop} (k : Q r S) : ∀ (n : Nat) (v4 : Int32), fX7_find_3 p1 p2 p3 n v4 S = some r → q_E l cX7_find 5 (some .int) RX7 d S 3 [some (.inr 9), some (.inl p1), some (.inl p2), some (.inl p3), some (.inl v4)] [] (q_Qi Q) := by
  intro n
  induction n with
  | zero => intro v4 h; exact q_no h
  | succ n ih =>
    intro v4 h
    rw [fX7_find_3] at h
    refine q_iload dX7_find_3 rfl ?_
    refine q_aload_n dX7_find_5 rfl ?_
    refine q_getr dX7_find_6 fl_X7_16 rfl rfl ?_
    refine q_geti dX7_find_9 fl_X7_31 rfl rfl ?_
    refine q_icmp_ge 59 dX7_find_12 (by decide) (fun c12 => ?_) (fun c12 => ?_)
    · replace h := q_ift c12 h
      refine q_iconst (v := (-1)) dX7_find_59 (by decide) ?_
      exact q_ret dX7_find_60 rfl rfl (q_lfi h k)
    · replace h := q_iff c12 h
      refine q_aload_n dX7_find_15 rfl ?_
      refine q_getr dX7_find_16 fl_X7_20 rfl rfl ?_
      refine q_iload dX7_find_19 rfl ?_
      obtain ⟨g21, h⟩ := q_gd h
      refine q_iald dX7_find_21 rfl g21 ?_
      refine q_iload_n dX7_find_22 rfl ?_
      refine q_icmp_ne 53 dX7_find_23 (by decide) (fun c23 => ?_) (fun c23 => ?_)
      · replace h := q_iff c23 h
        refine q_iinc (v := (v4 + 1)) dX7_find_53 rfl rfl (by decide) ?_
        refine q_goto 3 dX7_find_56 (by decide) ?_
        exact q_sub (ih _ h) (And.intro rfl (And.intro rfl (And.intro rfl (And.intro rfl (And.intro rfl trivial)))))
      · replace h := q_ift c23 h
        refine q_aload_n dX7_find_26 rfl ?_
        refine q_getr dX7_find_27 fl_X7_24 rfl rfl ?_
        refine q_iload dX7_find_30 rfl ?_
        obtain ⟨g32, h⟩ := q_gd h
        refine q_iald dX7_find_32 rfl g32 ?_
        refine q_iload_n dX7_find_33 rfl ?_
        refine q_icmp_ne 53 dX7_find_34 (by decide) (fun c34 => ?_) (fun c34 => ?_)
        · replace h := q_iff c34 h
          refine q_iinc (v := (v4 + 1)) dX7_find_53 rfl rfl (by decide) ?_
          refine q_goto 3 dX7_find_56 (by decide) ?_
          exact q_sub (ih _ h) (And.intro rfl (And.intro rfl (And.intro rfl (And.intro rfl (And.intro rfl trivial)))))
        · replace h := q_ift c34 h
          refine q_aload_n dX7_find_37 rfl ?_
          refine q_getr dX7_find_38 fl_X7_16 rfl rfl ?_
          refine q_iload dX7_find_41 rfl ?_
          refine q_iload_n dX7_find_43 rfl ?_
          obtain ⟨r44, h44, h⟩ := q_bnd h
          refine q_callVi2 dX7_find_44 cl_X7_35 rfl (Nat.le_of_ble_eq_true rfl) (by omega) (sX5_isThere_10 (by omega) h44 ?_)
          refine q_if_eq_b 53 dX7_find_47 (by decide) (fun c47 => ?_) (fun c47 => ?_)
          · replace h := q_ifb c47 h
            refine q_iinc (v := (v4 + 1)) dX7_find_53 rfl rfl (by decide) ?_
            refine q_goto 3 dX7_find_56 (by decide) ?_
            exact q_sub (ih _ h) (And.intro rfl (And.intro rfl (And.intro rfl (And.intro rfl (And.intro rfl trivial)))))
          · replace h := q_ift c47 h
            refine q_iload dX7_find_50 rfl ?_
            exact q_ret dX7_find_52 rfl rfl (q_lfi h k)
def fX7_find (a1 a2 a3 : Int32) (S : qS) : Option Int32 := fX7_find_3 a1 a2 a3 20000 0 S
set_option maxHeartbeats 4000000 in
set_option maxRecDepth 100000 in
theorem sX7_find {l : Launch} {d : Nat} (hd : 1 ≤ d) {S : qS} {a1 a2 a3 : Int32} {r : Int32} (h : fX7_find a1 a2 a3 S = some r) {Q : Int32 → qS → Prop} (k : Q r S) : q_Mi l d yX7_find cX7_find 5 (some .int) [.inr 9, .inl a1, .inl a2, .inl a3] S Q := by
  refine q_Mi_of (own := RX7) rfl rfl [some (.inr 9), some (.inl a1), some (.inl a2), some (.inl a3), none] rfl (Nat.le_of_ble_eq_true rfl) ?_
  unfold fX7_find at h
  refine q_iconst (v := 0) dX7_find_0 (by decide) ?_
  refine q_istore dX7_find_1 (by decide) ?_
  exact q_sub (sX7_find_3 hd k 20000 _ h) (And.intro rfl (And.intro rfl (And.intro rfl (And.intro rfl (And.intro rfl trivial)))))
def fX7_hides (a1 a2 : Int32) (S : qS) : Option Bool := if q_inb a1 10 = true then if q_inb a2 10 = true then if (S 14 a1.toNatClampNeg) = (S 14 a2.toNatClampNeg) then if q_inb a1 10 = true then if (S 13 a1.toNatClampNeg) = 0 then some false else some true else none else if q_inb a1 10 = true then if q_inb a2 10 = true then (fX2_isLonger (S 14 a1.toNatClampNeg) (S 14 a2.toNatClampNeg) S).bind (fun r42 => some r42) else none else none else none else none
set_option maxHeartbeats 4000000 in
set_option maxRecDepth 100000 in
theorem sX7_hides {l : Launch} {d : Nat} (hd : 2 ≤ d) {S : qS} {a1 a2 : Int32} {r : Bool} (h : fX7_hides a1 a2 S = some r) {Q : Int32 → qS → Prop} (k : Q (q_b r) S) : q_Mi l d yX7_hides cX7_hides 3 (some .boolean) [.inr 9, .inl a1, .inl a2] S Q := by
  refine q_Mi_of (own := RX7) rfl rfl [some (.inr 9), some (.inl a1), some (.inl a2)] rfl (Nat.le_of_ble_eq_true rfl) ?_
  unfold fX7_hides at h
  refine q_aload_n dX7_hides_0 rfl ?_
  refine q_getr dX7_hides_1 fl_X7_24 rfl rfl ?_
  refine q_iload_n dX7_hides_4 rfl ?_
  obtain ⟨g5, h⟩ := q_gd h
  refine q_iald dX7_hides_5 rfl g5 ?_
  refine q_aload_n dX7_hides_6 rfl ?_
  refine q_getr dX7_hides_7 fl_X7_24 rfl rfl ?_
  refine q_iload_n dX7_hides_10 rfl ?_
  obtain ⟨g11, h⟩ := q_gd h
  refine q_iald dX7_hides_11 rfl g11 ?_
  refine q_icmp_ne 30 dX7_hides_12 (by decide) (fun c12 => ?_) (fun c12 => ?_)
  · replace h := q_iff c12 h
    refine q_aload_n dX7_hides_30 rfl ?_
    refine q_getr dX7_hides_31 fl_X7_24 rfl rfl ?_
    refine q_iload_n dX7_hides_34 rfl ?_
    obtain ⟨g35, h⟩ := q_gd h
    refine q_iald dX7_hides_35 rfl g35 ?_
    refine q_aload_n dX7_hides_36 rfl ?_
    refine q_getr dX7_hides_37 fl_X7_24 rfl rfl ?_
    refine q_iload_n dX7_hides_40 rfl ?_
    obtain ⟨g41, h⟩ := q_gd h
    refine q_iald dX7_hides_41 rfl g41 ?_
    obtain ⟨r42, h42, h⟩ := q_bnd h
    refine q_callSi2 dX7_hides_42 cl_X7_47 (Nat.le_of_ble_eq_true rfl) (by omega) (sX2_isLonger (by omega) h42 ?_)
    exact q_ret (v := q_b r42) dX7_hides_45 rfl (q_b_nar r42) (q_lfb h k)
  · replace h := q_ift c12 h
    refine q_aload_n dX7_hides_15 rfl ?_
    refine q_getr dX7_hides_16 fl_X7_20 rfl rfl ?_
    refine q_iload_n dX7_hides_19 rfl ?_
    obtain ⟨g20, h⟩ := q_gd h
    refine q_iald dX7_hides_20 rfl g20 ?_
    refine q_if_eq 28 dX7_hides_21 (by decide) (fun c21 => ?_) (fun c21 => ?_)
    · replace h := q_ift c21 h
      refine q_iconst (v := 0) dX7_hides_28 (by decide) ?_
      exact q_ret (v := q_b false) dX7_hides_29 rfl (q_b_nar false) (q_lfb h k)
    · replace h := q_iff c21 h
      refine q_iconst (v := 1) dX7_hides_24 (by decide) ?_
      refine q_goto 29 dX7_hides_25 (by decide) ?_
      exact q_ret (v := q_b true) dX7_hides_29 rfl (q_b_nar true) (q_lfb h k)
def fX7_responsible_6 (p1 p2 p3 : Int32) : Nat → Int32 → Int32 → qS → Option Int32
  | 0, _, _, _ => none
  | n + 1, v4, v5, S => if (S 10 3) ≤ v5 then some v4 else if q_inb v5 10 = true then if (S 13 v5.toNatClampNeg) = p1 then if q_inb v5 10 = true then (fX2_isAt p2 (S 14 v5.toNatClampNeg) S).bind (fun r59 => if r59 = true then (fX5_isThere_10 v5 p3 S).bind (fun r72 => if r72 = true then if v4 = (-1) then fX7_responsible_6 p1 p2 p3 n v5 (v5 + 1) S else (fX7_hides v5 v4 S).bind (fun r89 => if r89 = true then fX7_responsible_6 p1 p2 p3 n v5 (v5 + 1) S else fX7_responsible_6 p1 p2 p3 n v4 (v5 + 1) S) else fX7_responsible_6 p1 p2 p3 n v4 (v5 + 1) S) else fX7_responsible_6 p1 p2 p3 n v4 (v5 + 1) S) else none else if q_inb v5 10 = true then if (S 13 v5.toNatClampNeg) = 0 then if q_inb v5 10 = true then (fX2_isAt p2 (S 14 v5.toNatClampNeg) S).bind (fun r59 => if r59 = true then (fX5_isThere_10 v5 p3 S).bind (fun r72 => if r72 = true then if v4 = (-1) then fX7_responsible_6 p1 p2 p3 n v5 (v5 + 1) S else (fX7_hides v5 v4 S).bind (fun r89 => if r89 = true then fX7_responsible_6 p1 p2 p3 n v5 (v5 + 1) S else fX7_responsible_6 p1 p2 p3 n v4 (v5 + 1) S) else fX7_responsible_6 p1 p2 p3 n v4 (v5 + 1) S) else fX7_responsible_6 p1 p2 p3 n v4 (v5 + 1) S) else none else fX7_responsible_6 p1 p2 p3 n v4 (v5 + 1) S else none else none
set_option maxHeartbeats 4000000 in
set_option maxRecDepth 100000 in
theorem sX7_responsible_6 {l : Launch} {d : Nat} (hd : 3 ≤ d) {S : qS} {p1 p2 p3 : Int32} {r : Int32} {Q : Int32 → qS → Prop} (k : Q r S) : ∀ (n : Nat) (v4 : Int32) (v5 : Int32), fX7_responsible_6 p1 p2 p3 n v4 v5 S = some r → q_E l cX7_responsible 7 (some .int) RX7 d S 6 [some (.inr 9), some (.inl p1), some (.inl p2), some (.inl p3), some (.inl v4), some (.inl v5), none] [] (q_Qi Q) := by
  intro n
  induction n with
  | zero => intro v4 v5 h; exact q_no h
  | succ n ih =>
    intro v4 v5 h
    rw [fX7_responsible_6] at h
    refine q_iload dX7_responsible_6 rfl ?_
    refine q_aload_n dX7_responsible_8 rfl ?_
    refine q_getr dX7_responsible_9 fl_X7_16 rfl rfl ?_
    refine q_geti dX7_responsible_12 fl_X7_31 rfl rfl ?_
    refine q_icmp_ge 105 dX7_responsible_15 (by decide) (fun c15 => ?_) (fun c15 => ?_)
    · replace h := q_ift c15 h
      refine q_iload dX7_responsible_105 rfl ?_
      exact q_ret dX7_responsible_107 rfl rfl (q_lfi h k)
    · replace h := q_iff c15 h
      refine q_aload_n dX7_responsible_18 rfl ?_
      refine q_getr dX7_responsible_19 fl_X7_20 rfl rfl ?_
      refine q_iload dX7_responsible_22 rfl ?_
      obtain ⟨g24, h⟩ := q_gd h
      refine q_iald dX7_responsible_24 rfl g24 ?_
      refine q_iload_n dX7_responsible_25 rfl ?_
      refine q_icmp_eq 39 dX7_responsible_26 (by decide) (fun c26 => ?_) (fun c26 => ?_)
      · replace h := q_ift c26 h
        refine q_iconst (v := 1) dX7_responsible_39 (by decide) ?_
        refine q_goto 44 dX7_responsible_40 (by decide) ?_
        refine q_istore dX7_responsible_44 (by decide) ?_
        refine q_iload dX7_responsible_46 rfl ?_
        refine q_if_eq 99 dX7_responsible_48 (by decide) (fun c => absurd c (by decide)) (fun _ => ?_)
        refine q_iload_n dX7_responsible_51 rfl ?_
        refine q_aload_n dX7_responsible_52 rfl ?_
        refine q_getr dX7_responsible_53 fl_X7_24 rfl rfl ?_
        refine q_iload dX7_responsible_56 rfl ?_
        obtain ⟨g58, h⟩ := q_gd h
        refine q_iald dX7_responsible_58 rfl g58 ?_
        obtain ⟨r59, h59, h⟩ := q_bnd h
        refine q_callSi2 dX7_responsible_59 cl_X7_39 (Nat.le_of_ble_eq_true rfl) (by omega) (sX2_isAt (by omega) h59 ?_)
        refine q_if_eq_b 99 dX7_responsible_62 (by decide) (fun c62 => ?_) (fun c62 => ?_)
        · replace h := q_ifb c62 h
          refine q_iinc (v := (v5 + 1)) dX7_responsible_99 rfl rfl (by decide) ?_
          refine q_goto 6 dX7_responsible_102 (by decide) ?_
          exact q_sub (ih _ _ h) (And.intro rfl (And.intro rfl (And.intro rfl (And.intro rfl (And.intro rfl (And.intro rfl trivial))))))
        · replace h := q_ift c62 h
          refine q_aload_n dX7_responsible_65 rfl ?_
          refine q_getr dX7_responsible_66 fl_X7_16 rfl rfl ?_
          refine q_iload dX7_responsible_69 rfl ?_
          refine q_iload_n dX7_responsible_71 rfl ?_
          obtain ⟨r72, h72, h⟩ := q_bnd h
          refine q_callVi2 dX7_responsible_72 cl_X7_35 rfl (Nat.le_of_ble_eq_true rfl) (by omega) (sX5_isThere_10 (by omega) h72 ?_)
          refine q_if_eq_b 99 dX7_responsible_75 (by decide) (fun c75 => ?_) (fun c75 => ?_)
          · replace h := q_ifb c75 h
            refine q_iinc (v := (v5 + 1)) dX7_responsible_99 rfl rfl (by decide) ?_
            refine q_goto 6 dX7_responsible_102 (by decide) ?_
            exact q_sub (ih _ _ h) (And.intro rfl (And.intro rfl (And.intro rfl (And.intro rfl (And.intro rfl (And.intro rfl trivial))))))
          · replace h := q_ift c75 h
            refine q_iload dX7_responsible_78 rfl ?_
            refine q_iconst (v := (-1)) dX7_responsible_80 (by decide) ?_
            refine q_icmp_eq 95 dX7_responsible_81 (by decide) (fun c81 => ?_) (fun c81 => ?_)
            · replace h := q_ift c81 h
              refine q_iload dX7_responsible_95 rfl ?_
              refine q_istore dX7_responsible_97 (by decide) ?_
              refine q_iinc (v := (v5 + 1)) dX7_responsible_99 rfl rfl (by decide) ?_
              refine q_goto 6 dX7_responsible_102 (by decide) ?_
              exact q_sub (ih _ _ h) (And.intro rfl (And.intro rfl (And.intro rfl (And.intro rfl (And.intro rfl (And.intro rfl trivial))))))
            · replace h := q_iff c81 h
              refine q_aload_n dX7_responsible_84 rfl ?_
              refine q_iload dX7_responsible_85 rfl ?_
              refine q_iload dX7_responsible_87 rfl ?_
              obtain ⟨r89, h89, h⟩ := q_bnd h
              refine q_callVi2 dX7_responsible_89 cl_X7_44 rfl (Nat.le_of_ble_eq_true rfl) (by omega) (sX7_hides (by omega) h89 ?_)
              refine q_if_eq_b 99 dX7_responsible_92 (by decide) (fun c92 => ?_) (fun c92 => ?_)
              · replace h := q_ifb c92 h
                refine q_iinc (v := (v5 + 1)) dX7_responsible_99 rfl rfl (by decide) ?_
                refine q_goto 6 dX7_responsible_102 (by decide) ?_
                exact q_sub (ih _ _ h) (And.intro rfl (And.intro rfl (And.intro rfl (And.intro rfl (And.intro rfl (And.intro rfl trivial))))))
              · replace h := q_ift c92 h
                refine q_iload dX7_responsible_95 rfl ?_
                refine q_istore dX7_responsible_97 (by decide) ?_
                refine q_iinc (v := (v5 + 1)) dX7_responsible_99 rfl rfl (by decide) ?_
                refine q_goto 6 dX7_responsible_102 (by decide) ?_
                exact q_sub (ih _ _ h) (And.intro rfl (And.intro rfl (And.intro rfl (And.intro rfl (And.intro rfl (And.intro rfl trivial))))))
      · replace h := q_iff c26 h
        refine q_aload_n dX7_responsible_29 rfl ?_
        refine q_getr dX7_responsible_30 fl_X7_20 rfl rfl ?_
        refine q_iload dX7_responsible_33 rfl ?_
        obtain ⟨g35, h⟩ := q_gd h
        refine q_iald dX7_responsible_35 rfl g35 ?_
        refine q_if_ne 43 dX7_responsible_36 (by decide) (fun c36 => ?_) (fun c36 => ?_)
        · replace h := q_iff c36 h
          refine q_iconst (v := 0) dX7_responsible_43 (by decide) ?_
          refine q_istore dX7_responsible_44 (by decide) ?_
          refine q_iload dX7_responsible_46 rfl ?_
          refine q_if_eq 99 dX7_responsible_48 (by decide) (fun _ => ?_) (fun c => absurd c (by decide))
          refine q_iinc (v := (v5 + 1)) dX7_responsible_99 rfl rfl (by decide) ?_
          refine q_goto 6 dX7_responsible_102 (by decide) ?_
          exact q_sub (ih _ _ h) (And.intro rfl (And.intro rfl (And.intro rfl (And.intro rfl (And.intro rfl (And.intro rfl trivial))))))
        · replace h := q_ift c36 h
          refine q_iconst (v := 1) dX7_responsible_39 (by decide) ?_
          refine q_goto 44 dX7_responsible_40 (by decide) ?_
          refine q_istore dX7_responsible_44 (by decide) ?_
          refine q_iload dX7_responsible_46 rfl ?_
          refine q_if_eq 99 dX7_responsible_48 (by decide) (fun c => absurd c (by decide)) (fun _ => ?_)
          refine q_iload_n dX7_responsible_51 rfl ?_
          refine q_aload_n dX7_responsible_52 rfl ?_
          refine q_getr dX7_responsible_53 fl_X7_24 rfl rfl ?_
          refine q_iload dX7_responsible_56 rfl ?_
          obtain ⟨g58, h⟩ := q_gd h
          refine q_iald dX7_responsible_58 rfl g58 ?_
          obtain ⟨r59, h59, h⟩ := q_bnd h
          refine q_callSi2 dX7_responsible_59 cl_X7_39 (Nat.le_of_ble_eq_true rfl) (by omega) (sX2_isAt (by omega) h59 ?_)
          refine q_if_eq_b 99 dX7_responsible_62 (by decide) (fun c62 => ?_) (fun c62 => ?_)
          · replace h := q_ifb c62 h
            refine q_iinc (v := (v5 + 1)) dX7_responsible_99 rfl rfl (by decide) ?_
            refine q_goto 6 dX7_responsible_102 (by decide) ?_
            exact q_sub (ih _ _ h) (And.intro rfl (And.intro rfl (And.intro rfl (And.intro rfl (And.intro rfl (And.intro rfl trivial))))))
          · replace h := q_ift c62 h
            refine q_aload_n dX7_responsible_65 rfl ?_
            refine q_getr dX7_responsible_66 fl_X7_16 rfl rfl ?_
            refine q_iload dX7_responsible_69 rfl ?_
            refine q_iload_n dX7_responsible_71 rfl ?_
            obtain ⟨r72, h72, h⟩ := q_bnd h
            refine q_callVi2 dX7_responsible_72 cl_X7_35 rfl (Nat.le_of_ble_eq_true rfl) (by omega) (sX5_isThere_10 (by omega) h72 ?_)
            refine q_if_eq_b 99 dX7_responsible_75 (by decide) (fun c75 => ?_) (fun c75 => ?_)
            · replace h := q_ifb c75 h
              refine q_iinc (v := (v5 + 1)) dX7_responsible_99 rfl rfl (by decide) ?_
              refine q_goto 6 dX7_responsible_102 (by decide) ?_
              exact q_sub (ih _ _ h) (And.intro rfl (And.intro rfl (And.intro rfl (And.intro rfl (And.intro rfl (And.intro rfl trivial))))))
            · replace h := q_ift c75 h
              refine q_iload dX7_responsible_78 rfl ?_
              refine q_iconst (v := (-1)) dX7_responsible_80 (by decide) ?_
              refine q_icmp_eq 95 dX7_responsible_81 (by decide) (fun c81 => ?_) (fun c81 => ?_)
              · replace h := q_ift c81 h
                refine q_iload dX7_responsible_95 rfl ?_
                refine q_istore dX7_responsible_97 (by decide) ?_
                refine q_iinc (v := (v5 + 1)) dX7_responsible_99 rfl rfl (by decide) ?_
                refine q_goto 6 dX7_responsible_102 (by decide) ?_
                exact q_sub (ih _ _ h) (And.intro rfl (And.intro rfl (And.intro rfl (And.intro rfl (And.intro rfl (And.intro rfl trivial))))))
              · replace h := q_iff c81 h
                refine q_aload_n dX7_responsible_84 rfl ?_
                refine q_iload dX7_responsible_85 rfl ?_
                refine q_iload dX7_responsible_87 rfl ?_
                obtain ⟨r89, h89, h⟩ := q_bnd h
                refine q_callVi2 dX7_responsible_89 cl_X7_44 rfl (Nat.le_of_ble_eq_true rfl) (by omega) (sX7_hides (by omega) h89 ?_)
                refine q_if_eq_b 99 dX7_responsible_92 (by decide) (fun c92 => ?_) (fun c92 => ?_)
                · replace h := q_ifb c92 h
                  refine q_iinc (v := (v5 + 1)) dX7_responsible_99 rfl rfl (by decide) ?_
                  refine q_goto 6 dX7_responsible_102 (by decide) ?_
                  exact q_sub (ih _ _ h) (And.intro rfl (And.intro rfl (And.intro rfl (And.intro rfl (And.intro rfl (And.intro rfl trivial))))))
                · replace h := q_ift c92 h
                  refine q_iload dX7_responsible_95 rfl ?_
                  refine q_istore dX7_responsible_97 (by decide) ?_
                  refine q_iinc (v := (v5 + 1)) dX7_responsible_99 rfl rfl (by decide) ?_
                  refine q_goto 6 dX7_responsible_102 (by decide) ?_
                  exact q_sub (ih _ _ h) (And.intro rfl (And.intro rfl (And.intro rfl (And.intro rfl (And.intro rfl (And.intro rfl trivial))))))
def fX7_responsible (a1 a2 a3 : Int32) (S : qS) : Option Int32 := fX7_responsible_6 a1 a2 a3 20000 (-1) 0 S
set_option maxHeartbeats 4000000 in
set_option maxRecDepth 100000 in
theorem sX7_responsible {l : Launch} {d : Nat} (hd : 3 ≤ d) {S : qS} {a1 a2 a3 : Int32} {r : Int32} (h : fX7_responsible a1 a2 a3 S = some r) {Q : Int32 → qS → Prop} (k : Q r S) : q_Mi l d yX7_responsible cX7_responsible 7 (some .int) [.inr 9, .inl a1, .inl a2, .inl a3] S Q := by
  refine q_Mi_of (own := RX7) rfl rfl [some (.inr 9), some (.inl a1), some (.inl a2), some (.inl a3), none, none, none] rfl (Nat.le_of_ble_eq_true rfl) ?_
  unfold fX7_responsible at h
  refine q_iconst (v := (-1)) dX7_responsible_0 (by decide) ?_
  refine q_istore dX7_responsible_1 (by decide) ?_
  refine q_iconst (v := 0) dX7_responsible_3 (by decide) ?_
  refine q_istore dX7_responsible_4 (by decide) ?_
  exact q_sub (sX7_responsible_6 hd k 20000 _ _ h) (And.intro rfl (And.intro rfl (And.intro rfl (And.intro rfl (And.intro rfl (And.intro rfl trivial))))))
def fX4_find_3 (p1 p2 p3 p4 : Int32) : Nat → Int32 → qS → Option Int32
  | 0, _, _ => none
  | n + 1, v5, S => if (S 16 3) ≤ v5 then some (-1) else if q_inb v5 70 = true then if (S 20 v5.toNatClampNeg) = p2 then if q_inb v5 70 = true then if (S 21 v5.toNatClampNeg) = p3 then if q_inb v5 70 = true then if (S 19 v5.toNatClampNeg) = p1 then (fX5_isThere_16 v5 p4 S).bind (fun r56 => if r56 = true then some v5 else fX4_find_3 p1 p2 p3 p4 n (v5 + 1) S) else fX4_find_3 p1 p2 p3 p4 n (v5 + 1) S else none else fX4_find_3 p1 p2 p3 p4 n (v5 + 1) S else none else fX4_find_3 p1 p2 p3 p4 n (v5 + 1) S else none
set_option maxHeartbeats 4000000 in
set_option maxRecDepth 100000 in
theorem sX4_find_3 {l : Launch} {d : Nat} (hd : 1 ≤ d) {S : qS} {p1 p2 p3 p4 : Int32} {r : Int32} {Q : Int32 → qS → Prop} (k : Q r S) : ∀ (n : Nat) (v5 : Int32), fX4_find_3 p1 p2 p3 p4 n v5 S = some r → q_E l cX4_find 6 (some .int) RX4 d S 3 [some (.inr 15), some (.inl p1), some (.inl p2), some (.inl p3), some (.inl p4), some (.inl v5)] [] (q_Qi Q) := by
  intro n
  induction n with
  | zero => intro v5 h; exact q_no h
  | succ n ih =>
    intro v5 h
    rw [fX4_find_3] at h
    refine q_iload dX4_find_3 rfl ?_
    refine q_aload_n dX4_find_5 rfl ?_
    refine q_getr dX4_find_6 fl_X4_16 rfl rfl ?_
    refine q_geti dX4_find_9 fl_X4_33 rfl rfl ?_
    refine q_icmp_ge 71 dX4_find_12 (by decide) (fun c12 => ?_) (fun c12 => ?_)
    · replace h := q_ift c12 h
      refine q_iconst (v := (-1)) dX4_find_71 (by decide) ?_
      exact q_ret dX4_find_72 rfl rfl (q_lfi h k)
    · replace h := q_iff c12 h
      refine q_aload_n dX4_find_15 rfl ?_
      refine q_getr dX4_find_16 fl_X4_24 rfl rfl ?_
      refine q_iload dX4_find_19 rfl ?_
      obtain ⟨g21, h⟩ := q_gd h
      refine q_iald dX4_find_21 rfl g21 ?_
      refine q_iload_n dX4_find_22 rfl ?_
      refine q_icmp_ne 65 dX4_find_23 (by decide) (fun c23 => ?_) (fun c23 => ?_)
      · replace h := q_iff c23 h
        refine q_iinc (v := (v5 + 1)) dX4_find_65 rfl rfl (by decide) ?_
        refine q_goto 3 dX4_find_68 (by decide) ?_
        exact q_sub (ih _ h) (And.intro rfl (And.intro rfl (And.intro rfl (And.intro rfl (And.intro rfl (And.intro rfl trivial))))))
      · replace h := q_ift c23 h
        refine q_aload_n dX4_find_26 rfl ?_
        refine q_getr dX4_find_27 fl_X4_27 rfl rfl ?_
        refine q_iload dX4_find_30 rfl ?_
        obtain ⟨g32, h⟩ := q_gd h
        refine q_iald dX4_find_32 rfl g32 ?_
        refine q_iload_n dX4_find_33 rfl ?_
        refine q_icmp_ne 65 dX4_find_34 (by decide) (fun c34 => ?_) (fun c34 => ?_)
        · replace h := q_iff c34 h
          refine q_iinc (v := (v5 + 1)) dX4_find_65 rfl rfl (by decide) ?_
          refine q_goto 3 dX4_find_68 (by decide) ?_
          exact q_sub (ih _ h) (And.intro rfl (And.intro rfl (And.intro rfl (And.intro rfl (And.intro rfl (And.intro rfl trivial))))))
        · replace h := q_ift c34 h
          refine q_aload_n dX4_find_37 rfl ?_
          refine q_getr dX4_find_38 fl_X4_20 rfl rfl ?_
          refine q_iload dX4_find_41 rfl ?_
          obtain ⟨g43, h⟩ := q_gd h
          refine q_iald dX4_find_43 rfl g43 ?_
          refine q_iload_n dX4_find_44 rfl ?_
          refine q_icmp_ne 65 dX4_find_45 (by decide) (fun c45 => ?_) (fun c45 => ?_)
          · replace h := q_iff c45 h
            refine q_iinc (v := (v5 + 1)) dX4_find_65 rfl rfl (by decide) ?_
            refine q_goto 3 dX4_find_68 (by decide) ?_
            exact q_sub (ih _ h) (And.intro rfl (And.intro rfl (And.intro rfl (And.intro rfl (And.intro rfl (And.intro rfl trivial))))))
          · replace h := q_ift c45 h
            refine q_aload_n dX4_find_48 rfl ?_
            refine q_getr dX4_find_49 fl_X4_16 rfl rfl ?_
            refine q_iload dX4_find_52 rfl ?_
            refine q_iload dX4_find_54 rfl ?_
            obtain ⟨r56, h56, h⟩ := q_bnd h
            refine q_callVi2 dX4_find_56 cl_X4_37 rfl (Nat.le_of_ble_eq_true rfl) (by omega) (sX5_isThere_16 (by omega) h56 ?_)
            refine q_if_eq_b 65 dX4_find_59 (by decide) (fun c59 => ?_) (fun c59 => ?_)
            · replace h := q_ifb c59 h
              refine q_iinc (v := (v5 + 1)) dX4_find_65 rfl rfl (by decide) ?_
              refine q_goto 3 dX4_find_68 (by decide) ?_
              exact q_sub (ih _ h) (And.intro rfl (And.intro rfl (And.intro rfl (And.intro rfl (And.intro rfl (And.intro rfl trivial))))))
            · replace h := q_ift c59 h
              refine q_iload dX4_find_62 rfl ?_
              exact q_ret dX4_find_64 rfl rfl (q_lfi h k)
def fX4_find (a1 a2 a3 a4 : Int32) (S : qS) : Option Int32 := fX4_find_3 a1 a2 a3 a4 20000 0 S
set_option maxHeartbeats 4000000 in
set_option maxRecDepth 100000 in
theorem sX4_find {l : Launch} {d : Nat} (hd : 1 ≤ d) {S : qS} {a1 a2 a3 a4 : Int32} {r : Int32} (h : fX4_find a1 a2 a3 a4 S = some r) {Q : Int32 → qS → Prop} (k : Q r S) : q_Mi l d yX4_find cX4_find 6 (some .int) [.inr 15, .inl a1, .inl a2, .inl a3, .inl a4] S Q := by
  refine q_Mi_of (own := RX4) rfl rfl [some (.inr 15), some (.inl a1), some (.inl a2), some (.inl a3), some (.inl a4), none] rfl (Nat.le_of_ble_eq_true rfl) ?_
  unfold fX4_find at h
  refine q_iconst (v := 0) dX4_find_0 (by decide) ?_
  refine q_istore dX4_find_1 (by decide) ?_
  exact q_sub (sX4_find_3 hd k 20000 _ h) (And.intro rfl (And.intro rfl (And.intro rfl (And.intro rfl (And.intro rfl (And.intro rfl trivial))))))
def fX4_exists_3 (p1 p2 p3 : Int32) : Nat → Int32 → qS → Option Bool
  | 0, _, _ => none
  | n + 1, v4, S => if (S 16 3) ≤ v4 then some false else if q_inb v4 70 = true then if (S 19 v4.toNatClampNeg) = p1 then if q_inb v4 70 = true then (fX2_isAt (S 20 v4.toNatClampNeg) p2 S).bind (fun r34 => if r34 = true then (fX5_isThere_16 v4 p3 S).bind (fun r47 => if r47 = true then some true else fX4_exists_3 p1 p2 p3 n (v4 + 1) S) else fX4_exists_3 p1 p2 p3 n (v4 + 1) S) else none else fX4_exists_3 p1 p2 p3 n (v4 + 1) S else none
set_option maxHeartbeats 4000000 in
set_option maxRecDepth 100000 in
theorem sX4_exists_3 {l : Launch} {d : Nat} (hd : 1 ≤ d) {S : qS} {p1 p2 p3 : Int32} {r : Bool} {Q : Int32 → qS → Prop} (k : Q (q_b r) S) : ∀ (n : Nat) (v4 : Int32), fX4_exists_3 p1 p2 p3 n v4 S = some r → q_E l cX4_exists 5 (some .boolean) RX4 d S 3 [some (.inr 15), some (.inl p1), some (.inl p2), some (.inl p3), some (.inl v4)] [] (q_Qi Q) := by
  intro n
  induction n with
  | zero => intro v4 h; exact q_no h
  | succ n ih =>
    intro v4 h
    rw [fX4_exists_3] at h
    refine q_iload dX4_exists_3 rfl ?_
    refine q_aload_n dX4_exists_5 rfl ?_
    refine q_getr dX4_exists_6 fl_X4_16 rfl rfl ?_
    refine q_geti dX4_exists_9 fl_X4_33 rfl rfl ?_
    refine q_icmp_ge 61 dX4_exists_12 (by decide) (fun c12 => ?_) (fun c12 => ?_)
    · replace h := q_ift c12 h
      refine q_iconst (v := 0) dX4_exists_61 (by decide) ?_
      exact q_ret (v := q_b false) dX4_exists_62 rfl (q_b_nar false) (q_lfb h k)
    · replace h := q_iff c12 h
      refine q_aload_n dX4_exists_15 rfl ?_
      refine q_getr dX4_exists_16 fl_X4_20 rfl rfl ?_
      refine q_iload dX4_exists_19 rfl ?_
      obtain ⟨g21, h⟩ := q_gd h
      refine q_iald dX4_exists_21 rfl g21 ?_
      refine q_iload_n dX4_exists_22 rfl ?_
      refine q_icmp_ne 55 dX4_exists_23 (by decide) (fun c23 => ?_) (fun c23 => ?_)
      · replace h := q_iff c23 h
        refine q_iinc (v := (v4 + 1)) dX4_exists_55 rfl rfl (by decide) ?_
        refine q_goto 3 dX4_exists_58 (by decide) ?_
        exact q_sub (ih _ h) (And.intro rfl (And.intro rfl (And.intro rfl (And.intro rfl (And.intro rfl trivial)))))
      · replace h := q_ift c23 h
        refine q_aload_n dX4_exists_26 rfl ?_
        refine q_getr dX4_exists_27 fl_X4_24 rfl rfl ?_
        refine q_iload dX4_exists_30 rfl ?_
        obtain ⟨g32, h⟩ := q_gd h
        refine q_iald dX4_exists_32 rfl g32 ?_
        refine q_iload_n dX4_exists_33 rfl ?_
        obtain ⟨r34, h34, h⟩ := q_bnd h
        refine q_callSi2 dX4_exists_34 cl_X4_41 (Nat.le_of_ble_eq_true rfl) (by omega) (sX2_isAt (by omega) h34 ?_)
        refine q_if_eq_b 55 dX4_exists_37 (by decide) (fun c37 => ?_) (fun c37 => ?_)
        · replace h := q_ifb c37 h
          refine q_iinc (v := (v4 + 1)) dX4_exists_55 rfl rfl (by decide) ?_
          refine q_goto 3 dX4_exists_58 (by decide) ?_
          exact q_sub (ih _ h) (And.intro rfl (And.intro rfl (And.intro rfl (And.intro rfl (And.intro rfl trivial)))))
        · replace h := q_ift c37 h
          refine q_aload_n dX4_exists_40 rfl ?_
          refine q_getr dX4_exists_41 fl_X4_16 rfl rfl ?_
          refine q_iload dX4_exists_44 rfl ?_
          refine q_iload_n dX4_exists_46 rfl ?_
          obtain ⟨r47, h47, h⟩ := q_bnd h
          refine q_callVi2 dX4_exists_47 cl_X4_37 rfl (Nat.le_of_ble_eq_true rfl) (by omega) (sX5_isThere_16 (by omega) h47 ?_)
          refine q_if_eq_b 55 dX4_exists_50 (by decide) (fun c50 => ?_) (fun c50 => ?_)
          · replace h := q_ifb c50 h
            refine q_iinc (v := (v4 + 1)) dX4_exists_55 rfl rfl (by decide) ?_
            refine q_goto 3 dX4_exists_58 (by decide) ?_
            exact q_sub (ih _ h) (And.intro rfl (And.intro rfl (And.intro rfl (And.intro rfl (And.intro rfl trivial)))))
          · replace h := q_ift c50 h
            refine q_iconst (v := 1) dX4_exists_53 (by decide) ?_
            exact q_ret (v := q_b true) dX4_exists_54 rfl (q_b_nar true) (q_lfb h k)
def fX4_exists (a1 a2 a3 : Int32) (S : qS) : Option Bool := fX4_exists_3 a1 a2 a3 20000 0 S
set_option maxHeartbeats 4000000 in
set_option maxRecDepth 100000 in
theorem sX4_exists {l : Launch} {d : Nat} (hd : 1 ≤ d) {S : qS} {a1 a2 a3 : Int32} {r : Bool} (h : fX4_exists a1 a2 a3 S = some r) {Q : Int32 → qS → Prop} (k : Q (q_b r) S) : q_Mi l d yX4_exists cX4_exists 5 (some .boolean) [.inr 15, .inl a1, .inl a2, .inl a3] S Q := by
  refine q_Mi_of (own := RX4) rfl rfl [some (.inr 15), some (.inl a1), some (.inl a2), some (.inl a3), none] rfl (Nat.le_of_ble_eq_true rfl) ?_
  unfold fX4_exists at h
  refine q_iconst (v := 0) dX4_exists_0 (by decide) ?_
  refine q_istore dX4_exists_1 (by decide) ?_
  exact q_sub (sX4_exists_3 hd k 20000 _ h) (And.intro rfl (And.intro rfl (And.intro rfl (And.intro rfl (And.intro rfl trivial)))))
def fX4_note (a1 a2 a3 a4 a5 : Int32) (S : qS) : Option (Int32 × qS) := (fX5_begin_16 a5 S).bind (fun (r6, T6) => if r6 = (-1) then some (r6, T6) else if q_inb r6 70 = true then if q_inb r6 70 = true then if q_inb r6 70 = true then if q_inb r6 70 = true then some (r6, (q_up (q_up (q_up (q_up T6 19 r6.toNatClampNeg a1) 20 r6.toNatClampNeg a2) 21 r6.toNatClampNeg a3) 22 r6.toNatClampNeg a4)) else none else none else none else none)
set_option maxHeartbeats 4000000 in
set_option maxRecDepth 100000 in
theorem sX4_note {l : Launch} {d : Nat} (hd : 2 ≤ d) {S : qS} {a1 a2 a3 a4 a5 : Int32} {r : Int32} {S' : qS} (h : fX4_note a1 a2 a3 a4 a5 S = some (r, S')) {Q : Int32 → qS → Prop} (k : Q r S') : q_Mi l d yX4_note cX4_note 7 (some .int) [.inr 15, .inl a1, .inl a2, .inl a3, .inl a4, .inl a5] S Q := by
  refine q_Mi_of (own := RX4) rfl rfl [some (.inr 15), some (.inl a1), some (.inl a2), some (.inl a3), some (.inl a4), some (.inl a5), none] rfl (Nat.le_of_ble_eq_true rfl) ?_
  unfold fX4_note at h
  refine q_aload_n dX4_note_0 rfl ?_
  refine q_getr dX4_note_1 fl_X4_16 rfl rfl ?_
  refine q_iload dX4_note_4 rfl ?_
  obtain ⟨⟨r6, T6⟩, h6, h⟩ := q_bnd h
  dsimp only at h
  refine q_callVi1 dX4_note_6 cl_X4_62 rfl (Nat.le_of_ble_eq_true rfl) (by omega) (sX5_begin_16 (by omega) h6 ?_)
  refine q_istore dX4_note_9 (by decide) ?_
  refine q_iload dX4_note_11 rfl ?_
  refine q_iconst (v := (-1)) dX4_note_13 (by decide) ?_
  refine q_icmp_eq 50 dX4_note_14 (by decide) (fun c14 => ?_) (fun c14 => ?_)
  · replace h := q_ift c14 h
    refine q_iload dX4_note_50 rfl ?_
    exact q_ret dX4_note_52 rfl rfl (q_lfiw h k)
  · replace h := q_iff c14 h
    refine q_aload_n dX4_note_17 rfl ?_
    refine q_getr dX4_note_18 fl_X4_20 rfl rfl ?_
    refine q_iload dX4_note_21 rfl ?_
    refine q_iload_n dX4_note_23 rfl ?_
    obtain ⟨g24, h⟩ := q_gd h
    refine q_iast dX4_note_24 rfl g24 ?_
    refine q_aload_n dX4_note_25 rfl ?_
    refine q_getr dX4_note_26 fl_X4_24 rfl rfl ?_
    refine q_iload dX4_note_29 rfl ?_
    refine q_iload_n dX4_note_31 rfl ?_
    obtain ⟨g32, h⟩ := q_gd h
    refine q_iast dX4_note_32 rfl g32 ?_
    refine q_aload_n dX4_note_33 rfl ?_
    refine q_getr dX4_note_34 fl_X4_27 rfl rfl ?_
    refine q_iload dX4_note_37 rfl ?_
    refine q_iload_n dX4_note_39 rfl ?_
    obtain ⟨g40, h⟩ := q_gd h
    refine q_iast dX4_note_40 rfl g40 ?_
    refine q_aload_n dX4_note_41 rfl ?_
    refine q_getr dX4_note_42 fl_X4_30 rfl rfl ?_
    refine q_iload dX4_note_45 rfl ?_
    refine q_iload dX4_note_47 rfl ?_
    obtain ⟨g49, h⟩ := q_gd h
    refine q_iast dX4_note_49 rfl g49 ?_
    refine q_iload dX4_note_50 rfl ?_
    exact q_ret dX4_note_52 rfl rfl (q_lfiw h k)
def fX4_put (a1 a2 a3 a4 a5 : Int32) (S : qS) : Option qS := (fX4_find a1 a2 a3 a5 S).bind (fun r10 => (fX5_end_16 r10 a5 S).bind (fun T15 => (fX4_note a1 a2 a3 a4 a5 T15).bind (fun (r26, T26) => some T26)))
set_option maxHeartbeats 4000000 in
set_option maxRecDepth 100000 in
theorem sX4_put {l : Launch} {d : Nat} (hd : 3 ≤ d) {S : qS} {a1 a2 a3 a4 a5 : Int32} {S' : qS} (h : fX4_put a1 a2 a3 a4 a5 S = some S') {Q : qS → Prop} (k : Q S') : q_Mv l d yX4_put cX4_put 6 none [.inr 15, .inl a1, .inl a2, .inl a3, .inl a4, .inl a5] S Q := by
  refine q_Mv_of (own := RX4) rfl rfl [some (.inr 15), some (.inl a1), some (.inl a2), some (.inl a3), some (.inl a4), some (.inl a5)] rfl (Nat.le_of_ble_eq_true rfl) ?_
  unfold fX4_put at h
  refine q_aload_n dX4_put_0 rfl ?_
  refine q_getr dX4_put_1 fl_X4_16 rfl rfl ?_
  refine q_aload_n dX4_put_4 rfl ?_
  refine q_iload_n dX4_put_5 rfl ?_
  refine q_iload_n dX4_put_6 rfl ?_
  refine q_iload_n dX4_put_7 rfl ?_
  refine q_iload dX4_put_8 rfl ?_
  obtain ⟨r10, h10, h⟩ := q_bnd h
  refine q_callVi4 dX4_put_10 cl_X4_46 rfl (Nat.le_of_ble_eq_true rfl) (by omega) (sX4_find (by omega) h10 ?_)
  refine q_iload dX4_put_13 rfl ?_
  obtain ⟨T15, h15, h⟩ := q_bnd h
  refine q_callVv2 dX4_put_15 cl_X4_50 rfl (Nat.le_of_ble_eq_true rfl) (by omega) (sX5_end_16 (by omega) h15 ?_)
  refine q_aload_n dX4_put_18 rfl ?_
  refine q_iload_n dX4_put_19 rfl ?_
  refine q_iload_n dX4_put_20 rfl ?_
  refine q_iload_n dX4_put_21 rfl ?_
  refine q_iload dX4_put_22 rfl ?_
  refine q_iload dX4_put_24 rfl ?_
  obtain ⟨⟨r26, T26⟩, h26, h⟩ := q_bnd h
  dsimp only at h
  refine q_callVi5 dX4_put_26 cl_X4_54 rfl (Nat.le_of_ble_eq_true rfl) (by omega) (sX4_note (by omega) h26 ?_)
  refine q_pop dX4_put_29 ?_
  exact q_vret dX4_put_30 rfl (q_lfv h k)
def fX4_drop (a1 a2 : Int32) (S : qS) : Option qS := (fX5_isMade_16 a1 S).bind (fun r5 => if r5 = true then (fX5_end_16 a1 a2 S).bind (fun T17 => if q_inb a1 70 = true then if q_inb a1 70 = true then if q_inb a1 70 = true then (fX4_note (T17 19 a1.toNatClampNeg) (T17 20 a1.toNatClampNeg) (T17 21 a1.toNatClampNeg) (-1) a2 T17).bind (fun (r45, T45) => (fX5_end_16 r45 a2 T45).bind (fun T49 => some T49)) else none else none else none) else some S)
set_option maxHeartbeats 4000000 in
set_option maxRecDepth 100000 in
theorem sX4_drop {l : Launch} {d : Nat} (hd : 3 ≤ d) {S : qS} {a1 a2 : Int32} {S' : qS} (h : fX4_drop a1 a2 S = some S') {Q : qS → Prop} (k : Q S') : q_Mv l d yX4_drop cX4_drop 3 none [.inr 15, .inl a1, .inl a2] S Q := by
  refine q_Mv_of (own := RX4) rfl rfl [some (.inr 15), some (.inl a1), some (.inl a2)] rfl (Nat.le_of_ble_eq_true rfl) ?_
  unfold fX4_drop at h
  refine q_aload_n dX4_drop_0 rfl ?_
  refine q_getr dX4_drop_1 fl_X4_16 rfl rfl ?_
  refine q_iload_n dX4_drop_4 rfl ?_
  obtain ⟨r5, h5, h⟩ := q_bnd h
  refine q_callVi1 dX4_drop_5 cl_X4_58 rfl (Nat.le_of_ble_eq_true rfl) (by omega) (sX5_isMade_16 (by omega) h5 ?_)
  refine q_if_eq_b 52 dX4_drop_8 (by decide) (fun c8 => ?_) (fun c8 => ?_)
  · replace h := q_ifb c8 h
    exact q_vret dX4_drop_52 rfl (q_lfv h k)
  · replace h := q_ift c8 h
    refine q_aload_n dX4_drop_11 rfl ?_
    refine q_getr dX4_drop_12 fl_X4_16 rfl rfl ?_
    refine q_iload_n dX4_drop_15 rfl ?_
    refine q_iload_n dX4_drop_16 rfl ?_
    obtain ⟨T17, h17, h⟩ := q_bnd h
    refine q_callVv2 dX4_drop_17 cl_X4_50 rfl (Nat.le_of_ble_eq_true rfl) (by omega) (sX5_end_16 (by omega) h17 ?_)
    refine q_aload_n dX4_drop_20 rfl ?_
    refine q_getr dX4_drop_21 fl_X4_16 rfl rfl ?_
    refine q_aload_n dX4_drop_24 rfl ?_
    refine q_aload_n dX4_drop_25 rfl ?_
    refine q_getr dX4_drop_26 fl_X4_20 rfl rfl ?_
    refine q_iload_n dX4_drop_29 rfl ?_
    obtain ⟨g30, h⟩ := q_gd h
    refine q_iald dX4_drop_30 rfl g30 ?_
    refine q_aload_n dX4_drop_31 rfl ?_
    refine q_getr dX4_drop_32 fl_X4_24 rfl rfl ?_
    refine q_iload_n dX4_drop_35 rfl ?_
    obtain ⟨g36, h⟩ := q_gd h
    refine q_iald dX4_drop_36 rfl g36 ?_
    refine q_aload_n dX4_drop_37 rfl ?_
    refine q_getr dX4_drop_38 fl_X4_27 rfl rfl ?_
    refine q_iload_n dX4_drop_41 rfl ?_
    obtain ⟨g42, h⟩ := q_gd h
    refine q_iald dX4_drop_42 rfl g42 ?_
    refine q_iconst (v := (-1)) dX4_drop_43 (by decide) ?_
    refine q_iload_n dX4_drop_44 rfl ?_
    obtain ⟨⟨r45, T45⟩, h45, h⟩ := q_bnd h
    dsimp only at h
    refine q_callVi5 dX4_drop_45 cl_X4_54 rfl (Nat.le_of_ble_eq_true rfl) (by omega) (sX4_note (by omega) h45 ?_)
    refine q_iload_n dX4_drop_48 rfl ?_
    obtain ⟨T49, h49, h⟩ := q_bnd h
    refine q_callVv2 dX4_drop_49 cl_X4_50 rfl (Nat.le_of_ble_eq_true rfl) (by omega) (sX5_end_16 (by omega) h49 ?_)
    exact q_vret dX4_drop_52 rfl (q_lfv h k)
