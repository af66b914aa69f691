def fX9_record (a1 a2 a3 a4 : Int32) (S : qS) : Option Int32 := (fX9_isZone a1 S).bind (fun r2 => if r2 = true then (fX9_isName a2 S).bind (fun r9 => if r9 = true then (fX9_isType a3 S).bind (fun r16 => if r16 = true then (fX9_isTick a4 S).bind (fun r25 => if r25 = true then (fX9_isThere a1 a4 S).bind (fun r37 => if r37 = true then (fX9_valueAt a1 a2 a3 a4 S).bind (fun r52 => if 0 ≤ r52 then some r52 else some (-4)) else some (-2)) else some (-1)) else some (-1)) else some (-1)) else some (-1))
set_option maxHeartbeats 4000000 in
set_option maxRecDepth 100000 in
theorem sX9_record {l : Launch} {d : Nat} (hd : 2 ≤ d) {S : qS} {a1 a2 a3 a4 : Int32} {r : Int32} (h : fX9_record a1 a2 a3 a4 S = some r) {Q : Int32 → qS → Prop} (k : Q r S) : q_Mi l d yX9_record cX9_record 6 (some .int) [.inr 34, .inl a1, .inl a2, .inl a3, .inl a4] S Q := by
  refine q_Mi_of (own := RX9) rfl rfl [some (.inr 34), some (.inl a1), some (.inl a2), some (.inl a3), some (.inl a4), none] rfl (Nat.le_of_ble_eq_true rfl) ?_
  unfold fX9_record at h
  refine q_aload_n dX9_record_0 rfl ?_
  refine q_iload_n dX9_record_1 rfl ?_
  obtain ⟨r2, h2, h⟩ := q_bnd h
  refine q_callVi1 dX9_record_2 cl_X9_85 rfl (Nat.le_of_ble_eq_true rfl) (by omega) (sX9_isZone (by omega) h2 ?_)
  refine q_if_eq_b 31 dX9_record_5 (by decide) (fun c5 => ?_) (fun c5 => ?_)
  · replace h := q_ifb c5 h
    refine q_iconst (v := (-1)) dX9_record_31 (by decide) ?_
    exact q_ret dX9_record_32 rfl rfl (q_lfi h k)
  · replace h := q_ift c5 h
    refine q_iload_n dX9_record_8 rfl ?_
    obtain ⟨r9, h9, h⟩ := q_bnd h
    refine q_callSi1 dX9_record_9 cl_X9_76 (Nat.le_of_ble_eq_true rfl) (by omega) (sX9_isName (by omega) h9 ?_)
    refine q_if_eq_b 31 dX9_record_12 (by decide) (fun c12 => ?_) (fun c12 => ?_)
    · replace h := q_ifb c12 h
      refine q_iconst (v := (-1)) dX9_record_31 (by decide) ?_
      exact q_ret dX9_record_32 rfl rfl (q_lfi h k)
    · replace h := q_ift c12 h
      refine q_iload_n dX9_record_15 rfl ?_
      obtain ⟨r16, h16, h⟩ := q_bnd h
      refine q_callSi1 dX9_record_16 cl_X9_113 (Nat.le_of_ble_eq_true rfl) (by omega) (sX9_isType (by omega) h16 ?_)
      refine q_if_eq_b 31 dX9_record_19 (by decide) (fun c19 => ?_) (fun c19 => ?_)
      · replace h := q_ifb c19 h
        refine q_iconst (v := (-1)) dX9_record_31 (by decide) ?_
        exact q_ret dX9_record_32 rfl rfl (q_lfi h k)
      · replace h := q_ift c19 h
        refine q_aload_n dX9_record_22 rfl ?_
        refine q_iload dX9_record_23 rfl ?_
        obtain ⟨r25, h25, h⟩ := q_bnd h
        refine q_callVi1 dX9_record_25 cl_X9_64 rfl (Nat.le_of_ble_eq_true rfl) (by omega) (sX9_isTick (by omega) h25 ?_)
        refine q_if_ne_b 33 dX9_record_28 (by decide) (fun c28 => ?_) (fun c28 => ?_)
        · replace h := q_ift c28 h
          refine q_aload_n dX9_record_33 rfl ?_
          refine q_iload_n dX9_record_34 rfl ?_
          refine q_iload dX9_record_35 rfl ?_
          obtain ⟨r37, h37, h⟩ := q_bnd h
          refine q_callVi2 dX9_record_37 cl_X9_123 rfl (Nat.le_of_ble_eq_true rfl) (by omega) (sX9_isThere (by omega) h37 ?_)
          refine q_if_ne_b 46 dX9_record_40 (by decide) (fun c40 => ?_) (fun c40 => ?_)
          · replace h := q_ift c40 h
            refine q_aload_n dX9_record_46 rfl ?_
            refine q_iload_n dX9_record_47 rfl ?_
            refine q_iload_n dX9_record_48 rfl ?_
            refine q_iload_n dX9_record_49 rfl ?_
            refine q_iload dX9_record_50 rfl ?_
            obtain ⟨r52, h52, h⟩ := q_bnd h
            refine q_callVi4 dX9_record_52 cl_X9_103 rfl (Nat.le_of_ble_eq_true rfl) (by omega) (sX9_valueAt (by omega) h52 ?_)
            refine q_istore dX9_record_55 (by decide) ?_
            refine q_iload dX9_record_57 rfl ?_
            refine q_if_ge 67 dX9_record_59 (by decide) (fun c59 => ?_) (fun c59 => ?_)
            · replace h := q_ift c59 h
              refine q_iload dX9_record_67 rfl ?_
              exact q_ret dX9_record_69 rfl rfl (q_lfi h k)
            · replace h := q_iff c59 h
              refine q_bipush (v := (-4)) dX9_record_62 (by decide) ?_
              refine q_goto 69 dX9_record_64 (by decide) ?_
              exact q_ret dX9_record_69 rfl rfl (q_lfi h k)
          · replace h := q_ifb c40 h
            refine q_bipush (v := (-2)) dX9_record_43 (by decide) ?_
            exact q_ret dX9_record_45 rfl rfl (q_lfi h k)
        · replace h := q_ifb c28 h
          refine q_iconst (v := (-1)) dX9_record_31 (by decide) ?_
          exact q_ret dX9_record_32 rfl rfl (q_lfi h k)
def fX9_serial_23 (p1 p2 : Int32) : Nat → Int32 → Int32 → qS → Option Int32
  | 0, _, _, _ => none
  | n + 1, v3, v4, S => if (S 34 6) ≤ v4 then some v3 else (fX9_part v4 0 S).bind (fun r37 => if r37 = p1 then (fX9_part v4 1 S).bind (fun r48 => if p2 < r48 then fX9_serial_23 p1 p2 n (v3 + 0) (v4 + 1) S else fX9_serial_23 p1 p2 n (v3 + 1) (v4 + 1) S) else fX9_serial_23 p1 p2 n (v3 + 0) (v4 + 1) S)
set_option maxHeartbeats 4000000 in
set_option maxRecDepth 100000 in
theorem sX9_serial_23 {l : Launch} {d : Nat} (hd : 2 ≤ d) {S : qS} {p1 p2 : Int32} {r : Int32} {Q : Int32 → qS → Prop} (k : Q r S) : ∀ (n : Nat) (v3 : Int32) (v4 : Int32), fX9_serial_23 p1 p2 n v3 v4 S = some r → q_E l cX9_serial 5 (some .int) RX9 d S 23 [some (.inr 34), some (.inl p1), some (.inl p2), some (.inl v3), some (.inl v4)] [] (q_Qi Q) := by
  intro n
  induction n with
  | zero => intro v3 v4 h; exact q_no h
  | succ n ih =>
    intro v3 v4 h
    rw [fX9_serial_23] at h
    refine q_iload dX9_serial_23 rfl ?_
    refine q_aload_n dX9_serial_25 rfl ?_
    refine q_geti dX9_serial_26 fl_X9_91 rfl rfl ?_
    refine q_icmp_ge 68 dX9_serial_29 (by decide) (fun c29 => ?_) (fun c29 => ?_)
    · replace h := q_ift c29 h
      refine q_iload_n dX9_serial_68 rfl ?_
      exact q_ret dX9_serial_69 rfl rfl (q_lfi h k)
    · replace h := q_iff c29 h
      refine q_iload_n dX9_serial_32 rfl ?_
      refine q_aload_n dX9_serial_33 rfl ?_
      refine q_iload dX9_serial_34 rfl ?_
      refine q_iconst (v := 0) dX9_serial_36 (by decide) ?_
      obtain ⟨r37, h37, h⟩ := q_bnd h
      refine q_callVi2 dX9_serial_37 cl_X9_100 rfl (Nat.le_of_ble_eq_true rfl) (by omega) (sX9_part (by omega) h37 ?_)
      refine q_iload_n dX9_serial_40 rfl ?_
      refine q_icmp_ne 59 dX9_serial_41 (by decide) (fun c41 => ?_) (fun c41 => ?_)
      · replace h := q_iff c41 h
        refine q_iconst (v := 0) dX9_serial_59 (by decide) ?_
        refine q_iadd dX9_serial_60 ?_
        refine q_istore_n dX9_serial_61 (by decide) ?_
        refine q_iinc (v := (v4 + 1)) dX9_serial_62 rfl rfl (by decide) ?_
        refine q_goto 23 dX9_serial_65 (by decide) ?_
        exact q_sub (ih _ _ h) (And.intro rfl (And.intro rfl (And.intro rfl (And.intro rfl (And.intro rfl trivial)))))
      · replace h := q_ift c41 h
        refine q_aload_n dX9_serial_44 rfl ?_
        refine q_iload dX9_serial_45 rfl ?_
        refine q_iconst (v := 1) dX9_serial_47 (by decide) ?_
        obtain ⟨r48, h48, h⟩ := q_bnd h
        refine q_callVi2 dX9_serial_48 cl_X9_100 rfl (Nat.le_of_ble_eq_true rfl) (by omega) (sX9_part (by omega) h48 ?_)
        refine q_iload_n dX9_serial_51 rfl ?_
        refine q_icmp_gt 59 dX9_serial_52 (by decide) (fun c52 => ?_) (fun c52 => ?_)
        · replace h := q_ift c52 h
          refine q_iconst (v := 0) dX9_serial_59 (by decide) ?_
          refine q_iadd dX9_serial_60 ?_
          refine q_istore_n dX9_serial_61 (by decide) ?_
          refine q_iinc (v := (v4 + 1)) dX9_serial_62 rfl rfl (by decide) ?_
          refine q_goto 23 dX9_serial_65 (by decide) ?_
          exact q_sub (ih _ _ h) (And.intro rfl (And.intro rfl (And.intro rfl (And.intro rfl (And.intro rfl trivial)))))
        · replace h := q_iff c52 h
          refine q_iconst (v := 1) dX9_serial_55 (by decide) ?_
          refine q_goto 60 dX9_serial_56 (by decide) ?_
          refine q_iadd dX9_serial_60 ?_
          refine q_istore_n dX9_serial_61 (by decide) ?_
          refine q_iinc (v := (v4 + 1)) dX9_serial_62 rfl rfl (by decide) ?_
          refine q_goto 23 dX9_serial_65 (by decide) ?_
          exact q_sub (ih _ _ h) (And.intro rfl (And.intro rfl (And.intro rfl (And.intro rfl (And.intro rfl trivial)))))
def fX9_serial (a1 a2 : Int32) (S : qS) : Option Int32 := (fX9_isZone a1 S).bind (fun r2 => if r2 = true then (fX9_isTick a2 S).bind (fun r10 => if r10 = true then fX9_serial_23 a1 a2 20000 0 0 S else some (-1)) else some (-1))
set_option maxHeartbeats 4000000 in
set_option maxRecDepth 100000 in
theorem sX9_serial {l : Launch} {d : Nat} (hd : 2 ≤ d) {S : qS} {a1 a2 : Int32} {r : Int32} (h : fX9_serial a1 a2 S = some r) {Q : Int32 → qS → Prop} (k : Q r S) : q_Mi l d yX9_serial cX9_serial 5 (some .int) [.inr 34, .inl a1, .inl a2] S Q := by
  refine q_Mi_of (own := RX9) rfl rfl [some (.inr 34), some (.inl a1), some (.inl a2), none, none] rfl (Nat.le_of_ble_eq_true rfl) ?_
  unfold fX9_serial at h
  refine q_aload_n dX9_serial_0 rfl ?_
  refine q_iload_n dX9_serial_1 rfl ?_
  obtain ⟨r2, h2, h⟩ := q_bnd h
  refine q_callVi1 dX9_serial_2 cl_X9_85 rfl (Nat.le_of_ble_eq_true rfl) (by omega) (sX9_isZone (by omega) h2 ?_)
  refine q_if_eq_b 16 dX9_serial_5 (by decide) (fun c5 => ?_) (fun c5 => ?_)
  · replace h := q_ifb c5 h
    refine q_iconst (v := (-1)) dX9_serial_16 (by decide) ?_
    exact q_ret dX9_serial_17 rfl rfl (q_lfi h k)
  · replace h := q_ift c5 h
    refine q_aload_n dX9_serial_8 rfl ?_
    refine q_iload_n dX9_serial_9 rfl ?_
    obtain ⟨r10, h10, h⟩ := q_bnd h
    refine q_callVi1 dX9_serial_10 cl_X9_64 rfl (Nat.le_of_ble_eq_true rfl) (by omega) (sX9_isTick (by omega) h10 ?_)
    refine q_if_ne_b 18 dX9_serial_13 (by decide) (fun c13 => ?_) (fun c13 => ?_)
    · replace h := q_ift c13 h
      refine q_iconst (v := 0) dX9_serial_18 (by decide) ?_
      refine q_istore_n dX9_serial_19 (by decide) ?_
      refine q_iconst (v := 0) dX9_serial_20 (by decide) ?_
      refine q_istore dX9_serial_21 (by decide) ?_
      exact q_sub (sX9_serial_23 hd k 20000 _ _ h) (And.intro rfl (And.intro rfl (And.intro rfl (And.intro rfl (And.intro rfl trivial)))))
    · replace h := q_ifb c13 h
      refine q_iconst (v := (-1)) dX9_serial_16 (by decide) ?_
      exact q_ret dX9_serial_17 rfl rfl (q_lfi h k)
def fX9_change_29 (p1 p2 p3 : Int32) : Nat → Int32 → Int32 → qS → Option Int32
  | 0, _, _, _ => none
  | n + 1, v4, v5, S => if (S 34 6) ≤ v5 then some (-4) else (fX9_part v5 0 S).bind (fun r42 => if r42 = p1 then if v4 = 0 then (fX9_part v5 (1 + p3) S).bind (fun r60 => some r60) else fX9_change_29 p1 p2 p3 n (v4 + (-1)) (v5 + 1) S else fX9_change_29 p1 p2 p3 n v4 (v5 + 1) S)
set_option maxHeartbeats 4000000 in
set_option maxRecDepth 100000 in
theorem sX9_change_29 {l : Launch} {d : Nat} (hd : 2 ≤ d) {S : qS} {p1 p2 p3 : Int32} {r : Int32} {Q : Int32 → qS → Prop} (k : Q r S) : ∀ (n : Nat) (v4 : Int32) (v5 : Int32), fX9_change_29 p1 p2 p3 n v4 v5 S = some r → q_E l cX9_change 6 (some .int) RX9 d S 29 [some (.inr 34), some (.inl p1), some (.inl p2), some (.inl p3), some (.inl v4), some (.inl v5)] [] (q_Qi Q) := by
  intro n
  induction n with
  | zero => intro v4 v5 h; exact q_no h
  | succ n ih =>
    intro v4 v5 h
    rw [fX9_change_29] at h
    refine q_iload dX9_change_29 rfl ?_
    refine q_aload_n dX9_change_31 rfl ?_
    refine q_geti dX9_change_32 fl_X9_91 rfl rfl ?_
    refine q_icmp_ge 73 dX9_change_35 (by decide) (fun c35 => ?_) (fun c35 => ?_)
    · replace h := q_ift c35 h
      refine q_bipush (v := (-4)) dX9_change_73 (by decide) ?_
      exact q_ret dX9_change_75 rfl rfl (q_lfi h k)
    · replace h := q_iff c35 h
      refine q_aload_n dX9_change_38 rfl ?_
      refine q_iload dX9_change_39 rfl ?_
      refine q_iconst (v := 0) dX9_change_41 (by decide) ?_
      obtain ⟨r42, h42, h⟩ := q_bnd h
      refine q_callVi2 dX9_change_42 cl_X9_100 rfl (Nat.le_of_ble_eq_true rfl) (by omega) (sX9_part (by omega) h42 ?_)
      refine q_iload_n dX9_change_45 rfl ?_
      refine q_icmp_ne 67 dX9_change_46 (by decide) (fun c46 => ?_) (fun c46 => ?_)
      · replace h := q_iff c46 h
        refine q_iinc (v := (v5 + 1)) dX9_change_67 rfl rfl (by decide) ?_
        refine q_goto 29 dX9_change_70 (by decide) ?_
        exact q_sub (ih _ _ h) (And.intro rfl (And.intro rfl (And.intro rfl (And.intro rfl (And.intro rfl (And.intro rfl trivial))))))
      · replace h := q_ift c46 h
        refine q_iload dX9_change_49 rfl ?_
        refine q_if_ne 64 dX9_change_51 (by decide) (fun c51 => ?_) (fun c51 => ?_)
        · replace h := q_iff c51 h
          refine q_iinc (v := (v4 + (-1))) dX9_change_64 rfl rfl (by decide) ?_
          refine q_iinc (v := (v5 + 1)) dX9_change_67 rfl rfl (by decide) ?_
          refine q_goto 29 dX9_change_70 (by decide) ?_
          exact q_sub (ih _ _ h) (And.intro rfl (And.intro rfl (And.intro rfl (And.intro rfl (And.intro rfl (And.intro rfl trivial))))))
        · replace h := q_ift c51 h
          refine q_aload_n dX9_change_54 rfl ?_
          refine q_iload dX9_change_55 rfl ?_
          refine q_iconst (v := 1) dX9_change_57 (by decide) ?_
          refine q_iload_n dX9_change_58 rfl ?_
          refine q_iadd dX9_change_59 ?_
          obtain ⟨r60, h60, h⟩ := q_bnd h
          refine q_callVi2 dX9_change_60 cl_X9_100 rfl (Nat.le_of_ble_eq_true rfl) (by omega) (sX9_part (by omega) h60 ?_)
          exact q_ret dX9_change_63 rfl rfl (q_lfi h k)
def fX9_change (a1 a2 a3 : Int32) (S : qS) : Option Int32 := (fX9_isZone a1 S).bind (fun r2 => if r2 = true then if a2 < 0 then some (-1) else (fX9_in a3 0 3 S).bind (fun r15 => if r15 = true then fX9_change_29 a1 a2 a3 20000 a2 0 S else some (-1)) else some (-1))
set_option maxHeartbeats 4000000 in
set_option maxRecDepth 100000 in
theorem sX9_change {l : Launch} {d : Nat} (hd : 2 ≤ d) {S : qS} {a1 a2 a3 : Int32} {r : Int32} (h : fX9_change a1 a2 a3 S = some r) {Q : Int32 → qS → Prop} (k : Q r S) : q_Mi l d yX9_change cX9_change 6 (some .int) [.inr 34, .inl a1, .inl a2, .inl a3] S Q := by
  refine q_Mi_of (own := RX9) rfl rfl [some (.inr 34), some (.inl a1), some (.inl a2), some (.inl a3), none, none] rfl (Nat.le_of_ble_eq_true rfl) ?_
  unfold fX9_change at h
  refine q_aload_n dX9_change_0 rfl ?_
  refine q_iload_n dX9_change_1 rfl ?_
  obtain ⟨r2, h2, h⟩ := q_bnd h
  refine q_callVi1 dX9_change_2 cl_X9_85 rfl (Nat.le_of_ble_eq_true rfl) (by omega) (sX9_isZone (by omega) h2 ?_)
  refine q_if_eq_b 21 dX9_change_5 (by decide) (fun c5 => ?_) (fun c5 => ?_)
  · replace h := q_ifb c5 h
    refine q_iconst (v := (-1)) dX9_change_21 (by decide) ?_
    exact q_ret dX9_change_22 rfl rfl (q_lfi h k)
  · replace h := q_ift c5 h
    refine q_iload_n dX9_change_8 rfl ?_
    refine q_if_lt 21 dX9_change_9 (by decide) (fun c9 => ?_) (fun c9 => ?_)
    · replace h := q_ift c9 h
      refine q_iconst (v := (-1)) dX9_change_21 (by decide) ?_
      exact q_ret dX9_change_22 rfl rfl (q_lfi h k)
    · replace h := q_iff c9 h
      refine q_iload_n dX9_change_12 rfl ?_
      refine q_iconst (v := 0) dX9_change_13 (by decide) ?_
      refine q_iconst (v := 3) dX9_change_14 (by decide) ?_
      obtain ⟨r15, h15, h⟩ := q_bnd h
      refine q_callSi3 dX9_change_15 cl_X9_35 (Nat.le_of_ble_eq_true rfl) (by omega) (sX9_in (by omega) h15 ?_)
      refine q_if_ne_b 23 dX9_change_18 (by decide) (fun c18 => ?_) (fun c18 => ?_)
      · replace h := q_ift c18 h
        refine q_iload_n dX9_change_23 rfl ?_
        refine q_istore dX9_change_24 (by decide) ?_
        refine q_iconst (v := 0) dX9_change_26 (by decide) ?_
        refine q_istore dX9_change_27 (by decide) ?_
        exact q_sub (sX9_change_29 hd k 20000 _ _ h) (And.intro rfl (And.intro rfl (And.intro rfl (And.intro rfl (And.intro rfl (And.intro rfl trivial))))))
      · replace h := q_ifb c18 h
        refine q_iconst (v := (-1)) dX9_change_21 (by decide) ?_
        exact q_ret dX9_change_22 rfl rfl (q_lfi h k)
