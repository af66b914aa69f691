def fX8_split (a1 a2 a3 a4 : Int32) (S : qS) : Option Int32 := (fX8_isView a1 S).bind (fun r1 => if r1 = true then (fX8_isView a2 S).bind (fun r8 => if r8 = true then (fX8_isType a3 S).bind (fun r15 => if r15 = true then (fX8_isTick a4 S).bind (fun r24 => if r24 = true then (fX8_countDiffering a1 a4 a2 a4 a3 S).bind (fun r40 => some r40) else some (-1)) else some (-1)) else some (-1)) else some (-1))
set_option maxHeartbeats 4000000 in
set_option maxRecDepth 100000 in
theorem sX8_split {l : Launch} {d : Nat} (hd : 7 ≤ d) {S : qS} {a1 a2 a3 a4 : Int32} {r : Int32} (h : fX8_split a1 a2 a3 a4 S = some r) {Q : Int32 → qS → Prop} (k : Q r S) : q_Mi l d yX8_split cX8_split 5 (some .int) [.inr 0, .inl a1, .inl a2, .inl a3, .inl a4] S Q := by
  refine q_Mi_of (own := RX8) rfl rfl [some (.inr 0), some (.inl a1), some (.inl a2), some (.inl a3), some (.inl a4)] rfl (Nat.le_of_ble_eq_true rfl) ?_
  unfold fX8_split at h
  refine q_iload_n dX8_split_0 rfl ?_
  obtain ⟨r1, h1, h⟩ := q_bnd h
  refine q_callSi1 dX8_split_1 cl_X8_51 (Nat.le_of_ble_eq_true rfl) (by omega) (sX8_isView (by omega) h1 ?_)
  refine q_if_eq_b 30 dX8_split_4 (by decide) (fun c4 => ?_) (fun c4 => ?_)
  · replace h := q_ifb c4 h
    refine q_iconst (v := (-1)) dX8_split_30 (by decide) ?_
    exact q_ret dX8_split_31 rfl rfl (q_lfi h k)
  · replace h := q_ift c4 h
    refine q_iload_n dX8_split_7 rfl ?_
    obtain ⟨r8, h8, h⟩ := q_bnd h
    refine q_callSi1 dX8_split_8 cl_X8_51 (Nat.le_of_ble_eq_true rfl) (by omega) (sX8_isView (by omega) h8 ?_)
    refine q_if_eq_b 30 dX8_split_11 (by decide) (fun c11 => ?_) (fun c11 => ?_)
    · replace h := q_ifb c11 h
      refine q_iconst (v := (-1)) dX8_split_30 (by decide) ?_
      exact q_ret dX8_split_31 rfl rfl (q_lfi h k)
    · replace h := q_ift c11 h
      refine q_iload_n dX8_split_14 rfl ?_
      obtain ⟨r15, h15, h⟩ := q_bnd h
      refine q_callSi1 dX8_split_15 cl_X8_156 (Nat.le_of_ble_eq_true rfl) (by omega) (sX8_isType (by omega) h15 ?_)
      refine q_if_eq_b 30 dX8_split_18 (by decide) (fun c18 => ?_) (fun c18 => ?_)
      · replace h := q_ifb c18 h
        refine q_iconst (v := (-1)) dX8_split_30 (by decide) ?_
        exact q_ret dX8_split_31 rfl rfl (q_lfi h k)
      · replace h := q_ift c18 h
        refine q_aload_n dX8_split_21 rfl ?_
        refine q_iload dX8_split_22 rfl ?_
        obtain ⟨r24, h24, h⟩ := q_bnd h
        refine q_callVi1 dX8_split_24 cl_X8_90 rfl (Nat.le_of_ble_eq_true rfl) (by omega) (sX8_isTick (by omega) h24 ?_)
        refine q_if_ne_b 32 dX8_split_27 (by decide) (fun c27 => ?_) (fun c27 => ?_)
        · replace h := q_ift c27 h
          refine q_aload_n dX8_split_32 rfl ?_
          refine q_iload_n dX8_split_33 rfl ?_
          refine q_iload dX8_split_34 rfl ?_
          refine q_iload_n dX8_split_36 rfl ?_
          refine q_iload dX8_split_37 rfl ?_
          refine q_iload_n dX8_split_39 rfl ?_
          obtain ⟨r40, h40, h⟩ := q_bnd h
          refine q_callVi5 dX8_split_40 cl_X8_214 rfl (Nat.le_of_ble_eq_true rfl) (by omega) (sX8_countDiffering (by omega) h40 ?_)
          exact q_ret dX8_split_43 rfl rfl (q_lfi h k)
        · replace h := q_ifb c27 h
          refine q_iconst (v := (-1)) dX8_split_30 (by decide) ?_
          exact q_ret dX8_split_31 rfl rfl (q_lfi h k)
def fX8_since_49 (p1 p2 p3 p4 : Int32) : Nat → Int32 → Int32 → qS → Option Int32
  | 0, _, _, _ => none
  | n + 1, v5, v6, S => if 9999 ≤ v6 then some v5 else if v5 ≤ 0 then some v5 else (fX0_lookUp p1 p2 p3 (v5 - 1) S).bind (fun r73 => if r73 = p4 then (fX0_lastEvent (v5 - 1) S).bind (fun r92 => fX8_since_49 p1 p2 p3 p4 n r92 (v6 + 1) S) else some v5)
set_option maxHeartbeats 4000000 in
set_option maxRecDepth 100000 in
theorem sX8_since_49 {l : Launch} {d : Nat} (hd : 6 ≤ d) {S : qS} {p1 p2 p3 p4 : Int32} {r : Int32} {Q : Int32 → qS → Prop} (k : Q r S) : ∀ (n : Nat) (v5 : Int32) (v6 : Int32), fX8_since_49 p1 p2 p3 p4 n v5 v6 S = some r → q_E l cX8_since 7 (some .int) RX8 d S 49 [some (.inr 0), some (.inl p1), some (.inl p2), some (.inl p3), some (.inl p4), some (.inl v5), some (.inl v6)] [] (q_Qi Q) := by
  intro n
  induction n with
  | zero => intro v5 v6 h; exact q_no h
  | succ n ih =>
    intro v5 v6 h
    rw [fX8_since_49] at h
    refine q_iload dX8_since_49 rfl ?_
    refine q_sipush (v := 9999) dX8_since_51 (by decide) ?_
    refine q_icmp_ge 103 dX8_since_54 (by decide) (fun c54 => ?_) (fun c54 => ?_)
    · replace h := q_ift c54 h
      refine q_iload dX8_since_103 rfl ?_
      exact q_ret dX8_since_105 rfl rfl (q_lfi h k)
    · replace h := q_iff c54 h
      refine q_iload dX8_since_57 rfl ?_
      refine q_if_le 103 dX8_since_59 (by decide) (fun c59 => ?_) (fun c59 => ?_)
      · replace h := q_ift c59 h
        refine q_iload dX8_since_103 rfl ?_
        exact q_ret dX8_since_105 rfl rfl (q_lfi h k)
      · replace h := q_iff c59 h
        refine q_aload_n dX8_since_62 rfl ?_
        refine q_getr dX8_since_63 fl_X8_19 rfl rfl ?_
        refine q_iload_n dX8_since_66 rfl ?_
        refine q_iload_n dX8_since_67 rfl ?_
        refine q_iload_n dX8_since_68 rfl ?_
        refine q_iload dX8_since_69 rfl ?_
        refine q_iconst (v := 1) dX8_since_71 (by decide) ?_
        refine q_isub dX8_since_72 ?_
        obtain ⟨r73, h73, h⟩ := q_bnd h
        refine q_callVi4 dX8_since_73 cl_X8_205 rfl (Nat.le_of_ble_eq_true rfl) (by omega) (sX0_lookUp (by omega) h73 ?_)
        refine q_iload dX8_since_76 rfl ?_
        refine q_icmp_eq 84 dX8_since_78 (by decide) (fun c78 => ?_) (fun c78 => ?_)
        · replace h := q_ift c78 h
          refine q_aload_n dX8_since_84 rfl ?_
          refine q_getr dX8_since_85 fl_X8_19 rfl rfl ?_
          refine q_iload dX8_since_88 rfl ?_
          refine q_iconst (v := 1) dX8_since_90 (by decide) ?_
          refine q_isub dX8_since_91 ?_
          obtain ⟨r92, h92, h⟩ := q_bnd h
          refine q_callVi1 dX8_since_92 cl_X8_218 rfl (Nat.le_of_ble_eq_true rfl) (by omega) (sX0_lastEvent (by omega) h92 ?_)
          refine q_istore dX8_since_95 (by decide) ?_
          refine q_iinc (v := (v6 + 1)) dX8_since_97 rfl rfl (by decide) ?_
          refine q_goto 49 dX8_since_100 (by decide) ?_
          exact q_sub (ih _ _ h) (And.intro rfl (And.intro rfl (And.intro rfl (And.intro rfl (And.intro rfl (And.intro rfl (And.intro rfl trivial)))))))
        · replace h := q_iff c78 h
          refine q_iload dX8_since_81 rfl ?_
          exact q_ret dX8_since_83 rfl rfl (q_lfi h k)
def fX8_since (a1 a2 a3 : Int32) (S : qS) : Option Int32 := (fX8_isView a1 S).bind (fun r1 => if r1 = true then (fX8_isQuestion a2 a3 S).bind (fun r9 => if r9 = true then (fX0_lookUp a1 a2 a3 (S 0 6) S).bind (fun r28 => (fX0_lastEvent (S 0 6) S).bind (fun r41 => fX8_since_49 a1 a2 a3 r28 20000 r41 0 S)) else some (-1)) else some (-1))
set_option maxHeartbeats 4000000 in
set_option maxRecDepth 100000 in
theorem sX8_since {l : Launch} {d : Nat} (hd : 6 ≤ d) {S : qS} {a1 a2 a3 : Int32} {r : Int32} (h : fX8_since a1 a2 a3 S = some r) {Q : Int32 → qS → Prop} (k : Q r S) : q_Mi l d yX8_since cX8_since 7 (some .int) [.inr 0, .inl a1, .inl a2, .inl a3] S Q := by
  refine q_Mi_of (own := RX8) rfl rfl [some (.inr 0), some (.inl a1), some (.inl a2), some (.inl a3), none, none, none] rfl (Nat.le_of_ble_eq_true rfl) ?_
  unfold fX8_since at h
  refine q_iload_n dX8_since_0 rfl ?_
  obtain ⟨r1, h1, h⟩ := q_bnd h
  refine q_callSi1 dX8_since_1 cl_X8_51 (Nat.le_of_ble_eq_true rfl) (by omega) (sX8_isView (by omega) h1 ?_)
  refine q_if_eq_b 15 dX8_since_4 (by decide) (fun c4 => ?_) (fun c4 => ?_)
  · replace h := q_ifb c4 h
    refine q_iconst (v := (-1)) dX8_since_15 (by decide) ?_
    exact q_ret dX8_since_16 rfl rfl (q_lfi h k)
  · replace h := q_ift c4 h
    refine q_iload_n dX8_since_7 rfl ?_
    refine q_iload_n dX8_since_8 rfl ?_
    obtain ⟨r9, h9, h⟩ := q_bnd h
    refine q_callSi2 dX8_since_9 cl_X8_199 (Nat.le_of_ble_eq_true rfl) (by omega) (sX8_isQuestion (by omega) h9 ?_)
    refine q_if_ne_b 17 dX8_since_12 (by decide) (fun c12 => ?_) (fun c12 => ?_)
    · replace h := q_ift c12 h
      refine q_aload_n dX8_since_17 rfl ?_
      refine q_getr dX8_since_18 fl_X8_19 rfl rfl ?_
      refine q_iload_n dX8_since_21 rfl ?_
      refine q_iload_n dX8_since_22 rfl ?_
      refine q_iload_n dX8_since_23 rfl ?_
      refine q_aload_n dX8_since_24 rfl ?_
      refine q_geti dX8_since_25 fl_X8_47 rfl rfl ?_
      obtain ⟨r28, h28, h⟩ := q_bnd h
      refine q_callVi4 dX8_since_28 cl_X8_205 rfl (Nat.le_of_ble_eq_true rfl) (by omega) (sX0_lookUp (by omega) h28 ?_)
      refine q_istore dX8_since_31 (by decide) ?_
      refine q_aload_n dX8_since_33 rfl ?_
      refine q_getr dX8_since_34 fl_X8_19 rfl rfl ?_
      refine q_aload_n dX8_since_37 rfl ?_
      refine q_geti dX8_since_38 fl_X8_47 rfl rfl ?_
      obtain ⟨r41, h41, h⟩ := q_bnd h
      refine q_callVi1 dX8_since_41 cl_X8_218 rfl (Nat.le_of_ble_eq_true rfl) (by omega) (sX0_lastEvent (by omega) h41 ?_)
      refine q_istore dX8_since_44 (by decide) ?_
      refine q_iconst (v := 0) dX8_since_46 (by decide) ?_
      refine q_istore dX8_since_47 (by decide) ?_
      exact q_sub (sX8_since_49 hd k 20000 _ _ h) (And.intro rfl (And.intro rfl (And.intro rfl (And.intro rfl (And.intro rfl (And.intro rfl (And.intro rfl trivial)))))))
    · replace h := q_ifb c12 h
      refine q_iconst (v := (-1)) dX8_since_15 (by decide) ?_
      exact q_ret dX8_since_16 rfl rfl (q_lfi h k)
def fX8_seenBy_25 (p1 p2 p3 p4 : Int32) : Nat → Int32 → Int32 → qS → Option Int32
  | 0, _, _, _ => none
  | n + 1, v5, v6, S => if 3 < v6 then some v5 else (fX0_lookUp v6 p1 p2 p4 S).bind (fun r41 => if r41 = p3 then (fX3_countAddresses v6 p4 S).bind (fun r58 => fX8_seenBy_25 p1 p2 p3 p4 n (v5 + r58) (v6 + 1) S) else fX8_seenBy_25 p1 p2 p3 p4 n v5 (v6 + 1) S)
set_option maxHeartbeats 4000000 in
set_option maxRecDepth 100000 in
theorem sX8_seenBy_25 {l : Launch} {d : Nat} (hd : 6 ≤ d) {S : qS} {p1 p2 p3 p4 : Int32} {r : Int32} {Q : Int32 → qS → Prop} (k : Q r S) : ∀ (n : Nat) (v5 : Int32) (v6 : Int32), fX8_seenBy_25 p1 p2 p3 p4 n v5 v6 S = some r → q_E l cX8_seenBy 7 (some .int) RX8 d S 25 [some (.inr 0), some (.inl p1), some (.inl p2), some (.inl p3), some (.inl p4), some (.inl v5), some (.inl v6)] [] (q_Qi Q) := by
  intro n
  induction n with
  | zero => intro v5 v6 h; exact q_no h
  | succ n ih =>
    intro v5 v6 h
    rw [fX8_seenBy_25] at h
    refine q_iload dX8_seenBy_25 rfl ?_
    refine q_iconst (v := 3) dX8_seenBy_27 (by decide) ?_
    refine q_icmp_gt 70 dX8_seenBy_28 (by decide) (fun c28 => ?_) (fun c28 => ?_)
    · replace h := q_ift c28 h
      refine q_iload dX8_seenBy_70 rfl ?_
      exact q_ret dX8_seenBy_72 rfl rfl (q_lfi h k)
    · replace h := q_iff c28 h
      refine q_aload_n dX8_seenBy_31 rfl ?_
      refine q_getr dX8_seenBy_32 fl_X8_19 rfl rfl ?_
      refine q_iload dX8_seenBy_35 rfl ?_
      refine q_iload_n dX8_seenBy_37 rfl ?_
      refine q_iload_n dX8_seenBy_38 rfl ?_
      refine q_iload dX8_seenBy_39 rfl ?_
      obtain ⟨r41, h41, h⟩ := q_bnd h
      refine q_callVi4 dX8_seenBy_41 cl_X8_205 rfl (Nat.le_of_ble_eq_true rfl) (by omega) (sX0_lookUp (by omega) h41 ?_)
      refine q_iload_n dX8_seenBy_44 rfl ?_
      refine q_icmp_ne 64 dX8_seenBy_45 (by decide) (fun c45 => ?_) (fun c45 => ?_)
      · replace h := q_iff c45 h
        refine q_iinc (v := (v6 + 1)) dX8_seenBy_64 rfl rfl (by decide) ?_
        refine q_goto 25 dX8_seenBy_67 (by decide) ?_
        exact q_sub (ih _ _ h) (And.intro rfl (And.intro rfl (And.intro rfl (And.intro rfl (And.intro rfl (And.intro rfl (And.intro rfl trivial)))))))
      · replace h := q_ift c45 h
        refine q_iload dX8_seenBy_48 rfl ?_
        refine q_aload_n dX8_seenBy_50 rfl ?_
        refine q_getr dX8_seenBy_51 fl_X8_10 rfl rfl ?_
        refine q_iload dX8_seenBy_54 rfl ?_
        refine q_iload dX8_seenBy_56 rfl ?_
        obtain ⟨r58, h58, h⟩ := q_bnd h
        refine q_callVi2 dX8_seenBy_58 cl_X8_221 rfl (Nat.le_of_ble_eq_true rfl) (by omega) (sX3_countAddresses (by omega) h58 ?_)
        refine q_iadd dX8_seenBy_61 ?_
        refine q_istore dX8_seenBy_62 (by decide) ?_
        refine q_iinc (v := (v6 + 1)) dX8_seenBy_64 rfl rfl (by decide) ?_
        refine q_goto 25 dX8_seenBy_67 (by decide) ?_
        exact q_sub (ih _ _ h) (And.intro rfl (And.intro rfl (And.intro rfl (And.intro rfl (And.intro rfl (And.intro rfl (And.intro rfl trivial)))))))
def fX8_seenBy (a1 a2 a3 a4 : Int32) (S : qS) : Option Int32 := (fX8_isQuestion a1 a2 S).bind (fun r2 => if r2 = true then (fX8_isTick a4 S).bind (fun r11 => if r11 = true then fX8_seenBy_25 a1 a2 a3 a4 20000 0 0 S else some (-1)) else some (-1))
set_option maxHeartbeats 4000000 in
set_option maxRecDepth 100000 in
theorem sX8_seenBy {l : Launch} {d : Nat} (hd : 6 ≤ d) {S : qS} {a1 a2 a3 a4 : Int32} {r : Int32} (h : fX8_seenBy a1 a2 a3 a4 S = some r) {Q : Int32 → qS → Prop} (k : Q r S) : q_Mi l d yX8_seenBy cX8_seenBy 7 (some .int) [.inr 0, .inl a1, .inl a2, .inl a3, .inl a4] S Q := by
  refine q_Mi_of (own := RX8) rfl rfl [some (.inr 0), some (.inl a1), some (.inl a2), some (.inl a3), some (.inl a4), none, none] rfl (Nat.le_of_ble_eq_true rfl) ?_
  unfold fX8_seenBy at h
  refine q_iload_n dX8_seenBy_0 rfl ?_
  refine q_iload_n dX8_seenBy_1 rfl ?_
  obtain ⟨r2, h2, h⟩ := q_bnd h
  refine q_callSi2 dX8_seenBy_2 cl_X8_199 (Nat.le_of_ble_eq_true rfl) (by omega) (sX8_isQuestion (by omega) h2 ?_)
  refine q_if_eq_b 17 dX8_seenBy_5 (by decide) (fun c5 => ?_) (fun c5 => ?_)
  · replace h := q_ifb c5 h
    refine q_iconst (v := (-1)) dX8_seenBy_17 (by decide) ?_
    exact q_ret dX8_seenBy_18 rfl rfl (q_lfi h k)
  · replace h := q_ift c5 h
    refine q_aload_n dX8_seenBy_8 rfl ?_
    refine q_iload dX8_seenBy_9 rfl ?_
    obtain ⟨r11, h11, h⟩ := q_bnd h
    refine q_callVi1 dX8_seenBy_11 cl_X8_90 rfl (Nat.le_of_ble_eq_true rfl) (by omega) (sX8_isTick (by omega) h11 ?_)
    refine q_if_ne_b 19 dX8_seenBy_14 (by decide) (fun c14 => ?_) (fun c14 => ?_)
    · replace h := q_ift c14 h
      refine q_iconst (v := 0) dX8_seenBy_19 (by decide) ?_
      refine q_istore dX8_seenBy_20 (by decide) ?_
      refine q_iconst (v := 0) dX8_seenBy_22 (by decide) ?_
      refine q_istore dX8_seenBy_23 (by decide) ?_
      exact q_sub (sX8_seenBy_25 hd k 20000 _ _ h) (And.intro rfl (And.intro rfl (And.intro rfl (And.intro rfl (And.intro rfl (And.intro rfl (And.intro rfl trivial)))))))
    · replace h := q_ifb c14 h
      refine q_iconst (v := (-1)) dX8_seenBy_17 (by decide) ?_
      exact q_ret dX8_seenBy_18 rfl rfl (q_lfi h k)
def fX8_setKeeping (a1 : Int32) (S : qS) : Option (Int32 × qS) := if a1 < 0 then some ((-1), S) else if a1 ≤ 100 then some ((S 23 7), (q_up S 23 7 a1)) else some ((-1), S)
set_option maxHeartbeats 4000000 in
set_option maxRecDepth 100000 in
theorem sX8_setKeeping {l : Launch} {d : Nat} (hd : 0 ≤ d) {S : qS} {a1 : Int32} {r : Int32} {S' : qS} (h : fX8_setKeeping a1 S = some (r, S')) {Q : Int32 → qS → Prop} (k : Q r S') : q_Mi l d yX8_setKeeping cX8_setKeeping 3 (some .int) [.inr 0, .inl a1] S Q := by
  refine q_Mi_of (own := RX8) rfl rfl [some (.inr 0), some (.inl a1), none] rfl (Nat.le_of_ble_eq_true rfl) ?_
  unfold fX8_setKeeping at h
  refine q_iload_n dX8_setKeeping_0 rfl ?_
  refine q_if_lt 10 dX8_setKeeping_1 (by decide) (fun c1 => ?_) (fun c1 => ?_)
  · replace h := q_ift c1 h
    refine q_iconst (v := (-1)) dX8_setKeeping_10 (by decide) ?_
    exact q_ret dX8_setKeeping_11 rfl rfl (q_lfiw h k)
  · replace h := q_iff c1 h
    refine q_iload_n dX8_setKeeping_4 rfl ?_
    refine q_bipush (v := 100) dX8_setKeeping_5 (by decide) ?_
    refine q_icmp_le 12 dX8_setKeeping_7 (by decide) (fun c7 => ?_) (fun c7 => ?_)
    · replace h := q_ift c7 h
      refine q_aload_n dX8_setKeeping_12 rfl ?_
      refine q_getr dX8_setKeeping_13 fl_X8_36 rfl rfl ?_
      refine q_geti dX8_setKeeping_16 fl_X8_224 rfl rfl ?_
      refine q_istore_n dX8_setKeeping_19 (by decide) ?_
      refine q_aload_n dX8_setKeeping_20 rfl ?_
      refine q_getr dX8_setKeeping_21 fl_X8_36 rfl rfl ?_
      refine q_iload_n dX8_setKeeping_24 rfl ?_
      refine q_put dX8_setKeeping_25 fl_X8_224 fp_1_7 rfl rfl ?_
      refine q_iload_n dX8_setKeeping_28 rfl ?_
      exact q_ret dX8_setKeeping_29 rfl rfl (q_lfiw h k)
    · replace h := q_iff c7 h
      refine q_iconst (v := (-1)) dX8_setKeeping_10 (by decide) ?_
      exact q_ret dX8_setKeeping_11 rfl rfl (q_lfiw h k)
def fX8_ask (a1 a2 a3 : Int32) (S : qS) : Option (Int32 × qS) := (fX8_isAddress a1 S).bind (fun r1 => if r1 = true then (fX8_isQuestion a2 a3 S).bind (fun r9 => if r9 = true then (fX1_find a1 a2 a3 S).bind (fun r24 => if r24 = (-1) then (fX8_answerFor a1 a2 a3 (S 0 6) S).bind (fun r83 => (fX1_keep a1 a2 a3 r83 (S 0 6) S).bind (fun T101 => some (r83, T101))) else (fX1_isFresh r24 (S 0 6) S).bind (fun r45 => if r45 = true then if q_inb r24 6 = true then some ((S 27 r24.toNatClampNeg), (q_up S 23 6 ((S 23 6) + 1))) else none else (fX8_answerFor a1 a2 a3 (S 0 6) S).bind (fun r83 => (fX1_keep a1 a2 a3 r83 (S 0 6) S).bind (fun T101 => some (r83, T101))))) else some ((-1), S)) else some ((-1), S))
set_option maxHeartbeats 4000000 in
set_option maxRecDepth 100000 in
theorem sX8_ask {l : Launch} {d : Nat} (hd : 7 ≤ d) {S : qS} {a1 a2 a3 : Int32} {r : Int32} {S' : qS} (h : fX8_ask a1 a2 a3 S = some (r, S')) {Q : Int32 → qS → Prop} (k : Q r S') : q_Mi l d yX8_ask cX8_ask 6 (some .int) [.inr 0, .inl a1, .inl a2, .inl a3] S Q := by
  refine q_Mi_of (own := RX8) rfl rfl [some (.inr 0), some (.inl a1), some (.inl a2), some (.inl a3), none, none] rfl (Nat.le_of_ble_eq_true rfl) ?_
  unfold fX8_ask at h
  refine q_iload_n dX8_ask_0 rfl ?_
  obtain ⟨r1, h1, h⟩ := q_bnd h
  refine q_callSi1 dX8_ask_1 cl_X8_55 (Nat.le_of_ble_eq_true rfl) (by omega) (sX8_isAddress (by omega) h1 ?_)
  refine q_if_eq_b 15 dX8_ask_4 (by decide) (fun c4 => ?_) (fun c4 => ?_)
  · replace h := q_ifb c4 h
    refine q_iconst (v := (-1)) dX8_ask_15 (by decide) ?_
    exact q_ret dX8_ask_16 rfl rfl (q_lfiw h k)
  · replace h := q_ift c4 h
    refine q_iload_n dX8_ask_7 rfl ?_
    refine q_iload_n dX8_ask_8 rfl ?_
    obtain ⟨r9, h9, h⟩ := q_bnd h
    refine q_callSi2 dX8_ask_9 cl_X8_199 (Nat.le_of_ble_eq_true rfl) (by omega) (sX8_isQuestion (by omega) h9 ?_)
    refine q_if_ne_b 17 dX8_ask_12 (by decide) (fun c12 => ?_) (fun c12 => ?_)
    · replace h := q_ift c12 h
      refine q_aload_n dX8_ask_17 rfl ?_
      refine q_getr dX8_ask_18 fl_X8_36 rfl rfl ?_
      refine q_iload_n dX8_ask_21 rfl ?_
      refine q_iload_n dX8_ask_22 rfl ?_
      refine q_iload_n dX8_ask_23 rfl ?_
      obtain ⟨r24, h24, h⟩ := q_bnd h
      refine q_callVi3 dX8_ask_24 cl_X8_227 rfl (Nat.le_of_ble_eq_true rfl) (by omega) (sX1_find (by omega) h24 ?_)
      refine q_istore dX8_ask_27 (by decide) ?_
      refine q_iload dX8_ask_29 rfl ?_
      refine q_iconst (v := (-1)) dX8_ask_31 (by decide) ?_
      refine q_icmp_eq 75 dX8_ask_32 (by decide) (fun c32 => ?_) (fun c32 => ?_)
      · replace h := q_ift c32 h
        refine q_aload_n dX8_ask_75 rfl ?_
        refine q_iload_n dX8_ask_76 rfl ?_
        refine q_iload_n dX8_ask_77 rfl ?_
        refine q_iload_n dX8_ask_78 rfl ?_
        refine q_aload_n dX8_ask_79 rfl ?_
        refine q_geti dX8_ask_80 fl_X8_47 rfl rfl ?_
        obtain ⟨r83, h83, h⟩ := q_bnd h
        refine q_callVi4 dX8_ask_83 cl_X8_202 rfl (Nat.le_of_ble_eq_true rfl) (by omega) (sX8_answerFor (by omega) h83 ?_)
        refine q_istore dX8_ask_86 (by decide) ?_
        refine q_aload_n dX8_ask_88 rfl ?_
        refine q_getr dX8_ask_89 fl_X8_36 rfl rfl ?_
        refine q_iload_n dX8_ask_92 rfl ?_
        refine q_iload_n dX8_ask_93 rfl ?_
        refine q_iload_n dX8_ask_94 rfl ?_
        refine q_iload dX8_ask_95 rfl ?_
        refine q_aload_n dX8_ask_97 rfl ?_
        refine q_geti dX8_ask_98 fl_X8_47 rfl rfl ?_
        obtain ⟨T101, h101, h⟩ := q_bnd h
        refine q_callVv5 dX8_ask_101 cl_X8_234 rfl (Nat.le_of_ble_eq_true rfl) (by omega) (sX1_keep (by omega) h101 ?_)
        refine q_iload dX8_ask_104 rfl ?_
        exact q_ret dX8_ask_106 rfl rfl (q_lfiw h k)
      · replace h := q_iff c32 h
        refine q_aload_n dX8_ask_35 rfl ?_
        refine q_getr dX8_ask_36 fl_X8_36 rfl rfl ?_
        refine q_iload dX8_ask_39 rfl ?_
        refine q_aload_n dX8_ask_41 rfl ?_
        refine q_geti dX8_ask_42 fl_X8_47 rfl rfl ?_
        obtain ⟨r45, h45, h⟩ := q_bnd h
        refine q_callVi2 dX8_ask_45 cl_X8_228 rfl (Nat.le_of_ble_eq_true rfl) (by omega) (sX1_isFresh (by omega) h45 ?_)
        refine q_if_eq_b 75 dX8_ask_48 (by decide) (fun c48 => ?_) (fun c48 => ?_)
        · replace h := q_ifb c48 h
          refine q_aload_n dX8_ask_75 rfl ?_
          refine q_iload_n dX8_ask_76 rfl ?_
          refine q_iload_n dX8_ask_77 rfl ?_
          refine q_iload_n dX8_ask_78 rfl ?_
          refine q_aload_n dX8_ask_79 rfl ?_
          refine q_geti dX8_ask_80 fl_X8_47 rfl rfl ?_
          obtain ⟨r83, h83, h⟩ := q_bnd h
          refine q_callVi4 dX8_ask_83 cl_X8_202 rfl (Nat.le_of_ble_eq_true rfl) (by omega) (sX8_answerFor (by omega) h83 ?_)
          refine q_istore dX8_ask_86 (by decide) ?_
          refine q_aload_n dX8_ask_88 rfl ?_
          refine q_getr dX8_ask_89 fl_X8_36 rfl rfl ?_
          refine q_iload_n dX8_ask_92 rfl ?_
          refine q_iload_n dX8_ask_93 rfl ?_
          refine q_iload_n dX8_ask_94 rfl ?_
          refine q_iload dX8_ask_95 rfl ?_
          refine q_aload_n dX8_ask_97 rfl ?_
          refine q_geti dX8_ask_98 fl_X8_47 rfl rfl ?_
          obtain ⟨T101, h101, h⟩ := q_bnd h
          refine q_callVv5 dX8_ask_101 cl_X8_234 rfl (Nat.le_of_ble_eq_true rfl) (by omega) (sX1_keep (by omega) h101 ?_)
          refine q_iload dX8_ask_104 rfl ?_
          exact q_ret dX8_ask_106 rfl rfl (q_lfiw h k)
        · replace h := q_ift c48 h
          refine q_aload_n dX8_ask_51 rfl ?_
          refine q_getr dX8_ask_52 fl_X8_36 rfl rfl ?_
          refine q_dup dX8_ask_55 ?_
          refine q_geti dX8_ask_56 fl_X8_143 rfl rfl ?_
          refine q_iconst (v := 1) dX8_ask_59 (by decide) ?_
          refine q_iadd dX8_ask_60 ?_
          refine q_put dX8_ask_61 fl_X8_143 fp_1_6 rfl rfl ?_
          refine q_aload_n dX8_ask_64 rfl ?_
          refine q_getr dX8_ask_65 fl_X8_36 rfl rfl ?_
          refine q_getr dX8_ask_68 fl_X8_231 rfl rfl ?_
          refine q_iload dX8_ask_71 rfl ?_
          obtain ⟨g73, h⟩ := q_gd h
          refine q_iald dX8_ask_73 rfl g73 ?_
          exact q_ret dX8_ask_74 rfl rfl (q_lfiw h k)
    · replace h := q_ifb c12 h
      refine q_iconst (v := (-1)) dX8_ask_15 (by decide) ?_
      exact q_ret dX8_ask_16 rfl rfl (q_lfiw h k)
def fX8_stale_4 : Nat → Int32 → Int32 → qS → Option Int32
  | 0, _, _, _ => none
  | n + 1, v1, v2, S => if (S 23 5) ≤ v2 then some v1 else (fX1_isFresh v2 (S 0 6) S).bind (fun r24 => if r24 = true then if q_inb v2 6 = true then if q_inb v2 6 = true then if q_inb v2 6 = true then if q_inb v2 6 = true then (fX8_answerFor (S 24 v2.toNatClampNeg) (S 25 v2.toNatClampNeg) (S 26 v2.toNatClampNeg) (S 0 6) S).bind (fun r71 => if (S 27 v2.toNatClampNeg) = r71 then fX8_stale_4 n v1 (v2 + 1) S else fX8_stale_4 n (v1 + 1) (v2 + 1) S) else none else none else none else none else fX8_stale_4 n v1 (v2 + 1) S)
set_option maxHeartbeats 4000000 in
set_option maxRecDepth 100000 in
theorem sX8_stale_4 {l : Launch} {d : Nat} (hd : 7 ≤ d) {S : qS} {r : Int32} {Q : Int32 → qS → Prop} (k : Q r S) : ∀ (n : Nat) (v1 : Int32) (v2 : Int32), fX8_stale_4  n v1 v2 S = some r → q_E l cX8_stale 3 (some .int) RX8 d S 4 [some (.inr 0), some (.inl v1), some (.inl v2)] [] (q_Qi Q) := by
  intro n
  induction n with
  | zero => intro v1 v2 h; exact q_no h
  | succ n ih =>
    intro v1 v2 h
    rw [fX8_stale_4] at h
    refine q_iload_n dX8_stale_4 rfl ?_
    refine q_aload_n dX8_stale_5 rfl ?_
    refine q_getr dX8_stale_6 fl_X8_36 rfl rfl ?_
    refine q_geti dX8_stale_9 fl_X8_140 rfl rfl ?_
    refine q_icmp_ge 86 dX8_stale_12 (by decide) (fun c12 => ?_) (fun c12 => ?_)
    · replace h := q_ift c12 h
      refine q_iload_n dX8_stale_86 rfl ?_
      exact q_ret dX8_stale_87 rfl rfl (q_lfi h k)
    · replace h := q_iff c12 h
      refine q_aload_n dX8_stale_15 rfl ?_
      refine q_getr dX8_stale_16 fl_X8_36 rfl rfl ?_
      refine q_iload_n dX8_stale_19 rfl ?_
      refine q_aload_n dX8_stale_20 rfl ?_
      refine q_geti dX8_stale_21 fl_X8_47 rfl rfl ?_
      obtain ⟨r24, h24, h⟩ := q_bnd h
      refine q_callVi2 dX8_stale_24 cl_X8_228 rfl (Nat.le_of_ble_eq_true rfl) (by omega) (sX1_isFresh (by omega) h24 ?_)
      refine q_if_eq_b 80 dX8_stale_27 (by decide) (fun c27 => ?_) (fun c27 => ?_)
      · replace h := q_ifb c27 h
        refine q_iinc (v := (v2 + 1)) dX8_stale_80 rfl rfl (by decide) ?_
        refine q_goto 4 dX8_stale_83 (by decide) ?_
        exact q_sub (ih _ _ h) (And.intro rfl (And.intro rfl (And.intro rfl trivial)))
      · replace h := q_ift c27 h
        refine q_aload_n dX8_stale_30 rfl ?_
        refine q_getr dX8_stale_31 fl_X8_36 rfl rfl ?_
        refine q_getr dX8_stale_34 fl_X8_231 rfl rfl ?_
        refine q_iload_n dX8_stale_37 rfl ?_
        obtain ⟨g38, h⟩ := q_gd h
        refine q_iald dX8_stale_38 rfl g38 ?_
        refine q_aload_n dX8_stale_39 rfl ?_
        refine q_aload_n dX8_stale_40 rfl ?_
        refine q_getr dX8_stale_41 fl_X8_36 rfl rfl ?_
        refine q_getr dX8_stale_44 fl_X8_237 rfl rfl ?_
        refine q_iload_n dX8_stale_47 rfl ?_
        obtain ⟨g48, h⟩ := q_gd h
        refine q_iald dX8_stale_48 rfl g48 ?_
        refine q_aload_n dX8_stale_49 rfl ?_
        refine q_getr dX8_stale_50 fl_X8_36 rfl rfl ?_
        refine q_getr dX8_stale_53 fl_X8_240 rfl rfl ?_
        refine q_iload_n dX8_stale_56 rfl ?_
        obtain ⟨g57, h⟩ := q_gd h
        refine q_iald dX8_stale_57 rfl g57 ?_
        refine q_aload_n dX8_stale_58 rfl ?_
        refine q_getr dX8_stale_59 fl_X8_36 rfl rfl ?_
        refine q_getr dX8_stale_62 fl_X8_241 rfl rfl ?_
        refine q_iload_n dX8_stale_65 rfl ?_
        obtain ⟨g66, h⟩ := q_gd h
        refine q_iald dX8_stale_66 rfl g66 ?_
        refine q_aload_n dX8_stale_67 rfl ?_
        refine q_geti dX8_stale_68 fl_X8_47 rfl rfl ?_
        obtain ⟨r71, h71, h⟩ := q_bnd h
        refine q_callVi4 dX8_stale_71 cl_X8_202 rfl (Nat.le_of_ble_eq_true rfl) (by omega) (sX8_answerFor (by omega) h71 ?_)
        refine q_icmp_eq 80 dX8_stale_74 (by decide) (fun c74 => ?_) (fun c74 => ?_)
        · replace h := q_ift c74 h
          refine q_iinc (v := (v2 + 1)) dX8_stale_80 rfl rfl (by decide) ?_
          refine q_goto 4 dX8_stale_83 (by decide) ?_
          exact q_sub (ih _ _ h) (And.intro rfl (And.intro rfl (And.intro rfl trivial)))
        · replace h := q_iff c74 h
          refine q_iinc (v := (v1 + 1)) dX8_stale_77 rfl rfl (by decide) ?_
          refine q_iinc (v := (v2 + 1)) dX8_stale_80 rfl rfl (by decide) ?_
          refine q_goto 4 dX8_stale_83 (by decide) ?_
          exact q_sub (ih _ _ h) (And.intro rfl (And.intro rfl (And.intro rfl trivial)))
def fX8_stale (S : qS) : Option Int32 := fX8_stale_4 20000 0 0 S
set_option maxHeartbeats 4000000 in
set_option maxRecDepth 100000 in
theorem sX8_stale {l : Launch} {d : Nat} (hd : 7 ≤ d) {S : qS} {r : Int32} (h : fX8_stale S = some r) {Q : Int32 → qS → Prop} (k : Q r S) : q_Mi l d yX8_stale cX8_stale 3 (some .int) [.inr 0] S Q := by
  refine q_Mi_of (own := RX8) rfl rfl [some (.inr 0), none, none] rfl (Nat.le_of_ble_eq_true rfl) ?_
  unfold fX8_stale at h
  refine q_iconst (v := 0) dX8_stale_0 (by decide) ?_
  refine q_istore_n dX8_stale_1 (by decide) ?_
  refine q_iconst (v := 0) dX8_stale_2 (by decide) ?_
  refine q_istore_n dX8_stale_3 (by decide) ?_
  exact q_sub (sX8_stale_4 hd k 20000 _ _ h) (And.intro rfl (And.intro rfl (And.intro rfl trivial)))
def fX8_type (a1 : Int32) (S : qS) : Option (Int32 × qS) := if a1 < 32 then some ((-1), S) else if a1 ≤ 126 then if (S 29 1) < 60 then (fX6_append a1 S).bind (fun T34 => some ((T34 29 1), T34)) else some ((-3), S) else some ((-1), S)
set_option maxHeartbeats 4000000 in
set_option maxRecDepth 100000 in
theorem sX8_type {l : Launch} {d : Nat} (hd : 1 ≤ d) {S : qS} {a1 : Int32} {r : Int32} {S' : qS} (h : fX8_type a1 S = some (r, S')) {Q : Int32 → qS → Prop} (k : Q r S') : q_Mi l d yX8_type cX8_type 2 (some .int) [.inr 0, .inl a1] S Q := by
  refine q_Mi_of (own := RX8) rfl rfl [some (.inr 0), some (.inl a1)] rfl (Nat.le_of_ble_eq_true rfl) ?_
  unfold fX8_type at h
  refine q_iload_n dX8_type_0 rfl ?_
  refine q_bipush (v := 32) dX8_type_1 (by decide) ?_
  refine q_icmp_lt 12 dX8_type_3 (by decide) (fun c3 => ?_) (fun c3 => ?_)
  · replace h := q_ift c3 h
    refine q_iconst (v := (-1)) dX8_type_12 (by decide) ?_
    exact q_ret dX8_type_13 rfl rfl (q_lfiw h k)
  · replace h := q_iff c3 h
    refine q_iload_n dX8_type_6 rfl ?_
    refine q_bipush (v := 126) dX8_type_7 (by decide) ?_
    refine q_icmp_le 14 dX8_type_9 (by decide) (fun c9 => ?_) (fun c9 => ?_)
    · replace h := q_ift c9 h
      refine q_aload_n dX8_type_14 rfl ?_
      refine q_getr dX8_type_15 fl_X8_43 rfl rfl ?_
      refine q_geti dX8_type_18 fl_X8_242 rfl rfl ?_
      refine q_bipush (v := 60) dX8_type_21 (by decide) ?_
      refine q_icmp_lt 29 dX8_type_23 (by decide) (fun c23 => ?_) (fun c23 => ?_)
      · replace h := q_ift c23 h
        refine q_aload_n dX8_type_29 rfl ?_
        refine q_getr dX8_type_30 fl_X8_43 rfl rfl ?_
        refine q_iload_n dX8_type_33 rfl ?_
        obtain ⟨T34, h34, h⟩ := q_bnd h
        refine q_callVv1 dX8_type_34 cl_X8_245 rfl (Nat.le_of_ble_eq_true rfl) (by omega) (sX6_append (by omega) h34 ?_)
        refine q_aload_n dX8_type_37 rfl ?_
        refine q_getr dX8_type_38 fl_X8_43 rfl rfl ?_
        refine q_geti dX8_type_41 fl_X8_242 rfl rfl ?_
        exact q_ret dX8_type_44 rfl rfl (q_lfiw h k)
      · replace h := q_iff c23 h
        refine q_bipush (v := (-3)) dX8_type_26 (by decide) ?_
        exact q_ret dX8_type_28 rfl rfl (q_lfiw h k)
    · replace h := q_iff c9 h
      refine q_iconst (v := (-1)) dX8_type_12 (by decide) ?_
      exact q_ret dX8_type_13 rfl rfl (q_lfiw h k)
def fX8_clearText (S : qS) : Option (Int32 × qS) := some ((S 29 1), (q_up S 29 1 0))
set_option maxHeartbeats 4000000 in
set_option maxRecDepth 100000 in
theorem sX8_clearText {l : Launch} {d : Nat} (hd : 0 ≤ d) {S : qS} {r : Int32} {S' : qS} (h : fX8_clearText S = some (r, S')) {Q : Int32 → qS → Prop} (k : Q r S') : q_Mi l d yX8_clearText cX8_clearText 2 (some .int) [.inr 0] S Q := by
  refine q_Mi_of (own := RX8) rfl rfl [some (.inr 0), none] rfl (Nat.le_of_ble_eq_true rfl) ?_
  unfold fX8_clearText at h
  refine q_aload_n dX8_clearText_0 rfl ?_
  refine q_getr dX8_clearText_1 fl_X8_43 rfl rfl ?_
  refine q_geti dX8_clearText_4 fl_X8_242 rfl rfl ?_
  refine q_istore_n dX8_clearText_7 (by decide) ?_
  refine q_aload_n dX8_clearText_8 rfl ?_
  refine q_getr dX8_clearText_9 fl_X8_43 rfl rfl ?_
  refine q_iconst (v := 0) dX8_clearText_12 (by decide) ?_
  refine q_put dX8_clearText_13 fl_X8_242 fp_5_1 rfl rfl ?_
  refine q_iload_n dX8_clearText_16 rfl ?_
  exact q_ret dX8_clearText_17 rfl rfl (q_lfiw h k)
def fX8_fault (S : qS) : Option (Int32 × qS) := (fX6_read S).bind (fun (r4, T4) => some (r4, T4))
set_option maxHeartbeats 4000000 in
set_option maxRecDepth 100000 in
theorem sX8_fault {l : Launch} {d : Nat} (hd : 4 ≤ d) {S : qS} {r : Int32} {S' : qS} (h : fX8_fault S = some (r, S')) {Q : Int32 → qS → Prop} (k : Q r S') : q_Mi l d yX8_fault cX8_fault 1 (some .int) [.inr 0] S Q := by
  refine q_Mi_of (own := RX8) rfl rfl [some (.inr 0)] rfl (Nat.le_of_ble_eq_true rfl) ?_
  unfold fX8_fault at h
  refine q_aload_n dX8_fault_0 rfl ?_
  refine q_getr dX8_fault_1 fl_X8_43 rfl rfl ?_
  obtain ⟨⟨r4, T4⟩, h4, h⟩ := q_bnd h
  dsimp only at h
  refine q_callVi0 dX8_fault_4 cl_X8_179 rfl (Nat.le_of_ble_eq_true rfl) (by omega) (sX6_read (by omega) h4 ?_)
  exact q_ret dX8_fault_7 rfl rfl (q_lfiw h k)
def fX9_in (a1 a2 a3 : Int32) (S : qS) : Option Bool := if a1 < a2 then some false else if a3 < a1 then some false else some true
set_option maxHeartbeats 4000000 in
set_option maxRecDepth 100000 in
theorem sX9_in {l : Launch} {d : Nat} (hd : 0 ≤ d) {S : qS} {a1 a2 a3 : Int32} {r : Bool} (h : fX9_in a1 a2 a3 S = some r) {Q : Int32 → qS → Prop} (k : Q (q_b r) S) : q_Mi l d yX9_in cX9_in 3 (some .boolean) [.inl a1, .inl a2, .inl a3] S Q := by
  refine q_Mi_of (own := RX9) rfl rfl [some (.inl a1), some (.inl a2), some (.inl a3)] rfl (Nat.le_of_ble_eq_true rfl) ?_
  unfold fX9_in at h
  refine q_iload_n dX9_in_0 rfl ?_
  refine q_iload_n dX9_in_1 rfl ?_
  refine q_icmp_lt 14 dX9_in_2 (by decide) (fun c2 => ?_) (fun c2 => ?_)
  · replace h := q_ift c2 h
    refine q_iconst (v := 0) dX9_in_14 (by decide) ?_
    exact q_ret (v := q_b false) dX9_in_15 rfl (q_b_nar false) (q_lfb h k)
  · replace h := q_iff c2 h
    refine q_iload_n dX9_in_5 rfl ?_
    refine q_iload_n dX9_in_6 rfl ?_
    refine q_icmp_gt 14 dX9_in_7 (by decide) (fun c7 => ?_) (fun c7 => ?_)
    · replace h := q_ift c7 h
      refine q_iconst (v := 0) dX9_in_14 (by decide) ?_
      exact q_ret (v := q_b false) dX9_in_15 rfl (q_b_nar false) (q_lfb h k)
    · replace h := q_iff c7 h
      refine q_iconst (v := 1) dX9_in_10 (by decide) ?_
      refine q_goto 15 dX9_in_11 (by decide) ?_
      exact q_ret (v := q_b true) dX9_in_15 rfl (q_b_nar true) (q_lfb h k)
def fX9_isName (a1 : Int32) (S : qS) : Option Bool := (fX9_in a1 1 124 S).bind (fun r19 => if r19 = true then if (a1 - a1 / 5 * 5) ≤ 0 then some false else if 0 < ((a1 / 5) - (a1 / 5) / 5 * 5) then some true else if (a1 / 25) = 0 then some true else some false else some false)
set_option maxHeartbeats 4000000 in
set_option maxRecDepth 100000 in
theorem sX9_isName {l : Launch} {d : Nat} (hd : 1 ≤ d) {S : qS} {a1 : Int32} {r : Bool} (h : fX9_isName a1 S = some r) {Q : Int32 → qS → Prop} (k : Q (q_b r) S) : q_Mi l d yX9_isName cX9_isName 4 (some .boolean) [.inl a1] S Q := by
  refine q_Mi_of (own := RX9) rfl rfl [some (.inl a1), none, none, none] rfl (Nat.le_of_ble_eq_true rfl) ?_
  unfold fX9_isName at h
  refine q_iload_n dX9_isName_0 rfl ?_
  refine q_iconst (v := 5) dX9_isName_1 (by decide) ?_
  refine q_irem dX9_isName_2 (by decide) ?_
  refine q_istore_n dX9_isName_3 (by decide) ?_
  refine q_iload_n dX9_isName_4 rfl ?_
  refine q_iconst (v := 5) dX9_isName_5 (by decide) ?_
  refine q_idiv dX9_isName_6 (by decide) ?_
  refine q_iconst (v := 5) dX9_isName_7 (by decide) ?_
  refine q_irem dX9_isName_8 (by decide) ?_
  refine q_istore_n dX9_isName_9 (by decide) ?_
  refine q_iload_n dX9_isName_10 rfl ?_
  refine q_bipush (v := 25) dX9_isName_11 (by decide) ?_
  refine q_idiv dX9_isName_13 (by decide) ?_
  refine q_istore_n dX9_isName_14 (by decide) ?_
  refine q_iload_n dX9_isName_15 rfl ?_
  refine q_iconst (v := 1) dX9_isName_16 (by decide) ?_
  refine q_bipush (v := 124) dX9_isName_17 (by decide) ?_
  obtain ⟨r19, h19, h⟩ := q_bnd h
  refine q_callSi3 dX9_isName_19 cl_X9_35 (Nat.le_of_ble_eq_true rfl) (by omega) (sX9_in (by omega) h19 ?_)
  refine q_if_eq_b 41 dX9_isName_22 (by decide) (fun c22 => ?_) (fun c22 => ?_)
  · replace h := q_ifb c22 h
    refine q_iconst (v := 0) dX9_isName_41 (by decide) ?_
    exact q_ret (v := q_b false) dX9_isName_42 rfl (q_b_nar false) (q_lfb h k)
  · replace h := q_ift c22 h
    refine q_iload_n dX9_isName_25 rfl ?_
    refine q_if_le 41 dX9_isName_26 (by decide) (fun c26 => ?_) (fun c26 => ?_)
    · replace h := q_ift c26 h
      refine q_iconst (v := 0) dX9_isName_41 (by decide) ?_
      exact q_ret (v := q_b false) dX9_isName_42 rfl (q_b_nar false) (q_lfb h k)
    · replace h := q_iff c26 h
      refine q_iload_n dX9_isName_29 rfl ?_
      refine q_if_gt 37 dX9_isName_30 (by decide) (fun c30 => ?_) (fun c30 => ?_)
      · replace h := q_ift c30 h
        refine q_iconst (v := 1) dX9_isName_37 (by decide) ?_
        refine q_goto 42 dX9_isName_38 (by decide) ?_
        exact q_ret (v := q_b true) dX9_isName_42 rfl (q_b_nar true) (q_lfb h k)
      · replace h := q_iff c30 h
        refine q_iload_n dX9_isName_33 rfl ?_
        refine q_if_ne 41 dX9_isName_34 (by decide) (fun c34 => ?_) (fun c34 => ?_)
        · replace h := q_iff c34 h
          refine q_iconst (v := 0) dX9_isName_41 (by decide) ?_
          exact q_ret (v := q_b false) dX9_isName_42 rfl (q_b_nar false) (q_lfb h k)
        · replace h := q_ift c34 h
          refine q_iconst (v := 1) dX9_isName_37 (by decide) ?_
          refine q_goto 42 dX9_isName_38 (by decide) ?_
          exact q_ret (v := q_b true) dX9_isName_42 rfl (q_b_nar true) (q_lfb h k)
def fX9_labels (a1 : Int32) (S : qS) : Option Int32 := if a1 < 25 then if a1 < 5 then some 1 else some 2 else some 3
set_option maxHeartbeats 4000000 in
set_option maxRecDepth 100000 in
theorem sX9_labels {l : Launch} {d : Nat} (hd : 0 ≤ d) {S : qS} {a1 : Int32} {r : Int32} (h : fX9_labels a1 S = some r) {Q : Int32 → qS → Prop} (k : Q r S) : q_Mi l d yX9_labels cX9_labels 1 (some .int) [.inl a1] S Q := by
  refine q_Mi_of (own := RX9) rfl rfl [some (.inl a1)] rfl (Nat.le_of_ble_eq_true rfl) ?_
  unfold fX9_labels at h
  refine q_iload_n dX9_labels_0 rfl ?_
  refine q_bipush (v := 25) dX9_labels_1 (by decide) ?_
  refine q_icmp_lt 10 dX9_labels_3 (by decide) (fun c3 => ?_) (fun c3 => ?_)
  · replace h := q_ift c3 h
    refine q_iload_n dX9_labels_10 rfl ?_
    refine q_iconst (v := 5) dX9_labels_11 (by decide) ?_
    refine q_icmp_lt 19 dX9_labels_12 (by decide) (fun c12 => ?_) (fun c12 => ?_)
    · replace h := q_ift c12 h
      refine q_iconst (v := 1) dX9_labels_19 (by decide) ?_
      exact q_ret dX9_labels_20 rfl rfl (q_lfi h k)
    · replace h := q_iff c12 h
      refine q_iconst (v := 2) dX9_labels_15 (by decide) ?_
      refine q_goto 20 dX9_labels_16 (by decide) ?_
      exact q_ret dX9_labels_20 rfl rfl (q_lfi h k)
  · replace h := q_iff c3 h
    refine q_iconst (v := 3) dX9_labels_6 (by decide) ?_
    refine q_goto 20 dX9_labels_7 (by decide) ?_
    exact q_ret dX9_labels_20 rfl rfl (q_lfi h k)
def fX9_lastLabel (a1 : Int32) (S : qS) : Option Int32 := if a1 < 25 then if a1 < 5 then some a1 else some (a1 / 5) else some (a1 / 25)
set_option maxHeartbeats 4000000 in
set_option maxRecDepth 100000 in
theorem sX9_lastLabel {l : Launch} {d : Nat} (hd : 0 ≤ d) {S : qS} {a1 : Int32} {r : Int32} (h : fX9_lastLabel a1 S = some r) {Q : Int32 → qS → Prop} (k : Q r S) : q_Mi l d yX9_lastLabel cX9_lastLabel 1 (some .int) [.inl a1] S Q := by
  refine q_Mi_of (own := RX9) rfl rfl [some (.inl a1)] rfl (Nat.le_of_ble_eq_true rfl) ?_
  unfold fX9_lastLabel at h
  refine q_iload_n dX9_lastLabel_0 rfl ?_
  refine q_bipush (v := 25) dX9_lastLabel_1 (by decide) ?_
  refine q_icmp_lt 13 dX9_lastLabel_3 (by decide) (fun c3 => ?_) (fun c3 => ?_)
  · replace h := q_ift c3 h
    refine q_iload_n dX9_lastLabel_13 rfl ?_
    refine q_iconst (v := 5) dX9_lastLabel_14 (by decide) ?_
    refine q_icmp_lt 24 dX9_lastLabel_15 (by decide) (fun c15 => ?_) (fun c15 => ?_)
    · replace h := q_ift c15 h
      refine q_iload_n dX9_lastLabel_24 rfl ?_
      exact q_ret dX9_lastLabel_25 rfl rfl (q_lfi h k)
    · replace h := q_iff c15 h
      refine q_iload_n dX9_lastLabel_18 rfl ?_
      refine q_iconst (v := 5) dX9_lastLabel_19 (by decide) ?_
      refine q_idiv dX9_lastLabel_20 (by decide) ?_
      refine q_goto 25 dX9_lastLabel_21 (by decide) ?_
      exact q_ret dX9_lastLabel_25 rfl rfl (q_lfi h k)
  · replace h := q_iff c3 h
    refine q_iload_n dX9_lastLabel_6 rfl ?_
    refine q_bipush (v := 25) dX9_lastLabel_7 (by decide) ?_
    refine q_idiv dX9_lastLabel_9 (by decide) ?_
    refine q_goto 25 dX9_lastLabel_10 (by decide) ?_
    exact q_ret dX9_lastLabel_25 rfl rfl (q_lfi h k)
