def fX9_count_115 (p1 : Int32) : Nat → Int32 → Int32 → qS → Option Int32
  | 0, _, _, _ => none
  | n + 1, v2, v3, S => if (S 34 4) ≤ v3 then some v2 else (fX9_isGone v3 S).bind (fun r126 => if r126 = true then fX9_count_115 p1 n (v2 + 0) (v3 + 1) S else (fX9_records v3 S).bind (fun r138 => fX9_count_115 p1 n (v2 + r138) (v3 + 1) S))
set_option maxHeartbeats 4000000 in
set_option maxRecDepth 100000 in
theorem sX9_count_115 {l : Launch} {d : Nat} (hd : 3 ≤ d) {S : qS} {p1 : Int32} {r : Int32} {Q : Int32 → qS → Prop} (k : Q r S) : ∀ (n : Nat) (v2 : Int32) (v3 : Int32), fX9_count_115 p1 n v2 v3 S = some r → q_E l cX9_count 4 (some .int) RX9 d S 115 [some (.inr 34), some (.inl p1), some (.inl v2), some (.inl v3)] [] (q_Qi Q) := by
  intro n
  induction n with
  | zero => intro v2 v3 h; exact q_no h
  | succ n ih =>
    intro v2 v3 h
    rw [fX9_count_115] at h
    refine q_iload_n dX9_count_115 rfl ?_
    refine q_aload_n dX9_count_116 rfl ?_
    refine q_geti dX9_count_117 fl_X9_70 rfl rfl ?_
    refine q_icmp_ge 149 dX9_count_120 (by decide) (fun c120 => ?_) (fun c120 => ?_)
    · replace h := q_ift c120 h
      refine q_iload_n dX9_count_149 rfl ?_
      exact q_ret dX9_count_150 rfl rfl (q_lfi h k)
    · replace h := q_iff c120 h
      refine q_iload_n dX9_count_123 rfl ?_
      refine q_aload_n dX9_count_124 rfl ?_
      refine q_iload_n dX9_count_125 rfl ?_
      obtain ⟨r126, h126, h⟩ := q_bnd h
      refine q_callVi1 dX9_count_126 cl_X9_82 rfl (Nat.le_of_ble_eq_true rfl) (by omega) (sX9_isGone (by omega) h126 ?_)
      refine q_if_eq_b 136 dX9_count_129 (by decide) (fun c129 => ?_) (fun c129 => ?_)
      · replace h := q_ifb c129 h
        refine q_aload_n dX9_count_136 rfl ?_
        refine q_iload_n dX9_count_137 rfl ?_
        obtain ⟨r138, h138, h⟩ := q_bnd h
        refine q_callVi1 dX9_count_138 cl_X9_88 rfl (Nat.le_of_ble_eq_true rfl) (by omega) (sX9_records (by omega) h138 ?_)
        refine q_iadd dX9_count_141 ?_
        refine q_istore_n dX9_count_142 (by decide) ?_
        refine q_iinc (v := (v3 + 1)) dX9_count_143 rfl rfl (by decide) ?_
        refine q_goto 115 dX9_count_146 (by decide) ?_
        exact q_sub (ih _ _ h) (And.intro rfl (And.intro rfl (And.intro rfl (And.intro rfl trivial))))
      · replace h := q_ift c129 h
        refine q_iconst (v := 0) dX9_count_132 (by decide) ?_
        refine q_goto 141 dX9_count_133 (by decide) ?_
        refine q_iadd dX9_count_141 ?_
        refine q_istore_n dX9_count_142 (by decide) ?_
        refine q_iinc (v := (v3 + 1)) dX9_count_143 rfl rfl (by decide) ?_
        refine q_goto 115 dX9_count_146 (by decide) ?_
        exact q_sub (ih _ _ h) (And.intro rfl (And.intro rfl (And.intro rfl (And.intro rfl trivial))))
def fX9_count_81 (p1 : Int32) : Nat → Int32 → Int32 → qS → Option Int32
  | 0, _, _, _ => none
  | n + 1, v2, v3, S => if (S 34 4) ≤ v3 then some v2 else (fX9_isGone v3 S).bind (fun r92 => if r92 = true then fX9_count_81 p1 n (v2 + 0) (v3 + 1) S else fX9_count_81 p1 n (v2 + 1) (v3 + 1) S)
set_option maxHeartbeats 4000000 in
set_option maxRecDepth 100000 in
theorem sX9_count_81 {l : Launch} {d : Nat} (hd : 3 ≤ d) {S : qS} {p1 : Int32} {r : Int32} {Q : Int32 → qS → Prop} (k : Q r S) : ∀ (n : Nat) (v2 : Int32) (v3 : Int32), fX9_count_81 p1 n v2 v3 S = some r → q_E l cX9_count 4 (some .int) RX9 d S 81 [some (.inr 34), some (.inl p1), some (.inl v2), some (.inl v3)] [] (q_Qi Q) := by
  intro n
  induction n with
  | zero => intro v2 v3 h; exact q_no h
  | succ n ih =>
    intro v2 v3 h
    rw [fX9_count_81] at h
    refine q_iload_n dX9_count_81 rfl ?_
    refine q_aload_n dX9_count_82 rfl ?_
    refine q_geti dX9_count_83 fl_X9_70 rfl rfl ?_
    refine q_icmp_ge 111 dX9_count_86 (by decide) (fun c86 => ?_) (fun c86 => ?_)
    · replace h := q_ift c86 h
      refine q_iload_n dX9_count_111 rfl ?_
      exact q_ret dX9_count_112 rfl rfl (q_lfi h k)
    · replace h := q_iff c86 h
      refine q_iload_n dX9_count_89 rfl ?_
      refine q_aload_n dX9_count_90 rfl ?_
      refine q_iload_n dX9_count_91 rfl ?_
      obtain ⟨r92, h92, h⟩ := q_bnd h
      refine q_callVi1 dX9_count_92 cl_X9_82 rfl (Nat.le_of_ble_eq_true rfl) (by omega) (sX9_isGone (by omega) h92 ?_)
      refine q_if_eq_b 102 dX9_count_95 (by decide) (fun c95 => ?_) (fun c95 => ?_)
      · replace h := q_ifb c95 h
        refine q_iconst (v := 1) dX9_count_102 (by decide) ?_
        refine q_iadd dX9_count_103 ?_
        refine q_istore_n dX9_count_104 (by decide) ?_
        refine q_iinc (v := (v3 + 1)) dX9_count_105 rfl rfl (by decide) ?_
        refine q_goto 81 dX9_count_108 (by decide) ?_
        exact q_sub (ih _ _ h) (And.intro rfl (And.intro rfl (And.intro rfl (And.intro rfl trivial))))
      · replace h := q_ift c95 h
        refine q_iconst (v := 0) dX9_count_98 (by decide) ?_
        refine q_goto 103 dX9_count_99 (by decide) ?_
        refine q_iadd dX9_count_103 ?_
        refine q_istore_n dX9_count_104 (by decide) ?_
        refine q_iinc (v := (v3 + 1)) dX9_count_105 rfl rfl (by decide) ?_
        refine q_goto 81 dX9_count_108 (by decide) ?_
        exact q_sub (ih _ _ h) (And.intro rfl (And.intro rfl (And.intro rfl (And.intro rfl trivial))))
def fX9_count_42 (p1 : Int32) : Nat → Int32 → Int32 → qS → Option Int32
  | 0, _, _, _ => none
  | n + 1, v2, v3, S => if (S 34 2) ≤ v3 then some v2 else if q_inb ((5 * v3) + 4) 50 = true then if 0 ≤ (S 35 (((5 * v3) + 4).toNatClampNeg)) then fX9_count_42 p1 n (v2 + 0) (v3 + 1) S else fX9_count_42 p1 n (v2 + 1) (v3 + 1) S else none
set_option maxHeartbeats 4000000 in
set_option maxRecDepth 100000 in
theorem sX9_count_42 {l : Launch} {d : Nat} (hd : 3 ≤ d) {S : qS} {p1 : Int32} {r : Int32} {Q : Int32 → qS → Prop} (k : Q r S) : ∀ (n : Nat) (v2 : Int32) (v3 : Int32), fX9_count_42 p1 n v2 v3 S = some r → q_E l cX9_count 4 (some .int) RX9 d S 42 [some (.inr 34), some (.inl p1), some (.inl v2), some (.inl v3)] [] (q_Qi Q) := by
  intro n
  induction n with
  | zero => intro v2 v3 h; exact q_no h
  | succ n ih =>
    intro v2 v3 h
    rw [fX9_count_42] at h
    refine q_iload_n dX9_count_42 rfl ?_
    refine q_aload_n dX9_count_43 rfl ?_
    refine q_geti dX9_count_44 fl_X9_58 rfl rfl ?_
    refine q_icmp_ge 77 dX9_count_47 (by decide) (fun c47 => ?_) (fun c47 => ?_)
    · replace h := q_ift c47 h
      refine q_iload_n dX9_count_77 rfl ?_
      exact q_ret dX9_count_78 rfl rfl (q_lfi h k)
    · replace h := q_iff c47 h
      refine q_iload_n dX9_count_50 rfl ?_
      refine q_aload_n dX9_count_51 rfl ?_
      refine q_getr dX9_count_52 fl_X9_7 rfl rfl ?_
      refine q_iconst (v := 5) dX9_count_55 (by decide) ?_
      refine q_iload_n dX9_count_56 rfl ?_
      refine q_imul dX9_count_57 ?_
      refine q_iconst (v := 4) dX9_count_58 (by decide) ?_
      refine q_iadd dX9_count_59 ?_
      obtain ⟨g60, h⟩ := q_gd h
      refine q_iald dX9_count_60 rfl g60 ?_
      refine q_if_ge 68 dX9_count_61 (by decide) (fun c61 => ?_) (fun c61 => ?_)
      · replace h := q_ift c61 h
        refine q_iconst (v := 0) dX9_count_68 (by decide) ?_
        refine q_iadd dX9_count_69 ?_
        refine q_istore_n dX9_count_70 (by decide) ?_
        refine q_iinc (v := (v3 + 1)) dX9_count_71 rfl rfl (by decide) ?_
        refine q_goto 42 dX9_count_74 (by decide) ?_
        exact q_sub (ih _ _ h) (And.intro rfl (And.intro rfl (And.intro rfl (And.intro rfl trivial))))
      · replace h := q_iff c61 h
        refine q_iconst (v := 1) dX9_count_64 (by decide) ?_
        refine q_goto 69 dX9_count_65 (by decide) ?_
        refine q_iadd dX9_count_69 ?_
        refine q_istore_n dX9_count_70 (by decide) ?_
        refine q_iinc (v := (v3 + 1)) dX9_count_71 rfl rfl (by decide) ?_
        refine q_goto 42 dX9_count_74 (by decide) ?_
        exact q_sub (ih _ _ h) (And.intro rfl (And.intro rfl (And.intro rfl (And.intro rfl trivial))))
def fX9_count (a1 : Int32) (S : qS) : Option Int32 := if a1 = 0 then fX9_count_42 a1 20000 0 0 S else if a1 = 1 then fX9_count_81 a1 20000 0 0 S else if a1 = 2 then fX9_count_115 a1 20000 0 0 S else if a1 = 3 then some (S 34 6) else if a1 = 4 then some (S 34 8) else if a1 = 5 then some (S 34 10) else some (-1)
set_option maxHeartbeats 4000000 in
set_option maxRecDepth 100000 in
theorem sX9_count {l : Launch} {d : Nat} (hd : 3 ≤ d) {S : qS} {a1 : Int32} {r : Int32} (h : fX9_count a1 S = some r) {Q : Int32 → qS → Prop} (k : Q r S) : q_Mi l d yX9_count cX9_count 4 (some .int) [.inr 34, .inl a1] S Q := by
  refine q_Mi_of (own := RX9) rfl rfl [some (.inr 34), some (.inl a1), none, none] rfl (Nat.le_of_ble_eq_true rfl) ?_
  unfold fX9_count at h
  refine q_iconst (v := 0) dX9_count_0 (by decide) ?_
  refine q_istore_n dX9_count_1 (by decide) ?_
  refine q_iload_n dX9_count_2 rfl ?_
  by_cases c3_0 : a1 = 0
  · replace h := q_ift c3_0 h
    refine q_tableIn 40 dX9_count_3 (by rw [c3_0]; decide) (by rw [c3_0]; decide) (off := 37) (by rw [c3_0]; rfl) (by decide) ?_
    refine q_iconst (v := 0) dX9_count_40 (by decide) ?_
    refine q_istore_n dX9_count_41 (by decide) ?_
    exact q_sub (sX9_count_42 hd k 20000 _ _ h) (And.intro rfl (And.intro rfl (And.intro rfl (And.intro rfl trivial))))
  · replace h := q_iff c3_0 h
    by_cases c3_1 : a1 = 1
    · replace h := q_ift c3_1 h
      refine q_tableIn 79 dX9_count_3 (by rw [c3_1]; decide) (by rw [c3_1]; decide) (off := 76) (by rw [c3_1]; rfl) (by decide) ?_
      refine q_iconst (v := 0) dX9_count_79 (by decide) ?_
      refine q_istore_n dX9_count_80 (by decide) ?_
      exact q_sub (sX9_count_81 hd k 20000 _ _ h) (And.intro rfl (And.intro rfl (And.intro rfl (And.intro rfl trivial))))
    · replace h := q_iff c3_1 h
      by_cases c3_2 : a1 = 2
      · replace h := q_ift c3_2 h
        refine q_tableIn 113 dX9_count_3 (by rw [c3_2]; decide) (by rw [c3_2]; decide) (off := 110) (by rw [c3_2]; rfl) (by decide) ?_
        refine q_iconst (v := 0) dX9_count_113 (by decide) ?_
        refine q_istore_n dX9_count_114 (by decide) ?_
        exact q_sub (sX9_count_115 hd k 20000 _ _ h) (And.intro rfl (And.intro rfl (And.intro rfl (And.intro rfl trivial))))
      · replace h := q_iff c3_2 h
        by_cases c3_3 : a1 = 3
        · replace h := q_ift c3_3 h
          refine q_tableIn 151 dX9_count_3 (by rw [c3_3]; decide) (by rw [c3_3]; decide) (off := 148) (by rw [c3_3]; rfl) (by decide) ?_
          refine q_aload_n dX9_count_151 rfl ?_
          refine q_geti dX9_count_152 fl_X9_91 rfl rfl ?_
          exact q_ret dX9_count_155 rfl rfl (q_lfi h k)
        · replace h := q_iff c3_3 h
          by_cases c3_4 : a1 = 4
          · replace h := q_ift c3_4 h
            refine q_tableIn 156 dX9_count_3 (by rw [c3_4]; decide) (by rw [c3_4]; decide) (off := 153) (by rw [c3_4]; rfl) (by decide) ?_
            refine q_aload_n dX9_count_156 rfl ?_
            refine q_geti dX9_count_157 fl_X9_94 rfl rfl ?_
            exact q_ret dX9_count_160 rfl rfl (q_lfi h k)
          · replace h := q_iff c3_4 h
            by_cases c3_5 : a1 = 5
            · replace h := q_ift c3_5 h
              refine q_tableIn 161 dX9_count_3 (by rw [c3_5]; decide) (by rw [c3_5]; decide) (off := 158) (by rw [c3_5]; rfl) (by decide) ?_
              refine q_aload_n dX9_count_161 rfl ?_
              refine q_geti dX9_count_162 fl_X9_97 rfl rfl ?_
              exact q_ret dX9_count_165 rfl rfl (q_lfi h k)
            · replace h := q_iff c3_5 h
              have hx : (a1).toInt < 0 ∨ 5 < (a1).toInt := by
                have e0 := q_ti c3_0 (n := 0) (by decide)
                have e1 := q_ti c3_1 (n := 1) (by decide)
                have e2 := q_ti c3_2 (n := 2) (by decide)
                have e3 := q_ti c3_3 (n := 3) (by decide)
                have e4 := q_ti c3_4 (n := 4) (by decide)
                have e5 := q_ti c3_5 (n := 5) (by decide)
                omega
              refine q_tableOut 166 dX9_count_3 hx (by decide) ?_
              refine q_iconst (v := (-1)) dX9_count_166 (by decide) ?_
              exact q_ret dX9_count_167 rfl rfl (q_lfi h k)
def fX9_hasType (a1 a2 a3 : Int32) (S : qS) : Option Bool := (fX9_valueAt a1 a2 0 a3 S).bind (fun r5 => if 0 ≤ r5 then some true else (fX9_valueAt a1 a2 1 a3 S).bind (fun r16 => if 0 ≤ r16 then some true else (fX9_valueAt a1 a2 2 a3 S).bind (fun r27 => if r27 < 0 then some false else some true)))
set_option maxHeartbeats 4000000 in
set_option maxRecDepth 100000 in
theorem sX9_hasType {l : Launch} {d : Nat} (hd : 2 ≤ d) {S : qS} {a1 a2 a3 : Int32} {r : Bool} (h : fX9_hasType a1 a2 a3 S = some r) {Q : Int32 → qS → Prop} (k : Q (q_b r) S) : q_Mi l d yX9_hasType cX9_hasType 4 (some .boolean) [.inr 34, .inl a1, .inl a2, .inl a3] S Q := by
  refine q_Mi_of (own := RX9) rfl rfl [some (.inr 34), some (.inl a1), some (.inl a2), some (.inl a3)] rfl (Nat.le_of_ble_eq_true rfl) ?_
  unfold fX9_hasType at h
  refine q_aload_n dX9_hasType_0 rfl ?_
  refine q_iload_n dX9_hasType_1 rfl ?_
  refine q_iload_n dX9_hasType_2 rfl ?_
  refine q_iconst (v := 0) dX9_hasType_3 (by decide) ?_
  refine q_iload_n dX9_hasType_4 rfl ?_
  obtain ⟨r5, h5, h⟩ := q_bnd h
  refine q_callVi4 dX9_hasType_5 cl_X9_103 rfl (Nat.le_of_ble_eq_true rfl) (by omega) (sX9_valueAt (by omega) h5 ?_)
  refine q_if_ge 33 dX9_hasType_8 (by decide) (fun c8 => ?_) (fun c8 => ?_)
  · replace h := q_ift c8 h
    refine q_iconst (v := 1) dX9_hasType_33 (by decide) ?_
    refine q_goto 38 dX9_hasType_34 (by decide) ?_
    exact q_ret (v := q_b true) dX9_hasType_38 rfl (q_b_nar true) (q_lfb h k)
  · replace h := q_iff c8 h
    refine q_aload_n dX9_hasType_11 rfl ?_
    refine q_iload_n dX9_hasType_12 rfl ?_
    refine q_iload_n dX9_hasType_13 rfl ?_
    refine q_iconst (v := 1) dX9_hasType_14 (by decide) ?_
    refine q_iload_n dX9_hasType_15 rfl ?_
    obtain ⟨r16, h16, h⟩ := q_bnd h
    refine q_callVi4 dX9_hasType_16 cl_X9_103 rfl (Nat.le_of_ble_eq_true rfl) (by omega) (sX9_valueAt (by omega) h16 ?_)
    refine q_if_ge 33 dX9_hasType_19 (by decide) (fun c19 => ?_) (fun c19 => ?_)
    · replace h := q_ift c19 h
      refine q_iconst (v := 1) dX9_hasType_33 (by decide) ?_
      refine q_goto 38 dX9_hasType_34 (by decide) ?_
      exact q_ret (v := q_b true) dX9_hasType_38 rfl (q_b_nar true) (q_lfb h k)
    · replace h := q_iff c19 h
      refine q_aload_n dX9_hasType_22 rfl ?_
      refine q_iload_n dX9_hasType_23 rfl ?_
      refine q_iload_n dX9_hasType_24 rfl ?_
      refine q_iconst (v := 2) dX9_hasType_25 (by decide) ?_
      refine q_iload_n dX9_hasType_26 rfl ?_
      obtain ⟨r27, h27, h⟩ := q_bnd h
      refine q_callVi4 dX9_hasType_27 cl_X9_103 rfl (Nat.le_of_ble_eq_true rfl) (by omega) (sX9_valueAt (by omega) h27 ?_)
      refine q_if_lt 37 dX9_hasType_30 (by decide) (fun c30 => ?_) (fun c30 => ?_)
      · replace h := q_ift c30 h
        refine q_iconst (v := 0) dX9_hasType_37 (by decide) ?_
        exact q_ret (v := q_b false) dX9_hasType_38 rfl (q_b_nar false) (q_lfb h k)
      · replace h := q_iff c30 h
        refine q_iconst (v := 1) dX9_hasType_33 (by decide) ?_
        refine q_goto 38 dX9_hasType_34 (by decide) ?_
        exact q_ret (v := q_b true) dX9_hasType_38 rfl (q_b_nar true) (q_lfb h k)
def fX9_exists_12 (p1 p2 p3 : Int32) : Nat → Bool → Int32 → qS → Option Bool
  | 0, _, _, _ => none
  | n + 1, v4, v5, S => if (S 34 6) ≤ v5 then some v4 else if v4 = true then some v4 else (fX9_part v5 0 S).bind (fun r30 => if r30 = p1 then (fX9_part v5 2 S).bind (fun r41 => (fX9_isBelow r41 p2 S).bind (fun r45 => if r45 = true then (fX9_part v5 2 S).bind (fun r57 => (fX9_hasType p1 r57 p3 S).bind (fun r61 => if r61 = true then fX9_exists_12 p1 p2 p3 n true (v5 + 1) S else fX9_exists_12 p1 p2 p3 n false (v5 + 1) S)) else fX9_exists_12 p1 p2 p3 n false (v5 + 1) S)) else fX9_exists_12 p1 p2 p3 n false (v5 + 1) S)
set_option maxHeartbeats 4000000 in
set_option maxRecDepth 100000 in
theorem sX9_exists_12 {l : Launch} {d : Nat} (hd : 3 ≤ d) {S : qS} {p1 p2 p3 : Int32} {r : Bool} {Q : Int32 → qS → Prop} (k : Q (q_b r) S) : ∀ (n : Nat) (v4 : Bool) (v5 : Int32), fX9_exists_12 p1 p2 p3 n v4 v5 S = some r → q_E l cX9_exists 6 (some .boolean) RX9 d S 12 [some (.inr 34), some (.inl p1), some (.inl p2), some (.inl p3), some (.inl (q_b v4)), some (.inl v5)] [] (q_Qi Q) := by
  intro n
  induction n with
  | zero => intro v4 v5 h; exact q_no h
  | succ n ih =>
    intro v4 v5 h
    rw [fX9_exists_12] at h
    refine q_iload dX9_exists_12 rfl ?_
    refine q_aload_n dX9_exists_14 rfl ?_
    refine q_geti dX9_exists_15 fl_X9_91 rfl rfl ?_
    refine q_icmp_ge 80 dX9_exists_18 (by decide) (fun c18 => ?_) (fun c18 => ?_)
    · replace h := q_ift c18 h
      refine q_iload dX9_exists_80 rfl ?_
      exact q_ret (v := q_b v4) dX9_exists_82 rfl (q_b_nar v4) (q_lfb h k)
    · replace h := q_iff c18 h
      refine q_iload dX9_exists_21 rfl ?_
      refine q_if_ne_b 80 dX9_exists_23 (by decide) (fun c23 => ?_) (fun c23 => ?_)
      · replace h := q_ift c23 h
        refine q_iload dX9_exists_80 rfl ?_
        exact q_ret (v := q_b v4) dX9_exists_82 rfl (q_b_nar v4) (q_lfb h k)
      · replace h := q_ifb c23 h
        refine q_aload_n dX9_exists_26 rfl ?_
        refine q_iload dX9_exists_27 rfl ?_
        refine q_iconst (v := 0) dX9_exists_29 (by decide) ?_
        obtain ⟨r30, h30, h⟩ := q_bnd h
        refine q_callVi2 dX9_exists_30 cl_X9_100 rfl (Nat.le_of_ble_eq_true rfl) (by omega) (sX9_part (by omega) h30 ?_)
        refine q_iload_n dX9_exists_33 rfl ?_
        refine q_icmp_ne 71 dX9_exists_34 (by decide) (fun c34 => ?_) (fun c34 => ?_)
        · replace h := q_iff c34 h
          refine q_iconst (v := 0) dX9_exists_71 (by decide) ?_
          refine q_istore dX9_exists_72 (by decide) ?_
          refine q_iinc (v := (v5 + 1)) dX9_exists_74 rfl rfl (by decide) ?_
          refine q_goto 12 dX9_exists_77 (by decide) ?_
          exact q_sub (ih _ _ h) (And.intro rfl (And.intro rfl (And.intro rfl (And.intro rfl (And.intro rfl (And.intro rfl trivial))))))
        · replace h := q_ift c34 h
          refine q_aload_n dX9_exists_37 rfl ?_
          refine q_iload dX9_exists_38 rfl ?_
          refine q_iconst (v := 2) dX9_exists_40 (by decide) ?_
          obtain ⟨r41, h41, h⟩ := q_bnd h
          refine q_callVi2 dX9_exists_41 cl_X9_100 rfl (Nat.le_of_ble_eq_true rfl) (by omega) (sX9_part (by omega) h41 ?_)
          refine q_iload_n dX9_exists_44 rfl ?_
          obtain ⟨r45, h45, h⟩ := q_bnd h
          refine q_callSi2 dX9_exists_45 cl_X9_110 (Nat.le_of_ble_eq_true rfl) (by omega) (sX9_isBelow (by omega) h45 ?_)
          refine q_if_eq_b 71 dX9_exists_48 (by decide) (fun c48 => ?_) (fun c48 => ?_)
          · replace h := q_ifb c48 h
            refine q_iconst (v := 0) dX9_exists_71 (by decide) ?_
            refine q_istore dX9_exists_72 (by decide) ?_
            refine q_iinc (v := (v5 + 1)) dX9_exists_74 rfl rfl (by decide) ?_
            refine q_goto 12 dX9_exists_77 (by decide) ?_
            exact q_sub (ih _ _ h) (And.intro rfl (And.intro rfl (And.intro rfl (And.intro rfl (And.intro rfl (And.intro rfl trivial))))))
          · replace h := q_ift c48 h
            refine q_aload_n dX9_exists_51 rfl ?_
            refine q_iload_n dX9_exists_52 rfl ?_
            refine q_aload_n dX9_exists_53 rfl ?_
            refine q_iload dX9_exists_54 rfl ?_
            refine q_iconst (v := 2) dX9_exists_56 (by decide) ?_
            obtain ⟨r57, h57, h⟩ := q_bnd h
            refine q_callVi2 dX9_exists_57 cl_X9_100 rfl (Nat.le_of_ble_eq_true rfl) (by omega) (sX9_part (by omega) h57 ?_)
            refine q_iload_n dX9_exists_60 rfl ?_
            obtain ⟨r61, h61, h⟩ := q_bnd h
            refine q_callVi3 dX9_exists_61 cl_X9_107 rfl (Nat.le_of_ble_eq_true rfl) (by omega) (sX9_hasType (by omega) h61 ?_)
            refine q_if_eq_b 71 dX9_exists_64 (by decide) (fun c64 => ?_) (fun c64 => ?_)
            · replace h := q_ifb c64 h
              refine q_iconst (v := 0) dX9_exists_71 (by decide) ?_
              refine q_istore dX9_exists_72 (by decide) ?_
              refine q_iinc (v := (v5 + 1)) dX9_exists_74 rfl rfl (by decide) ?_
              refine q_goto 12 dX9_exists_77 (by decide) ?_
              exact q_sub (ih _ _ h) (And.intro rfl (And.intro rfl (And.intro rfl (And.intro rfl (And.intro rfl (And.intro rfl trivial))))))
            · replace h := q_ift c64 h
              refine q_iconst (v := 1) dX9_exists_67 (by decide) ?_
              refine q_goto 72 dX9_exists_68 (by decide) ?_
              refine q_istore dX9_exists_72 (by decide) ?_
              refine q_iinc (v := (v5 + 1)) dX9_exists_74 rfl rfl (by decide) ?_
              refine q_goto 12 dX9_exists_77 (by decide) ?_
              exact q_sub (ih _ _ h) (And.intro rfl (And.intro rfl (And.intro rfl (And.intro rfl (And.intro rfl (And.intro rfl trivial))))))
def fX9_exists (a1 a2 a3 : Int32) (S : qS) : Option Bool := (fX9_hasType a1 a2 a3 S).bind (fun r4 => fX9_exists_12 a1 a2 a3 20000 r4 0 S)
set_option maxHeartbeats 4000000 in
set_option maxRecDepth 100000 in
theorem sX9_exists {l : Launch} {d : Nat} (hd : 3 ≤ d) {S : qS} {a1 a2 a3 : Int32} {r : Bool} (h : fX9_exists a1 a2 a3 S = some r) {Q : Int32 → qS → Prop} (k : Q (q_b r) S) : q_Mi l d yX9_exists cX9_exists 6 (some .boolean) [.inr 34, .inl a1, .inl a2, .inl a3] S Q := by
  refine q_Mi_of (own := RX9) rfl rfl [some (.inr 34), some (.inl a1), some (.inl a2), some (.inl a3), none, none] rfl (Nat.le_of_ble_eq_true rfl) ?_
  unfold fX9_exists at h
  refine q_aload_n dX9_exists_0 rfl ?_
  refine q_iload_n dX9_exists_1 rfl ?_
  refine q_iload_n dX9_exists_2 rfl ?_
  refine q_iload_n dX9_exists_3 rfl ?_
  obtain ⟨r4, h4, h⟩ := q_bnd h
  refine q_callVi3 dX9_exists_4 cl_X9_107 rfl (Nat.le_of_ble_eq_true rfl) (by omega) (sX9_hasType (by omega) h4 ?_)
  refine q_istore dX9_exists_7 (by decide) ?_
  refine q_iconst (v := 0) dX9_exists_9 (by decide) ?_
  refine q_istore dX9_exists_10 (by decide) ?_
  exact q_sub (sX9_exists_12 hd k 20000 _ _ h) (And.intro rfl (And.intro rfl (And.intro rfl (And.intro rfl (And.intro rfl (And.intro rfl trivial))))))
def fX9_isType (a1 : Int32) (S : qS) : Option Bool := (fX9_in a1 0 2 S).bind (fun r3 => some r3)
set_option maxHeartbeats 4000000 in
set_option maxRecDepth 100000 in
theorem sX9_isType {l : Launch} {d : Nat} (hd : 1 ≤ d) {S : qS} {a1 : Int32} {r : Bool} (h : fX9_isType a1 S = some r) {Q : Int32 → qS → Prop} (k : Q (q_b r) S) : q_Mi l d yX9_isType cX9_isType 1 (some .boolean) [.inl a1] S Q := by
  refine q_Mi_of (own := RX9) rfl rfl [some (.inl a1)] rfl (Nat.le_of_ble_eq_true rfl) ?_
  unfold fX9_isType at h
  refine q_iload_n dX9_isType_0 rfl ?_
  refine q_iconst (v := 0) dX9_isType_1 (by decide) ?_
  refine q_iconst (v := 2) dX9_isType_2 (by decide) ?_
  obtain ⟨r3, h3, h⟩ := q_bnd h
  refine q_callSi3 dX9_isType_3 cl_X9_35 (Nat.le_of_ble_eq_true rfl) (by omega) (sX9_in (by omega) h3 ?_)
  exact q_ret (v := q_b r3) dX9_isType_6 rfl (q_b_nar r3) (q_lfb h k)
def fX9_isValue (a1 a2 : Int32) (S : qS) : Option Bool := if a1 = 0 then (fX9_isAddress a2 S).bind (fun r5 => some r5) else if a1 = 1 then (fX9_isName a2 S).bind (fun r17 => some r17) else (fX9_in a2 0 999 S).bind (fun r28 => some r28)
set_option maxHeartbeats 4000000 in
set_option maxRecDepth 100000 in
theorem sX9_isValue {l : Launch} {d : Nat} (hd : 2 ≤ d) {S : qS} {a1 a2 : Int32} {r : Bool} (h : fX9_isValue a1 a2 S = some r) {Q : Int32 → qS → Prop} (k : Q (q_b r) S) : q_Mi l d yX9_isValue cX9_isValue 2 (some .boolean) [.inl a1, .inl a2] S Q := by
  refine q_Mi_of (own := RX9) rfl rfl [some (.inl a1), some (.inl a2)] rfl (Nat.le_of_ble_eq_true rfl) ?_
  unfold fX9_isValue at h
  refine q_iload_n dX9_isValue_0 rfl ?_
  refine q_if_ne 11 dX9_isValue_1 (by decide) (fun c1 => ?_) (fun c1 => ?_)
  · replace h := q_iff c1 h
    refine q_iload_n dX9_isValue_11 rfl ?_
    refine q_iconst (v := 1) dX9_isValue_12 (by decide) ?_
    refine q_icmp_ne 23 dX9_isValue_13 (by decide) (fun c13 => ?_) (fun c13 => ?_)
    · replace h := q_iff c13 h
      refine q_iload_n dX9_isValue_23 rfl ?_
      refine q_iconst (v := 0) dX9_isValue_24 (by decide) ?_
      refine q_sipush (v := 999) dX9_isValue_25 (by decide) ?_
      obtain ⟨r28, h28, h⟩ := q_bnd h
      refine q_callSi3 dX9_isValue_28 cl_X9_35 (Nat.le_of_ble_eq_true rfl) (by omega) (sX9_in (by omega) h28 ?_)
      exact q_ret (v := q_b r28) dX9_isValue_31 rfl (q_b_nar r28) (q_lfb h k)
    · replace h := q_ift c13 h
      refine q_iload_n dX9_isValue_16 rfl ?_
      obtain ⟨r17, h17, h⟩ := q_bnd h
      refine q_callSi1 dX9_isValue_17 cl_X9_76 (Nat.le_of_ble_eq_true rfl) (by omega) (sX9_isName (by omega) h17 ?_)
      refine q_goto 31 dX9_isValue_20 (by decide) ?_
      exact q_ret (v := q_b r17) dX9_isValue_31 rfl (q_b_nar r17) (q_lfb h k)
  · replace h := q_ift c1 h
    refine q_iload_n dX9_isValue_4 rfl ?_
    obtain ⟨r5, h5, h⟩ := q_bnd h
    refine q_callSi1 dX9_isValue_5 cl_X9_54 (Nat.le_of_ble_eq_true rfl) (by omega) (sX9_isAddress (by omega) h5 ?_)
    refine q_goto 31 dX9_isValue_8 (by decide) ?_
    exact q_ret (v := q_b r5) dX9_isValue_31 rfl (q_b_nar r5) (q_lfb h k)
def fX9_makes (a1 a2 a3 a4 : Int32) (S : qS) : Option qS := if q_inb (5 * (S 34 6)) 350 = true then if q_inb ((5 * (S 34 6)) + 1) 350 = true then if q_inb ((5 * (S 34 6)) + 2) 350 = true then if q_inb ((5 * (S 34 6)) + 3) 350 = true then if q_inb ((5 * (S 34 6)) + 4) 350 = true then some (q_up (q_up (q_up (q_up (q_up (q_up S 37 ((5 * (S 34 6)).toNatClampNeg) a1) 37 (((5 * (S 34 6)) + 1).toNatClampNeg) (S 34 0)) 37 (((5 * (S 34 6)) + 2).toNatClampNeg) a2) 37 (((5 * (S 34 6)) + 3).toNatClampNeg) a3) 37 (((5 * (S 34 6)) + 4).toNatClampNeg) a4) 34 6 ((S 34 6) + 1)) else none else none else none else none else none
set_option maxHeartbeats 4000000 in
set_option maxRecDepth 100000 in
theorem sX9_makes {l : Launch} {d : Nat} (hd : 0 ≤ d) {S : qS} {a1 a2 a3 a4 : Int32} {S' : qS} (h : fX9_makes a1 a2 a3 a4 S = some S') {Q : qS → Prop} (k : Q S') : q_Mv l d yX9_makes cX9_makes 5 none [.inr 34, .inl a1, .inl a2, .inl a3, .inl a4] S Q := by
  refine q_Mv_of (own := RX9) rfl rfl [some (.inr 34), some (.inl a1), some (.inl a2), some (.inl a3), some (.inl a4)] rfl (Nat.le_of_ble_eq_true rfl) ?_
  unfold fX9_makes at h
  refine q_aload_n dX9_makes_0 rfl ?_
  refine q_getr dX9_makes_1 fl_X9_16 rfl rfl ?_
  refine q_iconst (v := 5) dX9_makes_4 (by decide) ?_
  refine q_aload_n dX9_makes_5 rfl ?_
  refine q_geti dX9_makes_6 fl_X9_91 rfl rfl ?_
  refine q_imul dX9_makes_9 ?_
  refine q_iload_n dX9_makes_10 rfl ?_
  obtain ⟨g11, h⟩ := q_gd h
  refine q_iast dX9_makes_11 rfl g11 ?_
  refine q_aload_n dX9_makes_12 rfl ?_
  refine q_getr dX9_makes_13 fl_X9_16 rfl rfl ?_
  refine q_iconst (v := 5) dX9_makes_16 (by decide) ?_
  refine q_aload_n dX9_makes_17 rfl ?_
  refine q_geti dX9_makes_18 fl_X9_91 rfl rfl ?_
  refine q_imul dX9_makes_21 ?_
  refine q_iconst (v := 1) dX9_makes_22 (by decide) ?_
  refine q_iadd dX9_makes_23 ?_
  refine q_aload_n dX9_makes_24 rfl ?_
  refine q_geti dX9_makes_25 fl_X9_32 rfl rfl ?_
  obtain ⟨g28, h⟩ := q_gd h
  refine q_iast dX9_makes_28 rfl g28 ?_
  refine q_aload_n dX9_makes_29 rfl ?_
  refine q_getr dX9_makes_30 fl_X9_16 rfl rfl ?_
  refine q_iconst (v := 5) dX9_makes_33 (by decide) ?_
  refine q_aload_n dX9_makes_34 rfl ?_
  refine q_geti dX9_makes_35 fl_X9_91 rfl rfl ?_
  refine q_imul dX9_makes_38 ?_
  refine q_iconst (v := 2) dX9_makes_39 (by decide) ?_
  refine q_iadd dX9_makes_40 ?_
  refine q_iload_n dX9_makes_41 rfl ?_
  obtain ⟨g42, h⟩ := q_gd h
  refine q_iast dX9_makes_42 rfl g42 ?_
  refine q_aload_n dX9_makes_43 rfl ?_
  refine q_getr dX9_makes_44 fl_X9_16 rfl rfl ?_
  refine q_iconst (v := 5) dX9_makes_47 (by decide) ?_
  refine q_aload_n dX9_makes_48 rfl ?_
  refine q_geti dX9_makes_49 fl_X9_91 rfl rfl ?_
  refine q_imul dX9_makes_52 ?_
  refine q_iconst (v := 3) dX9_makes_53 (by decide) ?_
  refine q_iadd dX9_makes_54 ?_
  refine q_iload_n dX9_makes_55 rfl ?_
  obtain ⟨g56, h⟩ := q_gd h
  refine q_iast dX9_makes_56 rfl g56 ?_
  refine q_aload_n dX9_makes_57 rfl ?_
  refine q_getr dX9_makes_58 fl_X9_16 rfl rfl ?_
  refine q_iconst (v := 5) dX9_makes_61 (by decide) ?_
  refine q_aload_n dX9_makes_62 rfl ?_
  refine q_geti dX9_makes_63 fl_X9_91 rfl rfl ?_
  refine q_imul dX9_makes_66 ?_
  refine q_iconst (v := 4) dX9_makes_67 (by decide) ?_
  refine q_iadd dX9_makes_68 ?_
  refine q_iload dX9_makes_69 rfl ?_
  obtain ⟨g71, h⟩ := q_gd h
  refine q_iast dX9_makes_71 rfl g71 ?_
  refine q_aload_n dX9_makes_72 rfl ?_
  refine q_dup dX9_makes_73 ?_
  refine q_geti dX9_makes_74 fl_X9_91 rfl rfl ?_
  refine q_iconst (v := 1) dX9_makes_77 (by decide) ?_
  refine q_iadd dX9_makes_78 ?_
  refine q_put dX9_makes_79 fl_X9_91 fp_8_6 rfl rfl ?_
  exact q_vret dX9_makes_82 rfl (q_lfv h k)
def fX9_set (a1 a2 a3 a4 : Int32) (S : qS) : Option (Int32 × qS) := (fX9_isZone a1 S).bind (fun r2 => if r2 = true then (fX9_isName a2 S).bind (fun r9 => if r9 = true then if q_inb ((4 * a1) + 1) 40 = true then (fX9_isAt a2 (S 36 (((4 * a1) + 1).toNatClampNeg)) S).bind (fun r26 => if r26 = true then (fX9_isType a3 S).bind (fun r33 => if r33 = true then (fX9_isValue a3 a4 S).bind (fun r42 => if r42 = true then (fX9_isGone a1 S).bind (fun r52 => if r52 = true then some ((-2), S) else if (S 34 6) = 70 then some ((-3), S) else (fX9_makes a1 a2 a3 a4 S).bind (fun T79 => (fX9_records a1 T79).bind (fun r84 => some (r84, T79)))) else some ((-1), S)) else some ((-1), S)) else some ((-1), S)) else none else some ((-1), S)) else some ((-1), S))
set_option maxHeartbeats 4000000 in
set_option maxRecDepth 100000 in
theorem sX9_set {l : Launch} {d : Nat} (hd : 3 ≤ d) {S : qS} {a1 a2 a3 a4 : Int32} {r : Int32} {S' : qS} (h : fX9_set a1 a2 a3 a4 S = some (r, S')) {Q : Int32 → qS → Prop} (k : Q r S') : q_Mi l d yX9_set cX9_set 5 (some .int) [.inr 34, .inl a1, .inl a2, .inl a3, .inl a4] S Q := by
  refine q_Mi_of (own := RX9) rfl rfl [some (.inr 34), some (.inl a1), some (.inl a2), some (.inl a3), some (.inl a4)] rfl (Nat.le_of_ble_eq_true rfl) ?_
  unfold fX9_set at h
  refine q_aload_n dX9_set_0 rfl ?_
  refine q_iload_n dX9_set_1 rfl ?_
  obtain ⟨r2, h2, h⟩ := q_bnd h
  refine q_callVi1 dX9_set_2 cl_X9_85 rfl (Nat.le_of_ble_eq_true rfl) (by omega) (sX9_isZone (by omega) h2 ?_)
  refine q_if_eq_b 48 dX9_set_5 (by decide) (fun c5 => ?_) (fun c5 => ?_)
  · replace h := q_ifb c5 h
    refine q_iconst (v := (-1)) dX9_set_48 (by decide) ?_
    exact q_ret dX9_set_49 rfl rfl (q_lfiw h k)
  · replace h := q_ift c5 h
    refine q_iload_n dX9_set_8 rfl ?_
    obtain ⟨r9, h9, h⟩ := q_bnd h
    refine q_callSi1 dX9_set_9 cl_X9_76 (Nat.le_of_ble_eq_true rfl) (by omega) (sX9_isName (by omega) h9 ?_)
    refine q_if_eq_b 48 dX9_set_12 (by decide) (fun c12 => ?_) (fun c12 => ?_)
    · replace h := q_ifb c12 h
      refine q_iconst (v := (-1)) dX9_set_48 (by decide) ?_
      exact q_ret dX9_set_49 rfl rfl (q_lfiw h k)
    · replace h := q_ift c12 h
      refine q_iload_n dX9_set_15 rfl ?_
      refine q_aload_n dX9_set_16 rfl ?_
      refine q_getr dX9_set_17 fl_X9_13 rfl rfl ?_
      refine q_iconst (v := 4) dX9_set_20 (by decide) ?_
      refine q_iload_n dX9_set_21 rfl ?_
      refine q_imul dX9_set_22 ?_
      refine q_iconst (v := 1) dX9_set_23 (by decide) ?_
      refine q_iadd dX9_set_24 ?_
      obtain ⟨g25, h⟩ := q_gd h
      refine q_iald dX9_set_25 rfl g25 ?_
      obtain ⟨r26, h26, h⟩ := q_bnd h
      refine q_callSi2 dX9_set_26 cl_X9_50 (Nat.le_of_ble_eq_true rfl) (by omega) (sX9_isAt (by omega) h26 ?_)
      refine q_if_eq_b 48 dX9_set_29 (by decide) (fun c29 => ?_) (fun c29 => ?_)
      · replace h := q_ifb c29 h
        refine q_iconst (v := (-1)) dX9_set_48 (by decide) ?_
        exact q_ret dX9_set_49 rfl rfl (q_lfiw h k)
      · replace h := q_ift c29 h
        refine q_iload_n dX9_set_32 rfl ?_
        obtain ⟨r33, h33, h⟩ := q_bnd h
        refine q_callSi1 dX9_set_33 cl_X9_113 (Nat.le_of_ble_eq_true rfl) (by omega) (sX9_isType (by omega) h33 ?_)
        refine q_if_eq_b 48 dX9_set_36 (by decide) (fun c36 => ?_) (fun c36 => ?_)
        · replace h := q_ifb c36 h
          refine q_iconst (v := (-1)) dX9_set_48 (by decide) ?_
          exact q_ret dX9_set_49 rfl rfl (q_lfiw h k)
        · replace h := q_ift c36 h
          refine q_iload_n dX9_set_39 rfl ?_
          refine q_iload dX9_set_40 rfl ?_
          obtain ⟨r42, h42, h⟩ := q_bnd h
          refine q_callSi2 dX9_set_42 cl_X9_116 (Nat.le_of_ble_eq_true rfl) (by omega) (sX9_isValue (by omega) h42 ?_)
          refine q_if_ne_b 50 dX9_set_45 (by decide) (fun c45 => ?_) (fun c45 => ?_)
          · replace h := q_ift c45 h
            refine q_aload_n dX9_set_50 rfl ?_
            refine q_iload_n dX9_set_51 rfl ?_
            obtain ⟨r52, h52, h⟩ := q_bnd h
            refine q_callVi1 dX9_set_52 cl_X9_82 rfl (Nat.le_of_ble_eq_true rfl) (by omega) (sX9_isGone (by omega) h52 ?_)
            refine q_if_eq_b 61 dX9_set_55 (by decide) (fun c55 => ?_) (fun c55 => ?_)
            · replace h := q_ifb c55 h
              refine q_aload_n dX9_set_61 rfl ?_
              refine q_geti dX9_set_62 fl_X9_91 rfl rfl ?_
              refine q_bipush (v := 70) dX9_set_65 (by decide) ?_
              refine q_icmp_ne 73 dX9_set_67 (by decide) (fun c67 => ?_) (fun c67 => ?_)
              · replace h := q_iff c67 h
                refine q_aload_n dX9_set_73 rfl ?_
                refine q_iload_n dX9_set_74 rfl ?_
                refine q_iload_n dX9_set_75 rfl ?_
                refine q_iload_n dX9_set_76 rfl ?_
                refine q_iload dX9_set_77 rfl ?_
                obtain ⟨T79, h79, h⟩ := q_bnd h
                refine q_callVv4 dX9_set_79 cl_X9_119 rfl (Nat.le_of_ble_eq_true rfl) (by omega) (sX9_makes (by omega) h79 ?_)
                refine q_aload_n dX9_set_82 rfl ?_
                refine q_iload_n dX9_set_83 rfl ?_
                obtain ⟨r84, h84, h⟩ := q_bnd h
                refine q_callVi1 dX9_set_84 cl_X9_88 rfl (Nat.le_of_ble_eq_true rfl) (by omega) (sX9_records (by omega) h84 ?_)
                exact q_ret dX9_set_87 rfl rfl (q_lfiw h k)
              · replace h := q_ift c67 h
                refine q_bipush (v := (-3)) dX9_set_70 (by decide) ?_
                exact q_ret dX9_set_72 rfl rfl (q_lfiw h k)
            · replace h := q_ift c55 h
              refine q_bipush (v := (-2)) dX9_set_58 (by decide) ?_
              exact q_ret dX9_set_60 rfl rfl (q_lfiw h k)
          · replace h := q_ifb c45 h
            refine q_iconst (v := (-1)) dX9_set_48 (by decide) ?_
            exact q_ret dX9_set_49 rfl rfl (q_lfiw h k)
def fX9_clear (a1 a2 a3 : Int32) (S : qS) : Option (Int32 × qS) := (fX9_isZone a1 S).bind (fun r2 => if r2 = true then (fX9_isName a2 S).bind (fun r9 => if r9 = true then (fX9_isType a3 S).bind (fun r16 => if r16 = true then (fX9_isGone a1 S).bind (fun r26 => if r26 = true then some ((-2), S) else if (S 34 6) = 70 then some ((-3), S) else (fX9_valueAt a1 a2 a3 (S 34 0) S).bind (fun r55 => if 0 ≤ r55 then (fX9_makes a1 a2 a3 (-1) S).bind (fun T73 => some (r55, T73)) else some ((-4), S))) else some ((-1), S)) else some ((-1), S)) else some ((-1), S))
set_option maxHeartbeats 4000000 in
set_option maxRecDepth 100000 in
theorem sX9_clear {l : Launch} {d : Nat} (hd : 2 ≤ d) {S : qS} {a1 a2 a3 : Int32} {r : Int32} {S' : qS} (h : fX9_clear a1 a2 a3 S = some (r, S')) {Q : Int32 → qS → Prop} (k : Q r S') : q_Mi l d yX9_clear cX9_clear 5 (some .int) [.inr 34, .inl a1, .inl a2, .inl a3] S Q := by
  refine q_Mi_of (own := RX9) rfl rfl [some (.inr 34), some (.inl a1), some (.inl a2), some (.inl a3), none] rfl (Nat.le_of_ble_eq_true rfl) ?_
  unfold fX9_clear at h
  refine q_aload_n dX9_clear_0 rfl ?_
  refine q_iload_n dX9_clear_1 rfl ?_
  obtain ⟨r2, h2, h⟩ := q_bnd h
  refine q_callVi1 dX9_clear_2 cl_X9_85 rfl (Nat.le_of_ble_eq_true rfl) (by omega) (sX9_isZone (by omega) h2 ?_)
  refine q_if_eq_b 22 dX9_clear_5 (by decide) (fun c5 => ?_) (fun c5 => ?_)
  · replace h := q_ifb c5 h
    refine q_iconst (v := (-1)) dX9_clear_22 (by decide) ?_
    exact q_ret dX9_clear_23 rfl rfl (q_lfiw h k)
  · replace h := q_ift c5 h
    refine q_iload_n dX9_clear_8 rfl ?_
    obtain ⟨r9, h9, h⟩ := q_bnd h
    refine q_callSi1 dX9_clear_9 cl_X9_76 (Nat.le_of_ble_eq_true rfl) (by omega) (sX9_isName (by omega) h9 ?_)
    refine q_if_eq_b 22 dX9_clear_12 (by decide) (fun c12 => ?_) (fun c12 => ?_)
    · replace h := q_ifb c12 h
      refine q_iconst (v := (-1)) dX9_clear_22 (by decide) ?_
      exact q_ret dX9_clear_23 rfl rfl (q_lfiw h k)
    · replace h := q_ift c12 h
      refine q_iload_n dX9_clear_15 rfl ?_
      obtain ⟨r16, h16, h⟩ := q_bnd h
      refine q_callSi1 dX9_clear_16 cl_X9_113 (Nat.le_of_ble_eq_true rfl) (by omega) (sX9_isType (by omega) h16 ?_)
      refine q_if_ne_b 24 dX9_clear_19 (by decide) (fun c19 => ?_) (fun c19 => ?_)
      · replace h := q_ift c19 h
        refine q_aload_n dX9_clear_24 rfl ?_
        refine q_iload_n dX9_clear_25 rfl ?_
        obtain ⟨r26, h26, h⟩ := q_bnd h
        refine q_callVi1 dX9_clear_26 cl_X9_82 rfl (Nat.le_of_ble_eq_true rfl) (by omega) (sX9_isGone (by omega) h26 ?_)
        refine q_if_eq_b 35 dX9_clear_29 (by decide) (fun c29 => ?_) (fun c29 => ?_)
        · replace h := q_ifb c29 h
          refine q_aload_n dX9_clear_35 rfl ?_
          refine q_geti dX9_clear_36 fl_X9_91 rfl rfl ?_
          refine q_bipush (v := 70) dX9_clear_39 (by decide) ?_
          refine q_icmp_ne 47 dX9_clear_41 (by decide) (fun c41 => ?_) (fun c41 => ?_)
          · replace h := q_iff c41 h
            refine q_aload_n dX9_clear_47 rfl ?_
            refine q_iload_n dX9_clear_48 rfl ?_
            refine q_iload_n dX9_clear_49 rfl ?_
            refine q_iload_n dX9_clear_50 rfl ?_
            refine q_aload_n dX9_clear_51 rfl ?_
            refine q_geti dX9_clear_52 fl_X9_32 rfl rfl ?_
            obtain ⟨r55, h55, h⟩ := q_bnd h
            refine q_callVi4 dX9_clear_55 cl_X9_103 rfl (Nat.le_of_ble_eq_true rfl) (by omega) (sX9_valueAt (by omega) h55 ?_)
            refine q_istore dX9_clear_58 (by decide) ?_
            refine q_iload dX9_clear_60 rfl ?_
            refine q_if_ge 68 dX9_clear_62 (by decide) (fun c62 => ?_) (fun c62 => ?_)
            · replace h := q_ift c62 h
              refine q_aload_n dX9_clear_68 rfl ?_
              refine q_iload_n dX9_clear_69 rfl ?_
              refine q_iload_n dX9_clear_70 rfl ?_
              refine q_iload_n dX9_clear_71 rfl ?_
              refine q_iconst (v := (-1)) dX9_clear_72 (by decide) ?_
              obtain ⟨T73, h73, h⟩ := q_bnd h
              refine q_callVv4 dX9_clear_73 cl_X9_119 rfl (Nat.le_of_ble_eq_true rfl) (by omega) (sX9_makes (by omega) h73 ?_)
              refine q_iload dX9_clear_76 rfl ?_
              exact q_ret dX9_clear_78 rfl rfl (q_lfiw h k)
            · replace h := q_iff c62 h
              refine q_bipush (v := (-4)) dX9_clear_65 (by decide) ?_
              exact q_ret dX9_clear_67 rfl rfl (q_lfiw h k)
          · replace h := q_ift c41 h
            refine q_bipush (v := (-3)) dX9_clear_44 (by decide) ?_
            exact q_ret dX9_clear_46 rfl rfl (q_lfiw h k)
        · replace h := q_ift c29 h
          refine q_bipush (v := (-2)) dX9_clear_32 (by decide) ?_
          exact q_ret dX9_clear_34 rfl rfl (q_lfiw h k)
      · replace h := q_ifb c19 h
        refine q_iconst (v := (-1)) dX9_clear_22 (by decide) ?_
        exact q_ret dX9_clear_23 rfl rfl (q_lfiw h k)
