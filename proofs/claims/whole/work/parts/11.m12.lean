def fX9_isGone (a1 : Int32) (S : qS) : Option Bool := if q_inb ((4 * a1) + 3) 40 = true then if (S 36 (((4 * a1) + 3).toNatClampNeg)) < 0 then some false else some true else none
set_option maxHeartbeats 4000000 in
set_option maxRecDepth 100000 in
theorem sX9_isGone {l : Launch} {d : Nat} (hd : 0 ≤ d) {S : qS} {a1 : Int32} {r : Bool} (h : fX9_isGone a1 S = some r) {Q : Int32 → qS → Prop} (k : Q (q_b r) S) : q_Mi l d yX9_isGone cX9_isGone 2 (some .boolean) [.inr 34, .inl a1] S Q := by
  refine q_Mi_of (own := RX9) rfl rfl [some (.inr 34), some (.inl a1)] rfl (Nat.le_of_ble_eq_true rfl) ?_
  unfold fX9_isGone at h
  refine q_aload_n dX9_isGone_0 rfl ?_
  refine q_getr dX9_isGone_1 fl_X9_13 rfl rfl ?_
  refine q_iconst (v := 4) dX9_isGone_4 (by decide) ?_
  refine q_iload_n dX9_isGone_5 rfl ?_
  refine q_imul dX9_isGone_6 ?_
  refine q_iconst (v := 3) dX9_isGone_7 (by decide) ?_
  refine q_iadd dX9_isGone_8 ?_
  obtain ⟨g9, h⟩ := q_gd h
  refine q_iald dX9_isGone_9 rfl g9 ?_
  refine q_if_lt 17 dX9_isGone_10 (by decide) (fun c10 => ?_) (fun c10 => ?_)
  · replace h := q_ift c10 h
    refine q_iconst (v := 0) dX9_isGone_17 (by decide) ?_
    exact q_ret (v := q_b false) dX9_isGone_18 rfl (q_b_nar false) (q_lfb h k)
  · replace h := q_iff c10 h
    refine q_iconst (v := 1) dX9_isGone_13 (by decide) ?_
    refine q_goto 18 dX9_isGone_14 (by decide) ?_
    exact q_ret (v := q_b true) dX9_isGone_18 rfl (q_b_nar true) (q_lfb h k)
def fX9_isView (a1 : Int32) (S : qS) : Option Bool := (fX9_in a1 0 3 S).bind (fun r3 => some r3)
set_option maxHeartbeats 4000000 in
set_option maxRecDepth 100000 in
theorem sX9_isView {l : Launch} {d : Nat} (hd : 1 ≤ d) {S : qS} {a1 : Int32} {r : Bool} (h : fX9_isView a1 S = some r) {Q : Int32 → qS → Prop} (k : Q (q_b r) S) : q_Mi l d yX9_isView cX9_isView 1 (some .boolean) [.inl a1] S Q := by
  refine q_Mi_of (own := RX9) rfl rfl [some (.inl a1)] rfl (Nat.le_of_ble_eq_true rfl) ?_
  unfold fX9_isView at h
  refine q_iload_n dX9_isView_0 rfl ?_
  refine q_iconst (v := 0) dX9_isView_1 (by decide) ?_
  refine q_iconst (v := 3) dX9_isView_2 (by decide) ?_
  obtain ⟨r3, h3, h⟩ := q_bnd h
  refine q_callSi3 dX9_isView_3 cl_X9_35 (Nat.le_of_ble_eq_true rfl) (by omega) (sX9_in (by omega) h3 ?_)
  exact q_ret (v := q_b r3) dX9_isView_6 rfl (q_b_nar r3) (q_lfb h k)
def fX9_addZone_25 (p1 p2 : Int32) : Nat → Int32 → qS → Option (Int32 × qS)
  | 0, _, _ => none
  | n + 1, v3, S => if (S 34 4) ≤ v3 then if (S 34 4) = 10 then some ((-3), S) else if q_inb (4 * (S 34 4)) 40 = true then if q_inb ((4 * (S 34 4)) + 1) 40 = true then if q_inb ((4 * (S 34 4)) + 2) 40 = true then if q_inb ((4 * (S 34 4)) + 3) 40 = true then some ((((S 34 4) + 1) - 1), (q_up (q_up (q_up (q_up (q_up S 36 ((4 * (S 34 4)).toNatClampNeg) p1) 36 (((4 * (S 34 4)) + 1).toNatClampNeg) p2) 36 (((4 * (S 34 4)) + 2).toNatClampNeg) (S 34 0)) 36 (((4 * (S 34 4)) + 3).toNatClampNeg) (-1)) 34 4 ((S 34 4) + 1))) else none else none else none else none else (fX9_isGone v3 S).bind (fun r35 => if r35 = true then fX9_addZone_25 p1 p2 n (v3 + 1) S else if q_inb (4 * v3) 40 = true then if (S 36 ((4 * v3).toNatClampNeg)) = p1 then if q_inb ((4 * v3) + 1) 40 = true then if (S 36 (((4 * v3) + 1).toNatClampNeg)) = p2 then some ((-2), S) else fX9_addZone_25 p1 p2 n (v3 + 1) S else none else fX9_addZone_25 p1 p2 n (v3 + 1) S else none)
set_option maxHeartbeats 4000000 in
set_option maxRecDepth 100000 in
theorem sX9_addZone_25 {l : Launch} {d : Nat} (hd : 2 ≤ d) {p1 p2 : Int32} {r : Int32} {S' : qS} {Q : Int32 → qS → Prop} (k : Q r S') : ∀ (n : Nat) (v3 : Int32) (S : qS), fX9_addZone_25 p1 p2 n v3 S = some (r, S') → q_E l cX9_addZone 4 (some .int) RX9 d S 25 [some (.inr 34), some (.inl p1), some (.inl p2), some (.inl v3)] [] (q_Qi Q) := by
  intro n
  induction n with
  | zero => intro v3 S h; exact q_no h
  | succ n ih =>
    intro v3 S h
    rw [fX9_addZone_25] at h
    refine q_iload_n dX9_addZone_25 rfl ?_
    refine q_aload_n dX9_addZone_26 rfl ?_
    refine q_geti dX9_addZone_27 fl_X9_70 rfl rfl ?_
    refine q_icmp_ge 76 dX9_addZone_30 (by decide) (fun c30 => ?_) (fun c30 => ?_)
    · replace h := q_ift c30 h
      refine q_aload_n dX9_addZone_76 rfl ?_
      refine q_geti dX9_addZone_77 fl_X9_70 rfl rfl ?_
      refine q_bipush (v := 10) dX9_addZone_80 (by decide) ?_
      refine q_icmp_ne 88 dX9_addZone_82 (by decide) (fun c82 => ?_) (fun c82 => ?_)
      · replace h := q_iff c82 h
        refine q_aload_n dX9_addZone_88 rfl ?_
        refine q_getr dX9_addZone_89 fl_X9_13 rfl rfl ?_
        refine q_iconst (v := 4) dX9_addZone_92 (by decide) ?_
        refine q_aload_n dX9_addZone_93 rfl ?_
        refine q_geti dX9_addZone_94 fl_X9_70 rfl rfl ?_
        refine q_imul dX9_addZone_97 ?_
        refine q_iload_n dX9_addZone_98 rfl ?_
        obtain ⟨g99, h⟩ := q_gd h
        refine q_iast dX9_addZone_99 rfl g99 ?_
        refine q_aload_n dX9_addZone_100 rfl ?_
        refine q_getr dX9_addZone_101 fl_X9_13 rfl rfl ?_
        refine q_iconst (v := 4) dX9_addZone_104 (by decide) ?_
        refine q_aload_n dX9_addZone_105 rfl ?_
        refine q_geti dX9_addZone_106 fl_X9_70 rfl rfl ?_
        refine q_imul dX9_addZone_109 ?_
        refine q_iconst (v := 1) dX9_addZone_110 (by decide) ?_
        refine q_iadd dX9_addZone_111 ?_
        refine q_iload_n dX9_addZone_112 rfl ?_
        obtain ⟨g113, h⟩ := q_gd h
        refine q_iast dX9_addZone_113 rfl g113 ?_
        refine q_aload_n dX9_addZone_114 rfl ?_
        refine q_getr dX9_addZone_115 fl_X9_13 rfl rfl ?_
        refine q_iconst (v := 4) dX9_addZone_118 (by decide) ?_
        refine q_aload_n dX9_addZone_119 rfl ?_
        refine q_geti dX9_addZone_120 fl_X9_70 rfl rfl ?_
        refine q_imul dX9_addZone_123 ?_
        refine q_iconst (v := 2) dX9_addZone_124 (by decide) ?_
        refine q_iadd dX9_addZone_125 ?_
        refine q_aload_n dX9_addZone_126 rfl ?_
        refine q_geti dX9_addZone_127 fl_X9_32 rfl rfl ?_
        obtain ⟨g130, h⟩ := q_gd h
        refine q_iast dX9_addZone_130 rfl g130 ?_
        refine q_aload_n dX9_addZone_131 rfl ?_
        refine q_getr dX9_addZone_132 fl_X9_13 rfl rfl ?_
        refine q_iconst (v := 4) dX9_addZone_135 (by decide) ?_
        refine q_aload_n dX9_addZone_136 rfl ?_
        refine q_geti dX9_addZone_137 fl_X9_70 rfl rfl ?_
        refine q_imul dX9_addZone_140 ?_
        refine q_iconst (v := 3) dX9_addZone_141 (by decide) ?_
        refine q_iadd dX9_addZone_142 ?_
        refine q_iconst (v := (-1)) dX9_addZone_143 (by decide) ?_
        obtain ⟨g144, h⟩ := q_gd h
        refine q_iast dX9_addZone_144 rfl g144 ?_
        refine q_aload_n dX9_addZone_145 rfl ?_
        refine q_dup dX9_addZone_146 ?_
        refine q_geti dX9_addZone_147 fl_X9_70 rfl rfl ?_
        refine q_iconst (v := 1) dX9_addZone_150 (by decide) ?_
        refine q_iadd dX9_addZone_151 ?_
        refine q_put dX9_addZone_152 fl_X9_70 fp_8_4 rfl rfl ?_
        refine q_aload_n dX9_addZone_155 rfl ?_
        refine q_geti dX9_addZone_156 fl_X9_70 rfl rfl ?_
        refine q_iconst (v := 1) dX9_addZone_159 (by decide) ?_
        refine q_isub dX9_addZone_160 ?_
        exact q_ret dX9_addZone_161 rfl rfl (q_lfiw h k)
      · replace h := q_ift c82 h
        refine q_bipush (v := (-3)) dX9_addZone_85 (by decide) ?_
        exact q_ret dX9_addZone_87 rfl rfl (q_lfiw h k)
    · replace h := q_iff c30 h
      refine q_aload_n dX9_addZone_33 rfl ?_
      refine q_iload_n dX9_addZone_34 rfl ?_
      obtain ⟨r35, h35, h⟩ := q_bnd h
      refine q_callVi1 dX9_addZone_35 cl_X9_82 rfl (Nat.le_of_ble_eq_true rfl) (by omega) (sX9_isGone (by omega) h35 ?_)
      refine q_if_ne_b 70 dX9_addZone_38 (by decide) (fun c38 => ?_) (fun c38 => ?_)
      · replace h := q_ift c38 h
        refine q_iinc (v := (v3 + 1)) dX9_addZone_70 rfl rfl (by decide) ?_
        refine q_goto 25 dX9_addZone_73 (by decide) ?_
        exact q_sub (ih _ _ h) (And.intro rfl (And.intro rfl (And.intro rfl (And.intro rfl trivial))))
      · replace h := q_ifb c38 h
        refine q_aload_n dX9_addZone_41 rfl ?_
        refine q_getr dX9_addZone_42 fl_X9_13 rfl rfl ?_
        refine q_iconst (v := 4) dX9_addZone_45 (by decide) ?_
        refine q_iload_n dX9_addZone_46 rfl ?_
        refine q_imul dX9_addZone_47 ?_
        obtain ⟨g48, h⟩ := q_gd h
        refine q_iald dX9_addZone_48 rfl g48 ?_
        refine q_iload_n dX9_addZone_49 rfl ?_
        refine q_icmp_ne 70 dX9_addZone_50 (by decide) (fun c50 => ?_) (fun c50 => ?_)
        · replace h := q_iff c50 h
          refine q_iinc (v := (v3 + 1)) dX9_addZone_70 rfl rfl (by decide) ?_
          refine q_goto 25 dX9_addZone_73 (by decide) ?_
          exact q_sub (ih _ _ h) (And.intro rfl (And.intro rfl (And.intro rfl (And.intro rfl trivial))))
        · replace h := q_ift c50 h
          refine q_aload_n dX9_addZone_53 rfl ?_
          refine q_getr dX9_addZone_54 fl_X9_13 rfl rfl ?_
          refine q_iconst (v := 4) dX9_addZone_57 (by decide) ?_
          refine q_iload_n dX9_addZone_58 rfl ?_
          refine q_imul dX9_addZone_59 ?_
          refine q_iconst (v := 1) dX9_addZone_60 (by decide) ?_
          refine q_iadd dX9_addZone_61 ?_
          obtain ⟨g62, h⟩ := q_gd h
          refine q_iald dX9_addZone_62 rfl g62 ?_
          refine q_iload_n dX9_addZone_63 rfl ?_
          refine q_icmp_ne 70 dX9_addZone_64 (by decide) (fun c64 => ?_) (fun c64 => ?_)
          · replace h := q_iff c64 h
            refine q_iinc (v := (v3 + 1)) dX9_addZone_70 rfl rfl (by decide) ?_
            refine q_goto 25 dX9_addZone_73 (by decide) ?_
            exact q_sub (ih _ _ h) (And.intro rfl (And.intro rfl (And.intro rfl (And.intro rfl trivial))))
          · replace h := q_ift c64 h
            refine q_bipush (v := (-2)) dX9_addZone_67 (by decide) ?_
            exact q_ret dX9_addZone_69 rfl rfl (q_lfiw h k)
def fX9_addZone (a1 a2 : Int32) (S : qS) : Option (Int32 × qS) := (fX9_isView a1 S).bind (fun r1 => if r1 = true then (fX9_isName a2 S).bind (fun r8 => if r8 = true then (fX9_isPattern a2 S).bind (fun r15 => if r15 = true then some ((-1), S) else fX9_addZone_25 a1 a2 20000 0 S) else some ((-1), S)) else some ((-1), S))
set_option maxHeartbeats 4000000 in
set_option maxRecDepth 100000 in
theorem sX9_addZone {l : Launch} {d : Nat} (hd : 2 ≤ d) {S : qS} {a1 a2 : Int32} {r : Int32} {S' : qS} (h : fX9_addZone a1 a2 S = some (r, S')) {Q : Int32 → qS → Prop} (k : Q r S') : q_Mi l d yX9_addZone cX9_addZone 4 (some .int) [.inr 34, .inl a1, .inl a2] S Q := by
  refine q_Mi_of (own := RX9) rfl rfl [some (.inr 34), some (.inl a1), some (.inl a2), none] rfl (Nat.le_of_ble_eq_true rfl) ?_
  unfold fX9_addZone at h
  refine q_iload_n dX9_addZone_0 rfl ?_
  obtain ⟨r1, h1, h⟩ := q_bnd h
  refine q_callSi1 dX9_addZone_1 cl_X9_73 (Nat.le_of_ble_eq_true rfl) (by omega) (sX9_isView (by omega) h1 ?_)
  refine q_if_eq_b 21 dX9_addZone_4 (by decide) (fun c4 => ?_) (fun c4 => ?_)
  · replace h := q_ifb c4 h
    refine q_iconst (v := (-1)) dX9_addZone_21 (by decide) ?_
    exact q_ret dX9_addZone_22 rfl rfl (q_lfiw h k)
  · replace h := q_ift c4 h
    refine q_iload_n dX9_addZone_7 rfl ?_
    obtain ⟨r8, h8, h⟩ := q_bnd h
    refine q_callSi1 dX9_addZone_8 cl_X9_76 (Nat.le_of_ble_eq_true rfl) (by omega) (sX9_isName (by omega) h8 ?_)
    refine q_if_eq_b 21 dX9_addZone_11 (by decide) (fun c11 => ?_) (fun c11 => ?_)
    · replace h := q_ifb c11 h
      refine q_iconst (v := (-1)) dX9_addZone_21 (by decide) ?_
      exact q_ret dX9_addZone_22 rfl rfl (q_lfiw h k)
    · replace h := q_ift c11 h
      refine q_iload_n dX9_addZone_14 rfl ?_
      obtain ⟨r15, h15, h⟩ := q_bnd h
      refine q_callSi1 dX9_addZone_15 cl_X9_79 (Nat.le_of_ble_eq_true rfl) (by omega) (sX9_isPattern (by omega) h15 ?_)
      refine q_if_eq_b 23 dX9_addZone_18 (by decide) (fun c18 => ?_) (fun c18 => ?_)
      · replace h := q_ifb c18 h
        refine q_iconst (v := 0) dX9_addZone_23 (by decide) ?_
        refine q_istore_n dX9_addZone_24 (by decide) ?_
        exact q_sub (sX9_addZone_25 hd k 20000 _ _ h) (And.intro rfl (And.intro rfl (And.intro rfl (And.intro rfl trivial))))
      · replace h := q_ift c18 h
        refine q_iconst (v := (-1)) dX9_addZone_21 (by decide) ?_
        exact q_ret dX9_addZone_22 rfl rfl (q_lfiw h k)
def fX9_part (a1 a2 : Int32) (S : qS) : Option Int32 := if q_inb ((5 * a1) + a2) 350 = true then some (S 37 (((5 * a1) + a2).toNatClampNeg)) else none
set_option maxHeartbeats 4000000 in
set_option maxRecDepth 100000 in
theorem sX9_part {l : Launch} {d : Nat} (hd : 0 ≤ d) {S : qS} {a1 a2 : Int32} {r : Int32} (h : fX9_part a1 a2 S = some r) {Q : Int32 → qS → Prop} (k : Q r S) : q_Mi l d yX9_part cX9_part 3 (some .int) [.inr 34, .inl a1, .inl a2] S Q := by
  refine q_Mi_of (own := RX9) rfl rfl [some (.inr 34), some (.inl a1), some (.inl a2)] rfl (Nat.le_of_ble_eq_true rfl) ?_
  unfold fX9_part at h
  refine q_aload_n dX9_part_0 rfl ?_
  refine q_getr dX9_part_1 fl_X9_16 rfl rfl ?_
  refine q_iconst (v := 5) dX9_part_4 (by decide) ?_
  refine q_iload_n dX9_part_5 rfl ?_
  refine q_imul dX9_part_6 ?_
  refine q_iload_n dX9_part_7 rfl ?_
  refine q_iadd dX9_part_8 ?_
  obtain ⟨g9, h⟩ := q_gd h
  refine q_iald dX9_part_9 rfl g9 ?_
  exact q_ret dX9_part_10 rfl rfl (q_lfi h k)
def fX9_valueAt_6 (p1 p2 p3 p4 : Int32) : Nat → Int32 → Int32 → qS → Option Int32
  | 0, _, _, _ => none
  | n + 1, v5, v6, S => if (S 34 6) ≤ v6 then some v5 else (fX9_part v6 0 S).bind (fun r19 => if r19 = p1 then (fX9_part v6 1 S).bind (fun r30 => if p4 < r30 then fX9_valueAt_6 p1 p2 p3 p4 n v5 (v6 + 1) S else (fX9_part v6 2 S).bind (fun r42 => if r42 = p2 then (fX9_part v6 3 S).bind (fun r53 => if r53 = p3 then (fX9_part v6 4 S).bind (fun r76 => fX9_valueAt_6 p1 p2 p3 p4 n r76 (v6 + 1) S) else fX9_valueAt_6 p1 p2 p3 p4 n v5 (v6 + 1) S) else fX9_valueAt_6 p1 p2 p3 p4 n v5 (v6 + 1) S)) else fX9_valueAt_6 p1 p2 p3 p4 n v5 (v6 + 1) S)
set_option maxHeartbeats 4000000 in
set_option maxRecDepth 100000 in
theorem sX9_valueAt_6 {l : Launch} {d : Nat} (hd : 1 ≤ d) {S : qS} {p1 p2 p3 p4 : Int32} {r : Int32} {Q : Int32 → qS → Prop} (k : Q r S) : ∀ (n : Nat) (v5 : Int32) (v6 : Int32), fX9_valueAt_6 p1 p2 p3 p4 n v5 v6 S = some r → q_E l cX9_valueAt 8 (some .int) RX9 d S 6 [some (.inr 34), some (.inl p1), some (.inl p2), some (.inl p3), some (.inl p4), some (.inl v5), some (.inl v6), none] [] (q_Qi Q) := by
  intro n
  induction n with
  | zero => intro v5 v6 h; exact q_no h
  | succ n ih =>
    intro v5 v6 h
    rw [fX9_valueAt_6] at h
    refine q_iload dX9_valueAt_6 rfl ?_
    refine q_aload_n dX9_valueAt_8 rfl ?_
    refine q_geti dX9_valueAt_9 fl_X9_91 rfl rfl ?_
    refine q_icmp_ge 92 dX9_valueAt_12 (by decide) (fun c12 => ?_) (fun c12 => ?_)
    · replace h := q_ift c12 h
      refine q_iload dX9_valueAt_92 rfl ?_
      exact q_ret dX9_valueAt_94 rfl rfl (q_lfi h k)
    · replace h := q_iff c12 h
      refine q_aload_n dX9_valueAt_15 rfl ?_
      refine q_iload dX9_valueAt_16 rfl ?_
      refine q_iconst (v := 0) dX9_valueAt_18 (by decide) ?_
      obtain ⟨r19, h19, h⟩ := q_bnd h
      refine q_callVi2 dX9_valueAt_19 cl_X9_100 rfl (Nat.le_of_ble_eq_true rfl) (by omega) (sX9_part (by omega) h19 ?_)
      refine q_iload_n dX9_valueAt_22 rfl ?_
      refine q_icmp_ne 64 dX9_valueAt_23 (by decide) (fun c23 => ?_) (fun c23 => ?_)
      · replace h := q_iff c23 h
        refine q_iconst (v := 0) dX9_valueAt_64 (by decide) ?_
        refine q_istore dX9_valueAt_65 (by decide) ?_
        refine q_iload dX9_valueAt_67 rfl ?_
        refine q_if_eq 82 dX9_valueAt_69 (by decide) (fun _ => ?_) (fun c => absurd c (by decide))
        refine q_iload dX9_valueAt_82 rfl ?_
        refine q_istore dX9_valueAt_84 (by decide) ?_
        refine q_iinc (v := (v6 + 1)) dX9_valueAt_86 rfl rfl (by decide) ?_
        refine q_goto 6 dX9_valueAt_89 (by decide) ?_
        exact q_sub (ih _ _ h) (And.intro rfl (And.intro rfl (And.intro rfl (And.intro rfl (And.intro rfl (And.intro rfl (And.intro rfl trivial)))))))
      · replace h := q_ift c23 h
        refine q_aload_n dX9_valueAt_26 rfl ?_
        refine q_iload dX9_valueAt_27 rfl ?_
        refine q_iconst (v := 1) dX9_valueAt_29 (by decide) ?_
        obtain ⟨r30, h30, h⟩ := q_bnd h
        refine q_callVi2 dX9_valueAt_30 cl_X9_100 rfl (Nat.le_of_ble_eq_true rfl) (by omega) (sX9_part (by omega) h30 ?_)
        refine q_iload dX9_valueAt_33 rfl ?_
        refine q_icmp_gt 64 dX9_valueAt_35 (by decide) (fun c35 => ?_) (fun c35 => ?_)
        · replace h := q_ift c35 h
          refine q_iconst (v := 0) dX9_valueAt_64 (by decide) ?_
          refine q_istore dX9_valueAt_65 (by decide) ?_
          refine q_iload dX9_valueAt_67 rfl ?_
          refine q_if_eq 82 dX9_valueAt_69 (by decide) (fun _ => ?_) (fun c => absurd c (by decide))
          refine q_iload dX9_valueAt_82 rfl ?_
          refine q_istore dX9_valueAt_84 (by decide) ?_
          refine q_iinc (v := (v6 + 1)) dX9_valueAt_86 rfl rfl (by decide) ?_
          refine q_goto 6 dX9_valueAt_89 (by decide) ?_
          exact q_sub (ih _ _ h) (And.intro rfl (And.intro rfl (And.intro rfl (And.intro rfl (And.intro rfl (And.intro rfl (And.intro rfl trivial)))))))
        · replace h := q_iff c35 h
          refine q_aload_n dX9_valueAt_38 rfl ?_
          refine q_iload dX9_valueAt_39 rfl ?_
          refine q_iconst (v := 2) dX9_valueAt_41 (by decide) ?_
          obtain ⟨r42, h42, h⟩ := q_bnd h
          refine q_callVi2 dX9_valueAt_42 cl_X9_100 rfl (Nat.le_of_ble_eq_true rfl) (by omega) (sX9_part (by omega) h42 ?_)
          refine q_iload_n dX9_valueAt_45 rfl ?_
          refine q_icmp_ne 64 dX9_valueAt_46 (by decide) (fun c46 => ?_) (fun c46 => ?_)
          · replace h := q_iff c46 h
            refine q_iconst (v := 0) dX9_valueAt_64 (by decide) ?_
            refine q_istore dX9_valueAt_65 (by decide) ?_
            refine q_iload dX9_valueAt_67 rfl ?_
            refine q_if_eq 82 dX9_valueAt_69 (by decide) (fun _ => ?_) (fun c => absurd c (by decide))
            refine q_iload dX9_valueAt_82 rfl ?_
            refine q_istore dX9_valueAt_84 (by decide) ?_
            refine q_iinc (v := (v6 + 1)) dX9_valueAt_86 rfl rfl (by decide) ?_
            refine q_goto 6 dX9_valueAt_89 (by decide) ?_
            exact q_sub (ih _ _ h) (And.intro rfl (And.intro rfl (And.intro rfl (And.intro rfl (And.intro rfl (And.intro rfl (And.intro rfl trivial)))))))
          · replace h := q_ift c46 h
            refine q_aload_n dX9_valueAt_49 rfl ?_
            refine q_iload dX9_valueAt_50 rfl ?_
            refine q_iconst (v := 3) dX9_valueAt_52 (by decide) ?_
            obtain ⟨r53, h53, h⟩ := q_bnd h
            refine q_callVi2 dX9_valueAt_53 cl_X9_100 rfl (Nat.le_of_ble_eq_true rfl) (by omega) (sX9_part (by omega) h53 ?_)
            refine q_iload_n dX9_valueAt_56 rfl ?_
            refine q_icmp_ne 64 dX9_valueAt_57 (by decide) (fun c57 => ?_) (fun c57 => ?_)
            · replace h := q_iff c57 h
              refine q_iconst (v := 0) dX9_valueAt_64 (by decide) ?_
              refine q_istore dX9_valueAt_65 (by decide) ?_
              refine q_iload dX9_valueAt_67 rfl ?_
              refine q_if_eq 82 dX9_valueAt_69 (by decide) (fun _ => ?_) (fun c => absurd c (by decide))
              refine q_iload dX9_valueAt_82 rfl ?_
              refine q_istore dX9_valueAt_84 (by decide) ?_
              refine q_iinc (v := (v6 + 1)) dX9_valueAt_86 rfl rfl (by decide) ?_
              refine q_goto 6 dX9_valueAt_89 (by decide) ?_
              exact q_sub (ih _ _ h) (And.intro rfl (And.intro rfl (And.intro rfl (And.intro rfl (And.intro rfl (And.intro rfl (And.intro rfl trivial)))))))
            · replace h := q_ift c57 h
              refine q_iconst (v := 1) dX9_valueAt_60 (by decide) ?_
              refine q_goto 65 dX9_valueAt_61 (by decide) ?_
              refine q_istore dX9_valueAt_65 (by decide) ?_
              refine q_iload dX9_valueAt_67 rfl ?_
              refine q_if_eq 82 dX9_valueAt_69 (by decide) (fun c => absurd c (by decide)) (fun _ => ?_)
              refine q_aload_n dX9_valueAt_72 rfl ?_
              refine q_iload dX9_valueAt_73 rfl ?_
              refine q_iconst (v := 4) dX9_valueAt_75 (by decide) ?_
              obtain ⟨r76, h76, h⟩ := q_bnd h
              refine q_callVi2 dX9_valueAt_76 cl_X9_100 rfl (Nat.le_of_ble_eq_true rfl) (by omega) (sX9_part (by omega) h76 ?_)
              refine q_goto 84 dX9_valueAt_79 (by decide) ?_
              refine q_istore dX9_valueAt_84 (by decide) ?_
              refine q_iinc (v := (v6 + 1)) dX9_valueAt_86 rfl rfl (by decide) ?_
              refine q_goto 6 dX9_valueAt_89 (by decide) ?_
              exact q_sub (ih _ _ h) (And.intro rfl (And.intro rfl (And.intro rfl (And.intro rfl (And.intro rfl (And.intro rfl (And.intro rfl trivial)))))))
def fX9_valueAt (a1 a2 a3 a4 : Int32) (S : qS) : Option Int32 := fX9_valueAt_6 a1 a2 a3 a4 20000 (-1) 0 S
set_option maxHeartbeats 4000000 in
set_option maxRecDepth 100000 in
theorem sX9_valueAt {l : Launch} {d : Nat} (hd : 1 ≤ d) {S : qS} {a1 a2 a3 a4 : Int32} {r : Int32} (h : fX9_valueAt a1 a2 a3 a4 S = some r) {Q : Int32 → qS → Prop} (k : Q r S) : q_Mi l d yX9_valueAt cX9_valueAt 8 (some .int) [.inr 34, .inl a1, .inl a2, .inl a3, .inl a4] S Q := by
  refine q_Mi_of (own := RX9) rfl rfl [some (.inr 34), some (.inl a1), some (.inl a2), some (.inl a3), some (.inl a4), none, none, none] rfl (Nat.le_of_ble_eq_true rfl) ?_
  unfold fX9_valueAt at h
  refine q_iconst (v := (-1)) dX9_valueAt_0 (by decide) ?_
  refine q_istore dX9_valueAt_1 (by decide) ?_
  refine q_iconst (v := 0) dX9_valueAt_3 (by decide) ?_
  refine q_istore dX9_valueAt_4 (by decide) ?_
  exact q_sub (sX9_valueAt_6 hd k 20000 _ _ h) (And.intro rfl (And.intro rfl (And.intro rfl (And.intro rfl (And.intro rfl (And.intro rfl (And.intro rfl trivial)))))))
def fX9_records_L (a1 : Int32) : Nat → Bool → Int32 → Int32 → Int32 → qS → Option Int32
  | 0, _, _, _, _, _ => none
  | n + 1, true, v2, v3, v4, S => if 124 < v3 then some v2 else fX9_records_L a1 n false v2 v3 0 S
  | n + 1, false, v2, v3, v4, S => if 3 ≤ v4 then fX9_records_L a1 n true v2 (v3 + 1) v4 S else (fX9_valueAt a1 v3 v4 (S 34 0) S).bind (fun r29 => if r29 < 0 then fX9_records_L a1 n false (v2 + 0) v3 (v4 + 1) S else fX9_records_L a1 n false (v2 + 1) v3 (v4 + 1) S)
set_option maxHeartbeats 4000000 in
set_option maxRecDepth 100000 in
theorem sX9_records_L {l : Launch} {d : Nat} (hd : 2 ≤ d) {S : qS} {a1 : Int32} {r : Int32} {Q : Int32 → qS → Prop} (k : Q r S) : ∀ n : Nat, (∀ (v2 v3 v4 : Int32) (S1 : qS), S1 = S → fX9_records_L a1 n true v2 v3 v4 S1 = some r → q_E l cX9_records 5 (some .int) RX9 d S 4 [some (.inr 34), some (.inl a1), some (.inl v2), some (.inl v3), none] [] (q_Qi Q)) ∧ (∀ (v2 v3 v4 : Int32) (S1 : qS), S1 = S → fX9_records_L a1 n false v2 v3 v4 S1 = some r → q_E l cX9_records 5 (some .int) RX9 d S 13 [some (.inr 34), some (.inl a1), some (.inl v2), some (.inl v3), some (.inl v4)] [] (q_Qi Q)) := by
  intro n
  induction n with
  | zero => exact ⟨fun v2 v3 v4 S1 _ h => q_no h, fun v2 v3 v4 S1 _ h => q_no h⟩
  | succ n ih =>
    constructor
    · intro v2 v3 v4 S1 hS1 h
      subst hS1
      rw [fX9_records_L] at h
      refine q_iload_n dX9_records_4 rfl ?_
      refine q_bipush (v := 124) dX9_records_5 (by decide) ?_
      refine q_icmp_gt 54 dX9_records_7 (by decide) (fun c7 => ?_) (fun c7 => ?_)
      · replace h := q_ift c7 h
        refine q_iload_n dX9_records_54 rfl ?_
        exact q_ret dX9_records_55 rfl rfl (q_lfi h k)
      · replace h := q_iff c7 h
        refine q_iconst (v := 0) dX9_records_10 (by decide) ?_
        refine q_istore dX9_records_11 (by decide) ?_
        exact q_sub (ih.2 _ _ _ _ rfl h) (And.intro rfl (And.intro rfl (And.intro rfl (And.intro rfl (And.intro rfl trivial)))))
    · intro v2 v3 v4 S1 hS1 h
      subst hS1
      rw [fX9_records_L] at h
      refine q_iload dX9_records_13 rfl ?_
      refine q_iconst (v := 3) dX9_records_15 (by decide) ?_
      refine q_icmp_ge 48 dX9_records_16 (by decide) (fun c16 => ?_) (fun c16 => ?_)
      · replace h := q_ift c16 h
        refine q_iinc (v := (v3 + 1)) dX9_records_48 rfl rfl (by decide) ?_
        refine q_goto 4 dX9_records_51 (by decide) ?_
        exact q_sub (ih.1 _ _ _ _ rfl h) (And.intro rfl (And.intro rfl (And.intro rfl (And.intro rfl trivial))))
      · replace h := q_iff c16 h
        refine q_iload_n dX9_records_19 rfl ?_
        refine q_aload_n dX9_records_20 rfl ?_
        refine q_iload_n dX9_records_21 rfl ?_
        refine q_iload_n dX9_records_22 rfl ?_
        refine q_iload dX9_records_23 rfl ?_
        refine q_aload_n dX9_records_25 rfl ?_
        refine q_geti dX9_records_26 fl_X9_32 rfl rfl ?_
        obtain ⟨r29, h29, h⟩ := q_bnd h
        refine q_callVi4 dX9_records_29 cl_X9_103 rfl (Nat.le_of_ble_eq_true rfl) (by omega) (sX9_valueAt (by omega) h29 ?_)
        refine q_if_lt 39 dX9_records_32 (by decide) (fun c32 => ?_) (fun c32 => ?_)
        · replace h := q_ift c32 h
          refine q_iconst (v := 0) dX9_records_39 (by decide) ?_
          refine q_iadd dX9_records_40 ?_
          refine q_istore_n dX9_records_41 (by decide) ?_
          refine q_iinc (v := (v4 + 1)) dX9_records_42 rfl rfl (by decide) ?_
          refine q_goto 13 dX9_records_45 (by decide) ?_
          exact q_sub (ih.2 _ _ _ _ rfl h) (And.intro rfl (And.intro rfl (And.intro rfl (And.intro rfl (And.intro rfl trivial)))))
        · replace h := q_iff c32 h
          refine q_iconst (v := 1) dX9_records_35 (by decide) ?_
          refine q_goto 40 dX9_records_36 (by decide) ?_
          refine q_iadd dX9_records_40 ?_
          refine q_istore_n dX9_records_41 (by decide) ?_
          refine q_iinc (v := (v4 + 1)) dX9_records_42 rfl rfl (by decide) ?_
          refine q_goto 13 dX9_records_45 (by decide) ?_
          exact q_sub (ih.2 _ _ _ _ rfl h) (And.intro rfl (And.intro rfl (And.intro rfl (And.intro rfl (And.intro rfl trivial)))))
def fX9_records (a1 : Int32) (S : qS) : Option Int32 := fX9_records_L a1 20000 true 0 1 0 S
set_option maxHeartbeats 4000000 in
set_option maxRecDepth 100000 in
theorem sX9_records {l : Launch} {d : Nat} (hd : 2 ≤ d) {S : qS} {a1 : Int32} {r : Int32} (h : fX9_records a1 S = some r) {Q : Int32 → qS → Prop} (k : Q r S) : q_Mi l d yX9_records cX9_records 5 (some .int) [.inr 34, .inl a1] S Q := by
  refine q_Mi_of (own := RX9) rfl rfl [some (.inr 34), some (.inl a1), none, none, none] rfl (Nat.le_of_ble_eq_true rfl) ?_
  unfold fX9_records at h
  refine q_iconst (v := 0) dX9_records_0 (by decide) ?_
  refine q_istore_n dX9_records_1 (by decide) ?_
  refine q_iconst (v := 1) dX9_records_2 (by decide) ?_
  refine q_istore_n dX9_records_3 (by decide) ?_
  exact q_sub ((sX9_records_L hd k 20000).1 _ _ _ _ rfl h) (And.intro rfl (And.intro rfl (And.intro rfl (And.intro rfl trivial))))
def fX9_removeZone (a1 : Int32) (S : qS) : Option (Int32 × qS) := (fX9_isZone a1 S).bind (fun r2 => if r2 = true then (fX9_isGone a1 S).bind (fun r12 => if r12 = true then some ((-2), S) else (fX9_records a1 S).bind (fun r23 => if q_inb ((4 * a1) + 3) 40 = true then some (r23, (q_up S 36 (((4 * a1) + 3).toNatClampNeg) (S 34 0))) else none)) else some ((-1), S))
set_option maxHeartbeats 4000000 in
set_option maxRecDepth 100000 in
theorem sX9_removeZone {l : Launch} {d : Nat} (hd : 3 ≤ d) {S : qS} {a1 : Int32} {r : Int32} {S' : qS} (h : fX9_removeZone a1 S = some (r, S')) {Q : Int32 → qS → Prop} (k : Q r S') : q_Mi l d yX9_removeZone cX9_removeZone 3 (some .int) [.inr 34, .inl a1] S Q := by
  refine q_Mi_of (own := RX9) rfl rfl [some (.inr 34), some (.inl a1), none] rfl (Nat.le_of_ble_eq_true rfl) ?_
  unfold fX9_removeZone at h
  refine q_aload_n dX9_removeZone_0 rfl ?_
  refine q_iload_n dX9_removeZone_1 rfl ?_
  obtain ⟨r2, h2, h⟩ := q_bnd h
  refine q_callVi1 dX9_removeZone_2 cl_X9_85 rfl (Nat.le_of_ble_eq_true rfl) (by omega) (sX9_isZone (by omega) h2 ?_)
  refine q_if_ne_b 10 dX9_removeZone_5 (by decide) (fun c5 => ?_) (fun c5 => ?_)
  · replace h := q_ift c5 h
    refine q_aload_n dX9_removeZone_10 rfl ?_
    refine q_iload_n dX9_removeZone_11 rfl ?_
    obtain ⟨r12, h12, h⟩ := q_bnd h
    refine q_callVi1 dX9_removeZone_12 cl_X9_82 rfl (Nat.le_of_ble_eq_true rfl) (by omega) (sX9_isGone (by omega) h12 ?_)
    refine q_if_eq_b 21 dX9_removeZone_15 (by decide) (fun c15 => ?_) (fun c15 => ?_)
    · replace h := q_ifb c15 h
      refine q_aload_n dX9_removeZone_21 rfl ?_
      refine q_iload_n dX9_removeZone_22 rfl ?_
      obtain ⟨r23, h23, h⟩ := q_bnd h
      refine q_callVi1 dX9_removeZone_23 cl_X9_88 rfl (Nat.le_of_ble_eq_true rfl) (by omega) (sX9_records (by omega) h23 ?_)
      refine q_istore_n dX9_removeZone_26 (by decide) ?_
      refine q_aload_n dX9_removeZone_27 rfl ?_
      refine q_getr dX9_removeZone_28 fl_X9_13 rfl rfl ?_
      refine q_iconst (v := 4) dX9_removeZone_31 (by decide) ?_
      refine q_iload_n dX9_removeZone_32 rfl ?_
      refine q_imul dX9_removeZone_33 ?_
      refine q_iconst (v := 3) dX9_removeZone_34 (by decide) ?_
      refine q_iadd dX9_removeZone_35 ?_
      refine q_aload_n dX9_removeZone_36 rfl ?_
      refine q_geti dX9_removeZone_37 fl_X9_32 rfl rfl ?_
      obtain ⟨g40, h⟩ := q_gd h
      refine q_iast dX9_removeZone_40 rfl g40 ?_
      refine q_iload_n dX9_removeZone_41 rfl ?_
      exact q_ret dX9_removeZone_42 rfl rfl (q_lfiw h k)
    · replace h := q_ift c15 h
      refine q_bipush (v := (-2)) dX9_removeZone_18 (by decide) ?_
      exact q_ret dX9_removeZone_20 rfl rfl (q_lfiw h k)
  · replace h := q_ifb c5 h
    refine q_iconst (v := (-1)) dX9_removeZone_8 (by decide) ?_
    exact q_ret dX9_removeZone_9 rfl rfl (q_lfiw h k)
def fX9_zoneInfo (a1 a2 : Int32) (S : qS) : Option Int32 := (fX9_isZone a1 S).bind (fun r2 => if r2 = true then (fX9_in a2 0 3 S).bind (fun r11 => if r11 = true then if a2 = 3 then (fX9_isGone a1 S).bind (fun r26 => if r26 = true then if q_inb ((4 * a1) + a2) 40 = true then some (S 36 (((4 * a1) + a2).toNatClampNeg)) else none else some (-4)) else if q_inb ((4 * a1) + a2) 40 = true then some (S 36 (((4 * a1) + a2).toNatClampNeg)) else none else some (-1)) else some (-1))
set_option maxHeartbeats 4000000 in
set_option maxRecDepth 100000 in
theorem sX9_zoneInfo {l : Launch} {d : Nat} (hd : 2 ≤ d) {S : qS} {a1 a2 : Int32} {r : Int32} (h : fX9_zoneInfo a1 a2 S = some r) {Q : Int32 → qS → Prop} (k : Q r S) : q_Mi l d yX9_zoneInfo cX9_zoneInfo 3 (some .int) [.inr 34, .inl a1, .inl a2] S Q := by
  refine q_Mi_of (own := RX9) rfl rfl [some (.inr 34), some (.inl a1), some (.inl a2)] rfl (Nat.le_of_ble_eq_true rfl) ?_
  unfold fX9_zoneInfo at h
  refine q_aload_n dX9_zoneInfo_0 rfl ?_
  refine q_iload_n dX9_zoneInfo_1 rfl ?_
  obtain ⟨r2, h2, h⟩ := q_bnd h
  refine q_callVi1 dX9_zoneInfo_2 cl_X9_85 rfl (Nat.le_of_ble_eq_true rfl) (by omega) (sX9_isZone (by omega) h2 ?_)
  refine q_if_eq_b 17 dX9_zoneInfo_5 (by decide) (fun c5 => ?_) (fun c5 => ?_)
  · replace h := q_ifb c5 h
    refine q_iconst (v := (-1)) dX9_zoneInfo_17 (by decide) ?_
    exact q_ret dX9_zoneInfo_18 rfl rfl (q_lfi h k)
  · replace h := q_ift c5 h
    refine q_iload_n dX9_zoneInfo_8 rfl ?_
    refine q_iconst (v := 0) dX9_zoneInfo_9 (by decide) ?_
    refine q_iconst (v := 3) dX9_zoneInfo_10 (by decide) ?_
    obtain ⟨r11, h11, h⟩ := q_bnd h
    refine q_callSi3 dX9_zoneInfo_11 cl_X9_35 (Nat.le_of_ble_eq_true rfl) (by omega) (sX9_in (by omega) h11 ?_)
    refine q_if_ne_b 19 dX9_zoneInfo_14 (by decide) (fun c14 => ?_) (fun c14 => ?_)
    · replace h := q_ift c14 h
      refine q_iload_n dX9_zoneInfo_19 rfl ?_
      refine q_iconst (v := 3) dX9_zoneInfo_20 (by decide) ?_
      refine q_icmp_ne 37 dX9_zoneInfo_21 (by decide) (fun c21 => ?_) (fun c21 => ?_)
      · replace h := q_iff c21 h
        refine q_aload_n dX9_zoneInfo_37 rfl ?_
        refine q_getr dX9_zoneInfo_38 fl_X9_13 rfl rfl ?_
        refine q_iconst (v := 4) dX9_zoneInfo_41 (by decide) ?_
        refine q_iload_n dX9_zoneInfo_42 rfl ?_
        refine q_imul dX9_zoneInfo_43 ?_
        refine q_iload_n dX9_zoneInfo_44 rfl ?_
        refine q_iadd dX9_zoneInfo_45 ?_
        obtain ⟨g46, h⟩ := q_gd h
        refine q_iald dX9_zoneInfo_46 rfl g46 ?_
        exact q_ret dX9_zoneInfo_47 rfl rfl (q_lfi h k)
      · replace h := q_ift c21 h
        refine q_aload_n dX9_zoneInfo_24 rfl ?_
        refine q_iload_n dX9_zoneInfo_25 rfl ?_
        obtain ⟨r26, h26, h⟩ := q_bnd h
        refine q_callVi1 dX9_zoneInfo_26 cl_X9_82 rfl (Nat.le_of_ble_eq_true rfl) (by omega) (sX9_isGone (by omega) h26 ?_)
        refine q_if_ne_b 37 dX9_zoneInfo_29 (by decide) (fun c29 => ?_) (fun c29 => ?_)
        · replace h := q_ift c29 h
          refine q_aload_n dX9_zoneInfo_37 rfl ?_
          refine q_getr dX9_zoneInfo_38 fl_X9_13 rfl rfl ?_
          refine q_iconst (v := 4) dX9_zoneInfo_41 (by decide) ?_
          refine q_iload_n dX9_zoneInfo_42 rfl ?_
          refine q_imul dX9_zoneInfo_43 ?_
          refine q_iload_n dX9_zoneInfo_44 rfl ?_
          refine q_iadd dX9_zoneInfo_45 ?_
          obtain ⟨g46, h⟩ := q_gd h
          refine q_iald dX9_zoneInfo_46 rfl g46 ?_
          exact q_ret dX9_zoneInfo_47 rfl rfl (q_lfi h k)
        · replace h := q_ifb c29 h
          refine q_bipush (v := (-4)) dX9_zoneInfo_32 (by decide) ?_
          refine q_goto 47 dX9_zoneInfo_34 (by decide) ?_
          exact q_ret dX9_zoneInfo_47 rfl rfl (q_lfi h k)
    · replace h := q_ifb c14 h
      refine q_iconst (v := (-1)) dX9_zoneInfo_17 (by decide) ?_
      exact q_ret dX9_zoneInfo_18 rfl rfl (q_lfi h k)
