def fX9_faultAt_5 : Nat → qS → Option (Int32 × qS)
  | 0, _ => none
  | n + 1, S => if (S 34 12) ≤ (S 34 14) then some ((-4), S) else (fX9_isChange S).bind (fun (r22, T22) => if r22 = true then fX9_faultAt_5 n T22 else some ((S 34 14), T22))
set_option maxHeartbeats 4000000 in
set_option maxRecDepth 100000 in
theorem sX9_faultAt_5 {l : Launch} {d : Nat} (hd : 4 ≤ d) {r : Int32} {S' : qS} {Q : Int32 → qS → Prop} (k : Q r S') : ∀ (n : Nat) (S : qS), fX9_faultAt_5  n S = some (r, S') → q_E l cX9_faultAt 2 (some .int) RX9 d S 5 [some (.inr 34), none] [] (q_Qi Q) := by
  intro n
  induction n with
  | zero => intro  S h; exact q_no h
  | succ n ih =>
    intro  S h
    rw [fX9_faultAt_5] at h
    refine q_aload_n dX9_faultAt_5 rfl ?_
    refine q_geti dX9_faultAt_6 fl_X9_162 rfl rfl ?_
    refine q_aload_n dX9_faultAt_9 rfl ?_
    refine q_geti dX9_faultAt_10 fl_X9_159 rfl rfl ?_
    refine q_icmp_ge 33 dX9_faultAt_13 (by decide) (fun c13 => ?_) (fun c13 => ?_)
    · replace h := q_ift c13 h
      refine q_bipush (v := (-4)) dX9_faultAt_33 (by decide) ?_
      exact q_ret dX9_faultAt_35 rfl rfl (q_lfiw h k)
    · replace h := q_iff c13 h
      refine q_aload_n dX9_faultAt_16 rfl ?_
      refine q_geti dX9_faultAt_17 fl_X9_162 rfl rfl ?_
      refine q_istore_n dX9_faultAt_20 (by decide) ?_
      refine q_aload_n dX9_faultAt_21 rfl ?_
      obtain ⟨⟨r22, T22⟩, h22, h⟩ := q_bnd h
      dsimp only at h
      refine q_callVi0 dX9_faultAt_22 cl_X9_181 rfl (Nat.le_of_ble_eq_true rfl) (by omega) (sX9_isChange (by omega) h22 ?_)
      refine q_if_ne_b 30 dX9_faultAt_25 (by decide) (fun c25 => ?_) (fun c25 => ?_)
      · replace h := q_ift c25 h
        refine q_goto 5 dX9_faultAt_30 (by decide) ?_
        exact q_sub (ih _ h) (And.intro rfl trivial)
      · replace h := q_ifb c25 h
        refine q_iload_n dX9_faultAt_28 rfl ?_
        exact q_ret dX9_faultAt_29 rfl rfl (q_lfiw h k)
def fX9_faultAt (S : qS) : Option (Int32 × qS) := fX9_faultAt_5 20000 (q_up S 34 14 0)
set_option maxHeartbeats 4000000 in
set_option maxRecDepth 100000 in
theorem sX9_faultAt {l : Launch} {d : Nat} (hd : 4 ≤ d) {S : qS} {r : Int32} {S' : qS} (h : fX9_faultAt S = some (r, S')) {Q : Int32 → qS → Prop} (k : Q r S') : q_Mi l d yX9_faultAt cX9_faultAt 2 (some .int) [.inr 34] S Q := by
  refine q_Mi_of (own := RX9) rfl rfl [some (.inr 34), none] rfl (Nat.le_of_ble_eq_true rfl) ?_
  unfold fX9_faultAt at h
  refine q_aload_n dX9_faultAt_0 rfl ?_
  refine q_iconst (v := 0) dX9_faultAt_1 (by decide) ?_
  refine q_put dX9_faultAt_2 fl_X9_162 fp_8_14 rfl rfl ?_
  exact q_sub (sX9_faultAt_5 hd k 20000 _ h) (And.intro rfl trivial)
def fX9_fault (S : qS) : Option (Int32 × qS) := (fX9_faultAt S).bind (fun (r1, T1) => some (r1, T1))
set_option maxHeartbeats 4000000 in
set_option maxRecDepth 100000 in
theorem sX9_fault {l : Launch} {d : Nat} (hd : 5 ≤ d) {S : qS} {r : Int32} {S' : qS} (h : fX9_fault S = some (r, S')) {Q : Int32 → qS → Prop} (k : Q r S') : q_Mi l d yX9_fault cX9_fault 1 (some .int) [.inr 34] S Q := by
  refine q_Mi_of (own := RX9) rfl rfl [some (.inr 34)] rfl (Nat.le_of_ble_eq_true rfl) ?_
  unfold fX9_fault at h
  refine q_aload_n dX9_fault_0 rfl ?_
  obtain ⟨⟨r1, T1⟩, h1, h⟩ := q_bnd h
  dsimp only at h
  refine q_callVi0 dX9_fault_1 cl_X9_184 rfl (Nat.le_of_ble_eq_true rfl) (by omega) (sX9_faultAt (by omega) h1 ?_)
  exact q_ret dX9_fault_4 rfl rfl (q_lfiw h k)
def fX9_lay_119 (p1 p2 p3 : Int32) : Nat → qS → Option (Int32 × qS)
  | 0, _ => none
  | n + 1, S => if (S 34 12) ≤ (S 34 14) then (fX9_records p1 S).bind (fun r202 => some (r202, S)) else (fX9_isChange S).bind (fun (r131, T131) => if r131 = true then if q_inb 2 3 = true then if 0 ≤ (T131 40 2) then if q_inb 0 3 = true then if q_inb 1 3 = true then if q_inb 2 3 = true then (fX9_makes p1 (T131 40 0) (T131 40 1) (T131 40 2) T131).bind (fun T194 => fX9_lay_119 p1 p2 p3 n T194) else none else none else none else if q_inb 0 3 = true then if q_inb 1 3 = true then (fX9_valueAt p1 (T131 40 0) (T131 40 1) (T131 34 0) T131).bind (fun r168 => if r168 < 0 then fX9_lay_119 p1 p2 p3 n T131 else if q_inb 0 3 = true then if q_inb 1 3 = true then if q_inb 2 3 = true then (fX9_makes p1 (T131 40 0) (T131 40 1) (T131 40 2) T131).bind (fun T194 => fX9_lay_119 p1 p2 p3 n T194) else none else none else none) else none else none else none else fX9_lay_119 p1 p2 p3 n T131)
set_option maxHeartbeats 4000000 in
set_option maxRecDepth 100000 in
theorem sX9_lay_119 {l : Launch} {d : Nat} (hd : 5 ≤ d) {p1 p2 p3 : Int32} {r : Int32} {S' : qS} {Q : Int32 → qS → Prop} (k : Q r S') : ∀ (n : Nat) (S : qS), fX9_lay_119 p1 p2 p3 n S = some (r, S') → q_E l cX9_lay 5 (some .int) RX9 d S 119 [some (.inr 34), some (.inl p1), some (.inl p2), some (.inl p3), none] [] (q_Qi Q) := by
  intro n
  induction n with
  | zero => intro  S h; exact q_no h
  | succ n ih =>
    intro  S h
    rw [fX9_lay_119] at h
    refine q_aload_n dX9_lay_119 rfl ?_
    refine q_geti dX9_lay_120 fl_X9_162 rfl rfl ?_
    refine q_aload_n dX9_lay_123 rfl ?_
    refine q_geti dX9_lay_124 fl_X9_159 rfl rfl ?_
    refine q_icmp_ge 200 dX9_lay_127 (by decide) (fun c127 => ?_) (fun c127 => ?_)
    · replace h := q_ift c127 h
      refine q_aload_n dX9_lay_200 rfl ?_
      refine q_iload_n dX9_lay_201 rfl ?_
      obtain ⟨r202, h202, h⟩ := q_bnd h
      refine q_callVi1 dX9_lay_202 cl_X9_88 rfl (Nat.le_of_ble_eq_true rfl) (by omega) (sX9_records (by omega) h202 ?_)
      exact q_ret dX9_lay_205 rfl rfl (q_lfiw h k)
    · replace h := q_iff c127 h
      refine q_aload_n dX9_lay_130 rfl ?_
      obtain ⟨⟨r131, T131⟩, h131, h⟩ := q_bnd h
      dsimp only at h
      refine q_callVi0 dX9_lay_131 cl_X9_181 rfl (Nat.le_of_ble_eq_true rfl) (by omega) (sX9_isChange (by omega) h131 ?_)
      refine q_istore dX9_lay_134 (by decide) ?_
      refine q_iload dX9_lay_136 rfl ?_
      refine q_if_eq_b 197 dX9_lay_138 (by decide) (fun c138 => ?_) (fun c138 => ?_)
      · replace h := q_ifb c138 h
        refine q_goto 119 dX9_lay_197 (by decide) ?_
        exact q_sub (ih _ h) (And.intro rfl (And.intro rfl (And.intro rfl (And.intro rfl trivial))))
      · replace h := q_ift c138 h
        refine q_aload_n dX9_lay_141 rfl ?_
        refine q_getr dX9_lay_142 fl_X9_29 rfl rfl ?_
        refine q_iconst (v := 2) dX9_lay_145 (by decide) ?_
        obtain ⟨g146, h⟩ := q_gd h
        refine q_iald dX9_lay_146 rfl g146 ?_
        refine q_if_ge 174 dX9_lay_147 (by decide) (fun c147 => ?_) (fun c147 => ?_)
        · replace h := q_ift c147 h
          refine q_aload_n dX9_lay_174 rfl ?_
          refine q_iload_n dX9_lay_175 rfl ?_
          refine q_aload_n dX9_lay_176 rfl ?_
          refine q_getr dX9_lay_177 fl_X9_29 rfl rfl ?_
          refine q_iconst (v := 0) dX9_lay_180 (by decide) ?_
          obtain ⟨g181, h⟩ := q_gd h
          refine q_iald dX9_lay_181 rfl g181 ?_
          refine q_aload_n dX9_lay_182 rfl ?_
          refine q_getr dX9_lay_183 fl_X9_29 rfl rfl ?_
          refine q_iconst (v := 1) dX9_lay_186 (by decide) ?_
          obtain ⟨g187, h⟩ := q_gd h
          refine q_iald dX9_lay_187 rfl g187 ?_
          refine q_aload_n dX9_lay_188 rfl ?_
          refine q_getr dX9_lay_189 fl_X9_29 rfl rfl ?_
          refine q_iconst (v := 2) dX9_lay_192 (by decide) ?_
          obtain ⟨g193, h⟩ := q_gd h
          refine q_iald dX9_lay_193 rfl g193 ?_
          obtain ⟨T194, h194, h⟩ := q_bnd h
          refine q_callVv4 dX9_lay_194 cl_X9_119 rfl (Nat.le_of_ble_eq_true rfl) (by omega) (sX9_makes (by omega) h194 ?_)
          refine q_goto 119 dX9_lay_197 (by decide) ?_
          exact q_sub (ih _ h) (And.intro rfl (And.intro rfl (And.intro rfl (And.intro rfl trivial))))
        · replace h := q_iff c147 h
          refine q_aload_n dX9_lay_150 rfl ?_
          refine q_iload_n dX9_lay_151 rfl ?_
          refine q_aload_n dX9_lay_152 rfl ?_
          refine q_getr dX9_lay_153 fl_X9_29 rfl rfl ?_
          refine q_iconst (v := 0) dX9_lay_156 (by decide) ?_
          obtain ⟨g157, h⟩ := q_gd h
          refine q_iald dX9_lay_157 rfl g157 ?_
          refine q_aload_n dX9_lay_158 rfl ?_
          refine q_getr dX9_lay_159 fl_X9_29 rfl rfl ?_
          refine q_iconst (v := 1) dX9_lay_162 (by decide) ?_
          obtain ⟨g163, h⟩ := q_gd h
          refine q_iald dX9_lay_163 rfl g163 ?_
          refine q_aload_n dX9_lay_164 rfl ?_
          refine q_geti dX9_lay_165 fl_X9_32 rfl rfl ?_
          obtain ⟨r168, h168, h⟩ := q_bnd h
          refine q_callVi4 dX9_lay_168 cl_X9_103 rfl (Nat.le_of_ble_eq_true rfl) (by omega) (sX9_valueAt (by omega) h168 ?_)
          refine q_if_lt 197 dX9_lay_171 (by decide) (fun c171 => ?_) (fun c171 => ?_)
          · replace h := q_ift c171 h
            refine q_goto 119 dX9_lay_197 (by decide) ?_
            exact q_sub (ih _ h) (And.intro rfl (And.intro rfl (And.intro rfl (And.intro rfl trivial))))
          · replace h := q_iff c171 h
            refine q_aload_n dX9_lay_174 rfl ?_
            refine q_iload_n dX9_lay_175 rfl ?_
            refine q_aload_n dX9_lay_176 rfl ?_
            refine q_getr dX9_lay_177 fl_X9_29 rfl rfl ?_
            refine q_iconst (v := 0) dX9_lay_180 (by decide) ?_
            obtain ⟨g181, h⟩ := q_gd h
            refine q_iald dX9_lay_181 rfl g181 ?_
            refine q_aload_n dX9_lay_182 rfl ?_
            refine q_getr dX9_lay_183 fl_X9_29 rfl rfl ?_
            refine q_iconst (v := 1) dX9_lay_186 (by decide) ?_
            obtain ⟨g187, h⟩ := q_gd h
            refine q_iald dX9_lay_187 rfl g187 ?_
            refine q_aload_n dX9_lay_188 rfl ?_
            refine q_getr dX9_lay_189 fl_X9_29 rfl rfl ?_
            refine q_iconst (v := 2) dX9_lay_192 (by decide) ?_
            obtain ⟨g193, h⟩ := q_gd h
            refine q_iald dX9_lay_193 rfl g193 ?_
            obtain ⟨T194, h194, h⟩ := q_bnd h
            refine q_callVv4 dX9_lay_194 cl_X9_119 rfl (Nat.le_of_ble_eq_true rfl) (by omega) (sX9_makes (by omega) h194 ?_)
            refine q_goto 119 dX9_lay_197 (by decide) ?_
            exact q_sub (ih _ h) (And.intro rfl (And.intro rfl (And.intro rfl (And.intro rfl trivial))))
def fX9_lay_37 (p1 : Int32) : Nat → Int32 → Int32 → qS → Option (Int32 × qS)
  | 0, _, _, _ => none
  | n + 1, v2, v3, S => if (S 34 12) ≤ (S 34 14) then if v3 = 0 then some ((-2), S) else if ((S 34 6) + v2) ≤ 70 then fX9_lay_119 p1 v2 v3 20000 (q_up S 34 14 0) else some ((-3), S) else (fX9_isChange S).bind (fun (r49, T49) => if r49 = true then if q_inb 0 3 = true then if q_inb ((4 * p1) + 1) 40 = true then (fX9_isAt (T49 40 0) (T49 36 (((4 * p1) + 1).toNatClampNeg)) T49).bind (fun r71 => if r71 = true then if v3 = 0 then fX9_lay_37 p1 n (v2 + 1) 0 T49 else fX9_lay_37 p1 n (v2 + 1) 1 T49 else fX9_lay_37 p1 n (v2 + 1) 0 T49) else none else none else fX9_lay_37 p1 n (v2 + 1) 0 T49)
set_option maxHeartbeats 4000000 in
set_option maxRecDepth 100000 in
theorem sX9_lay_37 {l : Launch} {d : Nat} (hd : 5 ≤ d) {p1 : Int32} {r : Int32} {S' : qS} {Q : Int32 → qS → Prop} (k : Q r S') : ∀ (n : Nat) (v2 : Int32) (v3 : Int32) (S : qS), fX9_lay_37 p1 n v2 v3 S = some (r, S') → q_E l cX9_lay 5 (some .int) RX9 d S 37 [some (.inr 34), some (.inl p1), some (.inl v2), some (.inl v3), none] [] (q_Qi Q) := by
  intro n
  induction n with
  | zero => intro v2 v3 S h; exact q_no h
  | succ n ih =>
    intro v2 v3 S h
    rw [fX9_lay_37] at h
    refine q_aload_n dX9_lay_37 rfl ?_
    refine q_geti dX9_lay_38 fl_X9_162 rfl rfl ?_
    refine q_aload_n dX9_lay_41 rfl ?_
    refine q_geti dX9_lay_42 fl_X9_159 rfl rfl ?_
    refine q_icmp_ge 93 dX9_lay_45 (by decide) (fun c45 => ?_) (fun c45 => ?_)
    · replace h := q_ift c45 h
      refine q_iload_n dX9_lay_93 rfl ?_
      refine q_if_ne 100 dX9_lay_94 (by decide) (fun c94 => ?_) (fun c94 => ?_)
      · replace h := q_iff c94 h
        refine q_aload_n dX9_lay_100 rfl ?_
        refine q_geti dX9_lay_101 fl_X9_91 rfl rfl ?_
        refine q_iload_n dX9_lay_104 rfl ?_
        refine q_iadd dX9_lay_105 ?_
        refine q_bipush (v := 70) dX9_lay_106 (by decide) ?_
        refine q_icmp_le 114 dX9_lay_108 (by decide) (fun c108 => ?_) (fun c108 => ?_)
        · replace h := q_ift c108 h
          refine q_aload_n dX9_lay_114 rfl ?_
          refine q_iconst (v := 0) dX9_lay_115 (by decide) ?_
          refine q_put dX9_lay_116 fl_X9_162 fp_8_14 rfl rfl ?_
          exact q_sub (sX9_lay_119 hd k 20000 _ h) (And.intro rfl (And.intro rfl (And.intro rfl (And.intro rfl trivial))))
        · replace h := q_iff c108 h
          refine q_bipush (v := (-3)) dX9_lay_111 (by decide) ?_
          exact q_ret dX9_lay_113 rfl rfl (q_lfiw h k)
      · replace h := q_ift c94 h
        refine q_bipush (v := (-2)) dX9_lay_97 (by decide) ?_
        exact q_ret dX9_lay_99 rfl rfl (q_lfiw h k)
    · replace h := q_iff c45 h
      refine q_aload_n dX9_lay_48 rfl ?_
      obtain ⟨⟨r49, T49⟩, h49, h⟩ := q_bnd h
      dsimp only at h
      refine q_callVi0 dX9_lay_49 cl_X9_181 rfl (Nat.le_of_ble_eq_true rfl) (by omega) (sX9_isChange (by omega) h49 ?_)
      refine q_if_eq_b 85 dX9_lay_52 (by decide) (fun c52 => ?_) (fun c52 => ?_)
      · replace h := q_ifb c52 h
        refine q_iconst (v := 0) dX9_lay_85 (by decide) ?_
        refine q_istore_n dX9_lay_86 (by decide) ?_
        refine q_iinc (v := (v2 + 1)) dX9_lay_87 rfl rfl (by decide) ?_
        refine q_goto 37 dX9_lay_90 (by decide) ?_
        exact q_sub (ih _ _ _ h) (And.intro rfl (And.intro rfl (And.intro rfl (And.intro rfl trivial))))
      · replace h := q_ift c52 h
        refine q_aload_n dX9_lay_55 rfl ?_
        refine q_getr dX9_lay_56 fl_X9_29 rfl rfl ?_
        refine q_iconst (v := 0) dX9_lay_59 (by decide) ?_
        obtain ⟨g60, h⟩ := q_gd h
        refine q_iald dX9_lay_60 rfl g60 ?_
        refine q_aload_n dX9_lay_61 rfl ?_
        refine q_getr dX9_lay_62 fl_X9_13 rfl rfl ?_
        refine q_iconst (v := 4) dX9_lay_65 (by decide) ?_
        refine q_iload_n dX9_lay_66 rfl ?_
        refine q_imul dX9_lay_67 ?_
        refine q_iconst (v := 1) dX9_lay_68 (by decide) ?_
        refine q_iadd dX9_lay_69 ?_
        obtain ⟨g70, h⟩ := q_gd h
        refine q_iald dX9_lay_70 rfl g70 ?_
        obtain ⟨r71, h71, h⟩ := q_bnd h
        refine q_callSi2 dX9_lay_71 cl_X9_50 (Nat.le_of_ble_eq_true rfl) (by omega) (sX9_isAt (by omega) h71 ?_)
        refine q_if_eq_b 85 dX9_lay_74 (by decide) (fun c74 => ?_) (fun c74 => ?_)
        · replace h := q_ifb c74 h
          refine q_iconst (v := 0) dX9_lay_85 (by decide) ?_
          refine q_istore_n dX9_lay_86 (by decide) ?_
          refine q_iinc (v := (v2 + 1)) dX9_lay_87 rfl rfl (by decide) ?_
          refine q_goto 37 dX9_lay_90 (by decide) ?_
          exact q_sub (ih _ _ _ h) (And.intro rfl (And.intro rfl (And.intro rfl (And.intro rfl trivial))))
        · replace h := q_ift c74 h
          refine q_iload_n dX9_lay_77 rfl ?_
          refine q_if_eq 85 dX9_lay_78 (by decide) (fun c78 => ?_) (fun c78 => ?_)
          · replace h := q_ift c78 h
            refine q_iconst (v := 0) dX9_lay_85 (by decide) ?_
            refine q_istore_n dX9_lay_86 (by decide) ?_
            refine q_iinc (v := (v2 + 1)) dX9_lay_87 rfl rfl (by decide) ?_
            refine q_goto 37 dX9_lay_90 (by decide) ?_
            exact q_sub (ih _ _ _ h) (And.intro rfl (And.intro rfl (And.intro rfl (And.intro rfl trivial))))
          · replace h := q_iff c78 h
            refine q_iconst (v := 1) dX9_lay_81 (by decide) ?_
            refine q_goto 86 dX9_lay_82 (by decide) ?_
            refine q_istore_n dX9_lay_86 (by decide) ?_
            refine q_iinc (v := (v2 + 1)) dX9_lay_87 rfl rfl (by decide) ?_
            refine q_goto 37 dX9_lay_90 (by decide) ?_
            exact q_sub (ih _ _ _ h) (And.intro rfl (And.intro rfl (And.intro rfl (And.intro rfl trivial))))
def fX9_lay (a1 : Int32) (S : qS) : Option (Int32 × qS) := (fX9_isZone a1 S).bind (fun r2 => if r2 = true then (fX9_isGone a1 S).bind (fun r12 => if r12 = true then some ((-2), S) else (fX9_faultAt S).bind (fun (r19, T19) => if r19 < 0 then fX9_lay_37 a1 20000 0 1 (q_up T19 34 14 0) else some ((-2), T19))) else some ((-1), S))
set_option maxHeartbeats 4000000 in
set_option maxRecDepth 100000 in
theorem sX9_lay {l : Launch} {d : Nat} (hd : 5 ≤ d) {S : qS} {a1 : Int32} {r : Int32} {S' : qS} (h : fX9_lay a1 S = some (r, S')) {Q : Int32 → qS → Prop} (k : Q r S') : q_Mi l d yX9_lay cX9_lay 5 (some .int) [.inr 34, .inl a1] S Q := by
  refine q_Mi_of (own := RX9) rfl rfl [some (.inr 34), some (.inl a1), none, none, none] rfl (Nat.le_of_ble_eq_true rfl) ?_
  unfold fX9_lay at h
  refine q_aload_n dX9_lay_0 rfl ?_
  refine q_iload_n dX9_lay_1 rfl ?_
  obtain ⟨r2, h2, h⟩ := q_bnd h
  refine q_callVi1 dX9_lay_2 cl_X9_85 rfl (Nat.le_of_ble_eq_true rfl) (by omega) (sX9_isZone (by omega) h2 ?_)
  refine q_if_ne_b 10 dX9_lay_5 (by decide) (fun c5 => ?_) (fun c5 => ?_)
  · replace h := q_ift c5 h
    refine q_aload_n dX9_lay_10 rfl ?_
    refine q_iload_n dX9_lay_11 rfl ?_
    obtain ⟨r12, h12, h⟩ := q_bnd h
    refine q_callVi1 dX9_lay_12 cl_X9_82 rfl (Nat.le_of_ble_eq_true rfl) (by omega) (sX9_isGone (by omega) h12 ?_)
    refine q_if_ne_b 25 dX9_lay_15 (by decide) (fun c15 => ?_) (fun c15 => ?_)
    · replace h := q_ift c15 h
      refine q_bipush (v := (-2)) dX9_lay_25 (by decide) ?_
      exact q_ret dX9_lay_27 rfl rfl (q_lfiw h k)
    · replace h := q_ifb c15 h
      refine q_aload_n dX9_lay_18 rfl ?_
      obtain ⟨⟨r19, T19⟩, h19, h⟩ := q_bnd h
      dsimp only at h
      refine q_callVi0 dX9_lay_19 cl_X9_184 rfl (Nat.le_of_ble_eq_true rfl) (by omega) (sX9_faultAt (by omega) h19 ?_)
      refine q_if_lt 28 dX9_lay_22 (by decide) (fun c22 => ?_) (fun c22 => ?_)
      · replace h := q_ift c22 h
        refine q_iconst (v := 0) dX9_lay_28 (by decide) ?_
        refine q_istore_n dX9_lay_29 (by decide) ?_
        refine q_iconst (v := 1) dX9_lay_30 (by decide) ?_
        refine q_istore_n dX9_lay_31 (by decide) ?_
        refine q_aload_n dX9_lay_32 rfl ?_
        refine q_iconst (v := 0) dX9_lay_33 (by decide) ?_
        refine q_put dX9_lay_34 fl_X9_162 fp_8_14 rfl rfl ?_
        exact q_sub (sX9_lay_37 hd k 20000 _ _ _ h) (And.intro rfl (And.intro rfl (And.intro rfl (And.intro rfl trivial))))
      · replace h := q_iff c22 h
        refine q_bipush (v := (-2)) dX9_lay_25 (by decide) ?_
        exact q_ret dX9_lay_27 rfl rfl (q_lfiw h k)
  · replace h := q_ifb c5 h
    refine q_iconst (v := (-1)) dX9_lay_8 (by decide) ?_
    exact q_ret dX9_lay_9 rfl rfl (q_lfiw h k)
