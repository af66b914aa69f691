def fX1_find_3 (p1 p2 p3 : Int32) : Nat → Int32 → qS → Option Int32
  | 0, _, _ => none
  | n + 1, v4, S => if (S 23 5) ≤ v4 then some (-1) else if q_inb v4 6 = true then if (S 24 v4.toNatClampNeg) = p1 then if q_inb v4 6 = true then if (S 25 v4.toNatClampNeg) = p2 then if q_inb v4 6 = true then if (S 26 v4.toNatClampNeg) = p3 then some v4 else fX1_find_3 p1 p2 p3 n (v4 + 1) S else none else fX1_find_3 p1 p2 p3 n (v4 + 1) S else none else fX1_find_3 p1 p2 p3 n (v4 + 1) S else none
set_option maxHeartbeats 4000000 in
set_option maxRecDepth 100000 in
theorem sX1_find_3 {l : Launch} {d : Nat} (hd : 0 ≤ d) {S : qS} {p1 p2 p3 : Int32} {r : Int32} {Q : Int32 → qS → Prop} (k : Q r S) : ∀ (n : Nat) (v4 : Int32), fX1_find_3 p1 p2 p3 n v4 S = some r → q_E l cX1_find 5 (some .int) RX1 d S 3 [some (.inr 23), some (.inl p1), some (.inl p2), some (.inl p3), some (.inl v4)] [] (q_Qi Q) := by
  intro n
  induction n with
  | zero => intro v4 h; exact q_no h
  | succ n ih =>
    intro v4 h
    rw [fX1_find_3] at h
    refine q_iload dX1_find_3 rfl ?_
    refine q_aload_n dX1_find_5 rfl ?_
    refine q_geti dX1_find_6 fl_X1_27 rfl rfl ?_
    refine q_icmp_ge 54 dX1_find_9 (by decide) (fun c9 => ?_) (fun c9 => ?_)
    · replace h := q_ift c9 h
      refine q_iconst (v := (-1)) dX1_find_54 (by decide) ?_
      exact q_ret dX1_find_55 rfl rfl (q_lfi h k)
    · replace h := q_iff c9 h
      refine q_aload_n dX1_find_12 rfl ?_
      refine q_getr dX1_find_13 fl_X1_11 rfl rfl ?_
      refine q_iload dX1_find_16 rfl ?_
      obtain ⟨g18, h⟩ := q_gd h
      refine q_iald dX1_find_18 rfl g18 ?_
      refine q_iload_n dX1_find_19 rfl ?_
      refine q_icmp_ne 48 dX1_find_20 (by decide) (fun c20 => ?_) (fun c20 => ?_)
      · replace h := q_iff c20 h
        refine q_iinc (v := (v4 + 1)) dX1_find_48 rfl rfl (by decide) ?_
        refine q_goto 3 dX1_find_51 (by decide) ?_
        exact q_sub (ih _ h) (And.intro rfl (And.intro rfl (And.intro rfl (And.intro rfl (And.intro rfl trivial)))))
      · replace h := q_ift c20 h
        refine q_aload_n dX1_find_23 rfl ?_
        refine q_getr dX1_find_24 fl_X1_15 rfl rfl ?_
        refine q_iload dX1_find_27 rfl ?_
        obtain ⟨g29, h⟩ := q_gd h
        refine q_iald dX1_find_29 rfl g29 ?_
        refine q_iload_n dX1_find_30 rfl ?_
        refine q_icmp_ne 48 dX1_find_31 (by decide) (fun c31 => ?_) (fun c31 => ?_)
        · replace h := q_iff c31 h
          refine q_iinc (v := (v4 + 1)) dX1_find_48 rfl rfl (by decide) ?_
          refine q_goto 3 dX1_find_51 (by decide) ?_
          exact q_sub (ih _ h) (And.intro rfl (And.intro rfl (And.intro rfl (And.intro rfl (And.intro rfl trivial)))))
        · replace h := q_ift c31 h
          refine q_aload_n dX1_find_34 rfl ?_
          refine q_getr dX1_find_35 fl_X1_18 rfl rfl ?_
          refine q_iload dX1_find_38 rfl ?_
          obtain ⟨g40, h⟩ := q_gd h
          refine q_iald dX1_find_40 rfl g40 ?_
          refine q_iload_n dX1_find_41 rfl ?_
          refine q_icmp_ne 48 dX1_find_42 (by decide) (fun c42 => ?_) (fun c42 => ?_)
          · replace h := q_iff c42 h
            refine q_iinc (v := (v4 + 1)) dX1_find_48 rfl rfl (by decide) ?_
            refine q_goto 3 dX1_find_51 (by decide) ?_
            exact q_sub (ih _ h) (And.intro rfl (And.intro rfl (And.intro rfl (And.intro rfl (And.intro rfl trivial)))))
          · replace h := q_ift c42 h
            refine q_iload dX1_find_45 rfl ?_
            exact q_ret dX1_find_47 rfl rfl (q_lfi h k)
def fX1_find (a1 a2 a3 : Int32) (S : qS) : Option Int32 := fX1_find_3 a1 a2 a3 20000 0 S
set_option maxHeartbeats 4000000 in
set_option maxRecDepth 100000 in
theorem sX1_find {l : Launch} {d : Nat} (hd : 0 ≤ d) {S : qS} {a1 a2 a3 : Int32} {r : Int32} (h : fX1_find a1 a2 a3 S = some r) {Q : Int32 → qS → Prop} (k : Q r S) : q_Mi l d yX1_find cX1_find 5 (some .int) [.inr 23, .inl a1, .inl a2, .inl a3] S Q := by
  refine q_Mi_of (own := RX1) rfl rfl [some (.inr 23), some (.inl a1), some (.inl a2), some (.inl a3), none] rfl (Nat.le_of_ble_eq_true rfl) ?_
  unfold fX1_find at h
  refine q_iconst (v := 0) dX1_find_0 (by decide) ?_
  refine q_istore dX1_find_1 (by decide) ?_
  exact q_sub (sX1_find_3 hd k 20000 _ h) (And.intro rfl (And.intro rfl (And.intro rfl (And.intro rfl (And.intro rfl trivial)))))
def fX1_isFresh (a1 a2 : Int32) (S : qS) : Option Bool := if q_inb a1 6 = true then if (S 23 7) < (a2 - (S 28 a1.toNatClampNeg)) then some false else some true else none
set_option maxHeartbeats 4000000 in
set_option maxRecDepth 100000 in
theorem sX1_isFresh {l : Launch} {d : Nat} (hd : 0 ≤ d) {S : qS} {a1 a2 : Int32} {r : Bool} (h : fX1_isFresh a1 a2 S = some r) {Q : Int32 → qS → Prop} (k : Q (q_b r) S) : q_Mi l d yX1_isFresh cX1_isFresh 3 (some .boolean) [.inr 23, .inl a1, .inl a2] S Q := by
  refine q_Mi_of (own := RX1) rfl rfl [some (.inr 23), some (.inl a1), some (.inl a2)] rfl (Nat.le_of_ble_eq_true rfl) ?_
  unfold fX1_isFresh at h
  refine q_iload_n dX1_isFresh_0 rfl ?_
  refine q_aload_n dX1_isFresh_1 rfl ?_
  refine q_getr dX1_isFresh_2 fl_X1_24 rfl rfl ?_
  refine q_iload_n dX1_isFresh_5 rfl ?_
  obtain ⟨g6, h⟩ := q_gd h
  refine q_iald dX1_isFresh_6 rfl g6 ?_
  refine q_isub dX1_isFresh_7 ?_
  refine q_aload_n dX1_isFresh_8 rfl ?_
  refine q_geti dX1_isFresh_9 fl_X1_34 rfl rfl ?_
  refine q_icmp_gt 19 dX1_isFresh_12 (by decide) (fun c12 => ?_) (fun c12 => ?_)
  · replace h := q_ift c12 h
    refine q_iconst (v := 0) dX1_isFresh_19 (by decide) ?_
    exact q_ret (v := q_b false) dX1_isFresh_20 rfl (q_b_nar false) (q_lfb h k)
  · replace h := q_iff c12 h
    refine q_iconst (v := 1) dX1_isFresh_15 (by decide) ?_
    refine q_goto 20 dX1_isFresh_16 (by decide) ?_
    exact q_ret (v := q_b true) dX1_isFresh_20 rfl (q_b_nar true) (q_lfb h k)
def fX1_forget_2 (p1 : Int32) : Nat → Int32 → qS → Option qS
  | 0, _, _ => none
  | n + 1, v2, S => if (S 23 5) ≤ (v2 + 1) then some (q_up S 23 5 ((S 23 5) - 1)) else if q_inb (v2 + 1) 6 = true then if q_inb v2 6 = true then if q_inb (v2 + 1) 6 = true then if q_inb v2 6 = true then if q_inb (v2 + 1) 6 = true then if q_inb v2 6 = true then if q_inb (v2 + 1) 6 = true then if q_inb v2 6 = true then if q_inb (v2 + 1) 6 = true then if q_inb v2 6 = true then fX1_forget_2 p1 n (v2 + 1) (q_up (q_up (q_up (q_up (q_up S 24 v2.toNatClampNeg (S 24 ((v2 + 1).toNatClampNeg))) 25 v2.toNatClampNeg (S 25 ((v2 + 1).toNatClampNeg))) 26 v2.toNatClampNeg (S 26 ((v2 + 1).toNatClampNeg))) 27 v2.toNatClampNeg (S 27 ((v2 + 1).toNatClampNeg))) 28 v2.toNatClampNeg (S 28 ((v2 + 1).toNatClampNeg))) else none else none else none else none else none else none else none else none else none else none
set_option maxHeartbeats 4000000 in
set_option maxRecDepth 100000 in
theorem sX1_forget_2 {l : Launch} {d : Nat} (hd : 0 ≤ d) {p1 : Int32} {S' : qS} {Q : qS → Prop} (k : Q S') : ∀ (n : Nat) (v2 : Int32) (S : qS), fX1_forget_2 p1 n v2 S = some S' → q_E l cX1_forget 3 none RX1 d S 2 [some (.inr 23), some (.inl p1), some (.inl v2)] [] (q_Qv Q) := by
  intro n
  induction n with
  | zero => intro v2 S h; exact q_no h
  | succ n ih =>
    intro v2 S h
    rw [fX1_forget_2] at h
    refine q_iload_n dX1_forget_2 rfl ?_
    refine q_iconst (v := 1) dX1_forget_3 (by decide) ?_
    refine q_iadd dX1_forget_4 ?_
    refine q_aload_n dX1_forget_5 rfl ?_
    refine q_geti dX1_forget_6 fl_X1_27 rfl rfl ?_
    refine q_icmp_ge 88 dX1_forget_9 (by decide) (fun c9 => ?_) (fun c9 => ?_)
    · replace h := q_ift c9 h
      refine q_aload_n dX1_forget_88 rfl ?_
      refine q_dup dX1_forget_89 ?_
      refine q_geti dX1_forget_90 fl_X1_27 rfl rfl ?_
      refine q_iconst (v := 1) dX1_forget_93 (by decide) ?_
      refine q_isub dX1_forget_94 ?_
      refine q_put dX1_forget_95 fl_X1_27 fp_1_5 rfl rfl ?_
      exact q_vret dX1_forget_98 rfl (q_lfv h k)
    · replace h := q_iff c9 h
      refine q_aload_n dX1_forget_12 rfl ?_
      refine q_getr dX1_forget_13 fl_X1_11 rfl rfl ?_
      refine q_iload_n dX1_forget_16 rfl ?_
      refine q_aload_n dX1_forget_17 rfl ?_
      refine q_getr dX1_forget_18 fl_X1_11 rfl rfl ?_
      refine q_iload_n dX1_forget_21 rfl ?_
      refine q_iconst (v := 1) dX1_forget_22 (by decide) ?_
      refine q_iadd dX1_forget_23 ?_
      obtain ⟨g24, h⟩ := q_gd h
      refine q_iald dX1_forget_24 rfl g24 ?_
      obtain ⟨g25, h⟩ := q_gd h
      refine q_iast dX1_forget_25 rfl g25 ?_
      refine q_aload_n dX1_forget_26 rfl ?_
      refine q_getr dX1_forget_27 fl_X1_15 rfl rfl ?_
      refine q_iload_n dX1_forget_30 rfl ?_
      refine q_aload_n dX1_forget_31 rfl ?_
      refine q_getr dX1_forget_32 fl_X1_15 rfl rfl ?_
      refine q_iload_n dX1_forget_35 rfl ?_
      refine q_iconst (v := 1) dX1_forget_36 (by decide) ?_
      refine q_iadd dX1_forget_37 ?_
      obtain ⟨g38, h⟩ := q_gd h
      refine q_iald dX1_forget_38 rfl g38 ?_
      obtain ⟨g39, h⟩ := q_gd h
      refine q_iast dX1_forget_39 rfl g39 ?_
      refine q_aload_n dX1_forget_40 rfl ?_
      refine q_getr dX1_forget_41 fl_X1_18 rfl rfl ?_
      refine q_iload_n dX1_forget_44 rfl ?_
      refine q_aload_n dX1_forget_45 rfl ?_
      refine q_getr dX1_forget_46 fl_X1_18 rfl rfl ?_
      refine q_iload_n dX1_forget_49 rfl ?_
      refine q_iconst (v := 1) dX1_forget_50 (by decide) ?_
      refine q_iadd dX1_forget_51 ?_
      obtain ⟨g52, h⟩ := q_gd h
      refine q_iald dX1_forget_52 rfl g52 ?_
      obtain ⟨g53, h⟩ := q_gd h
      refine q_iast dX1_forget_53 rfl g53 ?_
      refine q_aload_n dX1_forget_54 rfl ?_
      refine q_getr dX1_forget_55 fl_X1_21 rfl rfl ?_
      refine q_iload_n dX1_forget_58 rfl ?_
      refine q_aload_n dX1_forget_59 rfl ?_
      refine q_getr dX1_forget_60 fl_X1_21 rfl rfl ?_
      refine q_iload_n dX1_forget_63 rfl ?_
      refine q_iconst (v := 1) dX1_forget_64 (by decide) ?_
      refine q_iadd dX1_forget_65 ?_
      obtain ⟨g66, h⟩ := q_gd h
      refine q_iald dX1_forget_66 rfl g66 ?_
      obtain ⟨g67, h⟩ := q_gd h
      refine q_iast dX1_forget_67 rfl g67 ?_
      refine q_aload_n dX1_forget_68 rfl ?_
      refine q_getr dX1_forget_69 fl_X1_24 rfl rfl ?_
      refine q_iload_n dX1_forget_72 rfl ?_
      refine q_aload_n dX1_forget_73 rfl ?_
      refine q_getr dX1_forget_74 fl_X1_24 rfl rfl ?_
      refine q_iload_n dX1_forget_77 rfl ?_
      refine q_iconst (v := 1) dX1_forget_78 (by decide) ?_
      refine q_iadd dX1_forget_79 ?_
      obtain ⟨g80, h⟩ := q_gd h
      refine q_iald dX1_forget_80 rfl g80 ?_
      obtain ⟨g81, h⟩ := q_gd h
      refine q_iast dX1_forget_81 rfl g81 ?_
      refine q_iinc (v := (v2 + 1)) dX1_forget_82 rfl rfl (by decide) ?_
      refine q_goto 2 dX1_forget_85 (by decide) ?_
      exact q_sub (ih _ _ h) (And.intro rfl (And.intro rfl (And.intro rfl trivial)))
def fX1_forget (a1 : Int32) (S : qS) : Option qS := fX1_forget_2 a1 20000 a1 S
set_option maxHeartbeats 4000000 in
set_option maxRecDepth 100000 in
theorem sX1_forget {l : Launch} {d : Nat} (hd : 0 ≤ d) {S : qS} {a1 : Int32} {S' : qS} (h : fX1_forget a1 S = some S') {Q : qS → Prop} (k : Q S') : q_Mv l d yX1_forget cX1_forget 3 none [.inr 23, .inl a1] S Q := by
  refine q_Mv_of (own := RX1) rfl rfl [some (.inr 23), some (.inl a1), none] rfl (Nat.le_of_ble_eq_true rfl) ?_
  unfold fX1_forget at h
  refine q_iload_n dX1_forget_0 rfl ?_
  refine q_istore_n dX1_forget_1 (by decide) ?_
  exact q_sub (sX1_forget_2 hd k 20000 _ _ h) (And.intro rfl (And.intro rfl (And.intro rfl trivial)))
def fX1_keep (a1 a2 a3 a4 a5 : Int32) (S : qS) : Option qS := (fX1_find a1 a2 a3 S).bind (fun r4 => if r4 = (-1) then if (S 23 5) < 6 then if q_inb (S 23 5) 6 = true then if q_inb (S 23 5) 6 = true then if q_inb (S 23 5) 6 = true then if q_inb (S 23 5) 6 = true then if q_inb (S 23 5) 6 = true then some (q_up (q_up (q_up (q_up (q_up (q_up S 24 ((S 23 5).toNatClampNeg) a1) 25 ((S 23 5).toNatClampNeg) a2) 26 ((S 23 5).toNatClampNeg) a3) 27 ((S 23 5).toNatClampNeg) a4) 28 ((S 23 5).toNatClampNeg) a5) 23 5 ((S 23 5) + 1)) else none else none else none else none else none else (fX1_forget 0 S).bind (fun T35 => if q_inb (T35 23 5) 6 = true then if q_inb (T35 23 5) 6 = true then if q_inb (T35 23 5) 6 = true then if q_inb (T35 23 5) 6 = true then if q_inb (T35 23 5) 6 = true then some (q_up (q_up (q_up (q_up (q_up (q_up T35 24 ((T35 23 5).toNatClampNeg) a1) 25 ((T35 23 5).toNatClampNeg) a2) 26 ((T35 23 5).toNatClampNeg) a3) 27 ((T35 23 5).toNatClampNeg) a4) 28 ((T35 23 5).toNatClampNeg) a5) 23 5 ((T35 23 5) + 1)) else none else none else none else none else none) else (fX1_forget r4 S).bind (fun T18 => if q_inb (T18 23 5) 6 = true then if q_inb (T18 23 5) 6 = true then if q_inb (T18 23 5) 6 = true then if q_inb (T18 23 5) 6 = true then if q_inb (T18 23 5) 6 = true then some (q_up (q_up (q_up (q_up (q_up (q_up T18 24 ((T18 23 5).toNatClampNeg) a1) 25 ((T18 23 5).toNatClampNeg) a2) 26 ((T18 23 5).toNatClampNeg) a3) 27 ((T18 23 5).toNatClampNeg) a4) 28 ((T18 23 5).toNatClampNeg) a5) 23 5 ((T18 23 5) + 1)) else none else none else none else none else none))
set_option maxHeartbeats 4000000 in
set_option maxRecDepth 100000 in
theorem sX1_keep {l : Launch} {d : Nat} (hd : 1 ≤ d) {S : qS} {a1 a2 a3 a4 a5 : Int32} {S' : qS} (h : fX1_keep a1 a2 a3 a4 a5 S = some S') {Q : qS → Prop} (k : Q S') : q_Mv l d yX1_keep cX1_keep 7 none [.inr 23, .inl a1, .inl a2, .inl a3, .inl a4, .inl a5] S Q := by
  refine q_Mv_of (own := RX1) rfl rfl [some (.inr 23), some (.inl a1), some (.inl a2), some (.inl a3), some (.inl a4), some (.inl a5), none] rfl (Nat.le_of_ble_eq_true rfl) ?_
  unfold fX1_keep at h
  refine q_aload_n dX1_keep_0 rfl ?_
  refine q_iload_n dX1_keep_1 rfl ?_
  refine q_iload_n dX1_keep_2 rfl ?_
  refine q_iload_n dX1_keep_3 rfl ?_
  obtain ⟨r4, h4, h⟩ := q_bnd h
  refine q_callVi3 dX1_keep_4 cl_X1_37 rfl (Nat.le_of_ble_eq_true rfl) (by omega) (sX1_find (by omega) h4 ?_)
  refine q_istore dX1_keep_7 (by decide) ?_
  refine q_iload dX1_keep_9 rfl ?_
  refine q_iconst (v := (-1)) dX1_keep_11 (by decide) ?_
  refine q_icmp_eq 24 dX1_keep_12 (by decide) (fun c12 => ?_) (fun c12 => ?_)
  · replace h := q_ift c12 h
    refine q_aload_n dX1_keep_24 rfl ?_
    refine q_geti dX1_keep_25 fl_X1_27 rfl rfl ?_
    refine q_bipush (v := 6) dX1_keep_28 (by decide) ?_
    refine q_icmp_lt 38 dX1_keep_30 (by decide) (fun c30 => ?_) (fun c30 => ?_)
    · replace h := q_ift c30 h
      refine q_aload_n dX1_keep_38 rfl ?_
      refine q_getr dX1_keep_39 fl_X1_11 rfl rfl ?_
      refine q_aload_n dX1_keep_42 rfl ?_
      refine q_geti dX1_keep_43 fl_X1_27 rfl rfl ?_
      refine q_iload_n dX1_keep_46 rfl ?_
      obtain ⟨g47, h⟩ := q_gd h
      refine q_iast dX1_keep_47 rfl g47 ?_
      refine q_aload_n dX1_keep_48 rfl ?_
      refine q_getr dX1_keep_49 fl_X1_15 rfl rfl ?_
      refine q_aload_n dX1_keep_52 rfl ?_
      refine q_geti dX1_keep_53 fl_X1_27 rfl rfl ?_
      refine q_iload_n dX1_keep_56 rfl ?_
      obtain ⟨g57, h⟩ := q_gd h
      refine q_iast dX1_keep_57 rfl g57 ?_
      refine q_aload_n dX1_keep_58 rfl ?_
      refine q_getr dX1_keep_59 fl_X1_18 rfl rfl ?_
      refine q_aload_n dX1_keep_62 rfl ?_
      refine q_geti dX1_keep_63 fl_X1_27 rfl rfl ?_
      refine q_iload_n dX1_keep_66 rfl ?_
      obtain ⟨g67, h⟩ := q_gd h
      refine q_iast dX1_keep_67 rfl g67 ?_
      refine q_aload_n dX1_keep_68 rfl ?_
      refine q_getr dX1_keep_69 fl_X1_21 rfl rfl ?_
      refine q_aload_n dX1_keep_72 rfl ?_
      refine q_geti dX1_keep_73 fl_X1_27 rfl rfl ?_
      refine q_iload dX1_keep_76 rfl ?_
      obtain ⟨g78, h⟩ := q_gd h
      refine q_iast dX1_keep_78 rfl g78 ?_
      refine q_aload_n dX1_keep_79 rfl ?_
      refine q_getr dX1_keep_80 fl_X1_24 rfl rfl ?_
      refine q_aload_n dX1_keep_83 rfl ?_
      refine q_geti dX1_keep_84 fl_X1_27 rfl rfl ?_
      refine q_iload dX1_keep_87 rfl ?_
      obtain ⟨g89, h⟩ := q_gd h
      refine q_iast dX1_keep_89 rfl g89 ?_
      refine q_aload_n dX1_keep_90 rfl ?_
      refine q_dup dX1_keep_91 ?_
      refine q_geti dX1_keep_92 fl_X1_27 rfl rfl ?_
      refine q_iconst (v := 1) dX1_keep_95 (by decide) ?_
      refine q_iadd dX1_keep_96 ?_
      refine q_put dX1_keep_97 fl_X1_27 fp_1_5 rfl rfl ?_
      exact q_vret dX1_keep_100 rfl (q_lfv h k)
    · replace h := q_iff c30 h
      refine q_aload_n dX1_keep_33 rfl ?_
      refine q_iconst (v := 0) dX1_keep_34 (by decide) ?_
      obtain ⟨T35, h35, h⟩ := q_bnd h
      refine q_callVv1 dX1_keep_35 cl_X1_41 rfl (Nat.le_of_ble_eq_true rfl) (by omega) (sX1_forget (by omega) h35 ?_)
      refine q_aload_n dX1_keep_38 rfl ?_
      refine q_getr dX1_keep_39 fl_X1_11 rfl rfl ?_
      refine q_aload_n dX1_keep_42 rfl ?_
      refine q_geti dX1_keep_43 fl_X1_27 rfl rfl ?_
      refine q_iload_n dX1_keep_46 rfl ?_
      obtain ⟨g47, h⟩ := q_gd h
      refine q_iast dX1_keep_47 rfl g47 ?_
      refine q_aload_n dX1_keep_48 rfl ?_
      refine q_getr dX1_keep_49 fl_X1_15 rfl rfl ?_
      refine q_aload_n dX1_keep_52 rfl ?_
      refine q_geti dX1_keep_53 fl_X1_27 rfl rfl ?_
      refine q_iload_n dX1_keep_56 rfl ?_
      obtain ⟨g57, h⟩ := q_gd h
      refine q_iast dX1_keep_57 rfl g57 ?_
      refine q_aload_n dX1_keep_58 rfl ?_
      refine q_getr dX1_keep_59 fl_X1_18 rfl rfl ?_
      refine q_aload_n dX1_keep_62 rfl ?_
      refine q_geti dX1_keep_63 fl_X1_27 rfl rfl ?_
      refine q_iload_n dX1_keep_66 rfl ?_
      obtain ⟨g67, h⟩ := q_gd h
      refine q_iast dX1_keep_67 rfl g67 ?_
      refine q_aload_n dX1_keep_68 rfl ?_
      refine q_getr dX1_keep_69 fl_X1_21 rfl rfl ?_
      refine q_aload_n dX1_keep_72 rfl ?_
      refine q_geti dX1_keep_73 fl_X1_27 rfl rfl ?_
      refine q_iload dX1_keep_76 rfl ?_
      obtain ⟨g78, h⟩ := q_gd h
      refine q_iast dX1_keep_78 rfl g78 ?_
      refine q_aload_n dX1_keep_79 rfl ?_
      refine q_getr dX1_keep_80 fl_X1_24 rfl rfl ?_
      refine q_aload_n dX1_keep_83 rfl ?_
      refine q_geti dX1_keep_84 fl_X1_27 rfl rfl ?_
      refine q_iload dX1_keep_87 rfl ?_
      obtain ⟨g89, h⟩ := q_gd h
      refine q_iast dX1_keep_89 rfl g89 ?_
      refine q_aload_n dX1_keep_90 rfl ?_
      refine q_dup dX1_keep_91 ?_
      refine q_geti dX1_keep_92 fl_X1_27 rfl rfl ?_
      refine q_iconst (v := 1) dX1_keep_95 (by decide) ?_
      refine q_iadd dX1_keep_96 ?_
      refine q_put dX1_keep_97 fl_X1_27 fp_1_5 rfl rfl ?_
      exact q_vret dX1_keep_100 rfl (q_lfv h k)
  · replace h := q_iff c12 h
    refine q_aload_n dX1_keep_15 rfl ?_
    refine q_iload dX1_keep_16 rfl ?_
    obtain ⟨T18, h18, h⟩ := q_bnd h
    refine q_callVv1 dX1_keep_18 cl_X1_41 rfl (Nat.le_of_ble_eq_true rfl) (by omega) (sX1_forget (by omega) h18 ?_)
    refine q_goto 38 dX1_keep_21 (by decide) ?_
    refine q_aload_n dX1_keep_38 rfl ?_
    refine q_getr dX1_keep_39 fl_X1_11 rfl rfl ?_
    refine q_aload_n dX1_keep_42 rfl ?_
    refine q_geti dX1_keep_43 fl_X1_27 rfl rfl ?_
    refine q_iload_n dX1_keep_46 rfl ?_
    obtain ⟨g47, h⟩ := q_gd h
    refine q_iast dX1_keep_47 rfl g47 ?_
    refine q_aload_n dX1_keep_48 rfl ?_
    refine q_getr dX1_keep_49 fl_X1_15 rfl rfl ?_
    refine q_aload_n dX1_keep_52 rfl ?_
    refine q_geti dX1_keep_53 fl_X1_27 rfl rfl ?_
    refine q_iload_n dX1_keep_56 rfl ?_
    obtain ⟨g57, h⟩ := q_gd h
    refine q_iast dX1_keep_57 rfl g57 ?_
    refine q_aload_n dX1_keep_58 rfl ?_
    refine q_getr dX1_keep_59 fl_X1_18 rfl rfl ?_
    refine q_aload_n dX1_keep_62 rfl ?_
    refine q_geti dX1_keep_63 fl_X1_27 rfl rfl ?_
    refine q_iload_n dX1_keep_66 rfl ?_
    obtain ⟨g67, h⟩ := q_gd h
    refine q_iast dX1_keep_67 rfl g67 ?_
    refine q_aload_n dX1_keep_68 rfl ?_
    refine q_getr dX1_keep_69 fl_X1_21 rfl rfl ?_
    refine q_aload_n dX1_keep_72 rfl ?_
    refine q_geti dX1_keep_73 fl_X1_27 rfl rfl ?_
    refine q_iload dX1_keep_76 rfl ?_
    obtain ⟨g78, h⟩ := q_gd h
    refine q_iast dX1_keep_78 rfl g78 ?_
    refine q_aload_n dX1_keep_79 rfl ?_
    refine q_getr dX1_keep_80 fl_X1_24 rfl rfl ?_
    refine q_aload_n dX1_keep_83 rfl ?_
    refine q_geti dX1_keep_84 fl_X1_27 rfl rfl ?_
    refine q_iload dX1_keep_87 rfl ?_
    obtain ⟨g89, h⟩ := q_gd h
    refine q_iast dX1_keep_89 rfl g89 ?_
    refine q_aload_n dX1_keep_90 rfl ?_
    refine q_dup dX1_keep_91 ?_
    refine q_geti dX1_keep_92 fl_X1_27 rfl rfl ?_
    refine q_iconst (v := 1) dX1_keep_95 (by decide) ?_
    refine q_iadd dX1_keep_96 ?_
    refine q_put dX1_keep_97 fl_X1_27 fp_1_5 rfl rfl ?_
    exact q_vret dX1_keep_100 rfl (q_lfv h k)
def fX6_append (a1 : Int32) (S : qS) : Option qS := if 60 ≤ (S 29 1) then some S else if q_inb (S 29 1) 60 = true then some (q_up (q_up S 30 ((S 29 1).toNatClampNeg) a1) 29 1 ((S 29 1) + 1)) else none
set_option maxHeartbeats 4000000 in
set_option maxRecDepth 100000 in
theorem sX6_append {l : Launch} {d : Nat} (hd : 0 ≤ d) {S : qS} {a1 : Int32} {S' : qS} (h : fX6_append a1 S = some S') {Q : qS → Prop} (k : Q S') : q_Mv l d yX6_append cX6_append 2 none [.inr 29, .inl a1] S Q := by
  refine q_Mv_of (own := RX6) rfl rfl [some (.inr 29), some (.inl a1)] rfl (Nat.le_of_ble_eq_true rfl) ?_
  unfold fX6_append at h
  refine q_aload_n dX6_append_0 rfl ?_
  refine q_geti dX6_append_1 fl_X6_15 rfl rfl ?_
  refine q_bipush (v := 60) dX6_append_4 (by decide) ?_
  refine q_icmp_ge 29 dX6_append_6 (by decide) (fun c6 => ?_) (fun c6 => ?_)
  · replace h := q_ift c6 h
    exact q_vret dX6_append_29 rfl (q_lfv h k)
  · replace h := q_iff c6 h
    refine q_aload_n dX6_append_9 rfl ?_
    refine q_getr dX6_append_10 fl_X6_11 rfl rfl ?_
    refine q_aload_n dX6_append_13 rfl ?_
    refine q_geti dX6_append_14 fl_X6_15 rfl rfl ?_
    refine q_iload_n dX6_append_17 rfl ?_
    obtain ⟨g18, h⟩ := q_gd h
    refine q_iast dX6_append_18 rfl g18 ?_
    refine q_aload_n dX6_append_19 rfl ?_
    refine q_dup dX6_append_20 ?_
    refine q_geti dX6_append_21 fl_X6_15 rfl rfl ?_
    refine q_iconst (v := 1) dX6_append_24 (by decide) ?_
    refine q_iadd dX6_append_25 ?_
    refine q_put dX6_append_26 fl_X6_15 fp_5_1 rfl rfl ?_
    exact q_vret dX6_append_29 rfl (q_lfv h k)
def fX6_characterAt (a1 : Int32) (S : qS) : Option Int32 := if a1 < 0 then some (-1) else if (S 29 1) ≤ a1 then some (-1) else if q_inb a1 60 = true then some (S 30 a1.toNatClampNeg) else none
set_option maxHeartbeats 4000000 in
set_option maxRecDepth 100000 in
theorem sX6_characterAt {l : Launch} {d : Nat} (hd : 0 ≤ d) {S : qS} {a1 : Int32} {r : Int32} (h : fX6_characterAt a1 S = some r) {Q : Int32 → qS → Prop} (k : Q r S) : q_Mi l d yX6_characterAt cX6_characterAt 2 (some .int) [.inr 29, .inl a1] S Q := by
  refine q_Mi_of (own := RX6) rfl rfl [some (.inr 29), some (.inl a1)] rfl (Nat.le_of_ble_eq_true rfl) ?_
  unfold fX6_characterAt at h
  refine q_iload_n dX6_characterAt_0 rfl ?_
  refine q_if_lt 21 dX6_characterAt_1 (by decide) (fun c1 => ?_) (fun c1 => ?_)
  · replace h := q_ift c1 h
    refine q_iconst (v := (-1)) dX6_characterAt_21 (by decide) ?_
    exact q_ret dX6_characterAt_22 rfl rfl (q_lfi h k)
  · replace h := q_iff c1 h
    refine q_iload_n dX6_characterAt_4 rfl ?_
    refine q_aload_n dX6_characterAt_5 rfl ?_
    refine q_geti dX6_characterAt_6 fl_X6_15 rfl rfl ?_
    refine q_icmp_ge 21 dX6_characterAt_9 (by decide) (fun c9 => ?_) (fun c9 => ?_)
    · replace h := q_ift c9 h
      refine q_iconst (v := (-1)) dX6_characterAt_21 (by decide) ?_
      exact q_ret dX6_characterAt_22 rfl rfl (q_lfi h k)
    · replace h := q_iff c9 h
      refine q_aload_n dX6_characterAt_12 rfl ?_
      refine q_getr dX6_characterAt_13 fl_X6_11 rfl rfl ?_
      refine q_iload_n dX6_characterAt_16 rfl ?_
      obtain ⟨g17, h⟩ := q_gd h
      refine q_iald dX6_characterAt_17 rfl g17 ?_
      refine q_goto 22 dX6_characterAt_18 (by decide) ?_
      exact q_ret dX6_characterAt_22 rfl rfl (q_lfi h k)
def fX6_digits_3 (p1 p2 p3 : Int32) : Nat → Int32 → qS → Option Int32
  | 0, _, _ => none
  | n + 1, v4, S => if 3 ≤ v4 then some v4 else (fX6_characterAt (p1 + v4) S).bind (fun r14 => if r14 < p2 then some v4 else (fX6_characterAt (p1 + v4) S).bind (fun r26 => if p3 < r26 then some v4 else fX6_digits_3 p1 p2 p3 n (v4 + 1) S))
set_option maxHeartbeats 4000000 in
set_option maxRecDepth 100000 in
theorem sX6_digits_3 {l : Launch} {d : Nat} (hd : 1 ≤ d) {S : qS} {p1 p2 p3 : Int32} {r : Int32} {Q : Int32 → qS → Prop} (k : Q r S) : ∀ (n : Nat) (v4 : Int32), fX6_digits_3 p1 p2 p3 n v4 S = some r → q_E l cX6_digits 5 (some .int) RX6 d S 3 [some (.inr 29), some (.inl p1), some (.inl p2), some (.inl p3), some (.inl v4)] [] (q_Qi Q) := by
  intro n
  induction n with
  | zero => intro v4 h; exact q_no h
  | succ n ih =>
    intro v4 h
    rw [fX6_digits_3] at h
    refine q_iload dX6_digits_3 rfl ?_
    refine q_iconst (v := 3) dX6_digits_5 (by decide) ?_
    refine q_icmp_ge 39 dX6_digits_6 (by decide) (fun c6 => ?_) (fun c6 => ?_)
    · replace h := q_ift c6 h
      refine q_iload dX6_digits_39 rfl ?_
      exact q_ret dX6_digits_41 rfl rfl (q_lfi h k)
    · replace h := q_iff c6 h
      refine q_aload_n dX6_digits_9 rfl ?_
      refine q_iload_n dX6_digits_10 rfl ?_
      refine q_iload dX6_digits_11 rfl ?_
      refine q_iadd dX6_digits_13 ?_
      obtain ⟨r14, h14, h⟩ := q_bnd h
      refine q_callVi1 dX6_digits_14 cl_X6_45 rfl (Nat.le_of_ble_eq_true rfl) (by omega) (sX6_characterAt (by omega) h14 ?_)
      refine q_iload_n dX6_digits_17 rfl ?_
      refine q_icmp_lt 39 dX6_digits_18 (by decide) (fun c18 => ?_) (fun c18 => ?_)
      · replace h := q_ift c18 h
        refine q_iload dX6_digits_39 rfl ?_
        exact q_ret dX6_digits_41 rfl rfl (q_lfi h k)
      · replace h := q_iff c18 h
        refine q_aload_n dX6_digits_21 rfl ?_
        refine q_iload_n dX6_digits_22 rfl ?_
        refine q_iload dX6_digits_23 rfl ?_
        refine q_iadd dX6_digits_25 ?_
        obtain ⟨r26, h26, h⟩ := q_bnd h
        refine q_callVi1 dX6_digits_26 cl_X6_45 rfl (Nat.le_of_ble_eq_true rfl) (by omega) (sX6_characterAt (by omega) h26 ?_)
        refine q_iload_n dX6_digits_29 rfl ?_
        refine q_icmp_gt 39 dX6_digits_30 (by decide) (fun c30 => ?_) (fun c30 => ?_)
        · replace h := q_ift c30 h
          refine q_iload dX6_digits_39 rfl ?_
          exact q_ret dX6_digits_41 rfl rfl (q_lfi h k)
        · replace h := q_iff c30 h
          refine q_iinc (v := (v4 + 1)) dX6_digits_33 rfl rfl (by decide) ?_
          refine q_goto 3 dX6_digits_36 (by decide) ?_
          exact q_sub (ih _ h) (And.intro rfl (And.intro rfl (And.intro rfl (And.intro rfl (And.intro rfl trivial)))))
def fX6_digits (a1 a2 a3 : Int32) (S : qS) : Option Int32 := fX6_digits_3 a1 a2 a3 20000 0 S
set_option maxHeartbeats 4000000 in
set_option maxRecDepth 100000 in
theorem sX6_digits {l : Launch} {d : Nat} (hd : 1 ≤ d) {S : qS} {a1 a2 a3 : Int32} {r : Int32} (h : fX6_digits a1 a2 a3 S = some r) {Q : Int32 → qS → Prop} (k : Q r S) : q_Mi l d yX6_digits cX6_digits 5 (some .int) [.inr 29, .inl a1, .inl a2, .inl a3] S Q := by
  refine q_Mi_of (own := RX6) rfl rfl [some (.inr 29), some (.inl a1), some (.inl a2), some (.inl a3), none] rfl (Nat.le_of_ble_eq_true rfl) ?_
  unfold fX6_digits at h
  refine q_iconst (v := 0) dX6_digits_0 (by decide) ?_
  refine q_istore dX6_digits_1 (by decide) ?_
  exact q_sub (sX6_digits_3 hd k 20000 _ h) (And.intro rfl (And.intro rfl (And.intro rfl (And.intro rfl (And.intro rfl trivial)))))
def fX6_nameIn_7 (p1 p2 : Int32) : Nat → Int32 → Int32 → qS → Option Int32
  | 0, _, _, _ => none
  | n + 1, v3, v4, S => if v4 < p1 then some v3 else (fX6_characterAt v4 S).bind (fun r19 => fX6_nameIn_7 p1 p2 n (((v3 * 5) + r19) - 48) (v4 + (-1)) S)
set_option maxHeartbeats 4000000 in
set_option maxRecDepth 100000 in
theorem sX6_nameIn_7 {l : Launch} {d : Nat} (hd : 1 ≤ d) {S : qS} {p1 p2 : Int32} {r : Int32} {Q : Int32 → qS → Prop} (k : Q r S) : ∀ (n : Nat) (v3 : Int32) (v4 : Int32), fX6_nameIn_7 p1 p2 n v3 v4 S = some r → q_E l cX6_nameIn 5 (some .int) RX6 d S 7 [some (.inr 29), some (.inl p1), some (.inl p2), some (.inl v3), some (.inl v4)] [] (q_Qi Q) := by
  intro n
  induction n with
  | zero => intro v3 v4 h; exact q_no h
  | succ n ih =>
    intro v3 v4 h
    rw [fX6_nameIn_7] at h
    refine q_iload dX6_nameIn_7 rfl ?_
    refine q_iload_n dX6_nameIn_9 rfl ?_
    refine q_icmp_lt 33 dX6_nameIn_10 (by decide) (fun c10 => ?_) (fun c10 => ?_)
    · replace h := q_ift c10 h
      refine q_iload_n dX6_nameIn_33 rfl ?_
      exact q_ret dX6_nameIn_34 rfl rfl (q_lfi h k)
    · replace h := q_iff c10 h
      refine q_iload_n dX6_nameIn_13 rfl ?_
      refine q_iconst (v := 5) dX6_nameIn_14 (by decide) ?_
      refine q_imul dX6_nameIn_15 ?_
      refine q_aload_n dX6_nameIn_16 rfl ?_
      refine q_iload dX6_nameIn_17 rfl ?_
      obtain ⟨r19, h19, h⟩ := q_bnd h
      refine q_callVi1 dX6_nameIn_19 cl_X6_45 rfl (Nat.le_of_ble_eq_true rfl) (by omega) (sX6_characterAt (by omega) h19 ?_)
      refine q_iadd dX6_nameIn_22 ?_
      refine q_bipush (v := 48) dX6_nameIn_23 (by decide) ?_
      refine q_isub dX6_nameIn_25 ?_
      refine q_istore_n dX6_nameIn_26 (by decide) ?_
      refine q_iinc (v := (v4 + (-1))) dX6_nameIn_27 rfl rfl (by decide) ?_
      refine q_goto 7 dX6_nameIn_30 (by decide) ?_
      exact q_sub (ih _ _ h) (And.intro rfl (And.intro rfl (And.intro rfl (And.intro rfl (And.intro rfl trivial)))))
def fX6_nameIn (a1 a2 : Int32) (S : qS) : Option Int32 := fX6_nameIn_7 a1 a2 20000 0 (a2 - 1) S
set_option maxHeartbeats 4000000 in
set_option maxRecDepth 100000 in
theorem sX6_nameIn {l : Launch} {d : Nat} (hd : 1 ≤ d) {S : qS} {a1 a2 : Int32} {r : Int32} (h : fX6_nameIn a1 a2 S = some r) {Q : Int32 → qS → Prop} (k : Q r S) : q_Mi l d yX6_nameIn cX6_nameIn 5 (some .int) [.inr 29, .inl a1, .inl a2] S Q := by
  refine q_Mi_of (own := RX6) rfl rfl [some (.inr 29), some (.inl a1), some (.inl a2), none, none] rfl (Nat.le_of_ble_eq_true rfl) ?_
  unfold fX6_nameIn at h
  refine q_iconst (v := 0) dX6_nameIn_0 (by decide) ?_
  refine q_istore_n dX6_nameIn_1 (by decide) ?_
  refine q_iload_n dX6_nameIn_2 rfl ?_
  refine q_iconst (v := 1) dX6_nameIn_3 (by decide) ?_
  refine q_isub dX6_nameIn_4 ?_
  refine q_istore dX6_nameIn_5 (by decide) ?_
  exact q_sub (sX6_nameIn_7 hd k 20000 _ _ h) (And.intro rfl (And.intro rfl (And.intro rfl (And.intro rfl (And.intro rfl trivial)))))
def fX6_numberIn_5 (p1 p2 : Int32) : Nat → Int32 → Int32 → qS → Option Int32
  | 0, _, _, _ => none
  | n + 1, v3, v4, S => if p2 ≤ v4 then some v3 else (fX6_characterAt v4 S).bind (fun r18 => fX6_numberIn_5 p1 p2 n (((v3 * 10) + r18) - 48) (v4 + 1) S)
set_option maxHeartbeats 4000000 in
set_option maxRecDepth 100000 in
theorem sX6_numberIn_5 {l : Launch} {d : Nat} (hd : 1 ≤ d) {S : qS} {p1 p2 : Int32} {r : Int32} {Q : Int32 → qS → Prop} (k : Q r S) : ∀ (n : Nat) (v3 : Int32) (v4 : Int32), fX6_numberIn_5 p1 p2 n v3 v4 S = some r → q_E l cX6_numberIn 5 (some .int) RX6 d S 5 [some (.inr 29), some (.inl p1), some (.inl p2), some (.inl v3), some (.inl v4)] [] (q_Qi Q) := by
  intro n
  induction n with
  | zero => intro v3 v4 h; exact q_no h
  | succ n ih =>
    intro v3 v4 h
    rw [fX6_numberIn_5] at h
    refine q_iload dX6_numberIn_5 rfl ?_
    refine q_iload_n dX6_numberIn_7 rfl ?_
    refine q_icmp_ge 32 dX6_numberIn_8 (by decide) (fun c8 => ?_) (fun c8 => ?_)
    · replace h := q_ift c8 h
      refine q_iload_n dX6_numberIn_32 rfl ?_
      exact q_ret dX6_numberIn_33 rfl rfl (q_lfi h k)
    · replace h := q_iff c8 h
      refine q_iload_n dX6_numberIn_11 rfl ?_
      refine q_bipush (v := 10) dX6_numberIn_12 (by decide) ?_
      refine q_imul dX6_numberIn_14 ?_
      refine q_aload_n dX6_numberIn_15 rfl ?_
      refine q_iload dX6_numberIn_16 rfl ?_
      obtain ⟨r18, h18, h⟩ := q_bnd h
      refine q_callVi1 dX6_numberIn_18 cl_X6_45 rfl (Nat.le_of_ble_eq_true rfl) (by omega) (sX6_characterAt (by omega) h18 ?_)
      refine q_iadd dX6_numberIn_21 ?_
      refine q_bipush (v := 48) dX6_numberIn_22 (by decide) ?_
      refine q_isub dX6_numberIn_24 ?_
      refine q_istore_n dX6_numberIn_25 (by decide) ?_
      refine q_iinc (v := (v4 + 1)) dX6_numberIn_26 rfl rfl (by decide) ?_
      refine q_goto 5 dX6_numberIn_29 (by decide) ?_
      exact q_sub (ih _ _ h) (And.intro rfl (And.intro rfl (And.intro rfl (And.intro rfl (And.intro rfl trivial)))))
def fX6_numberIn (a1 a2 : Int32) (S : qS) : Option Int32 := fX6_numberIn_5 a1 a2 20000 0 a1 S
set_option maxHeartbeats 4000000 in
set_option maxRecDepth 100000 in
theorem sX6_numberIn {l : Launch} {d : Nat} (hd : 1 ≤ d) {S : qS} {a1 a2 : Int32} {r : Int32} (h : fX6_numberIn a1 a2 S = some r) {Q : Int32 → qS → Prop} (k : Q r S) : q_Mi l d yX6_numberIn cX6_numberIn 5 (some .int) [.inr 29, .inl a1, .inl a2] S Q := by
  refine q_Mi_of (own := RX6) rfl rfl [some (.inr 29), some (.inl a1), some (.inl a2), none, none] rfl (Nat.le_of_ble_eq_true rfl) ?_
  unfold fX6_numberIn at h
  refine q_iconst (v := 0) dX6_numberIn_0 (by decide) ?_
  refine q_istore_n dX6_numberIn_1 (by decide) ?_
  refine q_iload_n dX6_numberIn_2 rfl ?_
  refine q_istore dX6_numberIn_3 (by decide) ?_
  exact q_sub (sX6_numberIn_5 hd k 20000 _ _ h) (And.intro rfl (And.intro rfl (And.intro rfl (And.intro rfl (And.intro rfl trivial)))))
def fX8_isType (a1 : Int32) (S : qS) : Option Bool := if a1 < 0 then some false else if 2 < a1 then some false else some true
set_option maxHeartbeats 4000000 in
set_option maxRecDepth 100000 in
theorem sX8_isType {l : Launch} {d : Nat} (hd : 0 ≤ d) {S : qS} {a1 : Int32} {r : Bool} (h : fX8_isType a1 S = some r) {Q : Int32 → qS → Prop} (k : Q (q_b r) S) : q_Mi l d yX8_isType cX8_isType 1 (some .boolean) [.inl a1] S Q := by
  refine q_Mi_of (own := RX8) rfl rfl [some (.inl a1)] rfl (Nat.le_of_ble_eq_true rfl) ?_
  unfold fX8_isType at h
  refine q_iload_n dX8_isType_0 rfl ?_
  refine q_if_lt 13 dX8_isType_1 (by decide) (fun c1 => ?_) (fun c1 => ?_)
  · replace h := q_ift c1 h
    refine q_iconst (v := 0) dX8_isType_13 (by decide) ?_
    exact q_ret (v := q_b false) dX8_isType_14 rfl (q_b_nar false) (q_lfb h k)
  · replace h := q_iff c1 h
    refine q_iload_n dX8_isType_4 rfl ?_
    refine q_iconst (v := 2) dX8_isType_5 (by decide) ?_
    refine q_icmp_gt 13 dX8_isType_6 (by decide) (fun c6 => ?_) (fun c6 => ?_)
    · replace h := q_ift c6 h
      refine q_iconst (v := 0) dX8_isType_13 (by decide) ?_
      exact q_ret (v := q_b false) dX8_isType_14 rfl (q_b_nar false) (q_lfb h k)
    · replace h := q_iff c6 h
      refine q_iconst (v := 1) dX8_isType_9 (by decide) ?_
      refine q_goto 14 dX8_isType_10 (by decide) ?_
      exact q_ret (v := q_b true) dX8_isType_14 rfl (q_b_nar true) (q_lfb h k)
def fX8_isValue (a1 a2 : Int32) (S : qS) : Option Bool := (fX8_isType a1 S).bind (fun r1 => if r1 = true then if a1 = 1 then (fX2_isName a2 S).bind (fun r15 => some r15) else if a2 < 0 then some false else if a1 = 0 then if 255 < a2 then some false else some true else if 999 < a2 then some false else some true else some false)
set_option maxHeartbeats 4000000 in
set_option maxRecDepth 100000 in
theorem sX8_isValue {l : Launch} {d : Nat} (hd : 1 ≤ d) {S : qS} {a1 a2 : Int32} {r : Bool} (h : fX8_isValue a1 a2 S = some r) {Q : Int32 → qS → Prop} (k : Q (q_b r) S) : q_Mi l d yX8_isValue cX8_isValue 2 (some .boolean) [.inl a1, .inl a2] S Q := by
  refine q_Mi_of (own := RX8) rfl rfl [some (.inl a1), some (.inl a2)] rfl (Nat.le_of_ble_eq_true rfl) ?_
  unfold fX8_isValue at h
  refine q_iload_n dX8_isValue_0 rfl ?_
  obtain ⟨r1, h1, h⟩ := q_bnd h
  refine q_callSi1 dX8_isValue_1 cl_X8_156 (Nat.le_of_ble_eq_true rfl) (by omega) (sX8_isType (by omega) h1 ?_)
  refine q_if_ne_b 9 dX8_isValue_4 (by decide) (fun c4 => ?_) (fun c4 => ?_)
  · replace h := q_ift c4 h
    refine q_iload_n dX8_isValue_9 rfl ?_
    refine q_iconst (v := 1) dX8_isValue_10 (by decide) ?_
    refine q_icmp_ne 19 dX8_isValue_11 (by decide) (fun c11 => ?_) (fun c11 => ?_)
    · replace h := q_iff c11 h
      refine q_iload_n dX8_isValue_19 rfl ?_
      refine q_if_lt 44 dX8_isValue_20 (by decide) (fun c20 => ?_) (fun c20 => ?_)
      · replace h := q_ift c20 h
        refine q_iconst (v := 0) dX8_isValue_44 (by decide) ?_
        exact q_ret (v := q_b false) dX8_isValue_45 rfl (q_b_nar false) (q_lfb h k)
      · replace h := q_iff c20 h
        refine q_iload_n dX8_isValue_23 rfl ?_
        refine q_iload_n dX8_isValue_24 rfl ?_
        refine q_if_ne 34 dX8_isValue_25 (by decide) (fun c25 => ?_) (fun c25 => ?_)
        · replace h := q_iff c25 h
          refine q_sipush (v := 999) dX8_isValue_34 (by decide) ?_
          refine q_icmp_gt 44 dX8_isValue_37 (by decide) (fun c37 => ?_) (fun c37 => ?_)
          · replace h := q_ift c37 h
            refine q_iconst (v := 0) dX8_isValue_44 (by decide) ?_
            exact q_ret (v := q_b false) dX8_isValue_45 rfl (q_b_nar false) (q_lfb h k)
          · replace h := q_iff c37 h
            refine q_iconst (v := 1) dX8_isValue_40 (by decide) ?_
            refine q_goto 45 dX8_isValue_41 (by decide) ?_
            exact q_ret (v := q_b true) dX8_isValue_45 rfl (q_b_nar true) (q_lfb h k)
        · replace h := q_ift c25 h
          refine q_sipush (v := 255) dX8_isValue_28 (by decide) ?_
          refine q_goto 37 dX8_isValue_31 (by decide) ?_
          refine q_icmp_gt 44 dX8_isValue_37 (by decide) (fun c37 => ?_) (fun c37 => ?_)
          · replace h := q_ift c37 h
            refine q_iconst (v := 0) dX8_isValue_44 (by decide) ?_
            exact q_ret (v := q_b false) dX8_isValue_45 rfl (q_b_nar false) (q_lfb h k)
          · replace h := q_iff c37 h
            refine q_iconst (v := 1) dX8_isValue_40 (by decide) ?_
            refine q_goto 45 dX8_isValue_41 (by decide) ?_
            exact q_ret (v := q_b true) dX8_isValue_45 rfl (q_b_nar true) (q_lfb h k)
    · replace h := q_ift c11 h
      refine q_iload_n dX8_isValue_14 rfl ?_
      obtain ⟨r15, h15, h⟩ := q_bnd h
      refine q_callSi1 dX8_isValue_15 cl_X8_97 (Nat.le_of_ble_eq_true rfl) (by omega) (sX2_isName (by omega) h15 ?_)
      exact q_ret (v := q_b r15) dX8_isValue_18 rfl (q_b_nar r15) (q_lfb h k)
  · replace h := q_ifb c4 h
    refine q_iconst (v := 0) dX8_isValue_7 (by decide) ?_
    exact q_ret (v := q_b false) dX8_isValue_8 rfl (q_b_nar false) (q_lfb h k)
