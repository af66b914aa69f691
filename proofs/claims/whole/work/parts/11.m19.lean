def fX9_stale_4 : Nat → Int32 → Int32 → qS → Option (Int32 × qS)
  | 0, _, _, _ => none
  | n + 1, v1, v2, S => if (S 34 8) ≤ v2 then some (v1, S) else (fX9_isYoung v2 S).bind (fun r14 => if r14 = true then if q_inb (5 * v2) 30 = true then (fX9_viewAt (S 38 ((5 * v2).toNatClampNeg)) (S 34 0) S).bind (fun r34 => if q_inb ((5 * v2) + 1) 30 = true then if q_inb ((5 * v2) + 2) 30 = true then (fX9_finds r34 (S 38 (((5 * v2) + 1).toNatClampNeg)) (S 38 (((5 * v2) + 2).toNatClampNeg)) (S 34 0) S).bind (fun (r61, T61) => if q_inb ((5 * v2) + 3) 30 = true then if r61 = (T61 38 (((5 * v2) + 3).toNatClampNeg)) then fX9_stale_4 n (v1 + 0) (v2 + 1) T61 else fX9_stale_4 n (v1 + 1) (v2 + 1) T61 else none) else none else none) else none else fX9_stale_4 n (v1 + 0) (v2 + 1) S)
set_option maxHeartbeats 4000000 in
set_option maxRecDepth 100000 in
theorem sX9_stale_4 {l : Launch} {d : Nat} (hd : 5 ≤ d) {r : Int32} {S' : qS} {Q : Int32 → qS → Prop} (k : Q r S') : ∀ (n : Nat) (v1 : Int32) (v2 : Int32) (S : qS), fX9_stale_4  n v1 v2 S = some (r, S') → q_E l cX9_stale 4 (some .int) RX9 d S 4 [some (.inr 34), some (.inl v1), some (.inl v2), none] [] (q_Qi Q) := by
  intro n
  induction n with
  | zero => intro v1 v2 S h; exact q_no h
  | succ n ih =>
    intro v1 v2 S h
    rw [fX9_stale_4] at h
    refine q_iload_n dX9_stale_4 rfl ?_
    refine q_aload_n dX9_stale_5 rfl ?_
    refine q_geti dX9_stale_6 fl_X9_94 rfl rfl ?_
    refine q_icmp_ge 101 dX9_stale_9 (by decide) (fun c9 => ?_) (fun c9 => ?_)
    · replace h := q_ift c9 h
      refine q_iload_n dX9_stale_101 rfl ?_
      exact q_ret dX9_stale_102 rfl rfl (q_lfiw h k)
    · replace h := q_iff c9 h
      refine q_aload_n dX9_stale_12 rfl ?_
      refine q_iload_n dX9_stale_13 rfl ?_
      obtain ⟨r14, h14, h⟩ := q_bnd h
      refine q_callVi1 dX9_stale_14 cl_X9_152 rfl (Nat.le_of_ble_eq_true rfl) (by omega) (sX9_isYoung (by omega) h14 ?_)
      refine q_if_eq_b 81 dX9_stale_17 (by decide) (fun c17 => ?_) (fun c17 => ?_)
      · replace h := q_ifb c17 h
        refine q_iconst (v := 0) dX9_stale_81 (by decide) ?_
        refine q_istore_n dX9_stale_82 (by decide) ?_
        refine q_iload_n dX9_stale_83 rfl ?_
        refine q_iload_n dX9_stale_84 rfl ?_
        refine q_if_eq 92 dX9_stale_85 (by decide) (fun _ => ?_) (fun c => absurd c (by decide))
        refine q_iconst (v := 0) dX9_stale_92 (by decide) ?_
        refine q_iadd dX9_stale_93 ?_
        refine q_istore_n dX9_stale_94 (by decide) ?_
        refine q_iinc (v := (v2 + 1)) dX9_stale_95 rfl rfl (by decide) ?_
        refine q_goto 4 dX9_stale_98 (by decide) ?_
        exact q_sub (ih _ _ _ h) (And.intro rfl (And.intro rfl (And.intro rfl trivial)))
      · replace h := q_ift c17 h
        refine q_aload_n dX9_stale_20 rfl ?_
        refine q_aload_n dX9_stale_21 rfl ?_
        refine q_aload_n dX9_stale_22 rfl ?_
        refine q_getr dX9_stale_23 fl_X9_19 rfl rfl ?_
        refine q_iconst (v := 5) dX9_stale_26 (by decide) ?_
        refine q_iload_n dX9_stale_27 rfl ?_
        refine q_imul dX9_stale_28 ?_
        obtain ⟨g29, h⟩ := q_gd h
        refine q_iald dX9_stale_29 rfl g29 ?_
        refine q_aload_n dX9_stale_30 rfl ?_
        refine q_geti dX9_stale_31 fl_X9_32 rfl rfl ?_
        obtain ⟨r34, h34, h⟩ := q_bnd h
        refine q_callVi2 dX9_stale_34 cl_X9_67 rfl (Nat.le_of_ble_eq_true rfl) (by omega) (sX9_viewAt (by omega) h34 ?_)
        refine q_aload_n dX9_stale_37 rfl ?_
        refine q_getr dX9_stale_38 fl_X9_19 rfl rfl ?_
        refine q_iconst (v := 5) dX9_stale_41 (by decide) ?_
        refine q_iload_n dX9_stale_42 rfl ?_
        refine q_imul dX9_stale_43 ?_
        refine q_iconst (v := 1) dX9_stale_44 (by decide) ?_
        refine q_iadd dX9_stale_45 ?_
        obtain ⟨g46, h⟩ := q_gd h
        refine q_iald dX9_stale_46 rfl g46 ?_
        refine q_aload_n dX9_stale_47 rfl ?_
        refine q_getr dX9_stale_48 fl_X9_19 rfl rfl ?_
        refine q_iconst (v := 5) dX9_stale_51 (by decide) ?_
        refine q_iload_n dX9_stale_52 rfl ?_
        refine q_imul dX9_stale_53 ?_
        refine q_iconst (v := 2) dX9_stale_54 (by decide) ?_
        refine q_iadd dX9_stale_55 ?_
        obtain ⟨g56, h⟩ := q_gd h
        refine q_iald dX9_stale_56 rfl g56 ?_
        refine q_aload_n dX9_stale_57 rfl ?_
        refine q_geti dX9_stale_58 fl_X9_32 rfl rfl ?_
        obtain ⟨⟨r61, T61⟩, h61, h⟩ := q_bnd h
        dsimp only at h
        refine q_callVi4 dX9_stale_61 cl_X9_142 rfl (Nat.le_of_ble_eq_true rfl) (by omega) (sX9_finds (by omega) h61 ?_)
        refine q_aload_n dX9_stale_64 rfl ?_
        refine q_getr dX9_stale_65 fl_X9_19 rfl rfl ?_
        refine q_iconst (v := 5) dX9_stale_68 (by decide) ?_
        refine q_iload_n dX9_stale_69 rfl ?_
        refine q_imul dX9_stale_70 ?_
        refine q_iconst (v := 3) dX9_stale_71 (by decide) ?_
        refine q_iadd dX9_stale_72 ?_
        obtain ⟨g73, h⟩ := q_gd h
        refine q_iald dX9_stale_73 rfl g73 ?_
        refine q_icmp_eq 81 dX9_stale_74 (by decide) (fun c74 => ?_) (fun c74 => ?_)
        · replace h := q_ift c74 h
          refine q_iconst (v := 0) dX9_stale_81 (by decide) ?_
          refine q_istore_n dX9_stale_82 (by decide) ?_
          refine q_iload_n dX9_stale_83 rfl ?_
          refine q_iload_n dX9_stale_84 rfl ?_
          refine q_if_eq 92 dX9_stale_85 (by decide) (fun _ => ?_) (fun c => absurd c (by decide))
          refine q_iconst (v := 0) dX9_stale_92 (by decide) ?_
          refine q_iadd dX9_stale_93 ?_
          refine q_istore_n dX9_stale_94 (by decide) ?_
          refine q_iinc (v := (v2 + 1)) dX9_stale_95 rfl rfl (by decide) ?_
          refine q_goto 4 dX9_stale_98 (by decide) ?_
          exact q_sub (ih _ _ _ h) (And.intro rfl (And.intro rfl (And.intro rfl trivial)))
        · replace h := q_iff c74 h
          refine q_iconst (v := 1) dX9_stale_77 (by decide) ?_
          refine q_goto 82 dX9_stale_78 (by decide) ?_
          refine q_istore_n dX9_stale_82 (by decide) ?_
          refine q_iload_n dX9_stale_83 rfl ?_
          refine q_iload_n dX9_stale_84 rfl ?_
          refine q_if_eq 92 dX9_stale_85 (by decide) (fun c => absurd c (by decide)) (fun _ => ?_)
          refine q_iconst (v := 1) dX9_stale_88 (by decide) ?_
          refine q_goto 93 dX9_stale_89 (by decide) ?_
          refine q_iadd dX9_stale_93 ?_
          refine q_istore_n dX9_stale_94 (by decide) ?_
          refine q_iinc (v := (v2 + 1)) dX9_stale_95 rfl rfl (by decide) ?_
          refine q_goto 4 dX9_stale_98 (by decide) ?_
          exact q_sub (ih _ _ _ h) (And.intro rfl (And.intro rfl (And.intro rfl trivial)))
def fX9_stale (S : qS) : Option (Int32 × qS) := fX9_stale_4 20000 0 0 S
set_option maxHeartbeats 4000000 in
set_option maxRecDepth 100000 in
theorem sX9_stale {l : Launch} {d : Nat} (hd : 5 ≤ d) {S : qS} {r : Int32} {S' : qS} (h : fX9_stale S = some (r, S')) {Q : Int32 → qS → Prop} (k : Q r S') : q_Mi l d yX9_stale cX9_stale 4 (some .int) [.inr 34] S Q := by
  refine q_Mi_of (own := RX9) rfl rfl [some (.inr 34), none, none, none] rfl (Nat.le_of_ble_eq_true rfl) ?_
  unfold fX9_stale at h
  refine q_iconst (v := 0) dX9_stale_0 (by decide) ?_
  refine q_istore_n dX9_stale_1 (by decide) ?_
  refine q_iconst (v := 0) dX9_stale_2 (by decide) ?_
  refine q_istore_n dX9_stale_3 (by decide) ?_
  exact q_sub (sX9_stale_4 hd k 20000 _ _ _ h) (And.intro rfl (And.intro rfl (And.intro rfl trivial)))
def fX9_type (a1 : Int32) (S : qS) : Option (Int32 × qS) := (fX9_in a1 32 126 S).bind (fun r5 => if r5 = true then if (S 34 12) = 60 then some ((-3), S) else if q_inb (S 34 12) 60 = true then some (((S 34 12) + 1), (q_up (q_up S 39 ((S 34 12).toNatClampNeg) a1) 34 12 ((S 34 12) + 1))) else none else some ((-1), S))
set_option maxHeartbeats 4000000 in
set_option maxRecDepth 100000 in
theorem sX9_type {l : Launch} {d : Nat} (hd : 1 ≤ d) {S : qS} {a1 : Int32} {r : Int32} {S' : qS} (h : fX9_type a1 S = some (r, S')) {Q : Int32 → qS → Prop} (k : Q r S') : q_Mi l d yX9_type cX9_type 2 (some .int) [.inr 34, .inl a1] S Q := by
  refine q_Mi_of (own := RX9) rfl rfl [some (.inr 34), some (.inl a1)] rfl (Nat.le_of_ble_eq_true rfl) ?_
  unfold fX9_type at h
  refine q_iload_n dX9_type_0 rfl ?_
  refine q_bipush (v := 32) dX9_type_1 (by decide) ?_
  refine q_bipush (v := 126) dX9_type_3 (by decide) ?_
  obtain ⟨r5, h5, h⟩ := q_bnd h
  refine q_callSi3 dX9_type_5 cl_X9_35 (Nat.le_of_ble_eq_true rfl) (by omega) (sX9_in (by omega) h5 ?_)
  refine q_if_ne_b 13 dX9_type_8 (by decide) (fun c8 => ?_) (fun c8 => ?_)
  · replace h := q_ift c8 h
    refine q_aload_n dX9_type_13 rfl ?_
    refine q_geti dX9_type_14 fl_X9_159 rfl rfl ?_
    refine q_bipush (v := 60) dX9_type_17 (by decide) ?_
    refine q_icmp_ne 25 dX9_type_19 (by decide) (fun c19 => ?_) (fun c19 => ?_)
    · replace h := q_iff c19 h
      refine q_aload_n dX9_type_25 rfl ?_
      refine q_getr dX9_type_26 fl_X9_26 rfl rfl ?_
      refine q_aload_n dX9_type_29 rfl ?_
      refine q_geti dX9_type_30 fl_X9_159 rfl rfl ?_
      refine q_iload_n dX9_type_33 rfl ?_
      obtain ⟨g34, h⟩ := q_gd h
      refine q_iast dX9_type_34 rfl g34 ?_
      refine q_aload_n dX9_type_35 rfl ?_
      refine q_dup dX9_type_36 ?_
      refine q_geti dX9_type_37 fl_X9_159 rfl rfl ?_
      refine q_iconst (v := 1) dX9_type_40 (by decide) ?_
      refine q_iadd dX9_type_41 ?_
      refine q_put dX9_type_42 fl_X9_159 fp_8_12 rfl rfl ?_
      refine q_aload_n dX9_type_45 rfl ?_
      refine q_geti dX9_type_46 fl_X9_159 rfl rfl ?_
      exact q_ret dX9_type_49 rfl rfl (q_lfiw h k)
    · replace h := q_ift c19 h
      refine q_bipush (v := (-3)) dX9_type_22 (by decide) ?_
      exact q_ret dX9_type_24 rfl rfl (q_lfiw h k)
  · replace h := q_ifb c8 h
    refine q_iconst (v := (-1)) dX9_type_11 (by decide) ?_
    exact q_ret dX9_type_12 rfl rfl (q_lfiw h k)
def fX9_clearText (S : qS) : Option (Int32 × qS) := some ((S 34 12), (q_up S 34 12 0))
set_option maxHeartbeats 4000000 in
set_option maxRecDepth 100000 in
theorem sX9_clearText {l : Launch} {d : Nat} (hd : 0 ≤ d) {S : qS} {r : Int32} {S' : qS} (h : fX9_clearText S = some (r, S')) {Q : Int32 → qS → Prop} (k : Q r S') : q_Mi l d yX9_clearText cX9_clearText 2 (some .int) [.inr 34] S Q := by
  refine q_Mi_of (own := RX9) rfl rfl [some (.inr 34), none] rfl (Nat.le_of_ble_eq_true rfl) ?_
  unfold fX9_clearText at h
  refine q_aload_n dX9_clearText_0 rfl ?_
  refine q_geti dX9_clearText_1 fl_X9_159 rfl rfl ?_
  refine q_istore_n dX9_clearText_4 (by decide) ?_
  refine q_aload_n dX9_clearText_5 rfl ?_
  refine q_iconst (v := 0) dX9_clearText_6 (by decide) ?_
  refine q_put dX9_clearText_7 fl_X9_159 fp_8_12 rfl rfl ?_
  refine q_iload_n dX9_clearText_10 rfl ?_
  exact q_ret dX9_clearText_11 rfl rfl (q_lfiw h k)
def fX9_isHere (a1 a2 : Int32) (S : qS) : Option Bool := if (S 34 12) ≤ (S 34 14) then some false else if q_inb (S 34 14) 60 = true then (fX9_in (S 39 ((S 34 14).toNatClampNeg)) a1 a2 S).bind (fun r22 => if r22 = true then some true else some false) else none
set_option maxHeartbeats 4000000 in
set_option maxRecDepth 100000 in
theorem sX9_isHere {l : Launch} {d : Nat} (hd : 1 ≤ d) {S : qS} {a1 a2 : Int32} {r : Bool} (h : fX9_isHere a1 a2 S = some r) {Q : Int32 → qS → Prop} (k : Q (q_b r) S) : q_Mi l d yX9_isHere cX9_isHere 3 (some .boolean) [.inr 34, .inl a1, .inl a2] S Q := by
  refine q_Mi_of (own := RX9) rfl rfl [some (.inr 34), some (.inl a1), some (.inl a2)] rfl (Nat.le_of_ble_eq_true rfl) ?_
  unfold fX9_isHere at h
  refine q_aload_n dX9_isHere_0 rfl ?_
  refine q_geti dX9_isHere_1 fl_X9_162 rfl rfl ?_
  refine q_aload_n dX9_isHere_4 rfl ?_
  refine q_geti dX9_isHere_5 fl_X9_159 rfl rfl ?_
  refine q_icmp_ge 32 dX9_isHere_8 (by decide) (fun c8 => ?_) (fun c8 => ?_)
  · replace h := q_ift c8 h
    refine q_iconst (v := 0) dX9_isHere_32 (by decide) ?_
    exact q_ret (v := q_b false) dX9_isHere_33 rfl (q_b_nar false) (q_lfb h k)
  · replace h := q_iff c8 h
    refine q_aload_n dX9_isHere_11 rfl ?_
    refine q_getr dX9_isHere_12 fl_X9_26 rfl rfl ?_
    refine q_aload_n dX9_isHere_15 rfl ?_
    refine q_geti dX9_isHere_16 fl_X9_162 rfl rfl ?_
    obtain ⟨g19, h⟩ := q_gd h
    refine q_iald dX9_isHere_19 rfl g19 ?_
    refine q_iload_n dX9_isHere_20 rfl ?_
    refine q_iload_n dX9_isHere_21 rfl ?_
    obtain ⟨r22, h22, h⟩ := q_bnd h
    refine q_callSi3 dX9_isHere_22 cl_X9_35 (Nat.le_of_ble_eq_true rfl) (by omega) (sX9_in (by omega) h22 ?_)
    refine q_if_eq_b 32 dX9_isHere_25 (by decide) (fun c25 => ?_) (fun c25 => ?_)
    · replace h := q_ifb c25 h
      refine q_iconst (v := 0) dX9_isHere_32 (by decide) ?_
      exact q_ret (v := q_b false) dX9_isHere_33 rfl (q_b_nar false) (q_lfb h k)
    · replace h := q_ift c25 h
      refine q_iconst (v := 1) dX9_isHere_28 (by decide) ?_
      refine q_goto 33 dX9_isHere_29 (by decide) ?_
      exact q_ret (v := q_b true) dX9_isHere_33 rfl (q_b_nar true) (q_lfb h k)
def fX9_isLabels_12 (p1 : Int32) : Nat → Int32 → qS → Option (Bool × qS)
  | 0, _, _ => none
  | n + 1, v2, S => if 3 ≤ ((S 34 14) - p1) then if (S 34 14) ≤ p1 then some (false, S) else some (true, S) else (fX9_isHere 49 52 S).bind (fun r27 => if r27 = true then if q_inb (S 34 14) 60 = true then fX9_isLabels_12 p1 n (v2 * 5) (q_up (q_up S 34 16 ((S 34 16) + (v2 * ((S 39 ((S 34 14).toNatClampNeg)) - 48)))) 34 14 ((S 34 14) + 1)) else none else if (S 34 14) ≤ p1 then some (false, S) else some (true, S))
set_option maxHeartbeats 4000000 in
set_option maxRecDepth 100000 in
theorem sX9_isLabels_12 {l : Launch} {d : Nat} (hd : 2 ≤ d) {p1 : Int32} {r : Bool} {S' : qS} {Q : Int32 → qS → Prop} (k : Q (q_b r) S') : ∀ (n : Nat) (v2 : Int32) (S : qS), fX9_isLabels_12 p1 n v2 S = some (r, S') → q_E l cX9_isLabels 3 (some .boolean) RX9 d S 12 [some (.inr 34), some (.inl p1), some (.inl v2)] [] (q_Qi Q) := by
  intro n
  induction n with
  | zero => intro v2 S h; exact q_no h
  | succ n ih =>
    intro v2 S h
    rw [fX9_isLabels_12] at h
    refine q_aload_n dX9_isLabels_12 rfl ?_
    refine q_geti dX9_isLabels_13 fl_X9_162 rfl rfl ?_
    refine q_iload_n dX9_isLabels_16 rfl ?_
    refine q_isub dX9_isLabels_17 ?_
    refine q_iconst (v := 3) dX9_isLabels_18 (by decide) ?_
    refine q_icmp_ge 73 dX9_isLabels_19 (by decide) (fun c19 => ?_) (fun c19 => ?_)
    · replace h := q_ift c19 h
      refine q_aload_n dX9_isLabels_73 rfl ?_
      refine q_geti dX9_isLabels_74 fl_X9_162 rfl rfl ?_
      refine q_iload_n dX9_isLabels_77 rfl ?_
      refine q_icmp_le 85 dX9_isLabels_78 (by decide) (fun c78 => ?_) (fun c78 => ?_)
      · replace h := q_ift c78 h
        refine q_iconst (v := 0) dX9_isLabels_85 (by decide) ?_
        exact q_ret (v := q_b false) dX9_isLabels_86 rfl (q_b_nar false) (q_lfbw h k)
      · replace h := q_iff c78 h
        refine q_iconst (v := 1) dX9_isLabels_81 (by decide) ?_
        refine q_goto 86 dX9_isLabels_82 (by decide) ?_
        exact q_ret (v := q_b true) dX9_isLabels_86 rfl (q_b_nar true) (q_lfbw h k)
    · replace h := q_iff c19 h
      refine q_aload_n dX9_isLabels_22 rfl ?_
      refine q_bipush (v := 49) dX9_isLabels_23 (by decide) ?_
      refine q_bipush (v := 52) dX9_isLabels_25 (by decide) ?_
      obtain ⟨r27, h27, h⟩ := q_bnd h
      refine q_callVi2 dX9_isLabels_27 cl_X9_168 rfl (Nat.le_of_ble_eq_true rfl) (by omega) (sX9_isHere (by omega) h27 ?_)
      refine q_if_eq_b 73 dX9_isLabels_30 (by decide) (fun c30 => ?_) (fun c30 => ?_)
      · replace h := q_ifb c30 h
        refine q_aload_n dX9_isLabels_73 rfl ?_
        refine q_geti dX9_isLabels_74 fl_X9_162 rfl rfl ?_
        refine q_iload_n dX9_isLabels_77 rfl ?_
        refine q_icmp_le 85 dX9_isLabels_78 (by decide) (fun c78 => ?_) (fun c78 => ?_)
        · replace h := q_ift c78 h
          refine q_iconst (v := 0) dX9_isLabels_85 (by decide) ?_
          exact q_ret (v := q_b false) dX9_isLabels_86 rfl (q_b_nar false) (q_lfbw h k)
        · replace h := q_iff c78 h
          refine q_iconst (v := 1) dX9_isLabels_81 (by decide) ?_
          refine q_goto 86 dX9_isLabels_82 (by decide) ?_
          exact q_ret (v := q_b true) dX9_isLabels_86 rfl (q_b_nar true) (q_lfbw h k)
      · replace h := q_ift c30 h
        refine q_aload_n dX9_isLabels_33 rfl ?_
        refine q_dup dX9_isLabels_34 ?_
        refine q_geti dX9_isLabels_35 fl_X9_165 rfl rfl ?_
        refine q_iload_n dX9_isLabels_38 rfl ?_
        refine q_aload_n dX9_isLabels_39 rfl ?_
        refine q_getr dX9_isLabels_40 fl_X9_26 rfl rfl ?_
        refine q_aload_n dX9_isLabels_43 rfl ?_
        refine q_geti dX9_isLabels_44 fl_X9_162 rfl rfl ?_
        obtain ⟨g47, h⟩ := q_gd h
        refine q_iald dX9_isLabels_47 rfl g47 ?_
        refine q_bipush (v := 48) dX9_isLabels_48 (by decide) ?_
        refine q_isub dX9_isLabels_50 ?_
        refine q_imul dX9_isLabels_51 ?_
        refine q_iadd dX9_isLabels_52 ?_
        refine q_put dX9_isLabels_53 fl_X9_165 fp_8_16 rfl rfl ?_
        refine q_iload_n dX9_isLabels_56 rfl ?_
        refine q_iconst (v := 5) dX9_isLabels_57 (by decide) ?_
        refine q_imul dX9_isLabels_58 ?_
        refine q_istore_n dX9_isLabels_59 (by decide) ?_
        refine q_aload_n dX9_isLabels_60 rfl ?_
        refine q_dup dX9_isLabels_61 ?_
        refine q_geti dX9_isLabels_62 fl_X9_162 rfl rfl ?_
        refine q_iconst (v := 1) dX9_isLabels_65 (by decide) ?_
        refine q_iadd dX9_isLabels_66 ?_
        refine q_put dX9_isLabels_67 fl_X9_162 fp_8_14 rfl rfl ?_
        refine q_goto 12 dX9_isLabels_70 (by decide) ?_
        exact q_sub (ih _ _ h) (And.intro rfl (And.intro rfl (And.intro rfl trivial)))
def fX9_isLabels (S : qS) : Option (Bool × qS) := fX9_isLabels_12 (S 34 14) 20000 1 (q_up S 34 16 0)
set_option maxHeartbeats 4000000 in
set_option maxRecDepth 100000 in
theorem sX9_isLabels {l : Launch} {d : Nat} (hd : 2 ≤ d) {S : qS} {r : Bool} {S' : qS} (h : fX9_isLabels S = some (r, S')) {Q : Int32 → qS → Prop} (k : Q (q_b r) S') : q_Mi l d yX9_isLabels cX9_isLabels 3 (some .boolean) [.inr 34] S Q := by
  refine q_Mi_of (own := RX9) rfl rfl [some (.inr 34), none, none] rfl (Nat.le_of_ble_eq_true rfl) ?_
  unfold fX9_isLabels at h
  refine q_aload_n dX9_isLabels_0 rfl ?_
  refine q_geti dX9_isLabels_1 fl_X9_162 rfl rfl ?_
  refine q_istore_n dX9_isLabels_4 (by decide) ?_
  refine q_iconst (v := 1) dX9_isLabels_5 (by decide) ?_
  refine q_istore_n dX9_isLabels_6 (by decide) ?_
  refine q_aload_n dX9_isLabels_7 rfl ?_
  refine q_iconst (v := 0) dX9_isLabels_8 (by decide) ?_
  refine q_put dX9_isLabels_9 fl_X9_165 fp_8_16 rfl rfl ?_
  exact q_sub (sX9_isLabels_12 hd k 20000 _ _ h) (And.intro rfl (And.intro rfl (And.intro rfl trivial)))
def fX9_isDigits_10 (p1 : Int32) : Nat → qS → Option (Bool × qS)
  | 0, _ => none
  | n + 1, S => if 3 ≤ ((S 34 14) - p1) then if (S 34 14) ≤ p1 then some (false, S) else some (true, S) else (fX9_isHere 48 57 S).bind (fun r25 => if r25 = true then if q_inb (S 34 14) 60 = true then fX9_isDigits_10 p1 n (q_up (q_up S 34 16 (((10 * (S 34 16)) + (S 39 ((S 34 14).toNatClampNeg))) - 48)) 34 14 ((S 34 14) + 1)) else none else if (S 34 14) ≤ p1 then some (false, S) else some (true, S))
set_option maxHeartbeats 4000000 in
set_option maxRecDepth 100000 in
theorem sX9_isDigits_10 {l : Launch} {d : Nat} (hd : 2 ≤ d) {p1 : Int32} {r : Bool} {S' : qS} {Q : Int32 → qS → Prop} (k : Q (q_b r) S') : ∀ (n : Nat) (S : qS), fX9_isDigits_10 p1 n S = some (r, S') → q_E l cX9_isDigits 2 (some .boolean) RX9 d S 10 [some (.inr 34), some (.inl p1)] [] (q_Qi Q) := by
  intro n
  induction n with
  | zero => intro  S h; exact q_no h
  | succ n ih =>
    intro  S h
    rw [fX9_isDigits_10] at h
    refine q_aload_n dX9_isDigits_10 rfl ?_
    refine q_geti dX9_isDigits_11 fl_X9_162 rfl rfl ?_
    refine q_iload_n dX9_isDigits_14 rfl ?_
    refine q_isub dX9_isDigits_15 ?_
    refine q_iconst (v := 3) dX9_isDigits_16 (by decide) ?_
    refine q_icmp_ge 68 dX9_isDigits_17 (by decide) (fun c17 => ?_) (fun c17 => ?_)
    · replace h := q_ift c17 h
      refine q_aload_n dX9_isDigits_68 rfl ?_
      refine q_geti dX9_isDigits_69 fl_X9_162 rfl rfl ?_
      refine q_iload_n dX9_isDigits_72 rfl ?_
      refine q_icmp_le 80 dX9_isDigits_73 (by decide) (fun c73 => ?_) (fun c73 => ?_)
      · replace h := q_ift c73 h
        refine q_iconst (v := 0) dX9_isDigits_80 (by decide) ?_
        exact q_ret (v := q_b false) dX9_isDigits_81 rfl (q_b_nar false) (q_lfbw h k)
      · replace h := q_iff c73 h
        refine q_iconst (v := 1) dX9_isDigits_76 (by decide) ?_
        refine q_goto 81 dX9_isDigits_77 (by decide) ?_
        exact q_ret (v := q_b true) dX9_isDigits_81 rfl (q_b_nar true) (q_lfbw h k)
    · replace h := q_iff c17 h
      refine q_aload_n dX9_isDigits_20 rfl ?_
      refine q_bipush (v := 48) dX9_isDigits_21 (by decide) ?_
      refine q_bipush (v := 57) dX9_isDigits_23 (by decide) ?_
      obtain ⟨r25, h25, h⟩ := q_bnd h
      refine q_callVi2 dX9_isDigits_25 cl_X9_168 rfl (Nat.le_of_ble_eq_true rfl) (by omega) (sX9_isHere (by omega) h25 ?_)
      refine q_if_eq_b 68 dX9_isDigits_28 (by decide) (fun c28 => ?_) (fun c28 => ?_)
      · replace h := q_ifb c28 h
        refine q_aload_n dX9_isDigits_68 rfl ?_
        refine q_geti dX9_isDigits_69 fl_X9_162 rfl rfl ?_
        refine q_iload_n dX9_isDigits_72 rfl ?_
        refine q_icmp_le 80 dX9_isDigits_73 (by decide) (fun c73 => ?_) (fun c73 => ?_)
        · replace h := q_ift c73 h
          refine q_iconst (v := 0) dX9_isDigits_80 (by decide) ?_
          exact q_ret (v := q_b false) dX9_isDigits_81 rfl (q_b_nar false) (q_lfbw h k)
        · replace h := q_iff c73 h
          refine q_iconst (v := 1) dX9_isDigits_76 (by decide) ?_
          refine q_goto 81 dX9_isDigits_77 (by decide) ?_
          exact q_ret (v := q_b true) dX9_isDigits_81 rfl (q_b_nar true) (q_lfbw h k)
      · replace h := q_ift c28 h
        refine q_aload_n dX9_isDigits_31 rfl ?_
        refine q_bipush (v := 10) dX9_isDigits_32 (by decide) ?_
        refine q_aload_n dX9_isDigits_34 rfl ?_
        refine q_geti dX9_isDigits_35 fl_X9_165 rfl rfl ?_
        refine q_imul dX9_isDigits_38 ?_
        refine q_aload_n dX9_isDigits_39 rfl ?_
        refine q_getr dX9_isDigits_40 fl_X9_26 rfl rfl ?_
        refine q_aload_n dX9_isDigits_43 rfl ?_
        refine q_geti dX9_isDigits_44 fl_X9_162 rfl rfl ?_
        obtain ⟨g47, h⟩ := q_gd h
        refine q_iald dX9_isDigits_47 rfl g47 ?_
        refine q_iadd dX9_isDigits_48 ?_
        refine q_bipush (v := 48) dX9_isDigits_49 (by decide) ?_
        refine q_isub dX9_isDigits_51 ?_
        refine q_put dX9_isDigits_52 fl_X9_165 fp_8_16 rfl rfl ?_
        refine q_aload_n dX9_isDigits_55 rfl ?_
        refine q_dup dX9_isDigits_56 ?_
        refine q_geti dX9_isDigits_57 fl_X9_162 rfl rfl ?_
        refine q_iconst (v := 1) dX9_isDigits_60 (by decide) ?_
        refine q_iadd dX9_isDigits_61 ?_
        refine q_put dX9_isDigits_62 fl_X9_162 fp_8_14 rfl rfl ?_
        refine q_goto 10 dX9_isDigits_65 (by decide) ?_
        exact q_sub (ih _ h) (And.intro rfl (And.intro rfl trivial))
def fX9_isDigits (S : qS) : Option (Bool × qS) := fX9_isDigits_10 (S 34 14) 20000 (q_up S 34 16 0)
set_option maxHeartbeats 4000000 in
set_option maxRecDepth 100000 in
theorem sX9_isDigits {l : Launch} {d : Nat} (hd : 2 ≤ d) {S : qS} {r : Bool} {S' : qS} (h : fX9_isDigits S = some (r, S')) {Q : Int32 → qS → Prop} (k : Q (q_b r) S') : q_Mi l d yX9_isDigits cX9_isDigits 2 (some .boolean) [.inr 34] S Q := by
  refine q_Mi_of (own := RX9) rfl rfl [some (.inr 34), none] rfl (Nat.le_of_ble_eq_true rfl) ?_
  unfold fX9_isDigits at h
  refine q_aload_n dX9_isDigits_0 rfl ?_
  refine q_geti dX9_isDigits_1 fl_X9_162 rfl rfl ?_
  refine q_istore_n dX9_isDigits_4 (by decide) ?_
  refine q_aload_n dX9_isDigits_5 rfl ?_
  refine q_iconst (v := 0) dX9_isDigits_6 (by decide) ?_
  refine q_put dX9_isDigits_7 fl_X9_165 fp_8_16 rfl rfl ?_
  exact q_sub (sX9_isDigits_10 hd k 20000 _ h) (And.intro rfl (And.intro rfl trivial))
def fX9_takes (a1 : Int32) (S : qS) : Option (Bool × qS) := (fX9_isHere a1 a1 S).bind (fun r3 => if r3 = true then some (r3, (q_up S 34 14 ((S 34 14) + 1))) else some (r3, (q_up S 34 14 ((S 34 14) + 0))))
set_option maxHeartbeats 4000000 in
set_option maxRecDepth 100000 in
theorem sX9_takes {l : Launch} {d : Nat} (hd : 2 ≤ d) {S : qS} {a1 : Int32} {r : Bool} {S' : qS} (h : fX9_takes a1 S = some (r, S')) {Q : Int32 → qS → Prop} (k : Q (q_b r) S') : q_Mi l d yX9_takes cX9_takes 3 (some .boolean) [.inr 34, .inl a1] S Q := by
  refine q_Mi_of (own := RX9) rfl rfl [some (.inr 34), some (.inl a1), none] rfl (Nat.le_of_ble_eq_true rfl) ?_
  unfold fX9_takes at h
  refine q_aload_n dX9_takes_0 rfl ?_
  refine q_iload_n dX9_takes_1 rfl ?_
  refine q_iload_n dX9_takes_2 rfl ?_
  obtain ⟨r3, h3, h⟩ := q_bnd h
  refine q_callVi2 dX9_takes_3 cl_X9_168 rfl (Nat.le_of_ble_eq_true rfl) (by omega) (sX9_isHere (by omega) h3 ?_)
  refine q_istore_n dX9_takes_6 (by decide) ?_
  refine q_aload_n dX9_takes_7 rfl ?_
  refine q_dup dX9_takes_8 ?_
  refine q_geti dX9_takes_9 fl_X9_162 rfl rfl ?_
  refine q_iload_n dX9_takes_12 rfl ?_
  refine q_if_eq_b 20 dX9_takes_13 (by decide) (fun c13 => ?_) (fun c13 => ?_)
  · replace h := q_ifb c13 h
    refine q_iconst (v := 0) dX9_takes_20 (by decide) ?_
    refine q_iadd dX9_takes_21 ?_
    refine q_put dX9_takes_22 fl_X9_162 fp_8_14 rfl rfl ?_
    refine q_iload_n dX9_takes_25 rfl ?_
    exact q_ret (v := q_b r3) dX9_takes_26 rfl (q_b_nar r3) (q_lfbw h k)
  · replace h := q_ift c13 h
    refine q_iconst (v := 1) dX9_takes_16 (by decide) ?_
    refine q_goto 21 dX9_takes_17 (by decide) ?_
    refine q_iadd dX9_takes_21 ?_
    refine q_put dX9_takes_22 fl_X9_162 fp_8_14 rfl rfl ?_
    refine q_iload_n dX9_takes_25 rfl ?_
    exact q_ret (v := q_b r3) dX9_takes_26 rfl (q_b_nar r3) (q_lfbw h k)
def fX9_isChange (S : qS) : Option (Bool × qS) := (fX9_isLabels S).bind (fun (r1, T1) => if r1 = true then if q_inb 0 3 = true then (fX9_takes 58 (q_up T1 40 0 (T1 34 16))).bind (fun (r22, T22) => if r22 = true then (fX9_isHere 48 50 T22).bind (fun r33 => if r33 = true then if q_inb (T22 34 14) 60 = true then if q_inb 1 3 = true then if q_inb 2 3 = true then (fX9_takes 45 (q_up (q_up (q_up T22 40 1 ((T22 39 ((T22 34 14).toNatClampNeg)) - 48)) 40 2 (-1)) 34 14 ((T22 34 14) + 1))).bind (fun (r79, T79) => if r79 = true then (fX9_takes 59 T79).bind (fun (r88, T88) => some (r88, T88)) else (fX9_takes 61 T79).bind (fun (r95, T95) => if r95 = true then if q_inb 1 3 = true then if (T95 40 1) = 1 then (fX9_isLabels T95).bind (fun (r112, T112) => if r112 = true then if q_inb 2 3 = true then if q_inb 1 3 = true then (fX9_isValue (T112 40 1) (T112 34 16) (q_up T112 40 2 (T112 34 16))).bind (fun r150 => if r150 = true then (fX9_takes 59 (q_up T112 40 2 (T112 34 16))).bind (fun (r159, T159) => if r159 = true then some (true, T159) else some (false, T159)) else some (false, (q_up T112 40 2 (T112 34 16)))) else none else none else some (false, T112)) else (fX9_isDigits T95).bind (fun (r122, T122) => if r122 = true then if q_inb 2 3 = true then if q_inb 1 3 = true then (fX9_isValue (T122 40 1) (T122 34 16) (q_up T122 40 2 (T122 34 16))).bind (fun r150 => if r150 = true then (fX9_takes 59 (q_up T122 40 2 (T122 34 16))).bind (fun (r159, T159) => if r159 = true then some (true, T159) else some (false, T159)) else some (false, (q_up T122 40 2 (T122 34 16)))) else none else none else some (false, T122)) else none else some (false, T95))) else none else none else none else some (false, T22)) else some (false, T22)) else none else some (false, T1))
set_option maxHeartbeats 4000000 in
set_option maxRecDepth 100000 in
theorem sX9_isChange {l : Launch} {d : Nat} (hd : 3 ≤ d) {S : qS} {r : Bool} {S' : qS} (h : fX9_isChange S = some (r, S')) {Q : Int32 → qS → Prop} (k : Q (q_b r) S') : q_Mi l d yX9_isChange cX9_isChange 1 (some .boolean) [.inr 34] S Q := by
  refine q_Mi_of (own := RX9) rfl rfl [some (.inr 34)] rfl (Nat.le_of_ble_eq_true rfl) ?_
  unfold fX9_isChange at h
  refine q_aload_n dX9_isChange_0 rfl ?_
  obtain ⟨⟨r1, T1⟩, h1, h⟩ := q_bnd h
  dsimp only at h
  refine q_callVi0 dX9_isChange_1 cl_X9_171 rfl (Nat.le_of_ble_eq_true rfl) (by omega) (sX9_isLabels (by omega) h1 ?_)
  refine q_if_ne_b 9 dX9_isChange_4 (by decide) (fun c4 => ?_) (fun c4 => ?_)
  · replace h := q_ift c4 h
    refine q_aload_n dX9_isChange_9 rfl ?_
    refine q_getr dX9_isChange_10 fl_X9_29 rfl rfl ?_
    refine q_iconst (v := 0) dX9_isChange_13 (by decide) ?_
    refine q_aload_n dX9_isChange_14 rfl ?_
    refine q_geti dX9_isChange_15 fl_X9_165 rfl rfl ?_
    obtain ⟨g18, h⟩ := q_gd h
    refine q_iast dX9_isChange_18 rfl g18 ?_
    refine q_aload_n dX9_isChange_19 rfl ?_
    refine q_bipush (v := 58) dX9_isChange_20 (by decide) ?_
    obtain ⟨⟨r22, T22⟩, h22, h⟩ := q_bnd h
    dsimp only at h
    refine q_callVi1 dX9_isChange_22 cl_X9_175 rfl (Nat.le_of_ble_eq_true rfl) (by omega) (sX9_takes (by omega) h22 ?_)
    refine q_if_eq_b 39 dX9_isChange_25 (by decide) (fun c25 => ?_) (fun c25 => ?_)
    · replace h := q_ifb c25 h
      refine q_iconst (v := 0) dX9_isChange_39 (by decide) ?_
      exact q_ret (v := q_b false) dX9_isChange_40 rfl (q_b_nar false) (q_lfbw h k)
    · replace h := q_ift c25 h
      refine q_aload_n dX9_isChange_28 rfl ?_
      refine q_bipush (v := 48) dX9_isChange_29 (by decide) ?_
      refine q_bipush (v := 50) dX9_isChange_31 (by decide) ?_
      obtain ⟨r33, h33, h⟩ := q_bnd h
      refine q_callVi2 dX9_isChange_33 cl_X9_168 rfl (Nat.le_of_ble_eq_true rfl) (by omega) (sX9_isHere (by omega) h33 ?_)
      refine q_if_ne_b 41 dX9_isChange_36 (by decide) (fun c36 => ?_) (fun c36 => ?_)
      · replace h := q_ift c36 h
        refine q_aload_n dX9_isChange_41 rfl ?_
        refine q_getr dX9_isChange_42 fl_X9_29 rfl rfl ?_
        refine q_iconst (v := 1) dX9_isChange_45 (by decide) ?_
        refine q_aload_n dX9_isChange_46 rfl ?_
        refine q_getr dX9_isChange_47 fl_X9_26 rfl rfl ?_
        refine q_aload_n dX9_isChange_50 rfl ?_
        refine q_geti dX9_isChange_51 fl_X9_162 rfl rfl ?_
        obtain ⟨g54, h⟩ := q_gd h
        refine q_iald dX9_isChange_54 rfl g54 ?_
        refine q_bipush (v := 48) dX9_isChange_55 (by decide) ?_
        refine q_isub dX9_isChange_57 ?_
        obtain ⟨g58, h⟩ := q_gd h
        refine q_iast dX9_isChange_58 rfl g58 ?_
        refine q_aload_n dX9_isChange_59 rfl ?_
        refine q_getr dX9_isChange_60 fl_X9_29 rfl rfl ?_
        refine q_iconst (v := 2) dX9_isChange_63 (by decide) ?_
        refine q_iconst (v := (-1)) dX9_isChange_64 (by decide) ?_
        obtain ⟨g65, h⟩ := q_gd h
        refine q_iast dX9_isChange_65 rfl g65 ?_
        refine q_aload_n dX9_isChange_66 rfl ?_
        refine q_dup dX9_isChange_67 ?_
        refine q_geti dX9_isChange_68 fl_X9_162 rfl rfl ?_
        refine q_iconst (v := 1) dX9_isChange_71 (by decide) ?_
        refine q_iadd dX9_isChange_72 ?_
        refine q_put dX9_isChange_73 fl_X9_162 fp_8_14 rfl rfl ?_
        refine q_aload_n dX9_isChange_76 rfl ?_
        refine q_bipush (v := 45) dX9_isChange_77 (by decide) ?_
        obtain ⟨⟨r79, T79⟩, h79, h⟩ := q_bnd h
        dsimp only at h
        refine q_callVi1 dX9_isChange_79 cl_X9_175 rfl (Nat.le_of_ble_eq_true rfl) (by omega) (sX9_takes (by omega) h79 ?_)
        refine q_if_eq_b 92 dX9_isChange_82 (by decide) (fun c82 => ?_) (fun c82 => ?_)
        · replace h := q_ifb c82 h
          refine q_aload_n dX9_isChange_92 rfl ?_
          refine q_bipush (v := 61) dX9_isChange_93 (by decide) ?_
          obtain ⟨⟨r95, T95⟩, h95, h⟩ := q_bnd h
          dsimp only at h
          refine q_callVi1 dX9_isChange_95 cl_X9_175 rfl (Nat.le_of_ble_eq_true rfl) (by omega) (sX9_takes (by omega) h95 ?_)
          refine q_if_eq_b 128 dX9_isChange_98 (by decide) (fun c98 => ?_) (fun c98 => ?_)
          · replace h := q_ifb c98 h
            refine q_iconst (v := 0) dX9_isChange_128 (by decide) ?_
            exact q_ret (v := q_b false) dX9_isChange_129 rfl (q_b_nar false) (q_lfbw h k)
          · replace h := q_ift c98 h
            refine q_aload_n dX9_isChange_101 rfl ?_
            refine q_getr dX9_isChange_102 fl_X9_29 rfl rfl ?_
            refine q_iconst (v := 1) dX9_isChange_105 (by decide) ?_
            obtain ⟨g106, h⟩ := q_gd h
            refine q_iald dX9_isChange_106 rfl g106 ?_
            refine q_iconst (v := 1) dX9_isChange_107 (by decide) ?_
            refine q_icmp_ne 121 dX9_isChange_108 (by decide) (fun c108 => ?_) (fun c108 => ?_)
            · replace h := q_iff c108 h
              refine q_aload_n dX9_isChange_121 rfl ?_
              obtain ⟨⟨r122, T122⟩, h122, h⟩ := q_bnd h
              dsimp only at h
              refine q_callVi0 dX9_isChange_122 cl_X9_178 rfl (Nat.le_of_ble_eq_true rfl) (by omega) (sX9_isDigits (by omega) h122 ?_)
              refine q_if_ne_b 130 dX9_isChange_125 (by decide) (fun c125 => ?_) (fun c125 => ?_)
              · replace h := q_ift c125 h
                refine q_aload_n dX9_isChange_130 rfl ?_
                refine q_getr dX9_isChange_131 fl_X9_29 rfl rfl ?_
                refine q_iconst (v := 2) dX9_isChange_134 (by decide) ?_
                refine q_aload_n dX9_isChange_135 rfl ?_
                refine q_geti dX9_isChange_136 fl_X9_165 rfl rfl ?_
                obtain ⟨g139, h⟩ := q_gd h
                refine q_iast dX9_isChange_139 rfl g139 ?_
                refine q_aload_n dX9_isChange_140 rfl ?_
                refine q_getr dX9_isChange_141 fl_X9_29 rfl rfl ?_
                refine q_iconst (v := 1) dX9_isChange_144 (by decide) ?_
                obtain ⟨g145, h⟩ := q_gd h
                refine q_iald dX9_isChange_145 rfl g145 ?_
                refine q_aload_n dX9_isChange_146 rfl ?_
                refine q_geti dX9_isChange_147 fl_X9_165 rfl rfl ?_
                obtain ⟨r150, h150, h⟩ := q_bnd h
                refine q_callSi2 dX9_isChange_150 cl_X9_116 (Nat.le_of_ble_eq_true rfl) (by omega) (sX9_isValue (by omega) h150 ?_)
                refine q_if_eq_b 169 dX9_isChange_153 (by decide) (fun c153 => ?_) (fun c153 => ?_)
                · replace h := q_ifb c153 h
                  refine q_iconst (v := 0) dX9_isChange_169 (by decide) ?_
                  exact q_ret (v := q_b false) dX9_isChange_170 rfl (q_b_nar false) (q_lfbw h k)
                · replace h := q_ift c153 h
                  refine q_aload_n dX9_isChange_156 rfl ?_
                  refine q_bipush (v := 59) dX9_isChange_157 (by decide) ?_
                  obtain ⟨⟨r159, T159⟩, h159, h⟩ := q_bnd h
                  dsimp only at h
                  refine q_callVi1 dX9_isChange_159 cl_X9_175 rfl (Nat.le_of_ble_eq_true rfl) (by omega) (sX9_takes (by omega) h159 ?_)
                  refine q_if_eq_b 169 dX9_isChange_162 (by decide) (fun c162 => ?_) (fun c162 => ?_)
                  · replace h := q_ifb c162 h
                    refine q_iconst (v := 0) dX9_isChange_169 (by decide) ?_
                    exact q_ret (v := q_b false) dX9_isChange_170 rfl (q_b_nar false) (q_lfbw h k)
                  · replace h := q_ift c162 h
                    refine q_iconst (v := 1) dX9_isChange_165 (by decide) ?_
                    refine q_goto 170 dX9_isChange_166 (by decide) ?_
                    exact q_ret (v := q_b true) dX9_isChange_170 rfl (q_b_nar true) (q_lfbw h k)
              · replace h := q_ifb c125 h
                refine q_iconst (v := 0) dX9_isChange_128 (by decide) ?_
                exact q_ret (v := q_b false) dX9_isChange_129 rfl (q_b_nar false) (q_lfbw h k)
            · replace h := q_ift c108 h
              refine q_aload_n dX9_isChange_111 rfl ?_
              obtain ⟨⟨r112, T112⟩, h112, h⟩ := q_bnd h
              dsimp only at h
              refine q_callVi0 dX9_isChange_112 cl_X9_171 rfl (Nat.le_of_ble_eq_true rfl) (by omega) (sX9_isLabels (by omega) h112 ?_)
              refine q_if_eq_b 128 dX9_isChange_115 (by decide) (fun c115 => ?_) (fun c115 => ?_)
              · replace h := q_ifb c115 h
                refine q_iconst (v := 0) dX9_isChange_128 (by decide) ?_
                exact q_ret (v := q_b false) dX9_isChange_129 rfl (q_b_nar false) (q_lfbw h k)
              · replace h := q_ift c115 h
                refine q_goto 130 dX9_isChange_118 (by decide) ?_
                refine q_aload_n dX9_isChange_130 rfl ?_
                refine q_getr dX9_isChange_131 fl_X9_29 rfl rfl ?_
                refine q_iconst (v := 2) dX9_isChange_134 (by decide) ?_
                refine q_aload_n dX9_isChange_135 rfl ?_
                refine q_geti dX9_isChange_136 fl_X9_165 rfl rfl ?_
                obtain ⟨g139, h⟩ := q_gd h
                refine q_iast dX9_isChange_139 rfl g139 ?_
                refine q_aload_n dX9_isChange_140 rfl ?_
                refine q_getr dX9_isChange_141 fl_X9_29 rfl rfl ?_
                refine q_iconst (v := 1) dX9_isChange_144 (by decide) ?_
                obtain ⟨g145, h⟩ := q_gd h
                refine q_iald dX9_isChange_145 rfl g145 ?_
                refine q_aload_n dX9_isChange_146 rfl ?_
                refine q_geti dX9_isChange_147 fl_X9_165 rfl rfl ?_
                obtain ⟨r150, h150, h⟩ := q_bnd h
                refine q_callSi2 dX9_isChange_150 cl_X9_116 (Nat.le_of_ble_eq_true rfl) (by omega) (sX9_isValue (by omega) h150 ?_)
                refine q_if_eq_b 169 dX9_isChange_153 (by decide) (fun c153 => ?_) (fun c153 => ?_)
                · replace h := q_ifb c153 h
                  refine q_iconst (v := 0) dX9_isChange_169 (by decide) ?_
                  exact q_ret (v := q_b false) dX9_isChange_170 rfl (q_b_nar false) (q_lfbw h k)
                · replace h := q_ift c153 h
                  refine q_aload_n dX9_isChange_156 rfl ?_
                  refine q_bipush (v := 59) dX9_isChange_157 (by decide) ?_
                  obtain ⟨⟨r159, T159⟩, h159, h⟩ := q_bnd h
                  dsimp only at h
                  refine q_callVi1 dX9_isChange_159 cl_X9_175 rfl (Nat.le_of_ble_eq_true rfl) (by omega) (sX9_takes (by omega) h159 ?_)
                  refine q_if_eq_b 169 dX9_isChange_162 (by decide) (fun c162 => ?_) (fun c162 => ?_)
                  · replace h := q_ifb c162 h
                    refine q_iconst (v := 0) dX9_isChange_169 (by decide) ?_
                    exact q_ret (v := q_b false) dX9_isChange_170 rfl (q_b_nar false) (q_lfbw h k)
                  · replace h := q_ift c162 h
                    refine q_iconst (v := 1) dX9_isChange_165 (by decide) ?_
                    refine q_goto 170 dX9_isChange_166 (by decide) ?_
                    exact q_ret (v := q_b true) dX9_isChange_170 rfl (q_b_nar true) (q_lfbw h k)
        · replace h := q_ift c82 h
          refine q_aload_n dX9_isChange_85 rfl ?_
          refine q_bipush (v := 59) dX9_isChange_86 (by decide) ?_
          obtain ⟨⟨r88, T88⟩, h88, h⟩ := q_bnd h
          dsimp only at h
          refine q_callVi1 dX9_isChange_88 cl_X9_175 rfl (Nat.le_of_ble_eq_true rfl) (by omega) (sX9_takes (by omega) h88 ?_)
          exact q_ret (v := q_b r88) dX9_isChange_91 rfl (q_b_nar r88) (q_lfbw h k)
      · replace h := q_ifb c36 h
        refine q_iconst (v := 0) dX9_isChange_39 (by decide) ?_
        exact q_ret (v := q_b false) dX9_isChange_40 rfl (q_b_nar false) (q_lfbw h k)
  · replace h := q_ifb c4 h
    refine q_iconst (v := 0) dX9_isChange_7 (by decide) ?_
    exact q_ret (v := q_b false) dX9_isChange_8 rfl (q_b_nar false) (q_lfbw h k)
