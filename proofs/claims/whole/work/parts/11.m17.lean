def fX9_latestEvent_82 (p1 : Int32) : Nat → Int32 → Int32 → qS → Option Int32
  | 0, _, _, _ => none
  | n + 1, v2, v3, S => if (S 34 6) ≤ v3 then some v2 else (fX9_part v3 1 S).bind (fun r93 => if p1 < r93 then fX9_latestEvent_82 p1 n v2 (v3 + 1) S else if r93 ≤ v2 then fX9_latestEvent_82 p1 n v2 (v3 + 1) S else fX9_latestEvent_82 p1 n r93 (v3 + 1) S)
set_option maxHeartbeats 4000000 in
set_option maxRecDepth 100000 in
theorem sX9_latestEvent_82 {l : Launch} {d : Nat} (hd : 1 ≤ d) {S : qS} {p1 : Int32} {r : Int32} {Q : Int32 → qS → Prop} (k : Q r S) : ∀ (n : Nat) (v2 : Int32) (v3 : Int32), fX9_latestEvent_82 p1 n v2 v3 S = some r → q_E l cX9_latestEvent 6 (some .int) RX9 d S 82 [some (.inr 34), some (.inl p1), some (.inl v2), some (.inl v3), none, none] [] (q_Qi Q) := by
  intro n
  induction n with
  | zero => intro v2 v3 h; exact q_no h
  | succ n ih =>
    intro v2 v3 h
    rw [fX9_latestEvent_82] at h
    refine q_iload_n dX9_latestEvent_82 rfl ?_
    refine q_aload_n dX9_latestEvent_83 rfl ?_
    refine q_geti dX9_latestEvent_84 fl_X9_91 rfl rfl ?_
    refine q_icmp_ge 123 dX9_latestEvent_87 (by decide) (fun c87 => ?_) (fun c87 => ?_)
    · replace h := q_ift c87 h
      refine q_iload_n dX9_latestEvent_123 rfl ?_
      exact q_ret dX9_latestEvent_124 rfl rfl (q_lfi h k)
    · replace h := q_iff c87 h
      refine q_aload_n dX9_latestEvent_90 rfl ?_
      refine q_iload_n dX9_latestEvent_91 rfl ?_
      refine q_iconst (v := 1) dX9_latestEvent_92 (by decide) ?_
      obtain ⟨r93, h93, h⟩ := q_bnd h
      refine q_callVi2 dX9_latestEvent_93 cl_X9_100 rfl (Nat.le_of_ble_eq_true rfl) (by omega) (sX9_part (by omega) h93 ?_)
      refine q_istore dX9_latestEvent_96 (by decide) ?_
      refine q_iload dX9_latestEvent_98 rfl ?_
      refine q_iload_n dX9_latestEvent_100 rfl ?_
      refine q_icmp_gt 115 dX9_latestEvent_101 (by decide) (fun c101 => ?_) (fun c101 => ?_)
      · replace h := q_ift c101 h
        refine q_iload_n dX9_latestEvent_115 rfl ?_
        refine q_istore_n dX9_latestEvent_116 (by decide) ?_
        refine q_iinc (v := (v3 + 1)) dX9_latestEvent_117 rfl rfl (by decide) ?_
        refine q_goto 82 dX9_latestEvent_120 (by decide) ?_
        exact q_sub (ih _ _ h) (And.intro rfl (And.intro rfl (And.intro rfl (And.intro rfl trivial))))
      · replace h := q_iff c101 h
        refine q_iload dX9_latestEvent_104 rfl ?_
        refine q_iload_n dX9_latestEvent_106 rfl ?_
        refine q_icmp_le 115 dX9_latestEvent_107 (by decide) (fun c107 => ?_) (fun c107 => ?_)
        · replace h := q_ift c107 h
          refine q_iload_n dX9_latestEvent_115 rfl ?_
          refine q_istore_n dX9_latestEvent_116 (by decide) ?_
          refine q_iinc (v := (v3 + 1)) dX9_latestEvent_117 rfl rfl (by decide) ?_
          refine q_goto 82 dX9_latestEvent_120 (by decide) ?_
          exact q_sub (ih _ _ h) (And.intro rfl (And.intro rfl (And.intro rfl (And.intro rfl trivial))))
        · replace h := q_iff c107 h
          refine q_iload dX9_latestEvent_110 rfl ?_
          refine q_goto 116 dX9_latestEvent_112 (by decide) ?_
          refine q_istore_n dX9_latestEvent_116 (by decide) ?_
          refine q_iinc (v := (v3 + 1)) dX9_latestEvent_117 rfl rfl (by decide) ?_
          refine q_goto 82 dX9_latestEvent_120 (by decide) ?_
          exact q_sub (ih _ _ h) (And.intro rfl (And.intro rfl (And.intro rfl (And.intro rfl trivial))))
def fX9_latestEvent_4 (p1 : Int32) : Nat → Int32 → Int32 → qS → Option Int32
  | 0, _, _, _ => none
  | n + 1, v2, v3, S => if (S 34 4) ≤ v3 then fX9_latestEvent_82 p1 20000 v2 0 S else if q_inb ((4 * v3) + 2) 40 = true then if q_inb ((4 * v3) + 3) 40 = true then if p1 < (S 36 (((4 * v3) + 2).toNatClampNeg)) then if p1 < (S 36 (((4 * v3) + 3).toNatClampNeg)) then fX9_latestEvent_4 p1 n v2 (v3 + 1) S else if (S 36 (((4 * v3) + 3).toNatClampNeg)) ≤ v2 then fX9_latestEvent_4 p1 n v2 (v3 + 1) S else fX9_latestEvent_4 p1 n (S 36 (((4 * v3) + 3).toNatClampNeg)) (v3 + 1) S else if (S 36 (((4 * v3) + 2).toNatClampNeg)) ≤ v2 then if p1 < (S 36 (((4 * v3) + 3).toNatClampNeg)) then fX9_latestEvent_4 p1 n v2 (v3 + 1) S else if (S 36 (((4 * v3) + 3).toNatClampNeg)) ≤ v2 then fX9_latestEvent_4 p1 n v2 (v3 + 1) S else fX9_latestEvent_4 p1 n (S 36 (((4 * v3) + 3).toNatClampNeg)) (v3 + 1) S else if p1 < (S 36 (((4 * v3) + 3).toNatClampNeg)) then fX9_latestEvent_4 p1 n (S 36 (((4 * v3) + 2).toNatClampNeg)) (v3 + 1) S else if (S 36 (((4 * v3) + 3).toNatClampNeg)) ≤ (S 36 (((4 * v3) + 2).toNatClampNeg)) then fX9_latestEvent_4 p1 n (S 36 (((4 * v3) + 2).toNatClampNeg)) (v3 + 1) S else fX9_latestEvent_4 p1 n (S 36 (((4 * v3) + 3).toNatClampNeg)) (v3 + 1) S else none else none
set_option maxHeartbeats 4000000 in
set_option maxRecDepth 100000 in
theorem sX9_latestEvent_4 {l : Launch} {d : Nat} (hd : 1 ≤ d) {S : qS} {p1 : Int32} {r : Int32} {Q : Int32 → qS → Prop} (k : Q r S) : ∀ (n : Nat) (v2 : Int32) (v3 : Int32), fX9_latestEvent_4 p1 n v2 v3 S = some r → q_E l cX9_latestEvent 6 (some .int) RX9 d S 4 [some (.inr 34), some (.inl p1), some (.inl v2), some (.inl v3), none, none] [] (q_Qi Q) := by
  intro n
  induction n with
  | zero => intro v2 v3 h; exact q_no h
  | succ n ih =>
    intro v2 v3 h
    rw [fX9_latestEvent_4] at h
    refine q_iload_n dX9_latestEvent_4 rfl ?_
    refine q_aload_n dX9_latestEvent_5 rfl ?_
    refine q_geti dX9_latestEvent_6 fl_X9_70 rfl rfl ?_
    refine q_icmp_ge 80 dX9_latestEvent_9 (by decide) (fun c9 => ?_) (fun c9 => ?_)
    · replace h := q_ift c9 h
      refine q_iconst (v := 0) dX9_latestEvent_80 (by decide) ?_
      refine q_istore_n dX9_latestEvent_81 (by decide) ?_
      exact q_sub (sX9_latestEvent_82 hd k 20000 _ _ h) (And.intro rfl (And.intro rfl (And.intro rfl (And.intro rfl trivial))))
    · replace h := q_iff c9 h
      refine q_aload_n dX9_latestEvent_12 rfl ?_
      refine q_getr dX9_latestEvent_13 fl_X9_13 rfl rfl ?_
      refine q_iconst (v := 4) dX9_latestEvent_16 (by decide) ?_
      refine q_iload_n dX9_latestEvent_17 rfl ?_
      refine q_imul dX9_latestEvent_18 ?_
      refine q_iconst (v := 2) dX9_latestEvent_19 (by decide) ?_
      refine q_iadd dX9_latestEvent_20 ?_
      obtain ⟨g21, h⟩ := q_gd h
      refine q_iald dX9_latestEvent_21 rfl g21 ?_
      refine q_istore dX9_latestEvent_22 (by decide) ?_
      refine q_aload_n dX9_latestEvent_24 rfl ?_
      refine q_getr dX9_latestEvent_25 fl_X9_13 rfl rfl ?_
      refine q_iconst (v := 4) dX9_latestEvent_28 (by decide) ?_
      refine q_iload_n dX9_latestEvent_29 rfl ?_
      refine q_imul dX9_latestEvent_30 ?_
      refine q_iconst (v := 3) dX9_latestEvent_31 (by decide) ?_
      refine q_iadd dX9_latestEvent_32 ?_
      obtain ⟨g33, h⟩ := q_gd h
      refine q_iald dX9_latestEvent_33 rfl g33 ?_
      refine q_istore dX9_latestEvent_34 (by decide) ?_
      refine q_iload dX9_latestEvent_36 rfl ?_
      refine q_iload_n dX9_latestEvent_38 rfl ?_
      refine q_icmp_gt 53 dX9_latestEvent_39 (by decide) (fun c39 => ?_) (fun c39 => ?_)
      · replace h := q_ift c39 h
        refine q_iload_n dX9_latestEvent_53 rfl ?_
        refine q_istore_n dX9_latestEvent_54 (by decide) ?_
        refine q_iload dX9_latestEvent_55 rfl ?_
        refine q_iload_n dX9_latestEvent_57 rfl ?_
        refine q_icmp_gt 72 dX9_latestEvent_58 (by decide) (fun c58 => ?_) (fun c58 => ?_)
        · replace h := q_ift c58 h
          refine q_iload_n dX9_latestEvent_72 rfl ?_
          refine q_istore_n dX9_latestEvent_73 (by decide) ?_
          refine q_iinc (v := (v3 + 1)) dX9_latestEvent_74 rfl rfl (by decide) ?_
          refine q_goto 4 dX9_latestEvent_77 (by decide) ?_
          exact q_sub (ih _ _ h) (And.intro rfl (And.intro rfl (And.intro rfl (And.intro rfl trivial))))
        · replace h := q_iff c58 h
          refine q_iload dX9_latestEvent_61 rfl ?_
          refine q_iload_n dX9_latestEvent_63 rfl ?_
          refine q_icmp_le 72 dX9_latestEvent_64 (by decide) (fun c64 => ?_) (fun c64 => ?_)
          · replace h := q_ift c64 h
            refine q_iload_n dX9_latestEvent_72 rfl ?_
            refine q_istore_n dX9_latestEvent_73 (by decide) ?_
            refine q_iinc (v := (v3 + 1)) dX9_latestEvent_74 rfl rfl (by decide) ?_
            refine q_goto 4 dX9_latestEvent_77 (by decide) ?_
            exact q_sub (ih _ _ h) (And.intro rfl (And.intro rfl (And.intro rfl (And.intro rfl trivial))))
          · replace h := q_iff c64 h
            refine q_iload dX9_latestEvent_67 rfl ?_
            refine q_goto 73 dX9_latestEvent_69 (by decide) ?_
            refine q_istore_n dX9_latestEvent_73 (by decide) ?_
            refine q_iinc (v := (v3 + 1)) dX9_latestEvent_74 rfl rfl (by decide) ?_
            refine q_goto 4 dX9_latestEvent_77 (by decide) ?_
            exact q_sub (ih _ _ h) (And.intro rfl (And.intro rfl (And.intro rfl (And.intro rfl trivial))))
      · replace h := q_iff c39 h
        refine q_iload dX9_latestEvent_42 rfl ?_
        refine q_iload_n dX9_latestEvent_44 rfl ?_
        refine q_icmp_le 53 dX9_latestEvent_45 (by decide) (fun c45 => ?_) (fun c45 => ?_)
        · replace h := q_ift c45 h
          refine q_iload_n dX9_latestEvent_53 rfl ?_
          refine q_istore_n dX9_latestEvent_54 (by decide) ?_
          refine q_iload dX9_latestEvent_55 rfl ?_
          refine q_iload_n dX9_latestEvent_57 rfl ?_
          refine q_icmp_gt 72 dX9_latestEvent_58 (by decide) (fun c58 => ?_) (fun c58 => ?_)
          · replace h := q_ift c58 h
            refine q_iload_n dX9_latestEvent_72 rfl ?_
            refine q_istore_n dX9_latestEvent_73 (by decide) ?_
            refine q_iinc (v := (v3 + 1)) dX9_latestEvent_74 rfl rfl (by decide) ?_
            refine q_goto 4 dX9_latestEvent_77 (by decide) ?_
            exact q_sub (ih _ _ h) (And.intro rfl (And.intro rfl (And.intro rfl (And.intro rfl trivial))))
          · replace h := q_iff c58 h
            refine q_iload dX9_latestEvent_61 rfl ?_
            refine q_iload_n dX9_latestEvent_63 rfl ?_
            refine q_icmp_le 72 dX9_latestEvent_64 (by decide) (fun c64 => ?_) (fun c64 => ?_)
            · replace h := q_ift c64 h
              refine q_iload_n dX9_latestEvent_72 rfl ?_
              refine q_istore_n dX9_latestEvent_73 (by decide) ?_
              refine q_iinc (v := (v3 + 1)) dX9_latestEvent_74 rfl rfl (by decide) ?_
              refine q_goto 4 dX9_latestEvent_77 (by decide) ?_
              exact q_sub (ih _ _ h) (And.intro rfl (And.intro rfl (And.intro rfl (And.intro rfl trivial))))
            · replace h := q_iff c64 h
              refine q_iload dX9_latestEvent_67 rfl ?_
              refine q_goto 73 dX9_latestEvent_69 (by decide) ?_
              refine q_istore_n dX9_latestEvent_73 (by decide) ?_
              refine q_iinc (v := (v3 + 1)) dX9_latestEvent_74 rfl rfl (by decide) ?_
              refine q_goto 4 dX9_latestEvent_77 (by decide) ?_
              exact q_sub (ih _ _ h) (And.intro rfl (And.intro rfl (And.intro rfl (And.intro rfl trivial))))
        · replace h := q_iff c45 h
          refine q_iload dX9_latestEvent_48 rfl ?_
          refine q_goto 54 dX9_latestEvent_50 (by decide) ?_
          refine q_istore_n dX9_latestEvent_54 (by decide) ?_
          refine q_iload dX9_latestEvent_55 rfl ?_
          refine q_iload_n dX9_latestEvent_57 rfl ?_
          refine q_icmp_gt 72 dX9_latestEvent_58 (by decide) (fun c58 => ?_) (fun c58 => ?_)
          · replace h := q_ift c58 h
            refine q_iload_n dX9_latestEvent_72 rfl ?_
            refine q_istore_n dX9_latestEvent_73 (by decide) ?_
            refine q_iinc (v := (v3 + 1)) dX9_latestEvent_74 rfl rfl (by decide) ?_
            refine q_goto 4 dX9_latestEvent_77 (by decide) ?_
            exact q_sub (ih _ _ h) (And.intro rfl (And.intro rfl (And.intro rfl (And.intro rfl trivial))))
          · replace h := q_iff c58 h
            refine q_iload dX9_latestEvent_61 rfl ?_
            refine q_iload_n dX9_latestEvent_63 rfl ?_
            refine q_icmp_le 72 dX9_latestEvent_64 (by decide) (fun c64 => ?_) (fun c64 => ?_)
            · replace h := q_ift c64 h
              refine q_iload_n dX9_latestEvent_72 rfl ?_
              refine q_istore_n dX9_latestEvent_73 (by decide) ?_
              refine q_iinc (v := (v3 + 1)) dX9_latestEvent_74 rfl rfl (by decide) ?_
              refine q_goto 4 dX9_latestEvent_77 (by decide) ?_
              exact q_sub (ih _ _ h) (And.intro rfl (And.intro rfl (And.intro rfl (And.intro rfl trivial))))
            · replace h := q_iff c64 h
              refine q_iload dX9_latestEvent_67 rfl ?_
              refine q_goto 73 dX9_latestEvent_69 (by decide) ?_
              refine q_istore_n dX9_latestEvent_73 (by decide) ?_
              refine q_iinc (v := (v3 + 1)) dX9_latestEvent_74 rfl rfl (by decide) ?_
              refine q_goto 4 dX9_latestEvent_77 (by decide) ?_
              exact q_sub (ih _ _ h) (And.intro rfl (And.intro rfl (And.intro rfl (And.intro rfl trivial))))
def fX9_latestEvent (a1 : Int32) (S : qS) : Option Int32 := fX9_latestEvent_4 a1 20000 0 0 S
set_option maxHeartbeats 4000000 in
set_option maxRecDepth 100000 in
theorem sX9_latestEvent {l : Launch} {d : Nat} (hd : 1 ≤ d) {S : qS} {a1 : Int32} {r : Int32} (h : fX9_latestEvent a1 S = some r) {Q : Int32 → qS → Prop} (k : Q r S) : q_Mi l d yX9_latestEvent cX9_latestEvent 6 (some .int) [.inr 34, .inl a1] S Q := by
  refine q_Mi_of (own := RX9) rfl rfl [some (.inr 34), some (.inl a1), none, none, none, none] rfl (Nat.le_of_ble_eq_true rfl) ?_
  unfold fX9_latestEvent at h
  refine q_iconst (v := 0) dX9_latestEvent_0 (by decide) ?_
  refine q_istore_n dX9_latestEvent_1 (by decide) ?_
  refine q_iconst (v := 0) dX9_latestEvent_2 (by decide) ?_
  refine q_istore_n dX9_latestEvent_3 (by decide) ?_
  exact q_sub (sX9_latestEvent_4 hd k 20000 _ _ h) (And.intro rfl (And.intro rfl (And.intro rfl (And.intro rfl trivial))))
def fX9_since_35 (p1 p2 p3 p4 : Int32) : Nat → Int32 → qS → Option (Int32 × qS)
  | 0, _, _ => none
  | n + 1, v5, S => if v5 ≤ 0 then some (v5, S) else (fX9_finds p1 p2 p3 (v5 - 1) S).bind (fun (r48, T48) => if r48 = p4 then (fX9_latestEvent (v5 - 1) T48).bind (fun r61 => fX9_since_35 p1 p2 p3 p4 n r61 T48) else some (v5, T48))
set_option maxHeartbeats 4000000 in
set_option maxRecDepth 100000 in
theorem sX9_since_35 {l : Launch} {d : Nat} (hd : 5 ≤ d) {p1 p2 p3 p4 : Int32} {r : Int32} {S' : qS} {Q : Int32 → qS → Prop} (k : Q r S') : ∀ (n : Nat) (v5 : Int32) (S : qS), fX9_since_35 p1 p2 p3 p4 n v5 S = some (r, S') → q_E l cX9_since 6 (some .int) RX9 d S 35 [some (.inr 34), some (.inl p1), some (.inl p2), some (.inl p3), some (.inl p4), some (.inl v5)] [] (q_Qi Q) := by
  intro n
  induction n with
  | zero => intro v5 S h; exact q_no h
  | succ n ih =>
    intro v5 S h
    rw [fX9_since_35] at h
    refine q_iload dX9_since_35 rfl ?_
    refine q_if_le 69 dX9_since_37 (by decide) (fun c37 => ?_) (fun c37 => ?_)
    · replace h := q_ift c37 h
      refine q_iload dX9_since_69 rfl ?_
      exact q_ret dX9_since_71 rfl rfl (q_lfiw h k)
    · replace h := q_iff c37 h
      refine q_aload_n dX9_since_40 rfl ?_
      refine q_iload_n dX9_since_41 rfl ?_
      refine q_iload_n dX9_since_42 rfl ?_
      refine q_iload_n dX9_since_43 rfl ?_
      refine q_iload dX9_since_44 rfl ?_
      refine q_iconst (v := 1) dX9_since_46 (by decide) ?_
      refine q_isub dX9_since_47 ?_
      obtain ⟨⟨r48, T48⟩, h48, h⟩ := q_bnd h
      dsimp only at h
      refine q_callVi4 dX9_since_48 cl_X9_142 rfl (Nat.le_of_ble_eq_true rfl) (by omega) (sX9_finds (by omega) h48 ?_)
      refine q_iload dX9_since_51 rfl ?_
      refine q_icmp_ne 69 dX9_since_53 (by decide) (fun c53 => ?_) (fun c53 => ?_)
      · replace h := q_iff c53 h
        refine q_iload dX9_since_69 rfl ?_
        exact q_ret dX9_since_71 rfl rfl (q_lfiw h k)
      · replace h := q_ift c53 h
        refine q_aload_n dX9_since_56 rfl ?_
        refine q_iload dX9_since_57 rfl ?_
        refine q_iconst (v := 1) dX9_since_59 (by decide) ?_
        refine q_isub dX9_since_60 ?_
        obtain ⟨r61, h61, h⟩ := q_bnd h
        refine q_callVi1 dX9_since_61 cl_X9_149 rfl (Nat.le_of_ble_eq_true rfl) (by omega) (sX9_latestEvent (by omega) h61 ?_)
        refine q_istore dX9_since_64 (by decide) ?_
        refine q_goto 35 dX9_since_66 (by decide) ?_
        exact q_sub (ih _ _ h) (And.intro rfl (And.intro rfl (And.intro rfl (And.intro rfl (And.intro rfl (And.intro rfl trivial))))))
def fX9_since (a1 a2 a3 : Int32) (S : qS) : Option (Int32 × qS) := (fX9_isQuestion a1 a2 a3 S).bind (fun r4 => if r4 = true then (fX9_finds a1 a2 a3 (S 34 0) S).bind (fun (r20, T20) => (fX9_latestEvent (T20 34 0) T20).bind (fun r30 => fX9_since_35 a1 a2 a3 r20 20000 r30 T20)) else some ((-1), S))
set_option maxHeartbeats 4000000 in
set_option maxRecDepth 100000 in
theorem sX9_since {l : Launch} {d : Nat} (hd : 5 ≤ d) {S : qS} {a1 a2 a3 : Int32} {r : Int32} {S' : qS} (h : fX9_since a1 a2 a3 S = some (r, S')) {Q : Int32 → qS → Prop} (k : Q r S') : q_Mi l d yX9_since cX9_since 6 (some .int) [.inr 34, .inl a1, .inl a2, .inl a3] S Q := by
  refine q_Mi_of (own := RX9) rfl rfl [some (.inr 34), some (.inl a1), some (.inl a2), some (.inl a3), none, none] rfl (Nat.le_of_ble_eq_true rfl) ?_
  unfold fX9_since at h
  refine q_aload_n dX9_since_0 rfl ?_
  refine q_iload_n dX9_since_1 rfl ?_
  refine q_iload_n dX9_since_2 rfl ?_
  refine q_iload_n dX9_since_3 rfl ?_
  obtain ⟨r4, h4, h⟩ := q_bnd h
  refine q_callVi3 dX9_since_4 cl_X9_139 rfl (Nat.le_of_ble_eq_true rfl) (by omega) (sX9_isQuestion (by omega) h4 ?_)
  refine q_if_ne_b 12 dX9_since_7 (by decide) (fun c7 => ?_) (fun c7 => ?_)
  · replace h := q_ift c7 h
    refine q_aload_n dX9_since_12 rfl ?_
    refine q_iload_n dX9_since_13 rfl ?_
    refine q_iload_n dX9_since_14 rfl ?_
    refine q_iload_n dX9_since_15 rfl ?_
    refine q_aload_n dX9_since_16 rfl ?_
    refine q_geti dX9_since_17 fl_X9_32 rfl rfl ?_
    obtain ⟨⟨r20, T20⟩, h20, h⟩ := q_bnd h
    dsimp only at h
    refine q_callVi4 dX9_since_20 cl_X9_142 rfl (Nat.le_of_ble_eq_true rfl) (by omega) (sX9_finds (by omega) h20 ?_)
    refine q_istore dX9_since_23 (by decide) ?_
    refine q_aload_n dX9_since_25 rfl ?_
    refine q_aload_n dX9_since_26 rfl ?_
    refine q_geti dX9_since_27 fl_X9_32 rfl rfl ?_
    obtain ⟨r30, h30, h⟩ := q_bnd h
    refine q_callVi1 dX9_since_30 cl_X9_149 rfl (Nat.le_of_ble_eq_true rfl) (by omega) (sX9_latestEvent (by omega) h30 ?_)
    refine q_istore dX9_since_33 (by decide) ?_
    exact q_sub (sX9_since_35 hd k 20000 _ _ h) (And.intro rfl (And.intro rfl (And.intro rfl (And.intro rfl (And.intro rfl (And.intro rfl trivial))))))
  · replace h := q_ifb c7 h
    refine q_iconst (v := (-1)) dX9_since_10 (by decide) ?_
    exact q_ret dX9_since_11 rfl rfl (q_lfiw h k)
def fX9_seenBy_72 (p1 p2 p3 p4 p5 : Int32) : Nat → Int32 → Int32 → qS → Option (Int32 × qS)
  | 0, _, _, _ => none
  | n + 1, v6, v7, S => if 256 ≤ v7 then some (v6, S) else (fX9_viewAt v7 p4 S).bind (fun r89 => fX9_seenBy_72 p1 p2 p3 p4 p5 n (v6 + ((p5 >>> (r89 &&& 31)) &&& 1)) (v7 + 1) S)
set_option maxHeartbeats 4000000 in
set_option maxRecDepth 100000 in
theorem sX9_seenBy_72 {l : Launch} {d : Nat} (hd : 5 ≤ d) {p1 p2 p3 p4 p5 : Int32} {r : Int32} {S' : qS} {Q : Int32 → qS → Prop} (k : Q r S') : ∀ (n : Nat) (v6 : Int32) (v7 : Int32) (S : qS), fX9_seenBy_72 p1 p2 p3 p4 p5 n v6 v7 S = some (r, S') → q_E l cX9_seenBy 8 (some .int) RX9 d S 72 [some (.inr 34), some (.inl p1), some (.inl p2), some (.inl p3), some (.inl p4), some (.inl p5), some (.inl v6), some (.inl v7)] [] (q_Qi Q) := by
  intro n
  induction n with
  | zero => intro v6 v7 S h; exact q_no h
  | succ n ih =>
    intro v6 v7 S h
    rw [fX9_seenBy_72] at h
    refine q_iload dX9_seenBy_72 rfl ?_
    refine q_sipush (v := 256) dX9_seenBy_74 (by decide) ?_
    refine q_icmp_ge 104 dX9_seenBy_77 (by decide) (fun c77 => ?_) (fun c77 => ?_)
    · replace h := q_ift c77 h
      refine q_iload dX9_seenBy_104 rfl ?_
      exact q_ret dX9_seenBy_106 rfl rfl (q_lfiw h k)
    · replace h := q_iff c77 h
      refine q_iload dX9_seenBy_80 rfl ?_
      refine q_iload dX9_seenBy_82 rfl ?_
      refine q_aload_n dX9_seenBy_84 rfl ?_
      refine q_iload dX9_seenBy_85 rfl ?_
      refine q_iload dX9_seenBy_87 rfl ?_
      obtain ⟨r89, h89, h⟩ := q_bnd h
      refine q_callVi2 dX9_seenBy_89 cl_X9_67 rfl (Nat.le_of_ble_eq_true rfl) (by omega) (sX9_viewAt (by omega) h89 ?_)
      refine q_ishr dX9_seenBy_92 ?_
      refine q_iconst (v := 1) dX9_seenBy_93 (by decide) ?_
      refine q_iand dX9_seenBy_94 ?_
      refine q_iadd dX9_seenBy_95 ?_
      refine q_istore dX9_seenBy_96 (by decide) ?_
      refine q_iinc (v := (v7 + 1)) dX9_seenBy_98 rfl rfl (by decide) ?_
      refine q_goto 72 dX9_seenBy_101 (by decide) ?_
      exact q_sub (ih _ _ _ h) (And.intro rfl (And.intro rfl (And.intro rfl (And.intro rfl (And.intro rfl (And.intro rfl (And.intro rfl (And.intro rfl trivial))))))))
def fX9_seenBy_27 (p1 p2 p3 p4 : Int32) : Nat → Int32 → Int32 → qS → Option (Int32 × qS)
  | 0, _, _, _ => none
  | n + 1, v5, v6, S => if 4 ≤ v6 then fX9_seenBy_72 p1 p2 p3 p4 v5 20000 0 0 S else (fX9_finds v6 p1 p2 p4 S).bind (fun (r42, T42) => if r42 = p3 then fX9_seenBy_27 p1 p2 p3 p4 n (v5 ||| (1 <<< (v6 &&& 31))) (v6 + 1) T42 else fX9_seenBy_27 p1 p2 p3 p4 n (v5 ||| 0) (v6 + 1) T42)
set_option maxHeartbeats 4000000 in
set_option maxRecDepth 100000 in
theorem sX9_seenBy_27 {l : Launch} {d : Nat} (hd : 5 ≤ d) {p1 p2 p3 p4 : Int32} {r : Int32} {S' : qS} {Q : Int32 → qS → Prop} (k : Q r S') : ∀ (n : Nat) (v5 : Int32) (v6 : Int32) (S : qS), fX9_seenBy_27 p1 p2 p3 p4 n v5 v6 S = some (r, S') → q_E l cX9_seenBy 8 (some .int) RX9 d S 27 [some (.inr 34), some (.inl p1), some (.inl p2), some (.inl p3), some (.inl p4), some (.inl v5), some (.inl v6), none] [] (q_Qi Q) := by
  intro n
  induction n with
  | zero => intro v5 v6 S h; exact q_no h
  | succ n ih =>
    intro v5 v6 S h
    rw [fX9_seenBy_27] at h
    refine q_iload dX9_seenBy_27 rfl ?_
    refine q_iconst (v := 4) dX9_seenBy_29 (by decide) ?_
    refine q_icmp_ge 66 dX9_seenBy_30 (by decide) (fun c30 => ?_) (fun c30 => ?_)
    · replace h := q_ift c30 h
      refine q_iconst (v := 0) dX9_seenBy_66 (by decide) ?_
      refine q_istore dX9_seenBy_67 (by decide) ?_
      refine q_iconst (v := 0) dX9_seenBy_69 (by decide) ?_
      refine q_istore dX9_seenBy_70 (by decide) ?_
      exact q_sub (sX9_seenBy_72 hd k 20000 _ _ _ h) (And.intro rfl (And.intro rfl (And.intro rfl (And.intro rfl (And.intro rfl (And.intro rfl (And.intro rfl (And.intro rfl trivial))))))))
    · replace h := q_iff c30 h
      refine q_iload dX9_seenBy_33 rfl ?_
      refine q_aload_n dX9_seenBy_35 rfl ?_
      refine q_iload dX9_seenBy_36 rfl ?_
      refine q_iload_n dX9_seenBy_38 rfl ?_
      refine q_iload_n dX9_seenBy_39 rfl ?_
      refine q_iload dX9_seenBy_40 rfl ?_
      obtain ⟨⟨r42, T42⟩, h42, h⟩ := q_bnd h
      dsimp only at h
      refine q_callVi4 dX9_seenBy_42 cl_X9_142 rfl (Nat.le_of_ble_eq_true rfl) (by omega) (sX9_finds (by omega) h42 ?_)
      refine q_iload_n dX9_seenBy_45 rfl ?_
      refine q_icmp_ne 56 dX9_seenBy_46 (by decide) (fun c46 => ?_) (fun c46 => ?_)
      · replace h := q_iff c46 h
        refine q_iconst (v := 0) dX9_seenBy_56 (by decide) ?_
        refine q_ior dX9_seenBy_57 ?_
        refine q_istore dX9_seenBy_58 (by decide) ?_
        refine q_iinc (v := (v6 + 1)) dX9_seenBy_60 rfl rfl (by decide) ?_
        refine q_goto 27 dX9_seenBy_63 (by decide) ?_
        exact q_sub (ih _ _ _ h) (And.intro rfl (And.intro rfl (And.intro rfl (And.intro rfl (And.intro rfl (And.intro rfl (And.intro rfl trivial)))))))
      · replace h := q_ift c46 h
        refine q_iconst (v := 1) dX9_seenBy_49 (by decide) ?_
        refine q_iload dX9_seenBy_50 rfl ?_
        refine q_ishl dX9_seenBy_52 ?_
        refine q_goto 57 dX9_seenBy_53 (by decide) ?_
        refine q_ior dX9_seenBy_57 ?_
        refine q_istore dX9_seenBy_58 (by decide) ?_
        refine q_iinc (v := (v6 + 1)) dX9_seenBy_60 rfl rfl (by decide) ?_
        refine q_goto 27 dX9_seenBy_63 (by decide) ?_
        exact q_sub (ih _ _ _ h) (And.intro rfl (And.intro rfl (And.intro rfl (And.intro rfl (And.intro rfl (And.intro rfl (And.intro rfl trivial)))))))
def fX9_seenBy (a1 a2 a3 a4 : Int32) (S : qS) : Option (Int32 × qS) := (fX9_isQuestion 0 a1 a2 S).bind (fun r4 => if r4 = true then (fX9_isTick a4 S).bind (fun r13 => if r13 = true then fX9_seenBy_27 a1 a2 a3 a4 20000 0 0 S else some ((-1), S)) else some ((-1), S))
set_option maxHeartbeats 4000000 in
set_option maxRecDepth 100000 in
theorem sX9_seenBy {l : Launch} {d : Nat} (hd : 5 ≤ d) {S : qS} {a1 a2 a3 a4 : Int32} {r : Int32} {S' : qS} (h : fX9_seenBy a1 a2 a3 a4 S = some (r, S')) {Q : Int32 → qS → Prop} (k : Q r S') : q_Mi l d yX9_seenBy cX9_seenBy 8 (some .int) [.inr 34, .inl a1, .inl a2, .inl a3, .inl a4] S Q := by
  refine q_Mi_of (own := RX9) rfl rfl [some (.inr 34), some (.inl a1), some (.inl a2), some (.inl a3), some (.inl a4), none, none, none] rfl (Nat.le_of_ble_eq_true rfl) ?_
  unfold fX9_seenBy at h
  refine q_aload_n dX9_seenBy_0 rfl ?_
  refine q_iconst (v := 0) dX9_seenBy_1 (by decide) ?_
  refine q_iload_n dX9_seenBy_2 rfl ?_
  refine q_iload_n dX9_seenBy_3 rfl ?_
  obtain ⟨r4, h4, h⟩ := q_bnd h
  refine q_callVi3 dX9_seenBy_4 cl_X9_139 rfl (Nat.le_of_ble_eq_true rfl) (by omega) (sX9_isQuestion (by omega) h4 ?_)
  refine q_if_eq_b 19 dX9_seenBy_7 (by decide) (fun c7 => ?_) (fun c7 => ?_)
  · replace h := q_ifb c7 h
    refine q_iconst (v := (-1)) dX9_seenBy_19 (by decide) ?_
    exact q_ret dX9_seenBy_20 rfl rfl (q_lfiw h k)
  · replace h := q_ift c7 h
    refine q_aload_n dX9_seenBy_10 rfl ?_
    refine q_iload dX9_seenBy_11 rfl ?_
    obtain ⟨r13, h13, h⟩ := q_bnd h
    refine q_callVi1 dX9_seenBy_13 cl_X9_64 rfl (Nat.le_of_ble_eq_true rfl) (by omega) (sX9_isTick (by omega) h13 ?_)
    refine q_if_ne_b 21 dX9_seenBy_16 (by decide) (fun c16 => ?_) (fun c16 => ?_)
    · replace h := q_ift c16 h
      refine q_iconst (v := 0) dX9_seenBy_21 (by decide) ?_
      refine q_istore dX9_seenBy_22 (by decide) ?_
      refine q_iconst (v := 0) dX9_seenBy_24 (by decide) ?_
      refine q_istore dX9_seenBy_25 (by decide) ?_
      exact q_sub (sX9_seenBy_27 hd k 20000 _ _ _ h) (And.intro rfl (And.intro rfl (And.intro rfl (And.intro rfl (And.intro rfl (And.intro rfl (And.intro rfl trivial)))))))
    · replace h := q_ifb c16 h
      refine q_iconst (v := (-1)) dX9_seenBy_19 (by decide) ?_
      exact q_ret dX9_seenBy_20 rfl rfl (q_lfiw h k)
def fX9_setKeeping (a1 : Int32) (S : qS) : Option (Int32 × qS) := (fX9_in a1 0 100 S).bind (fun r4 => if r4 = true then some ((S 34 9), (q_up S 34 9 a1)) else some ((-1), S))
set_option maxHeartbeats 4000000 in
set_option maxRecDepth 100000 in
theorem sX9_setKeeping {l : Launch} {d : Nat} (hd : 1 ≤ d) {S : qS} {a1 : Int32} {r : Int32} {S' : qS} (h : fX9_setKeeping a1 S = some (r, S')) {Q : Int32 → qS → Prop} (k : Q r S') : q_Mi l d yX9_setKeeping cX9_setKeeping 3 (some .int) [.inr 34, .inl a1] S Q := by
  refine q_Mi_of (own := RX9) rfl rfl [some (.inr 34), some (.inl a1), none] rfl (Nat.le_of_ble_eq_true rfl) ?_
  unfold fX9_setKeeping at h
  refine q_iload_n dX9_setKeeping_0 rfl ?_
  refine q_iconst (v := 0) dX9_setKeeping_1 (by decide) ?_
  refine q_bipush (v := 100) dX9_setKeeping_2 (by decide) ?_
  obtain ⟨r4, h4, h⟩ := q_bnd h
  refine q_callSi3 dX9_setKeeping_4 cl_X9_35 (Nat.le_of_ble_eq_true rfl) (by omega) (sX9_in (by omega) h4 ?_)
  refine q_if_ne_b 12 dX9_setKeeping_7 (by decide) (fun c7 => ?_) (fun c7 => ?_)
  · replace h := q_ift c7 h
    refine q_aload_n dX9_setKeeping_12 rfl ?_
    refine q_geti dX9_setKeeping_13 fl_X9_22 rfl rfl ?_
    refine q_istore_n dX9_setKeeping_16 (by decide) ?_
    refine q_aload_n dX9_setKeeping_17 rfl ?_
    refine q_iload_n dX9_setKeeping_18 rfl ?_
    refine q_put dX9_setKeeping_19 fl_X9_22 fp_8_9 rfl rfl ?_
    refine q_iload_n dX9_setKeeping_22 rfl ?_
    exact q_ret dX9_setKeeping_23 rfl rfl (q_lfiw h k)
  · replace h := q_ifb c7 h
    refine q_iconst (v := (-1)) dX9_setKeeping_10 (by decide) ?_
    exact q_ret dX9_setKeeping_11 rfl rfl (q_lfiw h k)
def fX9_isYoung (a1 : Int32) (S : qS) : Option Bool := if q_inb ((5 * a1) + 4) 30 = true then if (S 34 9) < ((S 34 0) - (S 38 (((5 * a1) + 4).toNatClampNeg))) then some false else some true else none
set_option maxHeartbeats 4000000 in
set_option maxRecDepth 100000 in
theorem sX9_isYoung {l : Launch} {d : Nat} (hd : 0 ≤ d) {S : qS} {a1 : Int32} {r : Bool} (h : fX9_isYoung a1 S = some r) {Q : Int32 → qS → Prop} (k : Q (q_b r) S) : q_Mi l d yX9_isYoung cX9_isYoung 2 (some .boolean) [.inr 34, .inl a1] S Q := by
  refine q_Mi_of (own := RX9) rfl rfl [some (.inr 34), some (.inl a1)] rfl (Nat.le_of_ble_eq_true rfl) ?_
  unfold fX9_isYoung at h
  refine q_aload_n dX9_isYoung_0 rfl ?_
  refine q_geti dX9_isYoung_1 fl_X9_32 rfl rfl ?_
  refine q_aload_n dX9_isYoung_4 rfl ?_
  refine q_getr dX9_isYoung_5 fl_X9_19 rfl rfl ?_
  refine q_iconst (v := 5) dX9_isYoung_8 (by decide) ?_
  refine q_iload_n dX9_isYoung_9 rfl ?_
  refine q_imul dX9_isYoung_10 ?_
  refine q_iconst (v := 4) dX9_isYoung_11 (by decide) ?_
  refine q_iadd dX9_isYoung_12 ?_
  obtain ⟨g13, h⟩ := q_gd h
  refine q_iald dX9_isYoung_13 rfl g13 ?_
  refine q_isub dX9_isYoung_14 ?_
  refine q_aload_n dX9_isYoung_15 rfl ?_
  refine q_geti dX9_isYoung_16 fl_X9_22 rfl rfl ?_
  refine q_icmp_gt 26 dX9_isYoung_19 (by decide) (fun c19 => ?_) (fun c19 => ?_)
  · replace h := q_ift c19 h
    refine q_iconst (v := 0) dX9_isYoung_26 (by decide) ?_
    exact q_ret (v := q_b false) dX9_isYoung_27 rfl (q_b_nar false) (q_lfb h k)
  · replace h := q_iff c19 h
    refine q_iconst (v := 1) dX9_isYoung_22 (by decide) ?_
    refine q_goto 27 dX9_isYoung_23 (by decide) ?_
    exact q_ret (v := q_b true) dX9_isYoung_27 rfl (q_b_nar true) (q_lfb h k)
def fX9_drops_14 (p1 : Int32) : Nat → Int32 → qS → Option qS
  | 0, _, _ => none
  | n + 1, v2, S => if (5 * (S 34 8)) ≤ v2 then some S else if q_inb (v2 + 5) 30 = true then if q_inb v2 30 = true then fX9_drops_14 p1 n (v2 + 1) (q_up S 38 v2.toNatClampNeg (S 38 ((v2 + 5).toNatClampNeg))) else none else none
set_option maxHeartbeats 4000000 in
set_option maxRecDepth 100000 in
theorem sX9_drops_14 {l : Launch} {d : Nat} (hd : 0 ≤ d) {p1 : Int32} {S' : qS} {Q : qS → Prop} (k : Q S') : ∀ (n : Nat) (v2 : Int32) (S : qS), fX9_drops_14 p1 n v2 S = some S' → q_E l cX9_drops 3 none RX9 d S 14 [some (.inr 34), some (.inl p1), some (.inl v2)] [] (q_Qv Q) := by
  intro n
  induction n with
  | zero => intro v2 S h; exact q_no h
  | succ n ih =>
    intro v2 S h
    rw [fX9_drops_14] at h
    refine q_iload_n dX9_drops_14 rfl ?_
    refine q_iconst (v := 5) dX9_drops_15 (by decide) ?_
    refine q_aload_n dX9_drops_16 rfl ?_
    refine q_geti dX9_drops_17 fl_X9_94 rfl rfl ?_
    refine q_imul dX9_drops_20 ?_
    refine q_icmp_ge 44 dX9_drops_21 (by decide) (fun c21 => ?_) (fun c21 => ?_)
    · replace h := q_ift c21 h
      exact q_vret dX9_drops_44 rfl (q_lfv h k)
    · replace h := q_iff c21 h
      refine q_aload_n dX9_drops_24 rfl ?_
      refine q_getr dX9_drops_25 fl_X9_19 rfl rfl ?_
      refine q_iload_n dX9_drops_28 rfl ?_
      refine q_aload_n dX9_drops_29 rfl ?_
      refine q_getr dX9_drops_30 fl_X9_19 rfl rfl ?_
      refine q_iload_n dX9_drops_33 rfl ?_
      refine q_iconst (v := 5) dX9_drops_34 (by decide) ?_
      refine q_iadd dX9_drops_35 ?_
      obtain ⟨g36, h⟩ := q_gd h
      refine q_iald dX9_drops_36 rfl g36 ?_
      obtain ⟨g37, h⟩ := q_gd h
      refine q_iast dX9_drops_37 rfl g37 ?_
      refine q_iinc (v := (v2 + 1)) dX9_drops_38 rfl rfl (by decide) ?_
      refine q_goto 14 dX9_drops_41 (by decide) ?_
      exact q_sub (ih _ _ h) (And.intro rfl (And.intro rfl (And.intro rfl trivial)))
def fX9_drops (a1 : Int32) (S : qS) : Option qS := fX9_drops_14 a1 20000 (5 * a1) (q_up S 34 8 ((S 34 8) - 1))
set_option maxHeartbeats 4000000 in
set_option maxRecDepth 100000 in
theorem sX9_drops {l : Launch} {d : Nat} (hd : 0 ≤ d) {S : qS} {a1 : Int32} {S' : qS} (h : fX9_drops a1 S = some S') {Q : qS → Prop} (k : Q S') : q_Mv l d yX9_drops cX9_drops 3 none [.inr 34, .inl a1] S Q := by
  refine q_Mv_of (own := RX9) rfl rfl [some (.inr 34), some (.inl a1), none] rfl (Nat.le_of_ble_eq_true rfl) ?_
  unfold fX9_drops at h
  refine q_aload_n dX9_drops_0 rfl ?_
  refine q_dup dX9_drops_1 ?_
  refine q_geti dX9_drops_2 fl_X9_94 rfl rfl ?_
  refine q_iconst (v := 1) dX9_drops_5 (by decide) ?_
  refine q_isub dX9_drops_6 ?_
  refine q_put dX9_drops_7 fl_X9_94 fp_8_8 rfl rfl ?_
  refine q_iconst (v := 5) dX9_drops_10 (by decide) ?_
  refine q_iload_n dX9_drops_11 rfl ?_
  refine q_imul dX9_drops_12 ?_
  refine q_istore_n dX9_drops_13 (by decide) ?_
  exact q_sub (sX9_drops_14 hd k 20000 _ _ h) (And.intro rfl (And.intro rfl (And.intro rfl trivial)))
