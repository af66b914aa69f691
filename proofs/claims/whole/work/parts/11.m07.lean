def fX6_read_9 : Nat → Int32 → Int32 → qS → Option (Int32 × qS)
  | 0, _, _, _ => none
  | n + 1, v1, v2, S => if 12 ≤ v2 then if (S 29 1) ≤ v1 then some ((-4), S) else some (v1, S) else if (S 29 1) ≤ v1 then if (S 29 1) ≤ v1 then some ((-4), S) else some (v1, S) else (fX6_readChange v1 S).bind (fun (r25, T25) => if r25 = (-1) then some (v1, T25) else fX6_read_9 n r25 (v2 + 1) T25)
set_option maxHeartbeats 4000000 in
set_option maxRecDepth 100000 in
theorem sX6_read_9 {l : Launch} {d : Nat} (hd : 3 ≤ d) {r : Int32} {S' : qS} {Q : Int32 → qS → Prop} (k : Q r S') : ∀ (n : Nat) (v1 : Int32) (v2 : Int32) (S : qS), fX6_read_9  n v1 v2 S = some (r, S') → q_E l cX6_read 4 (some .int) RX6 d S 9 [some (.inr 29), some (.inl v1), some (.inl v2), none] [] (q_Qi Q) := by
  intro n
  induction n with
  | zero => intro v1 v2 S h; exact q_no h
  | succ n ih =>
    intro v1 v2 S h
    rw [fX6_read_9] at h
    refine q_iload_n dX6_read_9 rfl ?_
    refine q_bipush (v := 12) dX6_read_10 (by decide) ?_
    refine q_icmp_ge 44 dX6_read_12 (by decide) (fun c12 => ?_) (fun c12 => ?_)
    · replace h := q_ift c12 h
      refine q_iload_n dX6_read_44 rfl ?_
      refine q_aload_n dX6_read_45 rfl ?_
      refine q_geti dX6_read_46 fl_X6_15 rfl rfl ?_
      refine q_icmp_ge 56 dX6_read_49 (by decide) (fun c49 => ?_) (fun c49 => ?_)
      · replace h := q_ift c49 h
        refine q_bipush (v := (-4)) dX6_read_56 (by decide) ?_
        exact q_ret dX6_read_58 rfl rfl (q_lfiw h k)
      · replace h := q_iff c49 h
        refine q_iload_n dX6_read_52 rfl ?_
        refine q_goto 58 dX6_read_53 (by decide) ?_
        exact q_ret dX6_read_58 rfl rfl (q_lfiw h k)
    · replace h := q_iff c12 h
      refine q_iload_n dX6_read_15 rfl ?_
      refine q_aload_n dX6_read_16 rfl ?_
      refine q_geti dX6_read_17 fl_X6_15 rfl rfl ?_
      refine q_icmp_ge 44 dX6_read_20 (by decide) (fun c20 => ?_) (fun c20 => ?_)
      · replace h := q_ift c20 h
        refine q_iload_n dX6_read_44 rfl ?_
        refine q_aload_n dX6_read_45 rfl ?_
        refine q_geti dX6_read_46 fl_X6_15 rfl rfl ?_
        refine q_icmp_ge 56 dX6_read_49 (by decide) (fun c49 => ?_) (fun c49 => ?_)
        · replace h := q_ift c49 h
          refine q_bipush (v := (-4)) dX6_read_56 (by decide) ?_
          exact q_ret dX6_read_58 rfl rfl (q_lfiw h k)
        · replace h := q_iff c49 h
          refine q_iload_n dX6_read_52 rfl ?_
          refine q_goto 58 dX6_read_53 (by decide) ?_
          exact q_ret dX6_read_58 rfl rfl (q_lfiw h k)
      · replace h := q_iff c20 h
        refine q_aload_n dX6_read_23 rfl ?_
        refine q_iload_n dX6_read_24 rfl ?_
        obtain ⟨⟨r25, T25⟩, h25, h⟩ := q_bnd h
        dsimp only at h
        refine q_callVi1 dX6_read_25 cl_X6_31 rfl (Nat.le_of_ble_eq_true rfl) (by omega) (sX6_readChange (by omega) h25 ?_)
        refine q_istore_n dX6_read_28 (by decide) ?_
        refine q_iload_n dX6_read_29 rfl ?_
        refine q_iconst (v := (-1)) dX6_read_30 (by decide) ?_
        refine q_icmp_ne 36 dX6_read_31 (by decide) (fun c31 => ?_) (fun c31 => ?_)
        · replace h := q_iff c31 h
          refine q_iload_n dX6_read_36 rfl ?_
          refine q_istore_n dX6_read_37 (by decide) ?_
          refine q_iinc (v := (v2 + 1)) dX6_read_38 rfl rfl (by decide) ?_
          refine q_goto 9 dX6_read_41 (by decide) ?_
          exact q_sub (ih _ _ _ h) (And.intro rfl (And.intro rfl (And.intro rfl trivial)))
        · replace h := q_ift c31 h
          refine q_iload_n dX6_read_34 rfl ?_
          exact q_ret dX6_read_35 rfl rfl (q_lfiw h k)
def fX6_read (S : qS) : Option (Int32 × qS) := fX6_read_9 20000 0 0 (q_up S 29 5 0)
set_option maxHeartbeats 4000000 in
set_option maxRecDepth 100000 in
theorem sX6_read {l : Launch} {d : Nat} (hd : 3 ≤ d) {S : qS} {r : Int32} {S' : qS} (h : fX6_read S = some (r, S')) {Q : Int32 → qS → Prop} (k : Q r S') : q_Mi l d yX6_read cX6_read 4 (some .int) [.inr 29] S Q := by
  refine q_Mi_of (own := RX6) rfl rfl [some (.inr 29), none, none, none] rfl (Nat.le_of_ble_eq_true rfl) ?_
  unfold fX6_read at h
  refine q_aload_n dX6_read_0 rfl ?_
  refine q_iconst (v := 0) dX6_read_1 (by decide) ?_
  refine q_put dX6_read_2 fl_X6_28 fp_5_5 rfl rfl ?_
  refine q_iconst (v := 0) dX6_read_5 (by decide) ?_
  refine q_istore_n dX6_read_6 (by decide) ?_
  refine q_iconst (v := 0) dX6_read_7 (by decide) ?_
  refine q_istore_n dX6_read_8 (by decide) ?_
  exact q_sub (sX6_read_9 hd k 20000 _ _ _ h) (And.intro rfl (And.intro rfl (And.intro rfl trivial)))
def fX6_isAllAt_2 (p1 : Int32) : Nat → Int32 → qS → Option Bool
  | 0, _, _ => none
  | n + 1, v2, S => if (S 29 5) ≤ v2 then some true else if q_inb v2 12 = true then (fX2_isAt (S 31 v2.toNatClampNeg) p1 S).bind (fun r17 => if r17 = true then fX6_isAllAt_2 p1 n (v2 + 1) S else some false) else none
set_option maxHeartbeats 4000000 in
set_option maxRecDepth 100000 in
theorem sX6_isAllAt_2 {l : Launch} {d : Nat} (hd : 1 ≤ d) {S : qS} {p1 : Int32} {r : Bool} {Q : Int32 → qS → Prop} (k : Q (q_b r) S) : ∀ (n : Nat) (v2 : Int32), fX6_isAllAt_2 p1 n v2 S = some r → q_E l cX6_isAllAt 3 (some .boolean) RX6 d S 2 [some (.inr 29), some (.inl p1), some (.inl v2)] [] (q_Qi Q) := by
  intro n
  induction n with
  | zero => intro v2 h; exact q_no h
  | succ n ih =>
    intro v2 h
    rw [fX6_isAllAt_2] at h
    refine q_iload_n dX6_isAllAt_2 rfl ?_
    refine q_aload_n dX6_isAllAt_3 rfl ?_
    refine q_geti dX6_isAllAt_4 fl_X6_28 rfl rfl ?_
    refine q_icmp_ge 31 dX6_isAllAt_7 (by decide) (fun c7 => ?_) (fun c7 => ?_)
    · replace h := q_ift c7 h
      refine q_iconst (v := 1) dX6_isAllAt_31 (by decide) ?_
      exact q_ret (v := q_b true) dX6_isAllAt_32 rfl (q_b_nar true) (q_lfb h k)
    · replace h := q_iff c7 h
      refine q_aload_n dX6_isAllAt_10 rfl ?_
      refine q_getr dX6_isAllAt_11 fl_X6_19 rfl rfl ?_
      refine q_iload_n dX6_isAllAt_14 rfl ?_
      obtain ⟨g15, h⟩ := q_gd h
      refine q_iald dX6_isAllAt_15 rfl g15 ?_
      refine q_iload_n dX6_isAllAt_16 rfl ?_
      obtain ⟨r17, h17, h⟩ := q_bnd h
      refine q_callSi2 dX6_isAllAt_17 cl_X6_35 (Nat.le_of_ble_eq_true rfl) (by omega) (sX2_isAt (by omega) h17 ?_)
      refine q_if_ne_b 25 dX6_isAllAt_20 (by decide) (fun c20 => ?_) (fun c20 => ?_)
      · replace h := q_ift c20 h
        refine q_iinc (v := (v2 + 1)) dX6_isAllAt_25 rfl rfl (by decide) ?_
        refine q_goto 2 dX6_isAllAt_28 (by decide) ?_
        exact q_sub (ih _ h) (And.intro rfl (And.intro rfl (And.intro rfl trivial)))
      · replace h := q_ifb c20 h
        refine q_iconst (v := 0) dX6_isAllAt_23 (by decide) ?_
        exact q_ret (v := q_b false) dX6_isAllAt_24 rfl (q_b_nar false) (q_lfb h k)
def fX6_isAllAt (a1 : Int32) (S : qS) : Option Bool := fX6_isAllAt_2 a1 20000 0 S
set_option maxHeartbeats 4000000 in
set_option maxRecDepth 100000 in
theorem sX6_isAllAt {l : Launch} {d : Nat} (hd : 1 ≤ d) {S : qS} {a1 : Int32} {r : Bool} (h : fX6_isAllAt a1 S = some r) {Q : Int32 → qS → Prop} (k : Q (q_b r) S) : q_Mi l d yX6_isAllAt cX6_isAllAt 3 (some .boolean) [.inr 29, .inl a1] S Q := by
  refine q_Mi_of (own := RX6) rfl rfl [some (.inr 29), some (.inl a1), none] rfl (Nat.le_of_ble_eq_true rfl) ?_
  unfold fX6_isAllAt at h
  refine q_iconst (v := 0) dX6_isAllAt_0 (by decide) ?_
  refine q_istore_n dX6_isAllAt_1 (by decide) ?_
  exact q_sub (sX6_isAllAt_2 hd k 20000 _ h) (And.intro rfl (And.intro rfl (And.intro rfl trivial)))
def fX8_pass (a1 : Int32) (S : qS) : Option (Int32 × qS) := if a1 < 1 then some ((-1), S) else if a1 ≤ 1000 then if ((S 0 6) + a1) ≤ 9999 then some (((S 0 6) + a1), (q_up S 0 6 ((S 0 6) + a1))) else some ((-3), S) else some ((-1), S)
set_option maxHeartbeats 4000000 in
set_option maxRecDepth 100000 in
theorem sX8_pass {l : Launch} {d : Nat} (hd : 0 ≤ d) {S : qS} {a1 : Int32} {r : Int32} {S' : qS} (h : fX8_pass a1 S = some (r, S')) {Q : Int32 → qS → Prop} (k : Q r S') : q_Mi l d yX8_pass cX8_pass 2 (some .int) [.inr 0, .inl a1] S Q := by
  refine q_Mi_of (own := RX8) rfl rfl [some (.inr 0), some (.inl a1)] rfl (Nat.le_of_ble_eq_true rfl) ?_
  unfold fX8_pass at h
  refine q_iload_n dX8_pass_0 rfl ?_
  refine q_iconst (v := 1) dX8_pass_1 (by decide) ?_
  refine q_icmp_lt 12 dX8_pass_2 (by decide) (fun c2 => ?_) (fun c2 => ?_)
  · replace h := q_ift c2 h
    refine q_iconst (v := (-1)) dX8_pass_12 (by decide) ?_
    exact q_ret dX8_pass_13 rfl rfl (q_lfiw h k)
  · replace h := q_iff c2 h
    refine q_iload_n dX8_pass_5 rfl ?_
    refine q_sipush (v := 1000) dX8_pass_6 (by decide) ?_
    refine q_icmp_le 14 dX8_pass_9 (by decide) (fun c9 => ?_) (fun c9 => ?_)
    · replace h := q_ift c9 h
      refine q_aload_n dX8_pass_14 rfl ?_
      refine q_geti dX8_pass_15 fl_X8_47 rfl rfl ?_
      refine q_iload_n dX8_pass_18 rfl ?_
      refine q_iadd dX8_pass_19 ?_
      refine q_sipush (v := 9999) dX8_pass_20 (by decide) ?_
      refine q_icmp_le 29 dX8_pass_23 (by decide) (fun c23 => ?_) (fun c23 => ?_)
      · replace h := q_ift c23 h
        refine q_aload_n dX8_pass_29 rfl ?_
        refine q_dup dX8_pass_30 ?_
        refine q_geti dX8_pass_31 fl_X8_47 rfl rfl ?_
        refine q_iload_n dX8_pass_34 rfl ?_
        refine q_iadd dX8_pass_35 ?_
        refine q_put dX8_pass_36 fl_X8_47 fp_7_6 rfl rfl ?_
        refine q_aload_n dX8_pass_39 rfl ?_
        refine q_geti dX8_pass_40 fl_X8_47 rfl rfl ?_
        exact q_ret dX8_pass_43 rfl rfl (q_lfiw h k)
      · replace h := q_iff c23 h
        refine q_bipush (v := (-3)) dX8_pass_26 (by decide) ?_
        exact q_ret dX8_pass_28 rfl rfl (q_lfiw h k)
    · replace h := q_iff c9 h
      refine q_iconst (v := (-1)) dX8_pass_12 (by decide) ?_
      exact q_ret dX8_pass_13 rfl rfl (q_lfiw h k)
def fX8_time (S : qS) : Option Int32 := some (S 0 6)
set_option maxHeartbeats 4000000 in
set_option maxRecDepth 100000 in
theorem sX8_time {l : Launch} {d : Nat} (hd : 0 ≤ d) {S : qS} {r : Int32} (h : fX8_time S = some r) {Q : Int32 → qS → Prop} (k : Q r S) : q_Mi l d yX8_time cX8_time 1 (some .int) [.inr 0] S Q := by
  refine q_Mi_of (own := RX8) rfl rfl [some (.inr 0)] rfl (Nat.le_of_ble_eq_true rfl) ?_
  unfold fX8_time at h
  refine q_aload_n dX8_time_0 rfl ?_
  refine q_geti dX8_time_1 fl_X8_47 rfl rfl ?_
  exact q_ret dX8_time_4 rfl rfl (q_lfi h k)
def fX8_isAddress (a1 : Int32) (S : qS) : Option Bool := if a1 < 0 then some false else if 255 < a1 then some false else some true
set_option maxHeartbeats 4000000 in
set_option maxRecDepth 100000 in
theorem sX8_isAddress {l : Launch} {d : Nat} (hd : 0 ≤ d) {S : qS} {a1 : Int32} {r : Bool} (h : fX8_isAddress a1 S = some r) {Q : Int32 → qS → Prop} (k : Q (q_b r) S) : q_Mi l d yX8_isAddress cX8_isAddress 1 (some .boolean) [.inl a1] S Q := by
  refine q_Mi_of (own := RX8) rfl rfl [some (.inl a1)] rfl (Nat.le_of_ble_eq_true rfl) ?_
  unfold fX8_isAddress at h
  refine q_iload_n dX8_isAddress_0 rfl ?_
  refine q_if_lt 15 dX8_isAddress_1 (by decide) (fun c1 => ?_) (fun c1 => ?_)
  · replace h := q_ift c1 h
    refine q_iconst (v := 0) dX8_isAddress_15 (by decide) ?_
    exact q_ret (v := q_b false) dX8_isAddress_16 rfl (q_b_nar false) (q_lfb h k)
  · replace h := q_iff c1 h
    refine q_iload_n dX8_isAddress_4 rfl ?_
    refine q_sipush (v := 255) dX8_isAddress_5 (by decide) ?_
    refine q_icmp_gt 15 dX8_isAddress_8 (by decide) (fun c8 => ?_) (fun c8 => ?_)
    · replace h := q_ift c8 h
      refine q_iconst (v := 0) dX8_isAddress_15 (by decide) ?_
      exact q_ret (v := q_b false) dX8_isAddress_16 rfl (q_b_nar false) (q_lfb h k)
    · replace h := q_iff c8 h
      refine q_iconst (v := 1) dX8_isAddress_11 (by decide) ?_
      refine q_goto 16 dX8_isAddress_12 (by decide) ?_
      exact q_ret (v := q_b true) dX8_isAddress_16 rfl (q_b_nar true) (q_lfb h k)
def fX8_isView (a1 : Int32) (S : qS) : Option Bool := if a1 < 0 then some false else if 3 < a1 then some false else some true
set_option maxHeartbeats 4000000 in
set_option maxRecDepth 100000 in
theorem sX8_isView {l : Launch} {d : Nat} (hd : 0 ≤ d) {S : qS} {a1 : Int32} {r : Bool} (h : fX8_isView a1 S = some r) {Q : Int32 → qS → Prop} (k : Q (q_b r) S) : q_Mi l d yX8_isView cX8_isView 1 (some .boolean) [.inl a1] S Q := by
  refine q_Mi_of (own := RX8) rfl rfl [some (.inl a1)] rfl (Nat.le_of_ble_eq_true rfl) ?_
  unfold fX8_isView at h
  refine q_iload_n dX8_isView_0 rfl ?_
  refine q_if_lt 13 dX8_isView_1 (by decide) (fun c1 => ?_) (fun c1 => ?_)
  · replace h := q_ift c1 h
    refine q_iconst (v := 0) dX8_isView_13 (by decide) ?_
    exact q_ret (v := q_b false) dX8_isView_14 rfl (q_b_nar false) (q_lfb h k)
  · replace h := q_iff c1 h
    refine q_iload_n dX8_isView_4 rfl ?_
    refine q_iconst (v := 3) dX8_isView_5 (by decide) ?_
    refine q_icmp_gt 13 dX8_isView_6 (by decide) (fun c6 => ?_) (fun c6 => ?_)
    · replace h := q_ift c6 h
      refine q_iconst (v := 0) dX8_isView_13 (by decide) ?_
      exact q_ret (v := q_b false) dX8_isView_14 rfl (q_b_nar false) (q_lfb h k)
    · replace h := q_iff c6 h
      refine q_iconst (v := 1) dX8_isView_9 (by decide) ?_
      refine q_goto 14 dX8_isView_10 (by decide) ?_
      exact q_ret (v := q_b true) dX8_isView_14 rfl (q_b_nar true) (q_lfb h k)
def fX8_addNet (a1 a2 a3 : Int32) (S : qS) : Option (Int32 × qS) := (fX8_isView a1 S).bind (fun r1 => if r1 = true then if a1 = 0 then some ((-1), S) else (fX8_isAddress a2 S).bind (fun r12 => if r12 = true then (fX3_isLength a3 S).bind (fun r19 => if r19 = true then (fX5_isFull_2 S).bind (fun r34 => if r34 = true then some ((-3), S) else (fX3_make a1 a2 a3 (S 0 6) S).bind (fun (r54, T54) => some (r54, T54))) else some ((-1), S)) else some ((-1), S)) else some ((-1), S))
set_option maxHeartbeats 4000000 in
set_option maxRecDepth 100000 in
theorem sX8_addNet {l : Launch} {d : Nat} (hd : 3 ≤ d) {S : qS} {a1 a2 a3 : Int32} {r : Int32} {S' : qS} (h : fX8_addNet a1 a2 a3 S = some (r, S')) {Q : Int32 → qS → Prop} (k : Q r S') : q_Mi l d yX8_addNet cX8_addNet 4 (some .int) [.inr 0, .inl a1, .inl a2, .inl a3] S Q := by
  refine q_Mi_of (own := RX8) rfl rfl [some (.inr 0), some (.inl a1), some (.inl a2), some (.inl a3)] rfl (Nat.le_of_ble_eq_true rfl) ?_
  unfold fX8_addNet at h
  refine q_iload_n dX8_addNet_0 rfl ?_
  obtain ⟨r1, h1, h⟩ := q_bnd h
  refine q_callSi1 dX8_addNet_1 cl_X8_51 (Nat.le_of_ble_eq_true rfl) (by omega) (sX8_isView (by omega) h1 ?_)
  refine q_if_eq_b 25 dX8_addNet_4 (by decide) (fun c4 => ?_) (fun c4 => ?_)
  · replace h := q_ifb c4 h
    refine q_iconst (v := (-1)) dX8_addNet_25 (by decide) ?_
    exact q_ret dX8_addNet_26 rfl rfl (q_lfiw h k)
  · replace h := q_ift c4 h
    refine q_iload_n dX8_addNet_7 rfl ?_
    refine q_if_eq 25 dX8_addNet_8 (by decide) (fun c8 => ?_) (fun c8 => ?_)
    · replace h := q_ift c8 h
      refine q_iconst (v := (-1)) dX8_addNet_25 (by decide) ?_
      exact q_ret dX8_addNet_26 rfl rfl (q_lfiw h k)
    · replace h := q_iff c8 h
      refine q_iload_n dX8_addNet_11 rfl ?_
      obtain ⟨r12, h12, h⟩ := q_bnd h
      refine q_callSi1 dX8_addNet_12 cl_X8_55 (Nat.le_of_ble_eq_true rfl) (by omega) (sX8_isAddress (by omega) h12 ?_)
      refine q_if_eq_b 25 dX8_addNet_15 (by decide) (fun c15 => ?_) (fun c15 => ?_)
      · replace h := q_ifb c15 h
        refine q_iconst (v := (-1)) dX8_addNet_25 (by decide) ?_
        exact q_ret dX8_addNet_26 rfl rfl (q_lfiw h k)
      · replace h := q_ift c15 h
        refine q_iload_n dX8_addNet_18 rfl ?_
        obtain ⟨r19, h19, h⟩ := q_bnd h
        refine q_callSi1 dX8_addNet_19 cl_X8_58 (Nat.le_of_ble_eq_true rfl) (by omega) (sX3_isLength (by omega) h19 ?_)
        refine q_if_ne_b 27 dX8_addNet_22 (by decide) (fun c22 => ?_) (fun c22 => ?_)
        · replace h := q_ift c22 h
          refine q_aload_n dX8_addNet_27 rfl ?_
          refine q_getr dX8_addNet_28 fl_X8_10 rfl rfl ?_
          refine q_getr dX8_addNet_31 fl_X8_61 rfl rfl ?_
          obtain ⟨r34, h34, h⟩ := q_bnd h
          refine q_callVi0 dX8_addNet_34 cl_X8_65 rfl (Nat.le_of_ble_eq_true rfl) (by omega) (sX5_isFull_2 (by omega) h34 ?_)
          refine q_if_eq_b 43 dX8_addNet_37 (by decide) (fun c37 => ?_) (fun c37 => ?_)
          · replace h := q_ifb c37 h
            refine q_aload_n dX8_addNet_43 rfl ?_
            refine q_getr dX8_addNet_44 fl_X8_10 rfl rfl ?_
            refine q_iload_n dX8_addNet_47 rfl ?_
            refine q_iload_n dX8_addNet_48 rfl ?_
            refine q_iload_n dX8_addNet_49 rfl ?_
            refine q_aload_n dX8_addNet_50 rfl ?_
            refine q_geti dX8_addNet_51 fl_X8_47 rfl rfl ?_
            obtain ⟨⟨r54, T54⟩, h54, h⟩ := q_bnd h
            dsimp only at h
            refine q_callVi4 dX8_addNet_54 cl_X8_71 rfl (Nat.le_of_ble_eq_true rfl) (by omega) (sX3_make (by omega) h54 ?_)
            exact q_ret dX8_addNet_57 rfl rfl (q_lfiw h k)
          · replace h := q_ift c37 h
            refine q_bipush (v := (-3)) dX8_addNet_40 (by decide) ?_
            exact q_ret dX8_addNet_42 rfl rfl (q_lfiw h k)
        · replace h := q_ifb c22 h
          refine q_iconst (v := (-1)) dX8_addNet_25 (by decide) ?_
          exact q_ret dX8_addNet_26 rfl rfl (q_lfiw h k)
def fX8_removeNet (a1 : Int32) (S : qS) : Option (Int32 × qS) := (fX5_isMade_2 a1 S).bind (fun r8 => if r8 = true then (fX5_isThere_2 a1 (S 0 6) S).bind (fun r28 => if r28 = true then (fX5_end_2 a1 (S 0 6) S).bind (fun T49 => if q_inb a1 10 = true then some ((T49 5 a1.toNatClampNeg), T49) else none) else some ((-2), S)) else some ((-1), S))
set_option maxHeartbeats 4000000 in
set_option maxRecDepth 100000 in
theorem sX8_removeNet {l : Launch} {d : Nat} (hd : 2 ≤ d) {S : qS} {a1 : Int32} {r : Int32} {S' : qS} (h : fX8_removeNet a1 S = some (r, S')) {Q : Int32 → qS → Prop} (k : Q r S') : q_Mi l d yX8_removeNet cX8_removeNet 2 (some .int) [.inr 0, .inl a1] S Q := by
  refine q_Mi_of (own := RX8) rfl rfl [some (.inr 0), some (.inl a1)] rfl (Nat.le_of_ble_eq_true rfl) ?_
  unfold fX8_removeNet at h
  refine q_aload_n dX8_removeNet_0 rfl ?_
  refine q_getr dX8_removeNet_1 fl_X8_10 rfl rfl ?_
  refine q_getr dX8_removeNet_4 fl_X8_61 rfl rfl ?_
  refine q_iload_n dX8_removeNet_7 rfl ?_
  obtain ⟨r8, h8, h⟩ := q_bnd h
  refine q_callVi1 dX8_removeNet_8 cl_X8_75 rfl (Nat.le_of_ble_eq_true rfl) (by omega) (sX5_isMade_2 (by omega) h8 ?_)
  refine q_if_ne_b 16 dX8_removeNet_11 (by decide) (fun c11 => ?_) (fun c11 => ?_)
  · replace h := q_ift c11 h
    refine q_aload_n dX8_removeNet_16 rfl ?_
    refine q_getr dX8_removeNet_17 fl_X8_10 rfl rfl ?_
    refine q_getr dX8_removeNet_20 fl_X8_61 rfl rfl ?_
    refine q_iload_n dX8_removeNet_23 rfl ?_
    refine q_aload_n dX8_removeNet_24 rfl ?_
    refine q_geti dX8_removeNet_25 fl_X8_47 rfl rfl ?_
    obtain ⟨r28, h28, h⟩ := q_bnd h
    refine q_callVi2 dX8_removeNet_28 cl_X8_78 rfl (Nat.le_of_ble_eq_true rfl) (by omega) (sX5_isThere_2 (by omega) h28 ?_)
    refine q_if_ne_b 37 dX8_removeNet_31 (by decide) (fun c31 => ?_) (fun c31 => ?_)
    · replace h := q_ift c31 h
      refine q_aload_n dX8_removeNet_37 rfl ?_
      refine q_getr dX8_removeNet_38 fl_X8_10 rfl rfl ?_
      refine q_getr dX8_removeNet_41 fl_X8_61 rfl rfl ?_
      refine q_iload_n dX8_removeNet_44 rfl ?_
      refine q_aload_n dX8_removeNet_45 rfl ?_
      refine q_geti dX8_removeNet_46 fl_X8_47 rfl rfl ?_
      obtain ⟨T49, h49, h⟩ := q_bnd h
      refine q_callVv2 dX8_removeNet_49 cl_X8_82 rfl (Nat.le_of_ble_eq_true rfl) (by omega) (sX5_end_2 (by omega) h49 ?_)
      refine q_aload_n dX8_removeNet_52 rfl ?_
      refine q_getr dX8_removeNet_53 fl_X8_10 rfl rfl ?_
      refine q_getr dX8_removeNet_56 fl_X8_86 rfl rfl ?_
      refine q_iload_n dX8_removeNet_59 rfl ?_
      obtain ⟨g60, h⟩ := q_gd h
      refine q_iald dX8_removeNet_60 rfl g60 ?_
      exact q_ret dX8_removeNet_61 rfl rfl (q_lfiw h k)
    · replace h := q_ifb c31 h
      refine q_bipush (v := (-2)) dX8_removeNet_34 (by decide) ?_
      exact q_ret dX8_removeNet_36 rfl rfl (q_lfiw h k)
  · replace h := q_ifb c11 h
    refine q_iconst (v := (-1)) dX8_removeNet_14 (by decide) ?_
    exact q_ret dX8_removeNet_15 rfl rfl (q_lfiw h k)
def fX8_isTick (a1 : Int32) (S : qS) : Option Bool := if a1 < 0 then some false else if (S 0 6) < a1 then some false else some true
set_option maxHeartbeats 4000000 in
set_option maxRecDepth 100000 in
theorem sX8_isTick {l : Launch} {d : Nat} (hd : 0 ≤ d) {S : qS} {a1 : Int32} {r : Bool} (h : fX8_isTick a1 S = some r) {Q : Int32 → qS → Prop} (k : Q (q_b r) S) : q_Mi l d yX8_isTick cX8_isTick 2 (some .boolean) [.inr 0, .inl a1] S Q := by
  refine q_Mi_of (own := RX8) rfl rfl [some (.inr 0), some (.inl a1)] rfl (Nat.le_of_ble_eq_true rfl) ?_
  unfold fX8_isTick at h
  refine q_iload_n dX8_isTick_0 rfl ?_
  refine q_if_lt 16 dX8_isTick_1 (by decide) (fun c1 => ?_) (fun c1 => ?_)
  · replace h := q_ift c1 h
    refine q_iconst (v := 0) dX8_isTick_16 (by decide) ?_
    exact q_ret (v := q_b false) dX8_isTick_17 rfl (q_b_nar false) (q_lfb h k)
  · replace h := q_iff c1 h
    refine q_iload_n dX8_isTick_4 rfl ?_
    refine q_aload_n dX8_isTick_5 rfl ?_
    refine q_geti dX8_isTick_6 fl_X8_47 rfl rfl ?_
    refine q_icmp_gt 16 dX8_isTick_9 (by decide) (fun c9 => ?_) (fun c9 => ?_)
    · replace h := q_ift c9 h
      refine q_iconst (v := 0) dX8_isTick_16 (by decide) ?_
      exact q_ret (v := q_b false) dX8_isTick_17 rfl (q_b_nar false) (q_lfb h k)
    · replace h := q_iff c9 h
      refine q_iconst (v := 1) dX8_isTick_12 (by decide) ?_
      refine q_goto 17 dX8_isTick_13 (by decide) ?_
      exact q_ret (v := q_b true) dX8_isTick_17 rfl (q_b_nar true) (q_lfb h k)
def fX8_viewOf (a1 a2 : Int32) (S : qS) : Option Int32 := (fX8_isAddress a1 S).bind (fun r1 => if r1 = true then (fX8_isTick a2 S).bind (fun r9 => if r9 = true then (fX3_viewAt a1 a2 S).bind (fun r23 => some r23) else some (-1)) else some (-1))
set_option maxHeartbeats 4000000 in
set_option maxRecDepth 100000 in
theorem sX8_viewOf {l : Launch} {d : Nat} (hd : 2 ≤ d) {S : qS} {a1 a2 : Int32} {r : Int32} (h : fX8_viewOf a1 a2 S = some r) {Q : Int32 → qS → Prop} (k : Q r S) : q_Mi l d yX8_viewOf cX8_viewOf 3 (some .int) [.inr 0, .inl a1, .inl a2] S Q := by
  refine q_Mi_of (own := RX8) rfl rfl [some (.inr 0), some (.inl a1), some (.inl a2)] rfl (Nat.le_of_ble_eq_true rfl) ?_
  unfold fX8_viewOf at h
  refine q_iload_n dX8_viewOf_0 rfl ?_
  obtain ⟨r1, h1, h⟩ := q_bnd h
  refine q_callSi1 dX8_viewOf_1 cl_X8_55 (Nat.le_of_ble_eq_true rfl) (by omega) (sX8_isAddress (by omega) h1 ?_)
  refine q_if_eq_b 15 dX8_viewOf_4 (by decide) (fun c4 => ?_) (fun c4 => ?_)
  · replace h := q_ifb c4 h
    refine q_iconst (v := (-1)) dX8_viewOf_15 (by decide) ?_
    exact q_ret dX8_viewOf_16 rfl rfl (q_lfi h k)
  · replace h := q_ift c4 h
    refine q_aload_n dX8_viewOf_7 rfl ?_
    refine q_iload_n dX8_viewOf_8 rfl ?_
    obtain ⟨r9, h9, h⟩ := q_bnd h
    refine q_callVi1 dX8_viewOf_9 cl_X8_90 rfl (Nat.le_of_ble_eq_true rfl) (by omega) (sX8_isTick (by omega) h9 ?_)
    refine q_if_ne_b 17 dX8_viewOf_12 (by decide) (fun c12 => ?_) (fun c12 => ?_)
    · replace h := q_ift c12 h
      refine q_aload_n dX8_viewOf_17 rfl ?_
      refine q_getr dX8_viewOf_18 fl_X8_10 rfl rfl ?_
      refine q_iload_n dX8_viewOf_21 rfl ?_
      refine q_iload_n dX8_viewOf_22 rfl ?_
      obtain ⟨r23, h23, h⟩ := q_bnd h
      refine q_callVi2 dX8_viewOf_23 cl_X8_93 rfl (Nat.le_of_ble_eq_true rfl) (by omega) (sX3_viewAt (by omega) h23 ?_)
      exact q_ret dX8_viewOf_26 rfl rfl (q_lfi h k)
    · replace h := q_ifb c12 h
      refine q_iconst (v := (-1)) dX8_viewOf_15 (by decide) ?_
      exact q_ret dX8_viewOf_16 rfl rfl (q_lfi h k)
def fX8_addZone (a1 a2 : Int32) (S : qS) : Option (Int32 × qS) := (fX8_isView a1 S).bind (fun r1 => if r1 = true then (fX2_isName a2 S).bind (fun r8 => if r8 = true then (fX2_isPattern a2 S).bind (fun r15 => if r15 = true then some ((-1), S) else (fX7_find a1 a2 (S 0 6) S).bind (fun r33 => if r33 = (-1) then (fX5_isFull_10 S).bind (fun r50 => if r50 = true then some ((-3), S) else (fX7_make a1 a2 (S 0 6) S).bind (fun (r69, T69) => some (r69, T69))) else some ((-2), S))) else some ((-1), S)) else some ((-1), S))
set_option maxHeartbeats 4000000 in
set_option maxRecDepth 100000 in
theorem sX8_addZone {l : Launch} {d : Nat} (hd : 3 ≤ d) {S : qS} {a1 a2 : Int32} {r : Int32} {S' : qS} (h : fX8_addZone a1 a2 S = some (r, S')) {Q : Int32 → qS → Prop} (k : Q r S') : q_Mi l d yX8_addZone cX8_addZone 3 (some .int) [.inr 0, .inl a1, .inl a2] S Q := by
  refine q_Mi_of (own := RX8) rfl rfl [some (.inr 0), some (.inl a1), some (.inl a2)] rfl (Nat.le_of_ble_eq_true rfl) ?_
  unfold fX8_addZone at h
  refine q_iload_n dX8_addZone_0 rfl ?_
  obtain ⟨r1, h1, h⟩ := q_bnd h
  refine q_callSi1 dX8_addZone_1 cl_X8_51 (Nat.le_of_ble_eq_true rfl) (by omega) (sX8_isView (by omega) h1 ?_)
  refine q_if_eq_b 21 dX8_addZone_4 (by decide) (fun c4 => ?_) (fun c4 => ?_)
  · replace h := q_ifb c4 h
    refine q_iconst (v := (-1)) dX8_addZone_21 (by decide) ?_
    exact q_ret dX8_addZone_22 rfl rfl (q_lfiw h k)
  · replace h := q_ift c4 h
    refine q_iload_n dX8_addZone_7 rfl ?_
    obtain ⟨r8, h8, h⟩ := q_bnd h
    refine q_callSi1 dX8_addZone_8 cl_X8_97 (Nat.le_of_ble_eq_true rfl) (by omega) (sX2_isName (by omega) h8 ?_)
    refine q_if_eq_b 21 dX8_addZone_11 (by decide) (fun c11 => ?_) (fun c11 => ?_)
    · replace h := q_ifb c11 h
      refine q_iconst (v := (-1)) dX8_addZone_21 (by decide) ?_
      exact q_ret dX8_addZone_22 rfl rfl (q_lfiw h k)
    · replace h := q_ift c11 h
      refine q_iload_n dX8_addZone_14 rfl ?_
      obtain ⟨r15, h15, h⟩ := q_bnd h
      refine q_callSi1 dX8_addZone_15 cl_X8_102 (Nat.le_of_ble_eq_true rfl) (by omega) (sX2_isPattern (by omega) h15 ?_)
      refine q_if_eq_b 23 dX8_addZone_18 (by decide) (fun c18 => ?_) (fun c18 => ?_)
      · replace h := q_ifb c18 h
        refine q_aload_n dX8_addZone_23 rfl ?_
        refine q_getr dX8_addZone_24 fl_X8_27 rfl rfl ?_
        refine q_iload_n dX8_addZone_27 rfl ?_
        refine q_iload_n dX8_addZone_28 rfl ?_
        refine q_aload_n dX8_addZone_29 rfl ?_
        refine q_geti dX8_addZone_30 fl_X8_47 rfl rfl ?_
        obtain ⟨r33, h33, h⟩ := q_bnd h
        refine q_callVi3 dX8_addZone_33 cl_X8_105 rfl (Nat.le_of_ble_eq_true rfl) (by omega) (sX7_find (by omega) h33 ?_)
        refine q_iconst (v := (-1)) dX8_addZone_36 (by decide) ?_
        refine q_icmp_eq 43 dX8_addZone_37 (by decide) (fun c37 => ?_) (fun c37 => ?_)
        · replace h := q_ift c37 h
          refine q_aload_n dX8_addZone_43 rfl ?_
          refine q_getr dX8_addZone_44 fl_X8_27 rfl rfl ?_
          refine q_getr dX8_addZone_47 fl_X8_111 rfl rfl ?_
          obtain ⟨r50, h50, h⟩ := q_bnd h
          refine q_callVi0 dX8_addZone_50 cl_X8_65 rfl (Nat.le_of_ble_eq_true rfl) (by omega) (sX5_isFull_10 (by omega) h50 ?_)
          refine q_if_eq_b 59 dX8_addZone_53 (by decide) (fun c53 => ?_) (fun c53 => ?_)
          · replace h := q_ifb c53 h
            refine q_aload_n dX8_addZone_59 rfl ?_
            refine q_getr dX8_addZone_60 fl_X8_27 rfl rfl ?_
            refine q_iload_n dX8_addZone_63 rfl ?_
            refine q_iload_n dX8_addZone_64 rfl ?_
            refine q_aload_n dX8_addZone_65 rfl ?_
            refine q_geti dX8_addZone_66 fl_X8_47 rfl rfl ?_
            obtain ⟨⟨r69, T69⟩, h69, h⟩ := q_bnd h
            dsimp only at h
            refine q_callVi3 dX8_addZone_69 cl_X8_112 rfl (Nat.le_of_ble_eq_true rfl) (by omega) (sX7_make (by omega) h69 ?_)
            exact q_ret dX8_addZone_72 rfl rfl (q_lfiw h k)
          · replace h := q_ift c53 h
            refine q_bipush (v := (-3)) dX8_addZone_56 (by decide) ?_
            exact q_ret dX8_addZone_58 rfl rfl (q_lfiw h k)
        · replace h := q_iff c37 h
          refine q_bipush (v := (-2)) dX8_addZone_40 (by decide) ?_
          exact q_ret dX8_addZone_42 rfl rfl (q_lfiw h k)
      · replace h := q_ift c18 h
        refine q_iconst (v := (-1)) dX8_addZone_21 (by decide) ?_
        exact q_ret dX8_addZone_22 rfl rfl (q_lfiw h k)
def fX8_removeZone (a1 : Int32) (S : qS) : Option (Int32 × qS) := (fX5_isMade_10 a1 S).bind (fun r8 => if r8 = true then (fX5_isThere_10 a1 (S 0 6) S).bind (fun r28 => if r28 = true then (fX5_end_10 a1 (S 0 6) S).bind (fun T49 => (fX4_countIn a1 (T49 0 6) T49).bind (fun r61 => some (r61, T49))) else some ((-2), S)) else some ((-1), S))
set_option maxHeartbeats 4000000 in
set_option maxRecDepth 100000 in
theorem sX8_removeZone {l : Launch} {d : Nat} (hd : 2 ≤ d) {S : qS} {a1 : Int32} {r : Int32} {S' : qS} (h : fX8_removeZone a1 S = some (r, S')) {Q : Int32 → qS → Prop} (k : Q r S') : q_Mi l d yX8_removeZone cX8_removeZone 2 (some .int) [.inr 0, .inl a1] S Q := by
  refine q_Mi_of (own := RX8) rfl rfl [some (.inr 0), some (.inl a1)] rfl (Nat.le_of_ble_eq_true rfl) ?_
  unfold fX8_removeZone at h
  refine q_aload_n dX8_removeZone_0 rfl ?_
  refine q_getr dX8_removeZone_1 fl_X8_27 rfl rfl ?_
  refine q_getr dX8_removeZone_4 fl_X8_111 rfl rfl ?_
  refine q_iload_n dX8_removeZone_7 rfl ?_
  obtain ⟨r8, h8, h⟩ := q_bnd h
  refine q_callVi1 dX8_removeZone_8 cl_X8_75 rfl (Nat.le_of_ble_eq_true rfl) (by omega) (sX5_isMade_10 (by omega) h8 ?_)
  refine q_if_ne_b 16 dX8_removeZone_11 (by decide) (fun c11 => ?_) (fun c11 => ?_)
  · replace h := q_ift c11 h
    refine q_aload_n dX8_removeZone_16 rfl ?_
    refine q_getr dX8_removeZone_17 fl_X8_27 rfl rfl ?_
    refine q_getr dX8_removeZone_20 fl_X8_111 rfl rfl ?_
    refine q_iload_n dX8_removeZone_23 rfl ?_
    refine q_aload_n dX8_removeZone_24 rfl ?_
    refine q_geti dX8_removeZone_25 fl_X8_47 rfl rfl ?_
    obtain ⟨r28, h28, h⟩ := q_bnd h
    refine q_callVi2 dX8_removeZone_28 cl_X8_78 rfl (Nat.le_of_ble_eq_true rfl) (by omega) (sX5_isThere_10 (by omega) h28 ?_)
    refine q_if_ne_b 37 dX8_removeZone_31 (by decide) (fun c31 => ?_) (fun c31 => ?_)
    · replace h := q_ift c31 h
      refine q_aload_n dX8_removeZone_37 rfl ?_
      refine q_getr dX8_removeZone_38 fl_X8_27 rfl rfl ?_
      refine q_getr dX8_removeZone_41 fl_X8_111 rfl rfl ?_
      refine q_iload_n dX8_removeZone_44 rfl ?_
      refine q_aload_n dX8_removeZone_45 rfl ?_
      refine q_geti dX8_removeZone_46 fl_X8_47 rfl rfl ?_
      obtain ⟨T49, h49, h⟩ := q_bnd h
      refine q_callVv2 dX8_removeZone_49 cl_X8_82 rfl (Nat.le_of_ble_eq_true rfl) (by omega) (sX5_end_10 (by omega) h49 ?_)
      refine q_aload_n dX8_removeZone_52 rfl ?_
      refine q_getr dX8_removeZone_53 fl_X8_32 rfl rfl ?_
      refine q_iload_n dX8_removeZone_56 rfl ?_
      refine q_aload_n dX8_removeZone_57 rfl ?_
      refine q_geti dX8_removeZone_58 fl_X8_47 rfl rfl ?_
      obtain ⟨r61, h61, h⟩ := q_bnd h
      refine q_callVi2 dX8_removeZone_61 cl_X8_114 rfl (Nat.le_of_ble_eq_true rfl) (by omega) (sX4_countIn (by omega) h61 ?_)
      exact q_ret dX8_removeZone_64 rfl rfl (q_lfiw h k)
    · replace h := q_ifb c31 h
      refine q_bipush (v := (-2)) dX8_removeZone_34 (by decide) ?_
      exact q_ret dX8_removeZone_36 rfl rfl (q_lfiw h k)
  · replace h := q_ifb c11 h
    refine q_iconst (v := (-1)) dX8_removeZone_14 (by decide) ?_
    exact q_ret dX8_removeZone_15 rfl rfl (q_lfiw h k)
def fX8_zoneInfo (a1 a2 : Int32) (S : qS) : Option Int32 := (fX5_isMade_10 a1 S).bind (fun r8 => if r8 = true then if a2 = 0 then if q_inb a1 10 = true then some (S 13 a1.toNatClampNeg) else none else if a2 = 1 then if q_inb a1 10 = true then some (S 14 a1.toNatClampNeg) else none else if a2 = 2 then if q_inb a1 10 = true then some (S 11 a1.toNatClampNeg) else none else if a2 = 3 then (fX5_isThere_10 a1 (S 0 6) S).bind (fun r93 => if r93 = true then some (-4) else if q_inb a1 10 = true then some (S 12 a1.toNatClampNeg) else none) else some (-1) else some (-1))
set_option maxHeartbeats 4000000 in
set_option maxRecDepth 100000 in
theorem sX8_zoneInfo {l : Launch} {d : Nat} (hd : 1 ≤ d) {S : qS} {a1 a2 : Int32} {r : Int32} (h : fX8_zoneInfo a1 a2 S = some r) {Q : Int32 → qS → Prop} (k : Q r S) : q_Mi l d yX8_zoneInfo cX8_zoneInfo 3 (some .int) [.inr 0, .inl a1, .inl a2] S Q := by
  refine q_Mi_of (own := RX8) rfl rfl [some (.inr 0), some (.inl a1), some (.inl a2)] rfl (Nat.le_of_ble_eq_true rfl) ?_
  unfold fX8_zoneInfo at h
  refine q_aload_n dX8_zoneInfo_0 rfl ?_
  refine q_getr dX8_zoneInfo_1 fl_X8_27 rfl rfl ?_
  refine q_getr dX8_zoneInfo_4 fl_X8_111 rfl rfl ?_
  refine q_iload_n dX8_zoneInfo_7 rfl ?_
  obtain ⟨r8, h8, h⟩ := q_bnd h
  refine q_callVi1 dX8_zoneInfo_8 cl_X8_75 rfl (Nat.le_of_ble_eq_true rfl) (by omega) (sX5_isMade_10 (by omega) h8 ?_)
  refine q_if_ne_b 16 dX8_zoneInfo_11 (by decide) (fun c11 => ?_) (fun c11 => ?_)
  · replace h := q_ift c11 h
    refine q_iload_n dX8_zoneInfo_16 rfl ?_
    by_cases c17_0 : a2 = 0
    · replace h := q_ift c17_0 h
      refine q_tableIn 48 dX8_zoneInfo_17 (by rw [c17_0]; decide) (by rw [c17_0]; decide) (off := 31) (by rw [c17_0]; rfl) (by decide) ?_
      refine q_aload_n dX8_zoneInfo_48 rfl ?_
      refine q_getr dX8_zoneInfo_49 fl_X8_27 rfl rfl ?_
      refine q_getr dX8_zoneInfo_52 fl_X8_119 rfl rfl ?_
      refine q_iload_n dX8_zoneInfo_55 rfl ?_
      obtain ⟨g56, h⟩ := q_gd h
      refine q_iald dX8_zoneInfo_56 rfl g56 ?_
      exact q_ret dX8_zoneInfo_57 rfl rfl (q_lfi h k)
    · replace h := q_iff c17_0 h
      by_cases c17_1 : a2 = 1
      · replace h := q_ift c17_1 h
        refine q_tableIn 58 dX8_zoneInfo_17 (by rw [c17_1]; decide) (by rw [c17_1]; decide) (off := 41) (by rw [c17_1]; rfl) (by decide) ?_
        refine q_aload_n dX8_zoneInfo_58 rfl ?_
        refine q_getr dX8_zoneInfo_59 fl_X8_27 rfl rfl ?_
        refine q_getr dX8_zoneInfo_62 fl_X8_120 rfl rfl ?_
        refine q_iload_n dX8_zoneInfo_65 rfl ?_
        obtain ⟨g66, h⟩ := q_gd h
        refine q_iald dX8_zoneInfo_66 rfl g66 ?_
        exact q_ret dX8_zoneInfo_67 rfl rfl (q_lfi h k)
      · replace h := q_iff c17_1 h
        by_cases c17_2 : a2 = 2
        · replace h := q_ift c17_2 h
          refine q_tableIn 68 dX8_zoneInfo_17 (by rw [c17_2]; decide) (by rw [c17_2]; decide) (off := 51) (by rw [c17_2]; rfl) (by decide) ?_
          refine q_aload_n dX8_zoneInfo_68 rfl ?_
          refine q_getr dX8_zoneInfo_69 fl_X8_27 rfl rfl ?_
          refine q_getr dX8_zoneInfo_72 fl_X8_111 rfl rfl ?_
          refine q_getr dX8_zoneInfo_75 fl_X8_123 rfl rfl ?_
          refine q_iload_n dX8_zoneInfo_78 rfl ?_
          obtain ⟨g79, h⟩ := q_gd h
          refine q_iald dX8_zoneInfo_79 rfl g79 ?_
          exact q_ret dX8_zoneInfo_80 rfl rfl (q_lfi h k)
        · replace h := q_iff c17_2 h
          by_cases c17_3 : a2 = 3
          · replace h := q_ift c17_3 h
            refine q_tableIn 81 dX8_zoneInfo_17 (by rw [c17_3]; decide) (by rw [c17_3]; decide) (off := 64) (by rw [c17_3]; rfl) (by decide) ?_
            refine q_aload_n dX8_zoneInfo_81 rfl ?_
            refine q_getr dX8_zoneInfo_82 fl_X8_27 rfl rfl ?_
            refine q_getr dX8_zoneInfo_85 fl_X8_111 rfl rfl ?_
            refine q_iload_n dX8_zoneInfo_88 rfl ?_
            refine q_aload_n dX8_zoneInfo_89 rfl ?_
            refine q_geti dX8_zoneInfo_90 fl_X8_47 rfl rfl ?_
            obtain ⟨r93, h93, h⟩ := q_bnd h
            refine q_callVi2 dX8_zoneInfo_93 cl_X8_78 rfl (Nat.le_of_ble_eq_true rfl) (by omega) (sX5_isThere_10 (by omega) h93 ?_)
            refine q_if_eq_b 104 dX8_zoneInfo_96 (by decide) (fun c96 => ?_) (fun c96 => ?_)
            · replace h := q_ifb c96 h
              refine q_aload_n dX8_zoneInfo_104 rfl ?_
              refine q_getr dX8_zoneInfo_105 fl_X8_27 rfl rfl ?_
              refine q_getr dX8_zoneInfo_108 fl_X8_111 rfl rfl ?_
              refine q_getr dX8_zoneInfo_111 fl_X8_126 rfl rfl ?_
              refine q_iload_n dX8_zoneInfo_114 rfl ?_
              obtain ⟨g115, h⟩ := q_gd h
              refine q_iald dX8_zoneInfo_115 rfl g115 ?_
              exact q_ret dX8_zoneInfo_116 rfl rfl (q_lfi h k)
            · replace h := q_ift c96 h
              refine q_bipush (v := (-4)) dX8_zoneInfo_99 (by decide) ?_
              refine q_goto 116 dX8_zoneInfo_101 (by decide) ?_
              exact q_ret dX8_zoneInfo_116 rfl rfl (q_lfi h k)
          · replace h := q_iff c17_3 h
            have hx : (a2).toInt < 0 ∨ 3 < (a2).toInt := by
              have e0 := q_ti c17_0 (n := 0) (by decide)
              have e1 := q_ti c17_1 (n := 1) (by decide)
              have e2 := q_ti c17_2 (n := 2) (by decide)
              have e3 := q_ti c17_3 (n := 3) (by decide)
              omega
            refine q_tableOut 117 dX8_zoneInfo_17 hx (by decide) ?_
            refine q_iconst (v := (-1)) dX8_zoneInfo_117 (by decide) ?_
            exact q_ret dX8_zoneInfo_118 rfl rfl (q_lfi h k)
  · replace h := q_ifb c11 h
    refine q_iconst (v := (-1)) dX8_zoneInfo_14 (by decide) ?_
    exact q_ret dX8_zoneInfo_15 rfl rfl (q_lfi h k)
