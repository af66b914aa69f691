def fX9_isPattern (a1 : Int32) (S : qS) : Option Bool := (fX9_lastLabel a1 S).bind (fun r1 => if r1 = 4 then some true else some false)
set_option maxHeartbeats 4000000 in
set_option maxRecDepth 100000 in
theorem sX9_isPattern {l : Launch} {d : Nat} (hd : 1 ≤ d) {S : qS} {a1 : Int32} {r : Bool} (h : fX9_isPattern a1 S = some r) {Q : Int32 → qS → Prop} (k : Q (q_b r) S) : q_Mi l d yX9_isPattern cX9_isPattern 1 (some .boolean) [.inl a1] S Q := by
  refine q_Mi_of (own := RX9) rfl rfl [some (.inl a1)] rfl (Nat.le_of_ble_eq_true rfl) ?_
  unfold fX9_isPattern at h
  refine q_iload_n dX9_isPattern_0 rfl ?_
  obtain ⟨r1, h1, h⟩ := q_bnd h
  refine q_callSi1 dX9_isPattern_1 cl_X9_39 (Nat.le_of_ble_eq_true rfl) (by omega) (sX9_lastLabel (by omega) h1 ?_)
  refine q_iconst (v := 4) dX9_isPattern_4 (by decide) ?_
  refine q_icmp_ne 12 dX9_isPattern_5 (by decide) (fun c5 => ?_) (fun c5 => ?_)
  · replace h := q_iff c5 h
    refine q_iconst (v := 0) dX9_isPattern_12 (by decide) ?_
    exact q_ret (v := q_b false) dX9_isPattern_13 rfl (q_b_nar false) (q_lfb h k)
  · replace h := q_ift c5 h
    refine q_iconst (v := 1) dX9_isPattern_8 (by decide) ?_
    refine q_goto 13 dX9_isPattern_9 (by decide) ?_
    exact q_ret (v := q_b true) dX9_isPattern_13 rfl (q_b_nar true) (q_lfb h k)
def fX9_first (a1 a2 : Int32) (S : qS) : Option Int32 := if a2 = 1 then some (a1 - a1 / 5 * 5) else if a2 = 2 then some (a1 - a1 / 25 * 25) else some a1
set_option maxHeartbeats 4000000 in
set_option maxRecDepth 100000 in
theorem sX9_first {l : Launch} {d : Nat} (hd : 0 ≤ d) {S : qS} {a1 a2 : Int32} {r : Int32} (h : fX9_first a1 a2 S = some r) {Q : Int32 → qS → Prop} (k : Q r S) : q_Mi l d yX9_first cX9_first 2 (some .int) [.inl a1, .inl a2] S Q := by
  refine q_Mi_of (own := RX9) rfl rfl [some (.inl a1), some (.inl a2)] rfl (Nat.le_of_ble_eq_true rfl) ?_
  unfold fX9_first at h
  refine q_iload_n dX9_first_0 rfl ?_
  refine q_iconst (v := 1) dX9_first_1 (by decide) ?_
  refine q_icmp_ne 11 dX9_first_2 (by decide) (fun c2 => ?_) (fun c2 => ?_)
  · replace h := q_iff c2 h
    refine q_iload_n dX9_first_11 rfl ?_
    refine q_iconst (v := 2) dX9_first_12 (by decide) ?_
    refine q_icmp_ne 23 dX9_first_13 (by decide) (fun c13 => ?_) (fun c13 => ?_)
    · replace h := q_iff c13 h
      refine q_iload_n dX9_first_23 rfl ?_
      exact q_ret dX9_first_24 rfl rfl (q_lfi h k)
    · replace h := q_ift c13 h
      refine q_iload_n dX9_first_16 rfl ?_
      refine q_bipush (v := 25) dX9_first_17 (by decide) ?_
      refine q_irem dX9_first_19 (by decide) ?_
      refine q_goto 24 dX9_first_20 (by decide) ?_
      exact q_ret dX9_first_24 rfl rfl (q_lfi h k)
  · replace h := q_ift c2 h
    refine q_iload_n dX9_first_5 rfl ?_
    refine q_iconst (v := 5) dX9_first_6 (by decide) ?_
    refine q_irem dX9_first_7 (by decide) ?_
    refine q_goto 24 dX9_first_8 (by decide) ?_
    exact q_ret dX9_first_24 rfl rfl (q_lfi h k)
def fX9_isAt (a1 a2 : Int32) (S : qS) : Option Bool := (fX9_labels a1 S).bind (fun r1 => (fX9_labels a2 S).bind (fun r5 => if r1 < r5 then some false else (fX9_labels a2 S).bind (fun r13 => (fX9_first a1 r13 S).bind (fun r16 => if r16 = a2 then some true else some false))))
set_option maxHeartbeats 4000000 in
set_option maxRecDepth 100000 in
theorem sX9_isAt {l : Launch} {d : Nat} (hd : 1 ≤ d) {S : qS} {a1 a2 : Int32} {r : Bool} (h : fX9_isAt a1 a2 S = some r) {Q : Int32 → qS → Prop} (k : Q (q_b r) S) : q_Mi l d yX9_isAt cX9_isAt 2 (some .boolean) [.inl a1, .inl a2] S Q := by
  refine q_Mi_of (own := RX9) rfl rfl [some (.inl a1), some (.inl a2)] rfl (Nat.le_of_ble_eq_true rfl) ?_
  unfold fX9_isAt at h
  refine q_iload_n dX9_isAt_0 rfl ?_
  obtain ⟨r1, h1, h⟩ := q_bnd h
  refine q_callSi1 dX9_isAt_1 cl_X9_43 (Nat.le_of_ble_eq_true rfl) (by omega) (sX9_labels (by omega) h1 ?_)
  refine q_iload_n dX9_isAt_4 rfl ?_
  obtain ⟨r5, h5, h⟩ := q_bnd h
  refine q_callSi1 dX9_isAt_5 cl_X9_43 (Nat.le_of_ble_eq_true rfl) (by omega) (sX9_labels (by omega) h5 ?_)
  refine q_icmp_lt 27 dX9_isAt_8 (by decide) (fun c8 => ?_) (fun c8 => ?_)
  · replace h := q_ift c8 h
    refine q_iconst (v := 0) dX9_isAt_27 (by decide) ?_
    exact q_ret (v := q_b false) dX9_isAt_28 rfl (q_b_nar false) (q_lfb h k)
  · replace h := q_iff c8 h
    refine q_iload_n dX9_isAt_11 rfl ?_
    refine q_iload_n dX9_isAt_12 rfl ?_
    obtain ⟨r13, h13, h⟩ := q_bnd h
    refine q_callSi1 dX9_isAt_13 cl_X9_43 (Nat.le_of_ble_eq_true rfl) (by omega) (sX9_labels (by omega) h13 ?_)
    obtain ⟨r16, h16, h⟩ := q_bnd h
    refine q_callSi2 dX9_isAt_16 cl_X9_46 (Nat.le_of_ble_eq_true rfl) (by omega) (sX9_first (by omega) h16 ?_)
    refine q_iload_n dX9_isAt_19 rfl ?_
    refine q_icmp_ne 27 dX9_isAt_20 (by decide) (fun c20 => ?_) (fun c20 => ?_)
    · replace h := q_iff c20 h
      refine q_iconst (v := 0) dX9_isAt_27 (by decide) ?_
      exact q_ret (v := q_b false) dX9_isAt_28 rfl (q_b_nar false) (q_lfb h k)
    · replace h := q_ift c20 h
      refine q_iconst (v := 1) dX9_isAt_23 (by decide) ?_
      refine q_goto 28 dX9_isAt_24 (by decide) ?_
      exact q_ret (v := q_b true) dX9_isAt_28 rfl (q_b_nar true) (q_lfb h k)
def fX9_isBelow (a1 a2 : Int32) (S : qS) : Option Bool := (fX9_labels a1 S).bind (fun r1 => (fX9_labels a2 S).bind (fun r5 => if r1 ≤ r5 then some false else (fX9_isAt a1 a2 S).bind (fun r13 => if r13 = true then some true else some false)))
set_option maxHeartbeats 4000000 in
set_option maxRecDepth 100000 in
theorem sX9_isBelow {l : Launch} {d : Nat} (hd : 2 ≤ d) {S : qS} {a1 a2 : Int32} {r : Bool} (h : fX9_isBelow a1 a2 S = some r) {Q : Int32 → qS → Prop} (k : Q (q_b r) S) : q_Mi l d yX9_isBelow cX9_isBelow 2 (some .boolean) [.inl a1, .inl a2] S Q := by
  refine q_Mi_of (own := RX9) rfl rfl [some (.inl a1), some (.inl a2)] rfl (Nat.le_of_ble_eq_true rfl) ?_
  unfold fX9_isBelow at h
  refine q_iload_n dX9_isBelow_0 rfl ?_
  obtain ⟨r1, h1, h⟩ := q_bnd h
  refine q_callSi1 dX9_isBelow_1 cl_X9_43 (Nat.le_of_ble_eq_true rfl) (by omega) (sX9_labels (by omega) h1 ?_)
  refine q_iload_n dX9_isBelow_4 rfl ?_
  obtain ⟨r5, h5, h⟩ := q_bnd h
  refine q_callSi1 dX9_isBelow_5 cl_X9_43 (Nat.le_of_ble_eq_true rfl) (by omega) (sX9_labels (by omega) h5 ?_)
  refine q_icmp_le 23 dX9_isBelow_8 (by decide) (fun c8 => ?_) (fun c8 => ?_)
  · replace h := q_ift c8 h
    refine q_iconst (v := 0) dX9_isBelow_23 (by decide) ?_
    exact q_ret (v := q_b false) dX9_isBelow_24 rfl (q_b_nar false) (q_lfb h k)
  · replace h := q_iff c8 h
    refine q_iload_n dX9_isBelow_11 rfl ?_
    refine q_iload_n dX9_isBelow_12 rfl ?_
    obtain ⟨r13, h13, h⟩ := q_bnd h
    refine q_callSi2 dX9_isBelow_13 cl_X9_50 (Nat.le_of_ble_eq_true rfl) (by omega) (sX9_isAt (by omega) h13 ?_)
    refine q_if_eq_b 23 dX9_isBelow_16 (by decide) (fun c16 => ?_) (fun c16 => ?_)
    · replace h := q_ifb c16 h
      refine q_iconst (v := 0) dX9_isBelow_23 (by decide) ?_
      exact q_ret (v := q_b false) dX9_isBelow_24 rfl (q_b_nar false) (q_lfb h k)
    · replace h := q_ift c16 h
      refine q_iconst (v := 1) dX9_isBelow_19 (by decide) ?_
      refine q_goto 24 dX9_isBelow_20 (by decide) ?_
      exact q_ret (v := q_b true) dX9_isBelow_24 rfl (q_b_nar true) (q_lfb h k)
def fX9_patternFor (a1 : Int32) (S : qS) : Option Int32 := (fX9_labels a1 S).bind (fun r1 => if r1 = 3 then some ((a1 - a1 / 25 * 25) + 100) else (fX9_labels a1 S).bind (fun r19 => if r19 = 2 then some ((a1 - a1 / 5 * 5) + 20) else some 4))
set_option maxHeartbeats 4000000 in
set_option maxRecDepth 100000 in
theorem sX9_patternFor {l : Launch} {d : Nat} (hd : 1 ≤ d) {S : qS} {a1 : Int32} {r : Int32} (h : fX9_patternFor a1 S = some r) {Q : Int32 → qS → Prop} (k : Q r S) : q_Mi l d yX9_patternFor cX9_patternFor 1 (some .int) [.inl a1] S Q := by
  refine q_Mi_of (own := RX9) rfl rfl [some (.inl a1)] rfl (Nat.le_of_ble_eq_true rfl) ?_
  unfold fX9_patternFor at h
  refine q_iload_n dX9_patternFor_0 rfl ?_
  obtain ⟨r1, h1, h⟩ := q_bnd h
  refine q_callSi1 dX9_patternFor_1 cl_X9_43 (Nat.le_of_ble_eq_true rfl) (by omega) (sX9_labels (by omega) h1 ?_)
  refine q_iconst (v := 3) dX9_patternFor_4 (by decide) ?_
  refine q_icmp_ne 18 dX9_patternFor_5 (by decide) (fun c5 => ?_) (fun c5 => ?_)
  · replace h := q_iff c5 h
    refine q_iload_n dX9_patternFor_18 rfl ?_
    obtain ⟨r19, h19, h⟩ := q_bnd h
    refine q_callSi1 dX9_patternFor_19 cl_X9_43 (Nat.le_of_ble_eq_true rfl) (by omega) (sX9_labels (by omega) h19 ?_)
    refine q_iconst (v := 2) dX9_patternFor_22 (by decide) ?_
    refine q_icmp_ne 35 dX9_patternFor_23 (by decide) (fun c23 => ?_) (fun c23 => ?_)
    · replace h := q_iff c23 h
      refine q_iconst (v := 4) dX9_patternFor_35 (by decide) ?_
      exact q_ret dX9_patternFor_36 rfl rfl (q_lfi h k)
    · replace h := q_ift c23 h
      refine q_iload_n dX9_patternFor_26 rfl ?_
      refine q_iconst (v := 5) dX9_patternFor_27 (by decide) ?_
      refine q_irem dX9_patternFor_28 (by decide) ?_
      refine q_bipush (v := 20) dX9_patternFor_29 (by decide) ?_
      refine q_iadd dX9_patternFor_31 ?_
      refine q_goto 36 dX9_patternFor_32 (by decide) ?_
      exact q_ret dX9_patternFor_36 rfl rfl (q_lfi h k)
  · replace h := q_ift c5 h
    refine q_iload_n dX9_patternFor_8 rfl ?_
    refine q_bipush (v := 25) dX9_patternFor_9 (by decide) ?_
    refine q_irem dX9_patternFor_11 (by decide) ?_
    refine q_bipush (v := 100) dX9_patternFor_12 (by decide) ?_
    refine q_iadd dX9_patternFor_14 ?_
    refine q_goto 36 dX9_patternFor_15 (by decide) ?_
    exact q_ret dX9_patternFor_36 rfl rfl (q_lfi h k)
def fX9_isTick (a1 : Int32) (S : qS) : Option Bool := (fX9_in a1 0 (S 34 0) S).bind (fun r6 => some r6)
set_option maxHeartbeats 4000000 in
set_option maxRecDepth 100000 in
theorem sX9_isTick {l : Launch} {d : Nat} (hd : 1 ≤ d) {S : qS} {a1 : Int32} {r : Bool} (h : fX9_isTick a1 S = some r) {Q : Int32 → qS → Prop} (k : Q (q_b r) S) : q_Mi l d yX9_isTick cX9_isTick 2 (some .boolean) [.inr 34, .inl a1] S Q := by
  refine q_Mi_of (own := RX9) rfl rfl [some (.inr 34), some (.inl a1)] rfl (Nat.le_of_ble_eq_true rfl) ?_
  unfold fX9_isTick at h
  refine q_iload_n dX9_isTick_0 rfl ?_
  refine q_iconst (v := 0) dX9_isTick_1 (by decide) ?_
  refine q_aload_n dX9_isTick_2 rfl ?_
  refine q_geti dX9_isTick_3 fl_X9_32 rfl rfl ?_
  obtain ⟨r6, h6, h⟩ := q_bnd h
  refine q_callSi3 dX9_isTick_6 cl_X9_35 (Nat.le_of_ble_eq_true rfl) (by omega) (sX9_in (by omega) h6 ?_)
  exact q_ret (v := q_b r6) dX9_isTick_9 rfl (q_b_nar r6) (q_lfb h k)
def fX9_pass (a1 : Int32) (S : qS) : Option (Int32 × qS) := (fX9_in a1 1 1000 S).bind (fun r5 => if r5 = true then if ((S 34 0) + a1) ≤ 9999 then some (((S 34 0) + a1), (q_up S 34 0 ((S 34 0) + a1))) else some ((-3), S) else some ((-1), S))
set_option maxHeartbeats 4000000 in
set_option maxRecDepth 100000 in
theorem sX9_pass {l : Launch} {d : Nat} (hd : 1 ≤ d) {S : qS} {a1 : Int32} {r : Int32} {S' : qS} (h : fX9_pass a1 S = some (r, S')) {Q : Int32 → qS → Prop} (k : Q r S') : q_Mi l d yX9_pass cX9_pass 2 (some .int) [.inr 34, .inl a1] S Q := by
  refine q_Mi_of (own := RX9) rfl rfl [some (.inr 34), some (.inl a1)] rfl (Nat.le_of_ble_eq_true rfl) ?_
  unfold fX9_pass at h
  refine q_iload_n dX9_pass_0 rfl ?_
  refine q_iconst (v := 1) dX9_pass_1 (by decide) ?_
  refine q_sipush (v := 1000) dX9_pass_2 (by decide) ?_
  obtain ⟨r5, h5, h⟩ := q_bnd h
  refine q_callSi3 dX9_pass_5 cl_X9_35 (Nat.le_of_ble_eq_true rfl) (by omega) (sX9_in (by omega) h5 ?_)
  refine q_if_ne_b 13 dX9_pass_8 (by decide) (fun c8 => ?_) (fun c8 => ?_)
  · replace h := q_ift c8 h
    refine q_aload_n dX9_pass_13 rfl ?_
    refine q_geti dX9_pass_14 fl_X9_32 rfl rfl ?_
    refine q_iload_n dX9_pass_17 rfl ?_
    refine q_iadd dX9_pass_18 ?_
    refine q_sipush (v := 9999) dX9_pass_19 (by decide) ?_
    refine q_icmp_le 28 dX9_pass_22 (by decide) (fun c22 => ?_) (fun c22 => ?_)
    · replace h := q_ift c22 h
      refine q_aload_n dX9_pass_28 rfl ?_
      refine q_dup dX9_pass_29 ?_
      refine q_geti dX9_pass_30 fl_X9_32 rfl rfl ?_
      refine q_iload_n dX9_pass_33 rfl ?_
      refine q_iadd dX9_pass_34 ?_
      refine q_put dX9_pass_35 fl_X9_32 fp_8_0 rfl rfl ?_
      refine q_aload_n dX9_pass_38 rfl ?_
      refine q_geti dX9_pass_39 fl_X9_32 rfl rfl ?_
      exact q_ret dX9_pass_42 rfl rfl (q_lfiw h k)
    · replace h := q_iff c22 h
      refine q_bipush (v := (-3)) dX9_pass_25 (by decide) ?_
      exact q_ret dX9_pass_27 rfl rfl (q_lfiw h k)
  · replace h := q_ifb c8 h
    refine q_iconst (v := (-1)) dX9_pass_11 (by decide) ?_
    exact q_ret dX9_pass_12 rfl rfl (q_lfiw h k)
def fX9_time (S : qS) : Option Int32 := some (S 34 0)
set_option maxHeartbeats 4000000 in
set_option maxRecDepth 100000 in
theorem sX9_time {l : Launch} {d : Nat} (hd : 0 ≤ d) {S : qS} {r : Int32} (h : fX9_time S = some r) {Q : Int32 → qS → Prop} (k : Q r S) : q_Mi l d yX9_time cX9_time 1 (some .int) [.inr 34] S Q := by
  refine q_Mi_of (own := RX9) rfl rfl [some (.inr 34)] rfl (Nat.le_of_ble_eq_true rfl) ?_
  unfold fX9_time at h
  refine q_aload_n dX9_time_0 rfl ?_
  refine q_geti dX9_time_1 fl_X9_32 rfl rfl ?_
  exact q_ret dX9_time_4 rfl rfl (q_lfi h k)
def fX9_isAddress (a1 : Int32) (S : qS) : Option Bool := (fX9_in a1 0 255 S).bind (fun r5 => some r5)
set_option maxHeartbeats 4000000 in
set_option maxRecDepth 100000 in
theorem sX9_isAddress {l : Launch} {d : Nat} (hd : 1 ≤ d) {S : qS} {a1 : Int32} {r : Bool} (h : fX9_isAddress a1 S = some r) {Q : Int32 → qS → Prop} (k : Q (q_b r) S) : q_Mi l d yX9_isAddress cX9_isAddress 1 (some .boolean) [.inl a1] S Q := by
  refine q_Mi_of (own := RX9) rfl rfl [some (.inl a1)] rfl (Nat.le_of_ble_eq_true rfl) ?_
  unfold fX9_isAddress at h
  refine q_iload_n dX9_isAddress_0 rfl ?_
  refine q_iconst (v := 0) dX9_isAddress_1 (by decide) ?_
  refine q_sipush (v := 255) dX9_isAddress_2 (by decide) ?_
  obtain ⟨r5, h5, h⟩ := q_bnd h
  refine q_callSi3 dX9_isAddress_5 cl_X9_35 (Nat.le_of_ble_eq_true rfl) (by omega) (sX9_in (by omega) h5 ?_)
  exact q_ret (v := q_b r5) dX9_isAddress_8 rfl (q_b_nar r5) (q_lfb h k)
def fX9_addNet (a1 a2 a3 : Int32) (S : qS) : Option (Int32 × qS) := (fX9_in a1 1 3 S).bind (fun r3 => if r3 = true then (fX9_isAddress a2 S).bind (fun r10 => if r10 = true then (fX9_in a3 1 8 S).bind (fun r20 => if r20 = true then if (S 34 2) = 10 then some ((-3), S) else if q_inb (5 * (S 34 2)) 50 = true then if q_inb ((5 * (S 34 2)) + 1) 50 = true then if q_inb ((5 * (S 34 2)) + 2) 50 = true then if q_inb ((5 * (S 34 2)) + 3) 50 = true then if q_inb ((5 * (S 34 2)) + 4) 50 = true then some ((((S 34 2) + 1) - 1), (q_up (q_up (q_up (q_up (q_up (q_up S 35 ((5 * (S 34 2)).toNatClampNeg) a1) 35 (((5 * (S 34 2)) + 1).toNatClampNeg) a2) 35 (((5 * (S 34 2)) + 2).toNatClampNeg) a3) 35 (((5 * (S 34 2)) + 3).toNatClampNeg) (S 34 0)) 35 (((5 * (S 34 2)) + 4).toNatClampNeg) (-1)) 34 2 ((S 34 2) + 1))) else none else none else none else none else none else some ((-1), S)) else some ((-1), S)) else some ((-1), S))
set_option maxHeartbeats 4000000 in
set_option maxRecDepth 100000 in
theorem sX9_addNet {l : Launch} {d : Nat} (hd : 2 ≤ d) {S : qS} {a1 a2 a3 : Int32} {r : Int32} {S' : qS} (h : fX9_addNet a1 a2 a3 S = some (r, S')) {Q : Int32 → qS → Prop} (k : Q r S') : q_Mi l d yX9_addNet cX9_addNet 5 (some .int) [.inr 34, .inl a1, .inl a2, .inl a3] S Q := by
  refine q_Mi_of (own := RX9) rfl rfl [some (.inr 34), some (.inl a1), some (.inl a2), some (.inl a3), none] rfl (Nat.le_of_ble_eq_true rfl) ?_
  unfold fX9_addNet at h
  refine q_iload_n dX9_addNet_0 rfl ?_
  refine q_iconst (v := 1) dX9_addNet_1 (by decide) ?_
  refine q_iconst (v := 3) dX9_addNet_2 (by decide) ?_
  obtain ⟨r3, h3, h⟩ := q_bnd h
  refine q_callSi3 dX9_addNet_3 cl_X9_35 (Nat.le_of_ble_eq_true rfl) (by omega) (sX9_in (by omega) h3 ?_)
  refine q_if_eq_b 26 dX9_addNet_6 (by decide) (fun c6 => ?_) (fun c6 => ?_)
  · replace h := q_ifb c6 h
    refine q_iconst (v := (-1)) dX9_addNet_26 (by decide) ?_
    exact q_ret dX9_addNet_27 rfl rfl (q_lfiw h k)
  · replace h := q_ift c6 h
    refine q_iload_n dX9_addNet_9 rfl ?_
    obtain ⟨r10, h10, h⟩ := q_bnd h
    refine q_callSi1 dX9_addNet_10 cl_X9_54 (Nat.le_of_ble_eq_true rfl) (by omega) (sX9_isAddress (by omega) h10 ?_)
    refine q_if_eq_b 26 dX9_addNet_13 (by decide) (fun c13 => ?_) (fun c13 => ?_)
    · replace h := q_ifb c13 h
      refine q_iconst (v := (-1)) dX9_addNet_26 (by decide) ?_
      exact q_ret dX9_addNet_27 rfl rfl (q_lfiw h k)
    · replace h := q_ift c13 h
      refine q_iload_n dX9_addNet_16 rfl ?_
      refine q_iconst (v := 1) dX9_addNet_17 (by decide) ?_
      refine q_bipush (v := 8) dX9_addNet_18 (by decide) ?_
      obtain ⟨r20, h20, h⟩ := q_bnd h
      refine q_callSi3 dX9_addNet_20 cl_X9_35 (Nat.le_of_ble_eq_true rfl) (by omega) (sX9_in (by omega) h20 ?_)
      refine q_if_ne_b 28 dX9_addNet_23 (by decide) (fun c23 => ?_) (fun c23 => ?_)
      · replace h := q_ift c23 h
        refine q_aload_n dX9_addNet_28 rfl ?_
        refine q_geti dX9_addNet_29 fl_X9_58 rfl rfl ?_
        refine q_bipush (v := 10) dX9_addNet_32 (by decide) ?_
        refine q_icmp_ne 40 dX9_addNet_34 (by decide) (fun c34 => ?_) (fun c34 => ?_)
        · replace h := q_iff c34 h
          refine q_iconst (v := 5) dX9_addNet_40 (by decide) ?_
          refine q_aload_n dX9_addNet_41 rfl ?_
          refine q_geti dX9_addNet_42 fl_X9_58 rfl rfl ?_
          refine q_imul dX9_addNet_45 ?_
          refine q_istore dX9_addNet_46 (by decide) ?_
          refine q_aload_n dX9_addNet_48 rfl ?_
          refine q_getr dX9_addNet_49 fl_X9_7 rfl rfl ?_
          refine q_iload dX9_addNet_52 rfl ?_
          refine q_iload_n dX9_addNet_54 rfl ?_
          obtain ⟨g55, h⟩ := q_gd h
          refine q_iast dX9_addNet_55 rfl g55 ?_
          refine q_aload_n dX9_addNet_56 rfl ?_
          refine q_getr dX9_addNet_57 fl_X9_7 rfl rfl ?_
          refine q_iload dX9_addNet_60 rfl ?_
          refine q_iconst (v := 1) dX9_addNet_62 (by decide) ?_
          refine q_iadd dX9_addNet_63 ?_
          refine q_iload_n dX9_addNet_64 rfl ?_
          obtain ⟨g65, h⟩ := q_gd h
          refine q_iast dX9_addNet_65 rfl g65 ?_
          refine q_aload_n dX9_addNet_66 rfl ?_
          refine q_getr dX9_addNet_67 fl_X9_7 rfl rfl ?_
          refine q_iload dX9_addNet_70 rfl ?_
          refine q_iconst (v := 2) dX9_addNet_72 (by decide) ?_
          refine q_iadd dX9_addNet_73 ?_
          refine q_iload_n dX9_addNet_74 rfl ?_
          obtain ⟨g75, h⟩ := q_gd h
          refine q_iast dX9_addNet_75 rfl g75 ?_
          refine q_aload_n dX9_addNet_76 rfl ?_
          refine q_getr dX9_addNet_77 fl_X9_7 rfl rfl ?_
          refine q_iload dX9_addNet_80 rfl ?_
          refine q_iconst (v := 3) dX9_addNet_82 (by decide) ?_
          refine q_iadd dX9_addNet_83 ?_
          refine q_aload_n dX9_addNet_84 rfl ?_
          refine q_geti dX9_addNet_85 fl_X9_32 rfl rfl ?_
          obtain ⟨g88, h⟩ := q_gd h
          refine q_iast dX9_addNet_88 rfl g88 ?_
          refine q_aload_n dX9_addNet_89 rfl ?_
          refine q_getr dX9_addNet_90 fl_X9_7 rfl rfl ?_
          refine q_iload dX9_addNet_93 rfl ?_
          refine q_iconst (v := 4) dX9_addNet_95 (by decide) ?_
          refine q_iadd dX9_addNet_96 ?_
          refine q_iconst (v := (-1)) dX9_addNet_97 (by decide) ?_
          obtain ⟨g98, h⟩ := q_gd h
          refine q_iast dX9_addNet_98 rfl g98 ?_
          refine q_aload_n dX9_addNet_99 rfl ?_
          refine q_dup dX9_addNet_100 ?_
          refine q_geti dX9_addNet_101 fl_X9_58 rfl rfl ?_
          refine q_iconst (v := 1) dX9_addNet_104 (by decide) ?_
          refine q_iadd dX9_addNet_105 ?_
          refine q_put dX9_addNet_106 fl_X9_58 fp_8_2 rfl rfl ?_
          refine q_aload_n dX9_addNet_109 rfl ?_
          refine q_geti dX9_addNet_110 fl_X9_58 rfl rfl ?_
          refine q_iconst (v := 1) dX9_addNet_113 (by decide) ?_
          refine q_isub dX9_addNet_114 ?_
          exact q_ret dX9_addNet_115 rfl rfl (q_lfiw h k)
        · replace h := q_ift c34 h
          refine q_bipush (v := (-3)) dX9_addNet_37 (by decide) ?_
          exact q_ret dX9_addNet_39 rfl rfl (q_lfiw h k)
      · replace h := q_ifb c23 h
        refine q_iconst (v := (-1)) dX9_addNet_26 (by decide) ?_
        exact q_ret dX9_addNet_27 rfl rfl (q_lfiw h k)
def fX9_isNetThere (a1 a2 : Int32) (S : qS) : Option Bool := if q_inb ((5 * a1) + 4) 50 = true then if q_inb ((5 * a1) + 3) 50 = true then if a2 < (S 35 (((5 * a1) + 3).toNatClampNeg)) then some false else if (S 35 (((5 * a1) + 4).toNatClampNeg)) < 0 then some true else if (S 35 (((5 * a1) + 4).toNatClampNeg)) ≤ a2 then some false else some true else none else none
set_option maxHeartbeats 4000000 in
set_option maxRecDepth 100000 in
theorem sX9_isNetThere {l : Launch} {d : Nat} (hd : 0 ≤ d) {S : qS} {a1 a2 : Int32} {r : Bool} (h : fX9_isNetThere a1 a2 S = some r) {Q : Int32 → qS → Prop} (k : Q (q_b r) S) : q_Mi l d yX9_isNetThere cX9_isNetThere 4 (some .boolean) [.inr 34, .inl a1, .inl a2] S Q := by
  refine q_Mi_of (own := RX9) rfl rfl [some (.inr 34), some (.inl a1), some (.inl a2), none] rfl (Nat.le_of_ble_eq_true rfl) ?_
  unfold fX9_isNetThere at h
  refine q_aload_n dX9_isNetThere_0 rfl ?_
  refine q_getr dX9_isNetThere_1 fl_X9_7 rfl rfl ?_
  refine q_iconst (v := 5) dX9_isNetThere_4 (by decide) ?_
  refine q_iload_n dX9_isNetThere_5 rfl ?_
  refine q_imul dX9_isNetThere_6 ?_
  refine q_iconst (v := 4) dX9_isNetThere_7 (by decide) ?_
  refine q_iadd dX9_isNetThere_8 ?_
  obtain ⟨g9, h⟩ := q_gd h
  refine q_iald dX9_isNetThere_9 rfl g9 ?_
  refine q_istore_n dX9_isNetThere_10 (by decide) ?_
  refine q_aload_n dX9_isNetThere_11 rfl ?_
  refine q_getr dX9_isNetThere_12 fl_X9_7 rfl rfl ?_
  refine q_iconst (v := 5) dX9_isNetThere_15 (by decide) ?_
  refine q_iload_n dX9_isNetThere_16 rfl ?_
  refine q_imul dX9_isNetThere_17 ?_
  refine q_iconst (v := 3) dX9_isNetThere_18 (by decide) ?_
  refine q_iadd dX9_isNetThere_19 ?_
  obtain ⟨g20, h⟩ := q_gd h
  refine q_iald dX9_isNetThere_20 rfl g20 ?_
  refine q_iload_n dX9_isNetThere_21 rfl ?_
  refine q_icmp_gt 38 dX9_isNetThere_22 (by decide) (fun c22 => ?_) (fun c22 => ?_)
  · replace h := q_ift c22 h
    refine q_iconst (v := 0) dX9_isNetThere_38 (by decide) ?_
    exact q_ret (v := q_b false) dX9_isNetThere_39 rfl (q_b_nar false) (q_lfb h k)
  · replace h := q_iff c22 h
    refine q_iload_n dX9_isNetThere_25 rfl ?_
    refine q_if_lt 34 dX9_isNetThere_26 (by decide) (fun c26 => ?_) (fun c26 => ?_)
    · replace h := q_ift c26 h
      refine q_iconst (v := 1) dX9_isNetThere_34 (by decide) ?_
      refine q_goto 39 dX9_isNetThere_35 (by decide) ?_
      exact q_ret (v := q_b true) dX9_isNetThere_39 rfl (q_b_nar true) (q_lfb h k)
    · replace h := q_iff c26 h
      refine q_iload_n dX9_isNetThere_29 rfl ?_
      refine q_iload_n dX9_isNetThere_30 rfl ?_
      refine q_icmp_ge 38 dX9_isNetThere_31 (by decide) (fun c31 => ?_) (fun c31 => ?_)
      · replace h := q_ift c31 h
        refine q_iconst (v := 0) dX9_isNetThere_38 (by decide) ?_
        exact q_ret (v := q_b false) dX9_isNetThere_39 rfl (q_b_nar false) (q_lfb h k)
      · replace h := q_iff c31 h
        refine q_iconst (v := 1) dX9_isNetThere_34 (by decide) ?_
        refine q_goto 39 dX9_isNetThere_35 (by decide) ?_
        exact q_ret (v := q_b true) dX9_isNetThere_39 rfl (q_b_nar true) (q_lfb h k)
def fX9_removeNet (a1 : Int32) (S : qS) : Option (Int32 × qS) := (fX9_in a1 0 ((S 34 2) - 1) S).bind (fun r8 => if r8 = true then if q_inb ((5 * a1) + 4) 50 = true then if (S 35 (((5 * a1) + 4).toNatClampNeg)) < 0 then if q_inb ((5 * a1) + 4) 50 = true then if q_inb (5 * a1) 50 = true then some ((q_up S 35 (((5 * a1) + 4).toNatClampNeg) (S 34 0)) 35 ((5 * a1).toNatClampNeg), (q_up S 35 (((5 * a1) + 4).toNatClampNeg) (S 34 0))) else none else none else some ((-2), S) else none else some ((-1), S))
set_option maxHeartbeats 4000000 in
set_option maxRecDepth 100000 in
theorem sX9_removeNet {l : Launch} {d : Nat} (hd : 1 ≤ d) {S : qS} {a1 : Int32} {r : Int32} {S' : qS} (h : fX9_removeNet a1 S = some (r, S')) {Q : Int32 → qS → Prop} (k : Q r S') : q_Mi l d yX9_removeNet cX9_removeNet 2 (some .int) [.inr 34, .inl a1] S Q := by
  refine q_Mi_of (own := RX9) rfl rfl [some (.inr 34), some (.inl a1)] rfl (Nat.le_of_ble_eq_true rfl) ?_
  unfold fX9_removeNet at h
  refine q_iload_n dX9_removeNet_0 rfl ?_
  refine q_iconst (v := 0) dX9_removeNet_1 (by decide) ?_
  refine q_aload_n dX9_removeNet_2 rfl ?_
  refine q_geti dX9_removeNet_3 fl_X9_58 rfl rfl ?_
  refine q_iconst (v := 1) dX9_removeNet_6 (by decide) ?_
  refine q_isub dX9_removeNet_7 ?_
  obtain ⟨r8, h8, h⟩ := q_bnd h
  refine q_callSi3 dX9_removeNet_8 cl_X9_35 (Nat.le_of_ble_eq_true rfl) (by omega) (sX9_in (by omega) h8 ?_)
  refine q_if_ne_b 16 dX9_removeNet_11 (by decide) (fun c11 => ?_) (fun c11 => ?_)
  · replace h := q_ift c11 h
    refine q_aload_n dX9_removeNet_16 rfl ?_
    refine q_getr dX9_removeNet_17 fl_X9_7 rfl rfl ?_
    refine q_iconst (v := 5) dX9_removeNet_20 (by decide) ?_
    refine q_iload_n dX9_removeNet_21 rfl ?_
    refine q_imul dX9_removeNet_22 ?_
    refine q_iconst (v := 4) dX9_removeNet_23 (by decide) ?_
    refine q_iadd dX9_removeNet_24 ?_
    obtain ⟨g25, h⟩ := q_gd h
    refine q_iald dX9_removeNet_25 rfl g25 ?_
    refine q_if_lt 32 dX9_removeNet_26 (by decide) (fun c26 => ?_) (fun c26 => ?_)
    · replace h := q_ift c26 h
      refine q_aload_n dX9_removeNet_32 rfl ?_
      refine q_getr dX9_removeNet_33 fl_X9_7 rfl rfl ?_
      refine q_iconst (v := 5) dX9_removeNet_36 (by decide) ?_
      refine q_iload_n dX9_removeNet_37 rfl ?_
      refine q_imul dX9_removeNet_38 ?_
      refine q_iconst (v := 4) dX9_removeNet_39 (by decide) ?_
      refine q_iadd dX9_removeNet_40 ?_
      refine q_aload_n dX9_removeNet_41 rfl ?_
      refine q_geti dX9_removeNet_42 fl_X9_32 rfl rfl ?_
      obtain ⟨g45, h⟩ := q_gd h
      refine q_iast dX9_removeNet_45 rfl g45 ?_
      refine q_aload_n dX9_removeNet_46 rfl ?_
      refine q_getr dX9_removeNet_47 fl_X9_7 rfl rfl ?_
      refine q_iconst (v := 5) dX9_removeNet_50 (by decide) ?_
      refine q_iload_n dX9_removeNet_51 rfl ?_
      refine q_imul dX9_removeNet_52 ?_
      obtain ⟨g53, h⟩ := q_gd h
      refine q_iald dX9_removeNet_53 rfl g53 ?_
      exact q_ret dX9_removeNet_54 rfl rfl (q_lfiw h k)
    · replace h := q_iff c26 h
      refine q_bipush (v := (-2)) dX9_removeNet_29 (by decide) ?_
      exact q_ret dX9_removeNet_31 rfl rfl (q_lfiw h k)
  · replace h := q_ifb c11 h
    refine q_iconst (v := (-1)) dX9_removeNet_14 (by decide) ?_
    exact q_ret dX9_removeNet_15 rfl rfl (q_lfiw h k)
def fX9_viewAt_8 (p1 p2 : Int32) : Nat → Int32 → Int32 → Int32 → qS → Option Int32
  | 0, _, _, _, _ => none
  | n + 1, v3, v4, v5, S => if (S 34 2) ≤ v5 then some v3 else if q_inb ((5 * v5) + 2) 50 = true then if q_inb ((5 * v5) + 1) 50 = true then if ((p1 ^^^ (S 35 (((5 * v5) + 1).toNatClampNeg))) >>> ((8 - (S 35 (((5 * v5) + 2).toNatClampNeg))) &&& 31)) = 0 then (fX9_isNetThere v5 p2 S).bind (fun r68 => if r68 = true then if (S 35 (((5 * v5) + 2).toNatClampNeg)) ≤ v4 then fX9_viewAt_8 p1 p2 n v3 v4 (v5 + 1) S else if q_inb (5 * v5) 50 = true then fX9_viewAt_8 p1 p2 n (S 35 ((5 * v5).toNatClampNeg)) (S 35 (((5 * v5) + 2).toNatClampNeg)) (v5 + 1) S else none else fX9_viewAt_8 p1 p2 n v3 v4 (v5 + 1) S) else fX9_viewAt_8 p1 p2 n v3 v4 (v5 + 1) S else none else none
set_option maxHeartbeats 4000000 in
set_option maxRecDepth 100000 in
theorem sX9_viewAt_8 {l : Launch} {d : Nat} (hd : 1 ≤ d) {S : qS} {p1 p2 : Int32} {r : Int32} {Q : Int32 → qS → Prop} (k : Q r S) : ∀ (n : Nat) (v3 : Int32) (v4 : Int32) (v5 : Int32), fX9_viewAt_8 p1 p2 n v3 v4 v5 S = some r → q_E l cX9_viewAt 8 (some .int) RX9 d S 8 [some (.inr 34), some (.inl p1), some (.inl p2), some (.inl v3), some (.inl v4), some (.inl v5), none, none] [] (q_Qi Q) := by
  intro n
  induction n with
  | zero => intro v3 v4 v5 h; exact q_no h
  | succ n ih =>
    intro v3 v4 v5 h
    rw [fX9_viewAt_8] at h
    refine q_iload dX9_viewAt_8 rfl ?_
    refine q_aload_n dX9_viewAt_10 rfl ?_
    refine q_geti dX9_viewAt_11 fl_X9_58 rfl rfl ?_
    refine q_icmp_ge 101 dX9_viewAt_14 (by decide) (fun c14 => ?_) (fun c14 => ?_)
    · replace h := q_ift c14 h
      refine q_iload_n dX9_viewAt_101 rfl ?_
      exact q_ret dX9_viewAt_102 rfl rfl (q_lfi h k)
    · replace h := q_iff c14 h
      refine q_aload_n dX9_viewAt_17 rfl ?_
      refine q_getr dX9_viewAt_18 fl_X9_7 rfl rfl ?_
      refine q_iconst (v := 5) dX9_viewAt_21 (by decide) ?_
      refine q_iload dX9_viewAt_22 rfl ?_
      refine q_imul dX9_viewAt_24 ?_
      refine q_iconst (v := 2) dX9_viewAt_25 (by decide) ?_
      refine q_iadd dX9_viewAt_26 ?_
      obtain ⟨g27, h⟩ := q_gd h
      refine q_iald dX9_viewAt_27 rfl g27 ?_
      refine q_istore dX9_viewAt_28 (by decide) ?_
      refine q_iload_n dX9_viewAt_30 rfl ?_
      refine q_aload_n dX9_viewAt_31 rfl ?_
      refine q_getr dX9_viewAt_32 fl_X9_7 rfl rfl ?_
      refine q_iconst (v := 5) dX9_viewAt_35 (by decide) ?_
      refine q_iload dX9_viewAt_36 rfl ?_
      refine q_imul dX9_viewAt_38 ?_
      refine q_iconst (v := 1) dX9_viewAt_39 (by decide) ?_
      refine q_iadd dX9_viewAt_40 ?_
      obtain ⟨g41, h⟩ := q_gd h
      refine q_iald dX9_viewAt_41 rfl g41 ?_
      refine q_ixor dX9_viewAt_42 ?_
      refine q_bipush (v := 8) dX9_viewAt_43 (by decide) ?_
      refine q_iload dX9_viewAt_45 rfl ?_
      refine q_isub dX9_viewAt_47 ?_
      refine q_ishr dX9_viewAt_48 ?_
      refine q_if_ne 56 dX9_viewAt_49 (by decide) (fun c49 => ?_) (fun c49 => ?_)
      · replace h := q_iff c49 h
        refine q_iconst (v := 0) dX9_viewAt_56 (by decide) ?_
        refine q_istore dX9_viewAt_57 (by decide) ?_
        refine q_iload dX9_viewAt_59 rfl ?_
        refine q_if_eq 95 dX9_viewAt_61 (by decide) (fun _ => ?_) (fun c => absurd c (by decide))
        refine q_iinc (v := (v5 + 1)) dX9_viewAt_95 rfl rfl (by decide) ?_
        refine q_goto 8 dX9_viewAt_98 (by decide) ?_
        exact q_sub (ih _ _ _ h) (And.intro rfl (And.intro rfl (And.intro rfl (And.intro rfl (And.intro rfl (And.intro rfl trivial))))))
      · replace h := q_ift c49 h
        refine q_iconst (v := 1) dX9_viewAt_52 (by decide) ?_
        refine q_goto 57 dX9_viewAt_53 (by decide) ?_
        refine q_istore dX9_viewAt_57 (by decide) ?_
        refine q_iload dX9_viewAt_59 rfl ?_
        refine q_if_eq 95 dX9_viewAt_61 (by decide) (fun c => absurd c (by decide)) (fun _ => ?_)
        refine q_aload_n dX9_viewAt_64 rfl ?_
        refine q_iload dX9_viewAt_65 rfl ?_
        refine q_iload_n dX9_viewAt_67 rfl ?_
        obtain ⟨r68, h68, h⟩ := q_bnd h
        refine q_callVi2 dX9_viewAt_68 cl_X9_61 rfl (Nat.le_of_ble_eq_true rfl) (by omega) (sX9_isNetThere (by omega) h68 ?_)
        refine q_if_eq_b 95 dX9_viewAt_71 (by decide) (fun c71 => ?_) (fun c71 => ?_)
        · replace h := q_ifb c71 h
          refine q_iinc (v := (v5 + 1)) dX9_viewAt_95 rfl rfl (by decide) ?_
          refine q_goto 8 dX9_viewAt_98 (by decide) ?_
          exact q_sub (ih _ _ _ h) (And.intro rfl (And.intro rfl (And.intro rfl (And.intro rfl (And.intro rfl (And.intro rfl trivial))))))
        · replace h := q_ift c71 h
          refine q_iload dX9_viewAt_74 rfl ?_
          refine q_iload dX9_viewAt_76 rfl ?_
          refine q_icmp_le 95 dX9_viewAt_78 (by decide) (fun c78 => ?_) (fun c78 => ?_)
          · replace h := q_ift c78 h
            refine q_iinc (v := (v5 + 1)) dX9_viewAt_95 rfl rfl (by decide) ?_
            refine q_goto 8 dX9_viewAt_98 (by decide) ?_
            exact q_sub (ih _ _ _ h) (And.intro rfl (And.intro rfl (And.intro rfl (And.intro rfl (And.intro rfl (And.intro rfl trivial))))))
          · replace h := q_iff c78 h
            refine q_aload_n dX9_viewAt_81 rfl ?_
            refine q_getr dX9_viewAt_82 fl_X9_7 rfl rfl ?_
            refine q_iconst (v := 5) dX9_viewAt_85 (by decide) ?_
            refine q_iload dX9_viewAt_86 rfl ?_
            refine q_imul dX9_viewAt_88 ?_
            obtain ⟨g89, h⟩ := q_gd h
            refine q_iald dX9_viewAt_89 rfl g89 ?_
            refine q_istore_n dX9_viewAt_90 (by decide) ?_
            refine q_iload dX9_viewAt_91 rfl ?_
            refine q_istore dX9_viewAt_93 (by decide) ?_
            refine q_iinc (v := (v5 + 1)) dX9_viewAt_95 rfl rfl (by decide) ?_
            refine q_goto 8 dX9_viewAt_98 (by decide) ?_
            exact q_sub (ih _ _ _ h) (And.intro rfl (And.intro rfl (And.intro rfl (And.intro rfl (And.intro rfl (And.intro rfl trivial))))))
def fX9_viewAt (a1 a2 : Int32) (S : qS) : Option Int32 := fX9_viewAt_8 a1 a2 20000 0 0 0 S
set_option maxHeartbeats 4000000 in
set_option maxRecDepth 100000 in
theorem sX9_viewAt {l : Launch} {d : Nat} (hd : 1 ≤ d) {S : qS} {a1 a2 : Int32} {r : Int32} (h : fX9_viewAt a1 a2 S = some r) {Q : Int32 → qS → Prop} (k : Q r S) : q_Mi l d yX9_viewAt cX9_viewAt 8 (some .int) [.inr 34, .inl a1, .inl a2] S Q := by
  refine q_Mi_of (own := RX9) rfl rfl [some (.inr 34), some (.inl a1), some (.inl a2), none, none, none, none, none] rfl (Nat.le_of_ble_eq_true rfl) ?_
  unfold fX9_viewAt at h
  refine q_iconst (v := 0) dX9_viewAt_0 (by decide) ?_
  refine q_istore_n dX9_viewAt_1 (by decide) ?_
  refine q_iconst (v := 0) dX9_viewAt_2 (by decide) ?_
  refine q_istore dX9_viewAt_3 (by decide) ?_
  refine q_iconst (v := 0) dX9_viewAt_5 (by decide) ?_
  refine q_istore dX9_viewAt_6 (by decide) ?_
  exact q_sub (sX9_viewAt_8 hd k 20000 _ _ _ h) (And.intro rfl (And.intro rfl (And.intro rfl (And.intro rfl (And.intro rfl (And.intro rfl trivial))))))
def fX9_viewOf (a1 a2 : Int32) (S : qS) : Option Int32 := (fX9_isAddress a1 S).bind (fun r1 => if r1 = true then (fX9_isTick a2 S).bind (fun r9 => if r9 = true then (fX9_viewAt a1 a2 S).bind (fun r18 => some r18) else some (-1)) else some (-1))
set_option maxHeartbeats 4000000 in
set_option maxRecDepth 100000 in
theorem sX9_viewOf {l : Launch} {d : Nat} (hd : 2 ≤ d) {S : qS} {a1 a2 : Int32} {r : Int32} (h : fX9_viewOf a1 a2 S = some r) {Q : Int32 → qS → Prop} (k : Q r S) : q_Mi l d yX9_viewOf cX9_viewOf 3 (some .int) [.inr 34, .inl a1, .inl a2] S Q := by
  refine q_Mi_of (own := RX9) rfl rfl [some (.inr 34), some (.inl a1), some (.inl a2)] rfl (Nat.le_of_ble_eq_true rfl) ?_
  unfold fX9_viewOf at h
  refine q_iload_n dX9_viewOf_0 rfl ?_
  obtain ⟨r1, h1, h⟩ := q_bnd h
  refine q_callSi1 dX9_viewOf_1 cl_X9_54 (Nat.le_of_ble_eq_true rfl) (by omega) (sX9_isAddress (by omega) h1 ?_)
  refine q_if_eq_b 24 dX9_viewOf_4 (by decide) (fun c4 => ?_) (fun c4 => ?_)
  · replace h := q_ifb c4 h
    refine q_iconst (v := (-1)) dX9_viewOf_24 (by decide) ?_
    exact q_ret dX9_viewOf_25 rfl rfl (q_lfi h k)
  · replace h := q_ift c4 h
    refine q_aload_n dX9_viewOf_7 rfl ?_
    refine q_iload_n dX9_viewOf_8 rfl ?_
    obtain ⟨r9, h9, h⟩ := q_bnd h
    refine q_callVi1 dX9_viewOf_9 cl_X9_64 rfl (Nat.le_of_ble_eq_true rfl) (by omega) (sX9_isTick (by omega) h9 ?_)
    refine q_if_eq_b 24 dX9_viewOf_12 (by decide) (fun c12 => ?_) (fun c12 => ?_)
    · replace h := q_ifb c12 h
      refine q_iconst (v := (-1)) dX9_viewOf_24 (by decide) ?_
      exact q_ret dX9_viewOf_25 rfl rfl (q_lfi h k)
    · replace h := q_ift c12 h
      refine q_aload_n dX9_viewOf_15 rfl ?_
      refine q_iload_n dX9_viewOf_16 rfl ?_
      refine q_iload_n dX9_viewOf_17 rfl ?_
      obtain ⟨r18, h18, h⟩ := q_bnd h
      refine q_callVi2 dX9_viewOf_18 cl_X9_67 rfl (Nat.le_of_ble_eq_true rfl) (by omega) (sX9_viewAt (by omega) h18 ?_)
      refine q_goto 25 dX9_viewOf_21 (by decide) ?_
      exact q_ret dX9_viewOf_25 rfl rfl (q_lfi h k)
def fX9_isZone (a1 : Int32) (S : qS) : Option Bool := (fX9_in a1 0 ((S 34 4) - 1) S).bind (fun r8 => some r8)
set_option maxHeartbeats 4000000 in
set_option maxRecDepth 100000 in
theorem sX9_isZone {l : Launch} {d : Nat} (hd : 1 ≤ d) {S : qS} {a1 : Int32} {r : Bool} (h : fX9_isZone a1 S = some r) {Q : Int32 → qS → Prop} (k : Q (q_b r) S) : q_Mi l d yX9_isZone cX9_isZone 2 (some .boolean) [.inr 34, .inl a1] S Q := by
  refine q_Mi_of (own := RX9) rfl rfl [some (.inr 34), some (.inl a1)] rfl (Nat.le_of_ble_eq_true rfl) ?_
  unfold fX9_isZone at h
  refine q_iload_n dX9_isZone_0 rfl ?_
  refine q_iconst (v := 0) dX9_isZone_1 (by decide) ?_
  refine q_aload_n dX9_isZone_2 rfl ?_
  refine q_geti dX9_isZone_3 fl_X9_70 rfl rfl ?_
  refine q_iconst (v := 1) dX9_isZone_6 (by decide) ?_
  refine q_isub dX9_isZone_7 ?_
  obtain ⟨r8, h8, h⟩ := q_bnd h
  refine q_callSi3 dX9_isZone_8 cl_X9_35 (Nat.le_of_ble_eq_true rfl) (by omega) (sX9_in (by omega) h8 ?_)
  exact q_ret (v := q_b r8) dX9_isZone_11 rfl (q_b_nar r8) (q_lfb h k)
def fX9_isThere (a1 a2 : Int32) (S : qS) : Option Bool := if q_inb ((4 * a1) + 3) 40 = true then if q_inb ((4 * a1) + 2) 40 = true then if a2 < (S 36 (((4 * a1) + 2).toNatClampNeg)) then some false else if (S 36 (((4 * a1) + 3).toNatClampNeg)) < 0 then some true else if (S 36 (((4 * a1) + 3).toNatClampNeg)) ≤ a2 then some false else some true else none else none
set_option maxHeartbeats 4000000 in
set_option maxRecDepth 100000 in
theorem sX9_isThere {l : Launch} {d : Nat} (hd : 0 ≤ d) {S : qS} {a1 a2 : Int32} {r : Bool} (h : fX9_isThere a1 a2 S = some r) {Q : Int32 → qS → Prop} (k : Q (q_b r) S) : q_Mi l d yX9_isThere cX9_isThere 4 (some .boolean) [.inr 34, .inl a1, .inl a2] S Q := by
  refine q_Mi_of (own := RX9) rfl rfl [some (.inr 34), some (.inl a1), some (.inl a2), none] rfl (Nat.le_of_ble_eq_true rfl) ?_
  unfold fX9_isThere at h
  refine q_aload_n dX9_isThere_0 rfl ?_
  refine q_getr dX9_isThere_1 fl_X9_13 rfl rfl ?_
  refine q_iconst (v := 4) dX9_isThere_4 (by decide) ?_
  refine q_iload_n dX9_isThere_5 rfl ?_
  refine q_imul dX9_isThere_6 ?_
  refine q_iconst (v := 3) dX9_isThere_7 (by decide) ?_
  refine q_iadd dX9_isThere_8 ?_
  obtain ⟨g9, h⟩ := q_gd h
  refine q_iald dX9_isThere_9 rfl g9 ?_
  refine q_istore_n dX9_isThere_10 (by decide) ?_
  refine q_aload_n dX9_isThere_11 rfl ?_
  refine q_getr dX9_isThere_12 fl_X9_13 rfl rfl ?_
  refine q_iconst (v := 4) dX9_isThere_15 (by decide) ?_
  refine q_iload_n dX9_isThere_16 rfl ?_
  refine q_imul dX9_isThere_17 ?_
  refine q_iconst (v := 2) dX9_isThere_18 (by decide) ?_
  refine q_iadd dX9_isThere_19 ?_
  obtain ⟨g20, h⟩ := q_gd h
  refine q_iald dX9_isThere_20 rfl g20 ?_
  refine q_iload_n dX9_isThere_21 rfl ?_
  refine q_icmp_gt 38 dX9_isThere_22 (by decide) (fun c22 => ?_) (fun c22 => ?_)
  · replace h := q_ift c22 h
    refine q_iconst (v := 0) dX9_isThere_38 (by decide) ?_
    exact q_ret (v := q_b false) dX9_isThere_39 rfl (q_b_nar false) (q_lfb h k)
  · replace h := q_iff c22 h
    refine q_iload_n dX9_isThere_25 rfl ?_
    refine q_if_lt 34 dX9_isThere_26 (by decide) (fun c26 => ?_) (fun c26 => ?_)
    · replace h := q_ift c26 h
      refine q_iconst (v := 1) dX9_isThere_34 (by decide) ?_
      refine q_goto 39 dX9_isThere_35 (by decide) ?_
      exact q_ret (v := q_b true) dX9_isThere_39 rfl (q_b_nar true) (q_lfb h k)
    · replace h := q_iff c26 h
      refine q_iload_n dX9_isThere_29 rfl ?_
      refine q_iload_n dX9_isThere_30 rfl ?_
      refine q_icmp_ge 38 dX9_isThere_31 (by decide) (fun c31 => ?_) (fun c31 => ?_)
      · replace h := q_ift c31 h
        refine q_iconst (v := 0) dX9_isThere_38 (by decide) ?_
        exact q_ret (v := q_b false) dX9_isThere_39 rfl (q_b_nar false) (q_lfb h k)
      · replace h := q_iff c31 h
        refine q_iconst (v := 1) dX9_isThere_34 (by decide) ?_
        refine q_goto 39 dX9_isThere_35 (by decide) ?_
        exact q_ret (v := q_b true) dX9_isThere_39 rfl (q_b_nar true) (q_lfb h k)
