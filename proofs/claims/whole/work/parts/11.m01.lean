def fX2_isName (a1 : Int32) (S : qS) : Option Bool := if a1 < 1 then some false else if 124 < a1 then some false else if (a1 - a1 / 5 * 5) = 0 then some false else if ((a1 / 5) - (a1 / 5) / 5 * 5) = 0 then if (a1 / 25) = 0 then some true else some false else if (a1 / 25) = 0 then some true else some true
set_option maxHeartbeats 4000000 in
set_option maxRecDepth 100000 in
theorem sX2_isName {l : Launch} {d : Nat} (hd : 0 ≤ d) {S : qS} {a1 : Int32} {r : Bool} (h : fX2_isName a1 S = some r) {Q : Int32 → qS → Prop} (k : Q (q_b r) S) : q_Mi l d yX2_isName cX2_isName 3 (some .boolean) [.inl a1] S Q := by
  refine q_Mi_of (own := RX2) rfl rfl [some (.inl a1), none, none] rfl (Nat.le_of_ble_eq_true rfl) ?_
  unfold fX2_isName at h
  refine q_iload_n dX2_isName_0 rfl ?_
  refine q_iconst (v := 1) dX2_isName_1 (by decide) ?_
  refine q_icmp_lt 17 dX2_isName_2 (by decide) (fun c2 => ?_) (fun c2 => ?_)
  · replace h := q_ift c2 h
    refine q_iconst (v := 0) dX2_isName_17 (by decide) ?_
    exact q_ret (v := q_b false) dX2_isName_18 rfl (q_b_nar false) (q_lfb h k)
  · replace h := q_iff c2 h
    refine q_iload_n dX2_isName_5 rfl ?_
    refine q_bipush (v := 124) dX2_isName_6 (by decide) ?_
    refine q_icmp_gt 17 dX2_isName_8 (by decide) (fun c8 => ?_) (fun c8 => ?_)
    · replace h := q_ift c8 h
      refine q_iconst (v := 0) dX2_isName_17 (by decide) ?_
      exact q_ret (v := q_b false) dX2_isName_18 rfl (q_b_nar false) (q_lfb h k)
    · replace h := q_iff c8 h
      refine q_iload_n dX2_isName_11 rfl ?_
      refine q_iconst (v := 5) dX2_isName_12 (by decide) ?_
      refine q_irem dX2_isName_13 (by decide) ?_
      refine q_if_ne 19 dX2_isName_14 (by decide) (fun c14 => ?_) (fun c14 => ?_)
      · replace h := q_iff c14 h
        refine q_iload_n dX2_isName_19 rfl ?_
        refine q_iconst (v := 5) dX2_isName_20 (by decide) ?_
        refine q_idiv dX2_isName_21 (by decide) ?_
        refine q_iconst (v := 5) dX2_isName_22 (by decide) ?_
        refine q_irem dX2_isName_23 (by decide) ?_
        refine q_if_eq 31 dX2_isName_24 (by decide) (fun c24 => ?_) (fun c24 => ?_)
        · replace h := q_ift c24 h
          refine q_iconst (v := 0) dX2_isName_31 (by decide) ?_
          refine q_istore_n dX2_isName_32 (by decide) ?_
          refine q_iload_n dX2_isName_33 rfl ?_
          refine q_bipush (v := 25) dX2_isName_34 (by decide) ?_
          refine q_idiv dX2_isName_36 (by decide) ?_
          refine q_if_eq 44 dX2_isName_37 (by decide) (fun c37 => ?_) (fun c37 => ?_)
          · replace h := q_ift c37 h
            refine q_iconst (v := 0) dX2_isName_44 (by decide) ?_
            refine q_istore_n dX2_isName_45 (by decide) ?_
            refine q_iload_n dX2_isName_46 rfl ?_
            refine q_if_ne 54 dX2_isName_47 (by decide) (fun c => absurd c (by decide)) (fun _ => ?_)
            refine q_iload_n dX2_isName_50 rfl ?_
            refine q_if_ne 58 dX2_isName_51 (by decide) (fun c => absurd c (by decide)) (fun _ => ?_)
            refine q_iconst (v := 1) dX2_isName_54 (by decide) ?_
            refine q_goto 59 dX2_isName_55 (by decide) ?_
            exact q_ret (v := q_b true) dX2_isName_59 rfl (q_b_nar true) (q_lfb h k)
          · replace h := q_iff c37 h
            refine q_iconst (v := 1) dX2_isName_40 (by decide) ?_
            refine q_goto 45 dX2_isName_41 (by decide) ?_
            refine q_istore_n dX2_isName_45 (by decide) ?_
            refine q_iload_n dX2_isName_46 rfl ?_
            refine q_if_ne 54 dX2_isName_47 (by decide) (fun c => absurd c (by decide)) (fun _ => ?_)
            refine q_iload_n dX2_isName_50 rfl ?_
            refine q_if_ne 58 dX2_isName_51 (by decide) (fun _ => ?_) (fun c => absurd c (by decide))
            refine q_iconst (v := 0) dX2_isName_58 (by decide) ?_
            exact q_ret (v := q_b false) dX2_isName_59 rfl (q_b_nar false) (q_lfb h k)
        · replace h := q_iff c24 h
          refine q_iconst (v := 1) dX2_isName_27 (by decide) ?_
          refine q_goto 32 dX2_isName_28 (by decide) ?_
          refine q_istore_n dX2_isName_32 (by decide) ?_
          refine q_iload_n dX2_isName_33 rfl ?_
          refine q_bipush (v := 25) dX2_isName_34 (by decide) ?_
          refine q_idiv dX2_isName_36 (by decide) ?_
          refine q_if_eq 44 dX2_isName_37 (by decide) (fun c37 => ?_) (fun c37 => ?_)
          · replace h := q_ift c37 h
            refine q_iconst (v := 0) dX2_isName_44 (by decide) ?_
            refine q_istore_n dX2_isName_45 (by decide) ?_
            refine q_iload_n dX2_isName_46 rfl ?_
            refine q_if_ne 54 dX2_isName_47 (by decide) (fun _ => ?_) (fun c => absurd c (by decide))
            refine q_iconst (v := 1) dX2_isName_54 (by decide) ?_
            refine q_goto 59 dX2_isName_55 (by decide) ?_
            exact q_ret (v := q_b true) dX2_isName_59 rfl (q_b_nar true) (q_lfb h k)
          · replace h := q_iff c37 h
            refine q_iconst (v := 1) dX2_isName_40 (by decide) ?_
            refine q_goto 45 dX2_isName_41 (by decide) ?_
            refine q_istore_n dX2_isName_45 (by decide) ?_
            refine q_iload_n dX2_isName_46 rfl ?_
            refine q_if_ne 54 dX2_isName_47 (by decide) (fun _ => ?_) (fun c => absurd c (by decide))
            refine q_iconst (v := 1) dX2_isName_54 (by decide) ?_
            refine q_goto 59 dX2_isName_55 (by decide) ?_
            exact q_ret (v := q_b true) dX2_isName_59 rfl (q_b_nar true) (q_lfb h k)
      · replace h := q_ift c14 h
        refine q_iconst (v := 0) dX2_isName_17 (by decide) ?_
        exact q_ret (v := q_b false) dX2_isName_18 rfl (q_b_nar false) (q_lfb h k)
def fX2_lastWeight (a1 : Int32) (S : qS) : Option Int32 := if 5 ≤ a1 then if 25 ≤ a1 then some 25 else some 5 else some 1
set_option maxHeartbeats 4000000 in
set_option maxRecDepth 100000 in
theorem sX2_lastWeight {l : Launch} {d : Nat} (hd : 0 ≤ d) {S : qS} {a1 : Int32} {r : Int32} (h : fX2_lastWeight a1 S = some r) {Q : Int32 → qS → Prop} (k : Q r S) : q_Mi l d yX2_lastWeight cX2_lastWeight 1 (some .int) [.inl a1] S Q := by
  refine q_Mi_of (own := RX2) rfl rfl [some (.inl a1)] rfl (Nat.le_of_ble_eq_true rfl) ?_
  unfold fX2_lastWeight at h
  refine q_iload_n dX2_lastWeight_0 rfl ?_
  refine q_iconst (v := 5) dX2_lastWeight_1 (by decide) ?_
  refine q_icmp_ge 7 dX2_lastWeight_2 (by decide) (fun c2 => ?_) (fun c2 => ?_)
  · replace h := q_ift c2 h
    refine q_iload_n dX2_lastWeight_7 rfl ?_
    refine q_bipush (v := 25) dX2_lastWeight_8 (by decide) ?_
    refine q_icmp_ge 17 dX2_lastWeight_10 (by decide) (fun c10 => ?_) (fun c10 => ?_)
    · replace h := q_ift c10 h
      refine q_bipush (v := 25) dX2_lastWeight_17 (by decide) ?_
      exact q_ret dX2_lastWeight_19 rfl rfl (q_lfi h k)
    · replace h := q_iff c10 h
      refine q_iconst (v := 5) dX2_lastWeight_13 (by decide) ?_
      refine q_goto 19 dX2_lastWeight_14 (by decide) ?_
      exact q_ret dX2_lastWeight_19 rfl rfl (q_lfi h k)
  · replace h := q_iff c2 h
    refine q_iconst (v := 1) dX2_lastWeight_5 (by decide) ?_
    exact q_ret dX2_lastWeight_6 rfl rfl (q_lfi h k)
def fX2_isPattern (a1 : Int32) (S : qS) : Option Bool := (fX2_lastWeight a1 S).bind (fun r3 => if a1 < (4 * r3) then some false else some true)
set_option maxHeartbeats 4000000 in
set_option maxRecDepth 100000 in
theorem sX2_isPattern {l : Launch} {d : Nat} (hd : 1 ≤ d) {S : qS} {a1 : Int32} {r : Bool} (h : fX2_isPattern a1 S = some r) {Q : Int32 → qS → Prop} (k : Q (q_b r) S) : q_Mi l d yX2_isPattern cX2_isPattern 1 (some .boolean) [.inl a1] S Q := by
  refine q_Mi_of (own := RX2) rfl rfl [some (.inl a1)] rfl (Nat.le_of_ble_eq_true rfl) ?_
  unfold fX2_isPattern at h
  refine q_iload_n dX2_isPattern_0 rfl ?_
  refine q_iconst (v := 4) dX2_isPattern_1 (by decide) ?_
  refine q_iload_n dX2_isPattern_2 rfl ?_
  obtain ⟨r3, h3, h⟩ := q_bnd h
  refine q_callSi1 dX2_isPattern_3 cl_X2_9 (Nat.le_of_ble_eq_true rfl) (by omega) (sX2_lastWeight (by omega) h3 ?_)
  refine q_imul dX2_isPattern_6 ?_
  refine q_icmp_lt 14 dX2_isPattern_7 (by decide) (fun c7 => ?_) (fun c7 => ?_)
  · replace h := q_ift c7 h
    refine q_iconst (v := 0) dX2_isPattern_14 (by decide) ?_
    exact q_ret (v := q_b false) dX2_isPattern_15 rfl (q_b_nar false) (q_lfb h k)
  · replace h := q_iff c7 h
    refine q_iconst (v := 1) dX2_isPattern_10 (by decide) ?_
    refine q_goto 15 dX2_isPattern_11 (by decide) ?_
    exact q_ret (v := q_b true) dX2_isPattern_15 rfl (q_b_nar true) (q_lfb h k)
def fX2_patternFor (a1 : Int32) (S : qS) : Option Int32 := (fX2_lastWeight a1 S).bind (fun r1 => if r1 = 0 then none else some ((a1 - a1 / r1 * r1) + (4 * r1)))
set_option maxHeartbeats 4000000 in
set_option maxRecDepth 100000 in
theorem sX2_patternFor {l : Launch} {d : Nat} (hd : 1 ≤ d) {S : qS} {a1 : Int32} {r : Int32} (h : fX2_patternFor a1 S = some r) {Q : Int32 → qS → Prop} (k : Q r S) : q_Mi l d yX2_patternFor cX2_patternFor 2 (some .int) [.inl a1] S Q := by
  refine q_Mi_of (own := RX2) rfl rfl [some (.inl a1), none] rfl (Nat.le_of_ble_eq_true rfl) ?_
  unfold fX2_patternFor at h
  refine q_iload_n dX2_patternFor_0 rfl ?_
  obtain ⟨r1, h1, h⟩ := q_bnd h
  refine q_callSi1 dX2_patternFor_1 cl_X2_9 (Nat.le_of_ble_eq_true rfl) (by omega) (sX2_lastWeight (by omega) h1 ?_)
  refine q_istore_n dX2_patternFor_4 (by decide) ?_
  refine q_iload_n dX2_patternFor_5 rfl ?_
  refine q_iload_n dX2_patternFor_6 rfl ?_
  obtain ⟨g7, h⟩ := q_gz h
  refine q_irem dX2_patternFor_7 g7 ?_
  refine q_iconst (v := 4) dX2_patternFor_8 (by decide) ?_
  refine q_iload_n dX2_patternFor_9 rfl ?_
  refine q_imul dX2_patternFor_10 ?_
  refine q_iadd dX2_patternFor_11 ?_
  exact q_ret dX2_patternFor_12 rfl rfl (q_lfi h k)
def fX2_isAt (a1 a2 : Int32) (S : qS) : Option Bool := if 5 ≤ a2 then if 25 ≤ a2 then if a1 = a2 then some true else some false else if (a1 - a1 / 25 * 25) = a2 then some true else some false else if (a1 - a1 / 5 * 5) = a2 then some true else some false
set_option maxHeartbeats 4000000 in
set_option maxRecDepth 100000 in
theorem sX2_isAt {l : Launch} {d : Nat} (hd : 0 ≤ d) {S : qS} {a1 a2 : Int32} {r : Bool} (h : fX2_isAt a1 a2 S = some r) {Q : Int32 → qS → Prop} (k : Q (q_b r) S) : q_Mi l d yX2_isAt cX2_isAt 2 (some .boolean) [.inl a1, .inl a2] S Q := by
  refine q_Mi_of (own := RX2) rfl rfl [some (.inl a1), some (.inl a2)] rfl (Nat.le_of_ble_eq_true rfl) ?_
  unfold fX2_isAt at h
  refine q_iload_n dX2_isAt_0 rfl ?_
  refine q_iconst (v := 5) dX2_isAt_1 (by decide) ?_
  refine q_icmp_ge 18 dX2_isAt_2 (by decide) (fun c2 => ?_) (fun c2 => ?_)
  · replace h := q_ift c2 h
    refine q_iload_n dX2_isAt_18 rfl ?_
    refine q_bipush (v := 25) dX2_isAt_19 (by decide) ?_
    refine q_icmp_ge 40 dX2_isAt_21 (by decide) (fun c21 => ?_) (fun c21 => ?_)
    · replace h := q_ift c21 h
      refine q_iload_n dX2_isAt_40 rfl ?_
      refine q_iload_n dX2_isAt_41 rfl ?_
      refine q_icmp_ne 49 dX2_isAt_42 (by decide) (fun c42 => ?_) (fun c42 => ?_)
      · replace h := q_iff c42 h
        refine q_iconst (v := 0) dX2_isAt_49 (by decide) ?_
        exact q_ret (v := q_b false) dX2_isAt_50 rfl (q_b_nar false) (q_lfb h k)
      · replace h := q_ift c42 h
        refine q_iconst (v := 1) dX2_isAt_45 (by decide) ?_
        refine q_goto 50 dX2_isAt_46 (by decide) ?_
        exact q_ret (v := q_b true) dX2_isAt_50 rfl (q_b_nar true) (q_lfb h k)
    · replace h := q_iff c21 h
      refine q_iload_n dX2_isAt_24 rfl ?_
      refine q_bipush (v := 25) dX2_isAt_25 (by decide) ?_
      refine q_irem dX2_isAt_27 (by decide) ?_
      refine q_iload_n dX2_isAt_28 rfl ?_
      refine q_icmp_ne 36 dX2_isAt_29 (by decide) (fun c29 => ?_) (fun c29 => ?_)
      · replace h := q_iff c29 h
        refine q_iconst (v := 0) dX2_isAt_36 (by decide) ?_
        refine q_goto 50 dX2_isAt_37 (by decide) ?_
        exact q_ret (v := q_b false) dX2_isAt_50 rfl (q_b_nar false) (q_lfb h k)
      · replace h := q_ift c29 h
        refine q_iconst (v := 1) dX2_isAt_32 (by decide) ?_
        refine q_goto 50 dX2_isAt_33 (by decide) ?_
        exact q_ret (v := q_b true) dX2_isAt_50 rfl (q_b_nar true) (q_lfb h k)
  · replace h := q_iff c2 h
    refine q_iload_n dX2_isAt_5 rfl ?_
    refine q_iconst (v := 5) dX2_isAt_6 (by decide) ?_
    refine q_irem dX2_isAt_7 (by decide) ?_
    refine q_iload_n dX2_isAt_8 rfl ?_
    refine q_icmp_ne 16 dX2_isAt_9 (by decide) (fun c9 => ?_) (fun c9 => ?_)
    · replace h := q_iff c9 h
      refine q_iconst (v := 0) dX2_isAt_16 (by decide) ?_
      exact q_ret (v := q_b false) dX2_isAt_17 rfl (q_b_nar false) (q_lfb h k)
    · replace h := q_ift c9 h
      refine q_iconst (v := 1) dX2_isAt_12 (by decide) ?_
      refine q_goto 17 dX2_isAt_13 (by decide) ?_
      exact q_ret (v := q_b true) dX2_isAt_17 rfl (q_b_nar true) (q_lfb h k)
def fX2_isBelow (a1 a2 : Int32) (S : qS) : Option Bool := if a1 = a2 then some false else (fX2_isAt a1 a2 S).bind (fun r7 => if r7 = true then some true else some false)
set_option maxHeartbeats 4000000 in
set_option maxRecDepth 100000 in
theorem sX2_isBelow {l : Launch} {d : Nat} (hd : 1 ≤ d) {S : qS} {a1 a2 : Int32} {r : Bool} (h : fX2_isBelow a1 a2 S = some r) {Q : Int32 → qS → Prop} (k : Q (q_b r) S) : q_Mi l d yX2_isBelow cX2_isBelow 2 (some .boolean) [.inl a1, .inl a2] S Q := by
  refine q_Mi_of (own := RX2) rfl rfl [some (.inl a1), some (.inl a2)] rfl (Nat.le_of_ble_eq_true rfl) ?_
  unfold fX2_isBelow at h
  refine q_iload_n dX2_isBelow_0 rfl ?_
  refine q_iload_n dX2_isBelow_1 rfl ?_
  refine q_icmp_eq 17 dX2_isBelow_2 (by decide) (fun c2 => ?_) (fun c2 => ?_)
  · replace h := q_ift c2 h
    refine q_iconst (v := 0) dX2_isBelow_17 (by decide) ?_
    exact q_ret (v := q_b false) dX2_isBelow_18 rfl (q_b_nar false) (q_lfb h k)
  · replace h := q_iff c2 h
    refine q_iload_n dX2_isBelow_5 rfl ?_
    refine q_iload_n dX2_isBelow_6 rfl ?_
    obtain ⟨r7, h7, h⟩ := q_bnd h
    refine q_callSi2 dX2_isBelow_7 cl_X2_13 (Nat.le_of_ble_eq_true rfl) (by omega) (sX2_isAt (by omega) h7 ?_)
    refine q_if_eq_b 17 dX2_isBelow_10 (by decide) (fun c10 => ?_) (fun c10 => ?_)
    · replace h := q_ifb c10 h
      refine q_iconst (v := 0) dX2_isBelow_17 (by decide) ?_
      exact q_ret (v := q_b false) dX2_isBelow_18 rfl (q_b_nar false) (q_lfb h k)
    · replace h := q_ift c10 h
      refine q_iconst (v := 1) dX2_isBelow_13 (by decide) ?_
      refine q_goto 18 dX2_isBelow_14 (by decide) ?_
      exact q_ret (v := q_b true) dX2_isBelow_18 rfl (q_b_nar true) (q_lfb h k)
def fX2_isLonger (a1 a2 : Int32) (S : qS) : Option Bool := (fX2_lastWeight a1 S).bind (fun r1 => (fX2_lastWeight a2 S).bind (fun r5 => if r1 ≤ r5 then some false else some true))
set_option maxHeartbeats 4000000 in
set_option maxRecDepth 100000 in
theorem sX2_isLonger {l : Launch} {d : Nat} (hd : 1 ≤ d) {S : qS} {a1 a2 : Int32} {r : Bool} (h : fX2_isLonger a1 a2 S = some r) {Q : Int32 → qS → Prop} (k : Q (q_b r) S) : q_Mi l d yX2_isLonger cX2_isLonger 2 (some .boolean) [.inl a1, .inl a2] S Q := by
  refine q_Mi_of (own := RX2) rfl rfl [some (.inl a1), some (.inl a2)] rfl (Nat.le_of_ble_eq_true rfl) ?_
  unfold fX2_isLonger at h
  refine q_iload_n dX2_isLonger_0 rfl ?_
  obtain ⟨r1, h1, h⟩ := q_bnd h
  refine q_callSi1 dX2_isLonger_1 cl_X2_9 (Nat.le_of_ble_eq_true rfl) (by omega) (sX2_lastWeight (by omega) h1 ?_)
  refine q_iload_n dX2_isLonger_4 rfl ?_
  obtain ⟨r5, h5, h⟩ := q_bnd h
  refine q_callSi1 dX2_isLonger_5 cl_X2_9 (Nat.le_of_ble_eq_true rfl) (by omega) (sX2_lastWeight (by omega) h5 ?_)
  refine q_icmp_le 15 dX2_isLonger_8 (by decide) (fun c8 => ?_) (fun c8 => ?_)
  · replace h := q_ift c8 h
    refine q_iconst (v := 0) dX2_isLonger_15 (by decide) ?_
    exact q_ret (v := q_b false) dX2_isLonger_16 rfl (q_b_nar false) (q_lfb h k)
  · replace h := q_iff c8 h
    refine q_iconst (v := 1) dX2_isLonger_11 (by decide) ?_
    refine q_goto 16 dX2_isLonger_12 (by decide) ?_
    exact q_ret (v := q_b true) dX2_isLonger_16 rfl (q_b_nar true) (q_lfb h k)
def fX5_isFull_2 (S : qS) : Option Bool := if (S 2 3) < (S 2 2) then some false else some true
set_option maxHeartbeats 4000000 in
set_option maxRecDepth 100000 in
theorem sX5_isFull_2 {l : Launch} {d : Nat} (hd : 0 ≤ d) {S : qS} {r : Bool} (h : fX5_isFull_2 S = some r) {Q : Int32 → qS → Prop} (k : Q (q_b r) S) : q_Mi l d yX5_isFull cX5_isFull 1 (some .boolean) [.inr 2] S Q := by
  refine q_Mi_of (own := RX5) rfl rfl [some (.inr 2)] rfl (Nat.le_of_ble_eq_true rfl) ?_
  unfold fX5_isFull_2 at h
  refine q_aload_n dX5_isFull_0 rfl ?_
  refine q_geti dX5_isFull_1 fl_X5_28 rfl rfl ?_
  refine q_aload_n dX5_isFull_4 rfl ?_
  refine q_geti dX5_isFull_5 fl_X5_15 rfl rfl ?_
  refine q_icmp_lt 15 dX5_isFull_8 (by decide) (fun c8 => ?_) (fun c8 => ?_)
  · replace h := q_ift c8 h
    refine q_iconst (v := 0) dX5_isFull_15 (by decide) ?_
    exact q_ret (v := q_b false) dX5_isFull_16 rfl (q_b_nar false) (q_lfb h k)
  · replace h := q_iff c8 h
    refine q_iconst (v := 1) dX5_isFull_11 (by decide) ?_
    refine q_goto 16 dX5_isFull_12 (by decide) ?_
    exact q_ret (v := q_b true) dX5_isFull_16 rfl (q_b_nar true) (q_lfb h k)
def fX5_isFull_10 (S : qS) : Option Bool := if (S 10 3) < (S 10 2) then some false else some true
set_option maxHeartbeats 4000000 in
set_option maxRecDepth 100000 in
theorem sX5_isFull_10 {l : Launch} {d : Nat} (hd : 0 ≤ d) {S : qS} {r : Bool} (h : fX5_isFull_10 S = some r) {Q : Int32 → qS → Prop} (k : Q (q_b r) S) : q_Mi l d yX5_isFull cX5_isFull 1 (some .boolean) [.inr 10] S Q := by
  refine q_Mi_of (own := RX5) rfl rfl [some (.inr 10)] rfl (Nat.le_of_ble_eq_true rfl) ?_
  unfold fX5_isFull_10 at h
  refine q_aload_n dX5_isFull_0 rfl ?_
  refine q_geti dX5_isFull_1 fl_X5_28 rfl rfl ?_
  refine q_aload_n dX5_isFull_4 rfl ?_
  refine q_geti dX5_isFull_5 fl_X5_15 rfl rfl ?_
  refine q_icmp_lt 15 dX5_isFull_8 (by decide) (fun c8 => ?_) (fun c8 => ?_)
  · replace h := q_ift c8 h
    refine q_iconst (v := 0) dX5_isFull_15 (by decide) ?_
    exact q_ret (v := q_b false) dX5_isFull_16 rfl (q_b_nar false) (q_lfb h k)
  · replace h := q_iff c8 h
    refine q_iconst (v := 1) dX5_isFull_11 (by decide) ?_
    refine q_goto 16 dX5_isFull_12 (by decide) ?_
    exact q_ret (v := q_b true) dX5_isFull_16 rfl (q_b_nar true) (q_lfb h k)
def fX5_isFull_16 (S : qS) : Option Bool := if (S 16 3) < (S 16 2) then some false else some true
set_option maxHeartbeats 4000000 in
set_option maxRecDepth 100000 in
theorem sX5_isFull_16 {l : Launch} {d : Nat} (hd : 0 ≤ d) {S : qS} {r : Bool} (h : fX5_isFull_16 S = some r) {Q : Int32 → qS → Prop} (k : Q (q_b r) S) : q_Mi l d yX5_isFull cX5_isFull 1 (some .boolean) [.inr 16] S Q := by
  refine q_Mi_of (own := RX5) rfl rfl [some (.inr 16)] rfl (Nat.le_of_ble_eq_true rfl) ?_
  unfold fX5_isFull_16 at h
  refine q_aload_n dX5_isFull_0 rfl ?_
  refine q_geti dX5_isFull_1 fl_X5_28 rfl rfl ?_
  refine q_aload_n dX5_isFull_4 rfl ?_
  refine q_geti dX5_isFull_5 fl_X5_15 rfl rfl ?_
  refine q_icmp_lt 15 dX5_isFull_8 (by decide) (fun c8 => ?_) (fun c8 => ?_)
  · replace h := q_ift c8 h
    refine q_iconst (v := 0) dX5_isFull_15 (by decide) ?_
    exact q_ret (v := q_b false) dX5_isFull_16 rfl (q_b_nar false) (q_lfb h k)
  · replace h := q_iff c8 h
    refine q_iconst (v := 1) dX5_isFull_11 (by decide) ?_
    refine q_goto 16 dX5_isFull_12 (by decide) ?_
    exact q_ret (v := q_b true) dX5_isFull_16 rfl (q_b_nar true) (q_lfb h k)
def fX5_hasRoomFor_2 (a1 : Int32) (S : qS) : Option Bool := if ((S 2 2) - (S 2 3)) < a1 then some false else some true
set_option maxHeartbeats 4000000 in
set_option maxRecDepth 100000 in
theorem sX5_hasRoomFor_2 {l : Launch} {d : Nat} (hd : 0 ≤ d) {S : qS} {a1 : Int32} {r : Bool} (h : fX5_hasRoomFor_2 a1 S = some r) {Q : Int32 → qS → Prop} (k : Q (q_b r) S) : q_Mi l d yX5_hasRoomFor cX5_hasRoomFor 2 (some .boolean) [.inr 2, .inl a1] S Q := by
  refine q_Mi_of (own := RX5) rfl rfl [some (.inr 2), some (.inl a1)] rfl (Nat.le_of_ble_eq_true rfl) ?_
  unfold fX5_hasRoomFor_2 at h
  refine q_iload_n dX5_hasRoomFor_0 rfl ?_
  refine q_aload_n dX5_hasRoomFor_1 rfl ?_
  refine q_geti dX5_hasRoomFor_2 fl_X5_15 rfl rfl ?_
  refine q_aload_n dX5_hasRoomFor_5 rfl ?_
  refine q_geti dX5_hasRoomFor_6 fl_X5_28 rfl rfl ?_
  refine q_isub dX5_hasRoomFor_9 ?_
  refine q_icmp_gt 17 dX5_hasRoomFor_10 (by decide) (fun c10 => ?_) (fun c10 => ?_)
  · replace h := q_ift c10 h
    refine q_iconst (v := 0) dX5_hasRoomFor_17 (by decide) ?_
    exact q_ret (v := q_b false) dX5_hasRoomFor_18 rfl (q_b_nar false) (q_lfb h k)
  · replace h := q_iff c10 h
    refine q_iconst (v := 1) dX5_hasRoomFor_13 (by decide) ?_
    refine q_goto 18 dX5_hasRoomFor_14 (by decide) ?_
    exact q_ret (v := q_b true) dX5_hasRoomFor_18 rfl (q_b_nar true) (q_lfb h k)
def fX5_hasRoomFor_10 (a1 : Int32) (S : qS) : Option Bool := if ((S 10 2) - (S 10 3)) < a1 then some false else some true
set_option maxHeartbeats 4000000 in
set_option maxRecDepth 100000 in
theorem sX5_hasRoomFor_10 {l : Launch} {d : Nat} (hd : 0 ≤ d) {S : qS} {a1 : Int32} {r : Bool} (h : fX5_hasRoomFor_10 a1 S = some r) {Q : Int32 → qS → Prop} (k : Q (q_b r) S) : q_Mi l d yX5_hasRoomFor cX5_hasRoomFor 2 (some .boolean) [.inr 10, .inl a1] S Q := by
  refine q_Mi_of (own := RX5) rfl rfl [some (.inr 10), some (.inl a1)] rfl (Nat.le_of_ble_eq_true rfl) ?_
  unfold fX5_hasRoomFor_10 at h
  refine q_iload_n dX5_hasRoomFor_0 rfl ?_
  refine q_aload_n dX5_hasRoomFor_1 rfl ?_
  refine q_geti dX5_hasRoomFor_2 fl_X5_15 rfl rfl ?_
  refine q_aload_n dX5_hasRoomFor_5 rfl ?_
  refine q_geti dX5_hasRoomFor_6 fl_X5_28 rfl rfl ?_
  refine q_isub dX5_hasRoomFor_9 ?_
  refine q_icmp_gt 17 dX5_hasRoomFor_10 (by decide) (fun c10 => ?_) (fun c10 => ?_)
  · replace h := q_ift c10 h
    refine q_iconst (v := 0) dX5_hasRoomFor_17 (by decide) ?_
    exact q_ret (v := q_b false) dX5_hasRoomFor_18 rfl (q_b_nar false) (q_lfb h k)
  · replace h := q_iff c10 h
    refine q_iconst (v := 1) dX5_hasRoomFor_13 (by decide) ?_
    refine q_goto 18 dX5_hasRoomFor_14 (by decide) ?_
    exact q_ret (v := q_b true) dX5_hasRoomFor_18 rfl (q_b_nar true) (q_lfb h k)
def fX5_hasRoomFor_16 (a1 : Int32) (S : qS) : Option Bool := if ((S 16 2) - (S 16 3)) < a1 then some false else some true
set_option maxHeartbeats 4000000 in
set_option maxRecDepth 100000 in
theorem sX5_hasRoomFor_16 {l : Launch} {d : Nat} (hd : 0 ≤ d) {S : qS} {a1 : Int32} {r : Bool} (h : fX5_hasRoomFor_16 a1 S = some r) {Q : Int32 → qS → Prop} (k : Q (q_b r) S) : q_Mi l d yX5_hasRoomFor cX5_hasRoomFor 2 (some .boolean) [.inr 16, .inl a1] S Q := by
  refine q_Mi_of (own := RX5) rfl rfl [some (.inr 16), some (.inl a1)] rfl (Nat.le_of_ble_eq_true rfl) ?_
  unfold fX5_hasRoomFor_16 at h
  refine q_iload_n dX5_hasRoomFor_0 rfl ?_
  refine q_aload_n dX5_hasRoomFor_1 rfl ?_
  refine q_geti dX5_hasRoomFor_2 fl_X5_15 rfl rfl ?_
  refine q_aload_n dX5_hasRoomFor_5 rfl ?_
  refine q_geti dX5_hasRoomFor_6 fl_X5_28 rfl rfl ?_
  refine q_isub dX5_hasRoomFor_9 ?_
  refine q_icmp_gt 17 dX5_hasRoomFor_10 (by decide) (fun c10 => ?_) (fun c10 => ?_)
  · replace h := q_ift c10 h
    refine q_iconst (v := 0) dX5_hasRoomFor_17 (by decide) ?_
    exact q_ret (v := q_b false) dX5_hasRoomFor_18 rfl (q_b_nar false) (q_lfb h k)
  · replace h := q_iff c10 h
    refine q_iconst (v := 1) dX5_hasRoomFor_13 (by decide) ?_
    refine q_goto 18 dX5_hasRoomFor_14 (by decide) ?_
    exact q_ret (v := q_b true) dX5_hasRoomFor_18 rfl (q_b_nar true) (q_lfb h k)
def fX5_isMade_2 (a1 : Int32) (S : qS) : Option Bool := if a1 < 0 then some false else if (S 2 3) ≤ a1 then some false else some true
set_option maxHeartbeats 4000000 in
set_option maxRecDepth 100000 in
theorem sX5_isMade_2 {l : Launch} {d : Nat} (hd : 0 ≤ d) {S : qS} {a1 : Int32} {r : Bool} (h : fX5_isMade_2 a1 S = some r) {Q : Int32 → qS → Prop} (k : Q (q_b r) S) : q_Mi l d yX5_isMade cX5_isMade 2 (some .boolean) [.inr 2, .inl a1] S Q := by
  refine q_Mi_of (own := RX5) rfl rfl [some (.inr 2), some (.inl a1)] rfl (Nat.le_of_ble_eq_true rfl) ?_
  unfold fX5_isMade_2 at h
  refine q_iload_n dX5_isMade_0 rfl ?_
  refine q_if_lt 16 dX5_isMade_1 (by decide) (fun c1 => ?_) (fun c1 => ?_)
  · replace h := q_ift c1 h
    refine q_iconst (v := 0) dX5_isMade_16 (by decide) ?_
    exact q_ret (v := q_b false) dX5_isMade_17 rfl (q_b_nar false) (q_lfb h k)
  · replace h := q_iff c1 h
    refine q_iload_n dX5_isMade_4 rfl ?_
    refine q_aload_n dX5_isMade_5 rfl ?_
    refine q_geti dX5_isMade_6 fl_X5_28 rfl rfl ?_
    refine q_icmp_ge 16 dX5_isMade_9 (by decide) (fun c9 => ?_) (fun c9 => ?_)
    · replace h := q_ift c9 h
      refine q_iconst (v := 0) dX5_isMade_16 (by decide) ?_
      exact q_ret (v := q_b false) dX5_isMade_17 rfl (q_b_nar false) (q_lfb h k)
    · replace h := q_iff c9 h
      refine q_iconst (v := 1) dX5_isMade_12 (by decide) ?_
      refine q_goto 17 dX5_isMade_13 (by decide) ?_
      exact q_ret (v := q_b true) dX5_isMade_17 rfl (q_b_nar true) (q_lfb h k)
def fX5_isMade_10 (a1 : Int32) (S : qS) : Option Bool := if a1 < 0 then some false else if (S 10 3) ≤ a1 then some false else some true
set_option maxHeartbeats 4000000 in
set_option maxRecDepth 100000 in
theorem sX5_isMade_10 {l : Launch} {d : Nat} (hd : 0 ≤ d) {S : qS} {a1 : Int32} {r : Bool} (h : fX5_isMade_10 a1 S = some r) {Q : Int32 → qS → Prop} (k : Q (q_b r) S) : q_Mi l d yX5_isMade cX5_isMade 2 (some .boolean) [.inr 10, .inl a1] S Q := by
  refine q_Mi_of (own := RX5) rfl rfl [some (.inr 10), some (.inl a1)] rfl (Nat.le_of_ble_eq_true rfl) ?_
  unfold fX5_isMade_10 at h
  refine q_iload_n dX5_isMade_0 rfl ?_
  refine q_if_lt 16 dX5_isMade_1 (by decide) (fun c1 => ?_) (fun c1 => ?_)
  · replace h := q_ift c1 h
    refine q_iconst (v := 0) dX5_isMade_16 (by decide) ?_
    exact q_ret (v := q_b false) dX5_isMade_17 rfl (q_b_nar false) (q_lfb h k)
  · replace h := q_iff c1 h
    refine q_iload_n dX5_isMade_4 rfl ?_
    refine q_aload_n dX5_isMade_5 rfl ?_
    refine q_geti dX5_isMade_6 fl_X5_28 rfl rfl ?_
    refine q_icmp_ge 16 dX5_isMade_9 (by decide) (fun c9 => ?_) (fun c9 => ?_)
    · replace h := q_ift c9 h
      refine q_iconst (v := 0) dX5_isMade_16 (by decide) ?_
      exact q_ret (v := q_b false) dX5_isMade_17 rfl (q_b_nar false) (q_lfb h k)
    · replace h := q_iff c9 h
      refine q_iconst (v := 1) dX5_isMade_12 (by decide) ?_
      refine q_goto 17 dX5_isMade_13 (by decide) ?_
      exact q_ret (v := q_b true) dX5_isMade_17 rfl (q_b_nar true) (q_lfb h k)
def fX5_isMade_16 (a1 : Int32) (S : qS) : Option Bool := if a1 < 0 then some false else if (S 16 3) ≤ a1 then some false else some true
set_option maxHeartbeats 4000000 in
set_option maxRecDepth 100000 in
theorem sX5_isMade_16 {l : Launch} {d : Nat} (hd : 0 ≤ d) {S : qS} {a1 : Int32} {r : Bool} (h : fX5_isMade_16 a1 S = some r) {Q : Int32 → qS → Prop} (k : Q (q_b r) S) : q_Mi l d yX5_isMade cX5_isMade 2 (some .boolean) [.inr 16, .inl a1] S Q := by
  refine q_Mi_of (own := RX5) rfl rfl [some (.inr 16), some (.inl a1)] rfl (Nat.le_of_ble_eq_true rfl) ?_
  unfold fX5_isMade_16 at h
  refine q_iload_n dX5_isMade_0 rfl ?_
  refine q_if_lt 16 dX5_isMade_1 (by decide) (fun c1 => ?_) (fun c1 => ?_)
  · replace h := q_ift c1 h
    refine q_iconst (v := 0) dX5_isMade_16 (by decide) ?_
    exact q_ret (v := q_b false) dX5_isMade_17 rfl (q_b_nar false) (q_lfb h k)
  · replace h := q_iff c1 h
    refine q_iload_n dX5_isMade_4 rfl ?_
    refine q_aload_n dX5_isMade_5 rfl ?_
    refine q_geti dX5_isMade_6 fl_X5_28 rfl rfl ?_
    refine q_icmp_ge 16 dX5_isMade_9 (by decide) (fun c9 => ?_) (fun c9 => ?_)
    · replace h := q_ift c9 h
      refine q_iconst (v := 0) dX5_isMade_16 (by decide) ?_
      exact q_ret (v := q_b false) dX5_isMade_17 rfl (q_b_nar false) (q_lfb h k)
    · replace h := q_iff c9 h
      refine q_iconst (v := 1) dX5_isMade_12 (by decide) ?_
      refine q_goto 17 dX5_isMade_13 (by decide) ?_
      exact q_ret (v := q_b true) dX5_isMade_17 rfl (q_b_nar true) (q_lfb h k)
def fX5_isThere_2 (a1 a2 : Int32) (S : qS) : Option Bool := if a1 < 0 then some false else if (S 2 3) ≤ a1 then some false else if q_inb a1 10 = true then if a2 < (S 3 a1.toNatClampNeg) then some false else if q_inb a1 10 = true then if (S 4 a1.toNatClampNeg) ≤ a2 then some false else some true else none else none
set_option maxHeartbeats 4000000 in
set_option maxRecDepth 100000 in
theorem sX5_isThere_2 {l : Launch} {d : Nat} (hd : 0 ≤ d) {S : qS} {a1 a2 : Int32} {r : Bool} (h : fX5_isThere_2 a1 a2 S = some r) {Q : Int32 → qS → Prop} (k : Q (q_b r) S) : q_Mi l d yX5_isThere cX5_isThere 3 (some .boolean) [.inr 2, .inl a1, .inl a2] S Q := by
  refine q_Mi_of (own := RX5) rfl rfl [some (.inr 2), some (.inl a1), some (.inl a2)] rfl (Nat.le_of_ble_eq_true rfl) ?_
  unfold fX5_isThere_2 at h
  refine q_iload_n dX5_isThere_0 rfl ?_
  refine q_if_lt 36 dX5_isThere_1 (by decide) (fun c1 => ?_) (fun c1 => ?_)
  · replace h := q_ift c1 h
    refine q_iconst (v := 0) dX5_isThere_36 (by decide) ?_
    exact q_ret (v := q_b false) dX5_isThere_37 rfl (q_b_nar false) (q_lfb h k)
  · replace h := q_iff c1 h
    refine q_iload_n dX5_isThere_4 rfl ?_
    refine q_aload_n dX5_isThere_5 rfl ?_
    refine q_geti dX5_isThere_6 fl_X5_28 rfl rfl ?_
    refine q_icmp_ge 36 dX5_isThere_9 (by decide) (fun c9 => ?_) (fun c9 => ?_)
    · replace h := q_ift c9 h
      refine q_iconst (v := 0) dX5_isThere_36 (by decide) ?_
      exact q_ret (v := q_b false) dX5_isThere_37 rfl (q_b_nar false) (q_lfb h k)
    · replace h := q_iff c9 h
      refine q_aload_n dX5_isThere_12 rfl ?_
      refine q_getr dX5_isThere_13 fl_X5_21 rfl rfl ?_
      refine q_iload_n dX5_isThere_16 rfl ?_
      obtain ⟨g17, h⟩ := q_gd h
      refine q_iald dX5_isThere_17 rfl g17 ?_
      refine q_iload_n dX5_isThere_18 rfl ?_
      refine q_icmp_gt 36 dX5_isThere_19 (by decide) (fun c19 => ?_) (fun c19 => ?_)
      · replace h := q_ift c19 h
        refine q_iconst (v := 0) dX5_isThere_36 (by decide) ?_
        exact q_ret (v := q_b false) dX5_isThere_37 rfl (q_b_nar false) (q_lfb h k)
      · replace h := q_iff c19 h
        refine q_iload_n dX5_isThere_22 rfl ?_
        refine q_aload_n dX5_isThere_23 rfl ?_
        refine q_getr dX5_isThere_24 fl_X5_25 rfl rfl ?_
        refine q_iload_n dX5_isThere_27 rfl ?_
        obtain ⟨g28, h⟩ := q_gd h
        refine q_iald dX5_isThere_28 rfl g28 ?_
        refine q_icmp_ge 36 dX5_isThere_29 (by decide) (fun c29 => ?_) (fun c29 => ?_)
        · replace h := q_ift c29 h
          refine q_iconst (v := 0) dX5_isThere_36 (by decide) ?_
          exact q_ret (v := q_b false) dX5_isThere_37 rfl (q_b_nar false) (q_lfb h k)
        · replace h := q_iff c29 h
          refine q_iconst (v := 1) dX5_isThere_32 (by decide) ?_
          refine q_goto 37 dX5_isThere_33 (by decide) ?_
          exact q_ret (v := q_b true) dX5_isThere_37 rfl (q_b_nar true) (q_lfb h k)
def fX5_isThere_10 (a1 a2 : Int32) (S : qS) : Option Bool := if a1 < 0 then some false else if (S 10 3) ≤ a1 then some false else if q_inb a1 10 = true then if a2 < (S 11 a1.toNatClampNeg) then some false else if q_inb a1 10 = true then if (S 12 a1.toNatClampNeg) ≤ a2 then some false else some true else none else none
set_option maxHeartbeats 4000000 in
set_option maxRecDepth 100000 in
theorem sX5_isThere_10 {l : Launch} {d : Nat} (hd : 0 ≤ d) {S : qS} {a1 a2 : Int32} {r : Bool} (h : fX5_isThere_10 a1 a2 S = some r) {Q : Int32 → qS → Prop} (k : Q (q_b r) S) : q_Mi l d yX5_isThere cX5_isThere 3 (some .boolean) [.inr 10, .inl a1, .inl a2] S Q := by
  refine q_Mi_of (own := RX5) rfl rfl [some (.inr 10), some (.inl a1), some (.inl a2)] rfl (Nat.le_of_ble_eq_true rfl) ?_
  unfold fX5_isThere_10 at h
  refine q_iload_n dX5_isThere_0 rfl ?_
  refine q_if_lt 36 dX5_isThere_1 (by decide) (fun c1 => ?_) (fun c1 => ?_)
  · replace h := q_ift c1 h
    refine q_iconst (v := 0) dX5_isThere_36 (by decide) ?_
    exact q_ret (v := q_b false) dX5_isThere_37 rfl (q_b_nar false) (q_lfb h k)
  · replace h := q_iff c1 h
    refine q_iload_n dX5_isThere_4 rfl ?_
    refine q_aload_n dX5_isThere_5 rfl ?_
    refine q_geti dX5_isThere_6 fl_X5_28 rfl rfl ?_
    refine q_icmp_ge 36 dX5_isThere_9 (by decide) (fun c9 => ?_) (fun c9 => ?_)
    · replace h := q_ift c9 h
      refine q_iconst (v := 0) dX5_isThere_36 (by decide) ?_
      exact q_ret (v := q_b false) dX5_isThere_37 rfl (q_b_nar false) (q_lfb h k)
    · replace h := q_iff c9 h
      refine q_aload_n dX5_isThere_12 rfl ?_
      refine q_getr dX5_isThere_13 fl_X5_21 rfl rfl ?_
      refine q_iload_n dX5_isThere_16 rfl ?_
      obtain ⟨g17, h⟩ := q_gd h
      refine q_iald dX5_isThere_17 rfl g17 ?_
      refine q_iload_n dX5_isThere_18 rfl ?_
      refine q_icmp_gt 36 dX5_isThere_19 (by decide) (fun c19 => ?_) (fun c19 => ?_)
      · replace h := q_ift c19 h
        refine q_iconst (v := 0) dX5_isThere_36 (by decide) ?_
        exact q_ret (v := q_b false) dX5_isThere_37 rfl (q_b_nar false) (q_lfb h k)
      · replace h := q_iff c19 h
        refine q_iload_n dX5_isThere_22 rfl ?_
        refine q_aload_n dX5_isThere_23 rfl ?_
        refine q_getr dX5_isThere_24 fl_X5_25 rfl rfl ?_
        refine q_iload_n dX5_isThere_27 rfl ?_
        obtain ⟨g28, h⟩ := q_gd h
        refine q_iald dX5_isThere_28 rfl g28 ?_
        refine q_icmp_ge 36 dX5_isThere_29 (by decide) (fun c29 => ?_) (fun c29 => ?_)
        · replace h := q_ift c29 h
          refine q_iconst (v := 0) dX5_isThere_36 (by decide) ?_
          exact q_ret (v := q_b false) dX5_isThere_37 rfl (q_b_nar false) (q_lfb h k)
        · replace h := q_iff c29 h
          refine q_iconst (v := 1) dX5_isThere_32 (by decide) ?_
          refine q_goto 37 dX5_isThere_33 (by decide) ?_
          exact q_ret (v := q_b true) dX5_isThere_37 rfl (q_b_nar true) (q_lfb h k)
def fX5_isThere_16 (a1 a2 : Int32) (S : qS) : Option Bool := if a1 < 0 then some false else if (S 16 3) ≤ a1 then some false else if q_inb a1 70 = true then if a2 < (S 17 a1.toNatClampNeg) then some false else if q_inb a1 70 = true then if (S 18 a1.toNatClampNeg) ≤ a2 then some false else some true else none else none
set_option maxHeartbeats 4000000 in
set_option maxRecDepth 100000 in
theorem sX5_isThere_16 {l : Launch} {d : Nat} (hd : 0 ≤ d) {S : qS} {a1 a2 : Int32} {r : Bool} (h : fX5_isThere_16 a1 a2 S = some r) {Q : Int32 → qS → Prop} (k : Q (q_b r) S) : q_Mi l d yX5_isThere cX5_isThere 3 (some .boolean) [.inr 16, .inl a1, .inl a2] S Q := by
  refine q_Mi_of (own := RX5) rfl rfl [some (.inr 16), some (.inl a1), some (.inl a2)] rfl (Nat.le_of_ble_eq_true rfl) ?_
  unfold fX5_isThere_16 at h
  refine q_iload_n dX5_isThere_0 rfl ?_
  refine q_if_lt 36 dX5_isThere_1 (by decide) (fun c1 => ?_) (fun c1 => ?_)
  · replace h := q_ift c1 h
    refine q_iconst (v := 0) dX5_isThere_36 (by decide) ?_
    exact q_ret (v := q_b false) dX5_isThere_37 rfl (q_b_nar false) (q_lfb h k)
  · replace h := q_iff c1 h
    refine q_iload_n dX5_isThere_4 rfl ?_
    refine q_aload_n dX5_isThere_5 rfl ?_
    refine q_geti dX5_isThere_6 fl_X5_28 rfl rfl ?_
    refine q_icmp_ge 36 dX5_isThere_9 (by decide) (fun c9 => ?_) (fun c9 => ?_)
    · replace h := q_ift c9 h
      refine q_iconst (v := 0) dX5_isThere_36 (by decide) ?_
      exact q_ret (v := q_b false) dX5_isThere_37 rfl (q_b_nar false) (q_lfb h k)
    · replace h := q_iff c9 h
      refine q_aload_n dX5_isThere_12 rfl ?_
      refine q_getr dX5_isThere_13 fl_X5_21 rfl rfl ?_
      refine q_iload_n dX5_isThere_16 rfl ?_
      obtain ⟨g17, h⟩ := q_gd h
      refine q_iald dX5_isThere_17 rfl g17 ?_
      refine q_iload_n dX5_isThere_18 rfl ?_
      refine q_icmp_gt 36 dX5_isThere_19 (by decide) (fun c19 => ?_) (fun c19 => ?_)
      · replace h := q_ift c19 h
        refine q_iconst (v := 0) dX5_isThere_36 (by decide) ?_
        exact q_ret (v := q_b false) dX5_isThere_37 rfl (q_b_nar false) (q_lfb h k)
      · replace h := q_iff c19 h
        refine q_iload_n dX5_isThere_22 rfl ?_
        refine q_aload_n dX5_isThere_23 rfl ?_
        refine q_getr dX5_isThere_24 fl_X5_25 rfl rfl ?_
        refine q_iload_n dX5_isThere_27 rfl ?_
        obtain ⟨g28, h⟩ := q_gd h
        refine q_iald dX5_isThere_28 rfl g28 ?_
        refine q_icmp_ge 36 dX5_isThere_29 (by decide) (fun c29 => ?_) (fun c29 => ?_)
        · replace h := q_ift c29 h
          refine q_iconst (v := 0) dX5_isThere_36 (by decide) ?_
          exact q_ret (v := q_b false) dX5_isThere_37 rfl (q_b_nar false) (q_lfb h k)
        · replace h := q_iff c29 h
          refine q_iconst (v := 1) dX5_isThere_32 (by decide) ?_
          refine q_goto 37 dX5_isThere_33 (by decide) ?_
          exact q_ret (v := q_b true) dX5_isThere_37 rfl (q_b_nar true) (q_lfb h k)
