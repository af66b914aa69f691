def fX9_answer (a1 a2 a3 a4 : Int32) (S : qS) : Option (Int32 × qS) := (fX9_isAddress a1 S).bind (fun r1 => if r1 = true then (fX9_isQuestion 0 a2 a3 S).bind (fun r11 => if r11 = true then (fX9_isTick a4 S).bind (fun r20 => if r20 = true then (fX9_viewAt a1 a4 S).bind (fun r33 => (fX9_finds r33 a2 a3 a4 S).bind (fun (r40, T40) => some (r40, T40))) else some ((-1), S)) else some ((-1), S)) else some ((-1), S))
set_option maxHeartbeats 4000000 in
set_option maxRecDepth 100000 in
theorem sX9_answer {l : Launch} {d : Nat} (hd : 5 ≤ d) {S : qS} {a1 a2 a3 a4 : Int32} {r : Int32} {S' : qS} (h : fX9_answer a1 a2 a3 a4 S = some (r, S')) {Q : Int32 → qS → Prop} (k : Q r S') : q_Mi l d yX9_answer cX9_answer 5 (some .int) [.inr 34, .inl a1, .inl a2, .inl a3, .inl a4] S Q := by
  refine q_Mi_of (own := RX9) rfl rfl [some (.inr 34), some (.inl a1), some (.inl a2), some (.inl a3), some (.inl a4)] rfl (Nat.le_of_ble_eq_true rfl) ?_
  unfold fX9_answer at h
  refine q_iload_n dX9_answer_0 rfl ?_
  obtain ⟨r1, h1, h⟩ := q_bnd h
  refine q_callSi1 dX9_answer_1 cl_X9_54 (Nat.le_of_ble_eq_true rfl) (by omega) (sX9_isAddress (by omega) h1 ?_)
  refine q_if_eq_b 26 dX9_answer_4 (by decide) (fun c4 => ?_) (fun c4 => ?_)
  · replace h := q_ifb c4 h
    refine q_iconst (v := (-1)) dX9_answer_26 (by decide) ?_
    exact q_ret dX9_answer_27 rfl rfl (q_lfiw h k)
  · replace h := q_ift c4 h
    refine q_aload_n dX9_answer_7 rfl ?_
    refine q_iconst (v := 0) dX9_answer_8 (by decide) ?_
    refine q_iload_n dX9_answer_9 rfl ?_
    refine q_iload_n dX9_answer_10 rfl ?_
    obtain ⟨r11, h11, h⟩ := q_bnd h
    refine q_callVi3 dX9_answer_11 cl_X9_139 rfl (Nat.le_of_ble_eq_true rfl) (by omega) (sX9_isQuestion (by omega) h11 ?_)
    refine q_if_eq_b 26 dX9_answer_14 (by decide) (fun c14 => ?_) (fun c14 => ?_)
    · replace h := q_ifb c14 h
      refine q_iconst (v := (-1)) dX9_answer_26 (by decide) ?_
      exact q_ret dX9_answer_27 rfl rfl (q_lfiw h k)
    · replace h := q_ift c14 h
      refine q_aload_n dX9_answer_17 rfl ?_
      refine q_iload dX9_answer_18 rfl ?_
      obtain ⟨r20, h20, h⟩ := q_bnd h
      refine q_callVi1 dX9_answer_20 cl_X9_64 rfl (Nat.le_of_ble_eq_true rfl) (by omega) (sX9_isTick (by omega) h20 ?_)
      refine q_if_ne_b 28 dX9_answer_23 (by decide) (fun c23 => ?_) (fun c23 => ?_)
      · replace h := q_ift c23 h
        refine q_aload_n dX9_answer_28 rfl ?_
        refine q_aload_n dX9_answer_29 rfl ?_
        refine q_iload_n dX9_answer_30 rfl ?_
        refine q_iload dX9_answer_31 rfl ?_
        obtain ⟨r33, h33, h⟩ := q_bnd h
        refine q_callVi2 dX9_answer_33 cl_X9_67 rfl (Nat.le_of_ble_eq_true rfl) (by omega) (sX9_viewAt (by omega) h33 ?_)
        refine q_iload_n dX9_answer_36 rfl ?_
        refine q_iload_n dX9_answer_37 rfl ?_
        refine q_iload dX9_answer_38 rfl ?_
        obtain ⟨⟨r40, T40⟩, h40, h⟩ := q_bnd h
        dsimp only at h
        refine q_callVi4 dX9_answer_40 cl_X9_142 rfl (Nat.le_of_ble_eq_true rfl) (by omega) (sX9_finds (by omega) h40 ?_)
        exact q_ret dX9_answer_43 rfl rfl (q_lfiw h k)
      · replace h := q_ifb c23 h
        refine q_iconst (v := (-1)) dX9_answer_26 (by decide) ?_
        exact q_ret dX9_answer_27 rfl rfl (q_lfiw h k)
def fX9_viewAnswer (a1 a2 a3 a4 : Int32) (S : qS) : Option (Int32 × qS) := (fX9_isQuestion a1 a2 a3 S).bind (fun r4 => if r4 = true then (fX9_isTick a4 S).bind (fun r13 => if r13 = true then (fX9_finds a1 a2 a3 a4 S).bind (fun (r25, T25) => some (r25, T25)) else some ((-1), S)) else some ((-1), S))
set_option maxHeartbeats 4000000 in
set_option maxRecDepth 100000 in
theorem sX9_viewAnswer {l : Launch} {d : Nat} (hd : 5 ≤ d) {S : qS} {a1 a2 a3 a4 : Int32} {r : Int32} {S' : qS} (h : fX9_viewAnswer a1 a2 a3 a4 S = some (r, S')) {Q : Int32 → qS → Prop} (k : Q r S') : q_Mi l d yX9_viewAnswer cX9_viewAnswer 5 (some .int) [.inr 34, .inl a1, .inl a2, .inl a3, .inl a4] S Q := by
  refine q_Mi_of (own := RX9) rfl rfl [some (.inr 34), some (.inl a1), some (.inl a2), some (.inl a3), some (.inl a4)] rfl (Nat.le_of_ble_eq_true rfl) ?_
  unfold fX9_viewAnswer at h
  refine q_aload_n dX9_viewAnswer_0 rfl ?_
  refine q_iload_n dX9_viewAnswer_1 rfl ?_
  refine q_iload_n dX9_viewAnswer_2 rfl ?_
  refine q_iload_n dX9_viewAnswer_3 rfl ?_
  obtain ⟨r4, h4, h⟩ := q_bnd h
  refine q_callVi3 dX9_viewAnswer_4 cl_X9_139 rfl (Nat.le_of_ble_eq_true rfl) (by omega) (sX9_isQuestion (by omega) h4 ?_)
  refine q_if_eq_b 31 dX9_viewAnswer_7 (by decide) (fun c7 => ?_) (fun c7 => ?_)
  · replace h := q_ifb c7 h
    refine q_iconst (v := (-1)) dX9_viewAnswer_31 (by decide) ?_
    exact q_ret dX9_viewAnswer_32 rfl rfl (q_lfiw h k)
  · replace h := q_ift c7 h
    refine q_aload_n dX9_viewAnswer_10 rfl ?_
    refine q_iload dX9_viewAnswer_11 rfl ?_
    obtain ⟨r13, h13, h⟩ := q_bnd h
    refine q_callVi1 dX9_viewAnswer_13 cl_X9_64 rfl (Nat.le_of_ble_eq_true rfl) (by omega) (sX9_isTick (by omega) h13 ?_)
    refine q_if_eq_b 31 dX9_viewAnswer_16 (by decide) (fun c16 => ?_) (fun c16 => ?_)
    · replace h := q_ifb c16 h
      refine q_iconst (v := (-1)) dX9_viewAnswer_31 (by decide) ?_
      exact q_ret dX9_viewAnswer_32 rfl rfl (q_lfiw h k)
    · replace h := q_ift c16 h
      refine q_aload_n dX9_viewAnswer_19 rfl ?_
      refine q_iload_n dX9_viewAnswer_20 rfl ?_
      refine q_iload_n dX9_viewAnswer_21 rfl ?_
      refine q_iload_n dX9_viewAnswer_22 rfl ?_
      refine q_iload dX9_viewAnswer_23 rfl ?_
      obtain ⟨⟨r25, T25⟩, h25, h⟩ := q_bnd h
      dsimp only at h
      refine q_callVi4 dX9_viewAnswer_25 cl_X9_142 rfl (Nat.le_of_ble_eq_true rfl) (by omega) (sX9_finds (by omega) h25 ?_)
      refine q_goto 32 dX9_viewAnswer_28 (by decide) ?_
      exact q_ret dX9_viewAnswer_32 rfl rfl (q_lfiw h k)
def fX9_zoneFor (a1 a2 a3 : Int32) (S : qS) : Option Int32 := (fX9_isQuestion a1 a2 0 S).bind (fun r4 => if r4 = true then (fX9_isTick a3 S).bind (fun r12 => if r12 = true then (fX9_responsible a1 a2 a3 S).bind (fun r22 => some r22) else some (-1)) else some (-1))
set_option maxHeartbeats 4000000 in
set_option maxRecDepth 100000 in
theorem sX9_zoneFor {l : Launch} {d : Nat} (hd : 3 ≤ d) {S : qS} {a1 a2 a3 : Int32} {r : Int32} (h : fX9_zoneFor a1 a2 a3 S = some r) {Q : Int32 → qS → Prop} (k : Q r S) : q_Mi l d yX9_zoneFor cX9_zoneFor 4 (some .int) [.inr 34, .inl a1, .inl a2, .inl a3] S Q := by
  refine q_Mi_of (own := RX9) rfl rfl [some (.inr 34), some (.inl a1), some (.inl a2), some (.inl a3)] rfl (Nat.le_of_ble_eq_true rfl) ?_
  unfold fX9_zoneFor at h
  refine q_aload_n dX9_zoneFor_0 rfl ?_
  refine q_iload_n dX9_zoneFor_1 rfl ?_
  refine q_iload_n dX9_zoneFor_2 rfl ?_
  refine q_iconst (v := 0) dX9_zoneFor_3 (by decide) ?_
  obtain ⟨r4, h4, h⟩ := q_bnd h
  refine q_callVi3 dX9_zoneFor_4 cl_X9_139 rfl (Nat.le_of_ble_eq_true rfl) (by omega) (sX9_isQuestion (by omega) h4 ?_)
  refine q_if_eq_b 28 dX9_zoneFor_7 (by decide) (fun c7 => ?_) (fun c7 => ?_)
  · replace h := q_ifb c7 h
    refine q_iconst (v := (-1)) dX9_zoneFor_28 (by decide) ?_
    exact q_ret dX9_zoneFor_29 rfl rfl (q_lfi h k)
  · replace h := q_ift c7 h
    refine q_aload_n dX9_zoneFor_10 rfl ?_
    refine q_iload_n dX9_zoneFor_11 rfl ?_
    obtain ⟨r12, h12, h⟩ := q_bnd h
    refine q_callVi1 dX9_zoneFor_12 cl_X9_64 rfl (Nat.le_of_ble_eq_true rfl) (by omega) (sX9_isTick (by omega) h12 ?_)
    refine q_if_eq_b 28 dX9_zoneFor_15 (by decide) (fun c15 => ?_) (fun c15 => ?_)
    · replace h := q_ifb c15 h
      refine q_iconst (v := (-1)) dX9_zoneFor_28 (by decide) ?_
      exact q_ret dX9_zoneFor_29 rfl rfl (q_lfi h k)
    · replace h := q_ift c15 h
      refine q_aload_n dX9_zoneFor_18 rfl ?_
      refine q_iload_n dX9_zoneFor_19 rfl ?_
      refine q_iload_n dX9_zoneFor_20 rfl ?_
      refine q_iload_n dX9_zoneFor_21 rfl ?_
      obtain ⟨r22, h22, h⟩ := q_bnd h
      refine q_callVi3 dX9_zoneFor_22 cl_X9_126 rfl (Nat.le_of_ble_eq_true rfl) (by omega) (sX9_responsible (by omega) h22 ?_)
      refine q_goto 29 dX9_zoneFor_25 (by decide) ?_
      exact q_ret dX9_zoneFor_29 rfl rfl (q_lfi h k)
def fX9_source (a1 a2 a3 a4 : Int32) (S : qS) : Option (Int32 × qS) := (fX9_isQuestion a1 a2 a3 S).bind (fun r4 => if r4 = true then (fX9_isTick a4 S).bind (fun r13 => if r13 = true then (fX9_finds a1 a2 a3 a4 S).bind (fun (r27, T27) => if 0 ≤ r27 then some ((T27 34 13), T27) else some ((-4), T27)) else some ((-1), S)) else some ((-1), S))
set_option maxHeartbeats 4000000 in
set_option maxRecDepth 100000 in
theorem sX9_source {l : Launch} {d : Nat} (hd : 5 ≤ d) {S : qS} {a1 a2 a3 a4 : Int32} {r : Int32} {S' : qS} (h : fX9_source a1 a2 a3 a4 S = some (r, S')) {Q : Int32 → qS → Prop} (k : Q r S') : q_Mi l d yX9_source cX9_source 5 (some .int) [.inr 34, .inl a1, .inl a2, .inl a3, .inl a4] S Q := by
  refine q_Mi_of (own := RX9) rfl rfl [some (.inr 34), some (.inl a1), some (.inl a2), some (.inl a3), some (.inl a4)] rfl (Nat.le_of_ble_eq_true rfl) ?_
  unfold fX9_source at h
  refine q_aload_n dX9_source_0 rfl ?_
  refine q_iload_n dX9_source_1 rfl ?_
  refine q_iload_n dX9_source_2 rfl ?_
  refine q_iload_n dX9_source_3 rfl ?_
  obtain ⟨r4, h4, h⟩ := q_bnd h
  refine q_callVi3 dX9_source_4 cl_X9_139 rfl (Nat.le_of_ble_eq_true rfl) (by omega) (sX9_isQuestion (by omega) h4 ?_)
  refine q_if_eq_b 19 dX9_source_7 (by decide) (fun c7 => ?_) (fun c7 => ?_)
  · replace h := q_ifb c7 h
    refine q_iconst (v := (-1)) dX9_source_19 (by decide) ?_
    exact q_ret dX9_source_20 rfl rfl (q_lfiw h k)
  · replace h := q_ift c7 h
    refine q_aload_n dX9_source_10 rfl ?_
    refine q_iload dX9_source_11 rfl ?_
    obtain ⟨r13, h13, h⟩ := q_bnd h
    refine q_callVi1 dX9_source_13 cl_X9_64 rfl (Nat.le_of_ble_eq_true rfl) (by omega) (sX9_isTick (by omega) h13 ?_)
    refine q_if_ne_b 21 dX9_source_16 (by decide) (fun c16 => ?_) (fun c16 => ?_)
    · replace h := q_ift c16 h
      refine q_aload_n dX9_source_21 rfl ?_
      refine q_iload_n dX9_source_22 rfl ?_
      refine q_iload_n dX9_source_23 rfl ?_
      refine q_iload_n dX9_source_24 rfl ?_
      refine q_iload dX9_source_25 rfl ?_
      obtain ⟨⟨r27, T27⟩, h27, h⟩ := q_bnd h
      dsimp only at h
      refine q_callVi4 dX9_source_27 cl_X9_142 rfl (Nat.le_of_ble_eq_true rfl) (by omega) (sX9_finds (by omega) h27 ?_)
      refine q_if_ge 38 dX9_source_30 (by decide) (fun c30 => ?_) (fun c30 => ?_)
      · replace h := q_ift c30 h
        refine q_aload_n dX9_source_38 rfl ?_
        refine q_geti dX9_source_39 fl_X9_130 rfl rfl ?_
        exact q_ret dX9_source_42 rfl rfl (q_lfiw h k)
      · replace h := q_iff c30 h
        refine q_bipush (v := (-4)) dX9_source_33 (by decide) ?_
        refine q_goto 42 dX9_source_35 (by decide) ?_
        exact q_ret dX9_source_42 rfl rfl (q_lfiw h k)
    · replace h := q_ifb c16 h
      refine q_iconst (v := (-1)) dX9_source_19 (by decide) ?_
      exact q_ret dX9_source_20 rfl rfl (q_lfiw h k)
def fX9_parts_6 (p1 p2 p3 p4 p5 p6 : Int32) : Nat → Int32 → Int32 → qS → Option (Int32 × qS)
  | 0, _, _, _ => none
  | n + 1, v7, v8, S => if 124 < v8 then if 0 ≤ p6 then some ((-4), S) else some (v7, S) else (fX9_isName v8 S).bind (fun r15 => if r15 = true then (fX9_finds p1 v8 p3 p4 S).bind (fun (r28, T28) => (fX9_finds p2 v8 p3 p5 T28).bind (fun (r38, T38) => if r28 = r38 then fX9_parts_6 p1 p2 p3 p4 p5 p6 n v7 (v8 + 1) T38 else if v7 = p6 then some (v8, T38) else fX9_parts_6 p1 p2 p3 p4 p5 p6 n (v7 + 1) (v8 + 1) T38)) else fX9_parts_6 p1 p2 p3 p4 p5 p6 n v7 (v8 + 1) S)
set_option maxHeartbeats 4000000 in
set_option maxRecDepth 100000 in
theorem sX9_parts_6 {l : Launch} {d : Nat} (hd : 5 ≤ d) {p1 p2 p3 p4 p5 p6 : Int32} {r : Int32} {S' : qS} {Q : Int32 → qS → Prop} (k : Q r S') : ∀ (n : Nat) (v7 : Int32) (v8 : Int32) (S : qS), fX9_parts_6 p1 p2 p3 p4 p5 p6 n v7 v8 S = some (r, S') → q_E l cX9_parts 9 (some .int) RX9 d S 6 [some (.inr 34), some (.inl p1), some (.inl p2), some (.inl p3), some (.inl p4), some (.inl p5), some (.inl p6), some (.inl v7), some (.inl v8)] [] (q_Qi Q) := by
  intro n
  induction n with
  | zero => intro v7 v8 S h; exact q_no h
  | succ n ih =>
    intro v7 v8 S h
    rw [fX9_parts_6] at h
    refine q_iload dX9_parts_6 rfl ?_
    refine q_bipush (v := 124) dX9_parts_8 (by decide) ?_
    refine q_icmp_gt 63 dX9_parts_10 (by decide) (fun c10 => ?_) (fun c10 => ?_)
    · replace h := q_ift c10 h
      refine q_iload dX9_parts_63 rfl ?_
      refine q_if_ge 73 dX9_parts_65 (by decide) (fun c65 => ?_) (fun c65 => ?_)
      · replace h := q_ift c65 h
        refine q_bipush (v := (-4)) dX9_parts_73 (by decide) ?_
        exact q_ret dX9_parts_75 rfl rfl (q_lfiw h k)
      · replace h := q_iff c65 h
        refine q_iload dX9_parts_68 rfl ?_
        refine q_goto 75 dX9_parts_70 (by decide) ?_
        exact q_ret dX9_parts_75 rfl rfl (q_lfiw h k)
    · replace h := q_iff c10 h
      refine q_iload dX9_parts_13 rfl ?_
      obtain ⟨r15, h15, h⟩ := q_bnd h
      refine q_callSi1 dX9_parts_15 cl_X9_76 (Nat.le_of_ble_eq_true rfl) (by omega) (sX9_isName (by omega) h15 ?_)
      refine q_if_eq_b 57 dX9_parts_18 (by decide) (fun c18 => ?_) (fun c18 => ?_)
      · replace h := q_ifb c18 h
        refine q_iinc (v := (v8 + 1)) dX9_parts_57 rfl rfl (by decide) ?_
        refine q_goto 6 dX9_parts_60 (by decide) ?_
        exact q_sub (ih _ _ _ h) (And.intro rfl (And.intro rfl (And.intro rfl (And.intro rfl (And.intro rfl (And.intro rfl (And.intro rfl (And.intro rfl (And.intro rfl trivial)))))))))
      · replace h := q_ift c18 h
        refine q_aload_n dX9_parts_21 rfl ?_
        refine q_iload_n dX9_parts_22 rfl ?_
        refine q_iload dX9_parts_23 rfl ?_
        refine q_iload_n dX9_parts_25 rfl ?_
        refine q_iload dX9_parts_26 rfl ?_
        obtain ⟨⟨r28, T28⟩, h28, h⟩ := q_bnd h
        dsimp only at h
        refine q_callVi4 dX9_parts_28 cl_X9_142 rfl (Nat.le_of_ble_eq_true rfl) (by omega) (sX9_finds (by omega) h28 ?_)
        refine q_aload_n dX9_parts_31 rfl ?_
        refine q_iload_n dX9_parts_32 rfl ?_
        refine q_iload dX9_parts_33 rfl ?_
        refine q_iload_n dX9_parts_35 rfl ?_
        refine q_iload dX9_parts_36 rfl ?_
        obtain ⟨⟨r38, T38⟩, h38, h⟩ := q_bnd h
        dsimp only at h
        refine q_callVi4 dX9_parts_38 cl_X9_142 rfl (Nat.le_of_ble_eq_true rfl) (by omega) (sX9_finds (by omega) h38 ?_)
        refine q_icmp_eq 57 dX9_parts_41 (by decide) (fun c41 => ?_) (fun c41 => ?_)
        · replace h := q_ift c41 h
          refine q_iinc (v := (v8 + 1)) dX9_parts_57 rfl rfl (by decide) ?_
          refine q_goto 6 dX9_parts_60 (by decide) ?_
          exact q_sub (ih _ _ _ h) (And.intro rfl (And.intro rfl (And.intro rfl (And.intro rfl (And.intro rfl (And.intro rfl (And.intro rfl (And.intro rfl (And.intro rfl trivial)))))))))
        · replace h := q_iff c41 h
          refine q_iload dX9_parts_44 rfl ?_
          refine q_iload dX9_parts_46 rfl ?_
          refine q_icmp_ne 54 dX9_parts_48 (by decide) (fun c48 => ?_) (fun c48 => ?_)
          · replace h := q_iff c48 h
            refine q_iinc (v := (v7 + 1)) dX9_parts_54 rfl rfl (by decide) ?_
            refine q_iinc (v := (v8 + 1)) dX9_parts_57 rfl rfl (by decide) ?_
            refine q_goto 6 dX9_parts_60 (by decide) ?_
            exact q_sub (ih _ _ _ h) (And.intro rfl (And.intro rfl (And.intro rfl (And.intro rfl (And.intro rfl (And.intro rfl (And.intro rfl (And.intro rfl (And.intro rfl trivial)))))))))
          · replace h := q_ift c48 h
            refine q_iload dX9_parts_51 rfl ?_
            exact q_ret dX9_parts_53 rfl rfl (q_lfiw h k)
def fX9_parts (a1 a2 a3 a4 a5 a6 : Int32) (S : qS) : Option (Int32 × qS) := fX9_parts_6 a1 a2 a3 a4 a5 a6 20000 0 1 S
set_option maxHeartbeats 4000000 in
set_option maxRecDepth 100000 in
theorem sX9_parts {l : Launch} {d : Nat} (hd : 5 ≤ d) {S : qS} {a1 a2 a3 a4 a5 a6 : Int32} {r : Int32} {S' : qS} (h : fX9_parts a1 a2 a3 a4 a5 a6 S = some (r, S')) {Q : Int32 → qS → Prop} (k : Q r S') : q_Mi l d yX9_parts cX9_parts 9 (some .int) [.inr 34, .inl a1, .inl a2, .inl a3, .inl a4, .inl a5, .inl a6] S Q := by
  refine q_Mi_of (own := RX9) rfl rfl [some (.inr 34), some (.inl a1), some (.inl a2), some (.inl a3), some (.inl a4), some (.inl a5), some (.inl a6), none, none] rfl (Nat.le_of_ble_eq_true rfl) ?_
  unfold fX9_parts at h
  refine q_iconst (v := 0) dX9_parts_0 (by decide) ?_
  refine q_istore dX9_parts_1 (by decide) ?_
  refine q_iconst (v := 1) dX9_parts_3 (by decide) ?_
  refine q_istore dX9_parts_4 (by decide) ?_
  exact q_sub (sX9_parts_6 hd k 20000 _ _ _ h) (And.intro rfl (And.intro rfl (And.intro rfl (And.intro rfl (And.intro rfl (And.intro rfl (And.intro rfl (And.intro rfl (And.intro rfl trivial)))))))))
def fX9_differences (a1 a2 a3 a4 : Int32) (S : qS) : Option (Int32 × qS) := (fX9_isView a1 S).bind (fun r1 => if r1 = true then (fX9_isType a2 S).bind (fun r8 => if r8 = true then (fX9_isTick a3 S).bind (fun r16 => if r16 = true then (fX9_isTick a4 S).bind (fun r25 => if r25 = true then (fX9_parts a1 a1 a2 a3 a4 (-1) S).bind (fun (r41, T41) => some (r41, T41)) else some ((-1), S)) else some ((-1), S)) else some ((-1), S)) else some ((-1), S))
set_option maxHeartbeats 4000000 in
set_option maxRecDepth 100000 in
theorem sX9_differences {l : Launch} {d : Nat} (hd : 6 ≤ d) {S : qS} {a1 a2 a3 a4 : Int32} {r : Int32} {S' : qS} (h : fX9_differences a1 a2 a3 a4 S = some (r, S')) {Q : Int32 → qS → Prop} (k : Q r S') : q_Mi l d yX9_differences cX9_differences 5 (some .int) [.inr 34, .inl a1, .inl a2, .inl a3, .inl a4] S Q := by
  refine q_Mi_of (own := RX9) rfl rfl [some (.inr 34), some (.inl a1), some (.inl a2), some (.inl a3), some (.inl a4)] rfl (Nat.le_of_ble_eq_true rfl) ?_
  unfold fX9_differences at h
  refine q_iload_n dX9_differences_0 rfl ?_
  obtain ⟨r1, h1, h⟩ := q_bnd h
  refine q_callSi1 dX9_differences_1 cl_X9_73 (Nat.le_of_ble_eq_true rfl) (by omega) (sX9_isView (by omega) h1 ?_)
  refine q_if_eq_b 31 dX9_differences_4 (by decide) (fun c4 => ?_) (fun c4 => ?_)
  · replace h := q_ifb c4 h
    refine q_iconst (v := (-1)) dX9_differences_31 (by decide) ?_
    exact q_ret dX9_differences_32 rfl rfl (q_lfiw h k)
  · replace h := q_ift c4 h
    refine q_iload_n dX9_differences_7 rfl ?_
    obtain ⟨r8, h8, h⟩ := q_bnd h
    refine q_callSi1 dX9_differences_8 cl_X9_113 (Nat.le_of_ble_eq_true rfl) (by omega) (sX9_isType (by omega) h8 ?_)
    refine q_if_eq_b 31 dX9_differences_11 (by decide) (fun c11 => ?_) (fun c11 => ?_)
    · replace h := q_ifb c11 h
      refine q_iconst (v := (-1)) dX9_differences_31 (by decide) ?_
      exact q_ret dX9_differences_32 rfl rfl (q_lfiw h k)
    · replace h := q_ift c11 h
      refine q_aload_n dX9_differences_14 rfl ?_
      refine q_iload_n dX9_differences_15 rfl ?_
      obtain ⟨r16, h16, h⟩ := q_bnd h
      refine q_callVi1 dX9_differences_16 cl_X9_64 rfl (Nat.le_of_ble_eq_true rfl) (by omega) (sX9_isTick (by omega) h16 ?_)
      refine q_if_eq_b 31 dX9_differences_19 (by decide) (fun c19 => ?_) (fun c19 => ?_)
      · replace h := q_ifb c19 h
        refine q_iconst (v := (-1)) dX9_differences_31 (by decide) ?_
        exact q_ret dX9_differences_32 rfl rfl (q_lfiw h k)
      · replace h := q_ift c19 h
        refine q_aload_n dX9_differences_22 rfl ?_
        refine q_iload dX9_differences_23 rfl ?_
        obtain ⟨r25, h25, h⟩ := q_bnd h
        refine q_callVi1 dX9_differences_25 cl_X9_64 rfl (Nat.le_of_ble_eq_true rfl) (by omega) (sX9_isTick (by omega) h25 ?_)
        refine q_if_ne_b 33 dX9_differences_28 (by decide) (fun c28 => ?_) (fun c28 => ?_)
        · replace h := q_ift c28 h
          refine q_aload_n dX9_differences_33 rfl ?_
          refine q_iload_n dX9_differences_34 rfl ?_
          refine q_iload_n dX9_differences_35 rfl ?_
          refine q_iload_n dX9_differences_36 rfl ?_
          refine q_iload_n dX9_differences_37 rfl ?_
          refine q_iload dX9_differences_38 rfl ?_
          refine q_iconst (v := (-1)) dX9_differences_40 (by decide) ?_
          obtain ⟨⟨r41, T41⟩, h41, h⟩ := q_bnd h
          dsimp only at h
          refine q_callVi6 dX9_differences_41 cl_X9_145 rfl (Nat.le_of_ble_eq_true rfl) (by omega) (sX9_parts (by omega) h41 ?_)
          exact q_ret dX9_differences_44 rfl rfl (q_lfiw h k)
        · replace h := q_ifb c28 h
          refine q_iconst (v := (-1)) dX9_differences_31 (by decide) ?_
          exact q_ret dX9_differences_32 rfl rfl (q_lfiw h k)
def fX9_difference (a1 a2 a3 a4 a5 : Int32) (S : qS) : Option (Int32 × qS) := (fX9_isView a1 S).bind (fun r1 => if r1 = true then (fX9_isType a2 S).bind (fun r8 => if r8 = true then (fX9_isTick a3 S).bind (fun r16 => if r16 = true then (fX9_isTick a4 S).bind (fun r25 => if r25 = true then if 0 ≤ a5 then (fX9_parts a1 a1 a2 a3 a4 a5 S).bind (fun (r47, T47) => some (r47, T47)) else some ((-1), S) else some ((-1), S)) else some ((-1), S)) else some ((-1), S)) else some ((-1), S))
set_option maxHeartbeats 4000000 in
set_option maxRecDepth 100000 in
theorem sX9_difference {l : Launch} {d : Nat} (hd : 6 ≤ d) {S : qS} {a1 a2 a3 a4 a5 : Int32} {r : Int32} {S' : qS} (h : fX9_difference a1 a2 a3 a4 a5 S = some (r, S')) {Q : Int32 → qS → Prop} (k : Q r S') : q_Mi l d yX9_difference cX9_difference 6 (some .int) [.inr 34, .inl a1, .inl a2, .inl a3, .inl a4, .inl a5] S Q := by
  refine q_Mi_of (own := RX9) rfl rfl [some (.inr 34), some (.inl a1), some (.inl a2), some (.inl a3), some (.inl a4), some (.inl a5)] rfl (Nat.le_of_ble_eq_true rfl) ?_
  unfold fX9_difference at h
  refine q_iload_n dX9_difference_0 rfl ?_
  obtain ⟨r1, h1, h⟩ := q_bnd h
  refine q_callSi1 dX9_difference_1 cl_X9_73 (Nat.le_of_ble_eq_true rfl) (by omega) (sX9_isView (by omega) h1 ?_)
  refine q_if_eq_b 36 dX9_difference_4 (by decide) (fun c4 => ?_) (fun c4 => ?_)
  · replace h := q_ifb c4 h
    refine q_iconst (v := (-1)) dX9_difference_36 (by decide) ?_
    exact q_ret dX9_difference_37 rfl rfl (q_lfiw h k)
  · replace h := q_ift c4 h
    refine q_iload_n dX9_difference_7 rfl ?_
    obtain ⟨r8, h8, h⟩ := q_bnd h
    refine q_callSi1 dX9_difference_8 cl_X9_113 (Nat.le_of_ble_eq_true rfl) (by omega) (sX9_isType (by omega) h8 ?_)
    refine q_if_eq_b 36 dX9_difference_11 (by decide) (fun c11 => ?_) (fun c11 => ?_)
    · replace h := q_ifb c11 h
      refine q_iconst (v := (-1)) dX9_difference_36 (by decide) ?_
      exact q_ret dX9_difference_37 rfl rfl (q_lfiw h k)
    · replace h := q_ift c11 h
      refine q_aload_n dX9_difference_14 rfl ?_
      refine q_iload_n dX9_difference_15 rfl ?_
      obtain ⟨r16, h16, h⟩ := q_bnd h
      refine q_callVi1 dX9_difference_16 cl_X9_64 rfl (Nat.le_of_ble_eq_true rfl) (by omega) (sX9_isTick (by omega) h16 ?_)
      refine q_if_eq_b 36 dX9_difference_19 (by decide) (fun c19 => ?_) (fun c19 => ?_)
      · replace h := q_ifb c19 h
        refine q_iconst (v := (-1)) dX9_difference_36 (by decide) ?_
        exact q_ret dX9_difference_37 rfl rfl (q_lfiw h k)
      · replace h := q_ift c19 h
        refine q_aload_n dX9_difference_22 rfl ?_
        refine q_iload dX9_difference_23 rfl ?_
        obtain ⟨r25, h25, h⟩ := q_bnd h
        refine q_callVi1 dX9_difference_25 cl_X9_64 rfl (Nat.le_of_ble_eq_true rfl) (by omega) (sX9_isTick (by omega) h25 ?_)
        refine q_if_eq_b 36 dX9_difference_28 (by decide) (fun c28 => ?_) (fun c28 => ?_)
        · replace h := q_ifb c28 h
          refine q_iconst (v := (-1)) dX9_difference_36 (by decide) ?_
          exact q_ret dX9_difference_37 rfl rfl (q_lfiw h k)
        · replace h := q_ift c28 h
          refine q_iload dX9_difference_31 rfl ?_
          refine q_if_ge 38 dX9_difference_33 (by decide) (fun c33 => ?_) (fun c33 => ?_)
          · replace h := q_ift c33 h
            refine q_aload_n dX9_difference_38 rfl ?_
            refine q_iload_n dX9_difference_39 rfl ?_
            refine q_iload_n dX9_difference_40 rfl ?_
            refine q_iload_n dX9_difference_41 rfl ?_
            refine q_iload_n dX9_difference_42 rfl ?_
            refine q_iload dX9_difference_43 rfl ?_
            refine q_iload dX9_difference_45 rfl ?_
            obtain ⟨⟨r47, T47⟩, h47, h⟩ := q_bnd h
            dsimp only at h
            refine q_callVi6 dX9_difference_47 cl_X9_145 rfl (Nat.le_of_ble_eq_true rfl) (by omega) (sX9_parts (by omega) h47 ?_)
            exact q_ret dX9_difference_50 rfl rfl (q_lfiw h k)
          · replace h := q_iff c33 h
            refine q_iconst (v := (-1)) dX9_difference_36 (by decide) ?_
            exact q_ret dX9_difference_37 rfl rfl (q_lfiw h k)
def fX9_split (a1 a2 a3 a4 : Int32) (S : qS) : Option (Int32 × qS) := (fX9_isView a1 S).bind (fun r1 => if r1 = true then (fX9_isView a2 S).bind (fun r8 => if r8 = true then (fX9_isType a3 S).bind (fun r15 => if r15 = true then (fX9_isTick a4 S).bind (fun r24 => if r24 = true then (fX9_parts a1 a2 a3 a4 a4 (-1) S).bind (fun (r41, T41) => some (r41, T41)) else some ((-1), S)) else some ((-1), S)) else some ((-1), S)) else some ((-1), S))
set_option maxHeartbeats 4000000 in
set_option maxRecDepth 100000 in
theorem sX9_split {l : Launch} {d : Nat} (hd : 6 ≤ d) {S : qS} {a1 a2 a3 a4 : Int32} {r : Int32} {S' : qS} (h : fX9_split a1 a2 a3 a4 S = some (r, S')) {Q : Int32 → qS → Prop} (k : Q r S') : q_Mi l d yX9_split cX9_split 5 (some .int) [.inr 34, .inl a1, .inl a2, .inl a3, .inl a4] S Q := by
  refine q_Mi_of (own := RX9) rfl rfl [some (.inr 34), some (.inl a1), some (.inl a2), some (.inl a3), some (.inl a4)] rfl (Nat.le_of_ble_eq_true rfl) ?_
  unfold fX9_split at h
  refine q_iload_n dX9_split_0 rfl ?_
  obtain ⟨r1, h1, h⟩ := q_bnd h
  refine q_callSi1 dX9_split_1 cl_X9_73 (Nat.le_of_ble_eq_true rfl) (by omega) (sX9_isView (by omega) h1 ?_)
  refine q_if_eq_b 30 dX9_split_4 (by decide) (fun c4 => ?_) (fun c4 => ?_)
  · replace h := q_ifb c4 h
    refine q_iconst (v := (-1)) dX9_split_30 (by decide) ?_
    exact q_ret dX9_split_31 rfl rfl (q_lfiw h k)
  · replace h := q_ift c4 h
    refine q_iload_n dX9_split_7 rfl ?_
    obtain ⟨r8, h8, h⟩ := q_bnd h
    refine q_callSi1 dX9_split_8 cl_X9_73 (Nat.le_of_ble_eq_true rfl) (by omega) (sX9_isView (by omega) h8 ?_)
    refine q_if_eq_b 30 dX9_split_11 (by decide) (fun c11 => ?_) (fun c11 => ?_)
    · replace h := q_ifb c11 h
      refine q_iconst (v := (-1)) dX9_split_30 (by decide) ?_
      exact q_ret dX9_split_31 rfl rfl (q_lfiw h k)
    · replace h := q_ift c11 h
      refine q_iload_n dX9_split_14 rfl ?_
      obtain ⟨r15, h15, h⟩ := q_bnd h
      refine q_callSi1 dX9_split_15 cl_X9_113 (Nat.le_of_ble_eq_true rfl) (by omega) (sX9_isType (by omega) h15 ?_)
      refine q_if_eq_b 30 dX9_split_18 (by decide) (fun c18 => ?_) (fun c18 => ?_)
      · replace h := q_ifb c18 h
        refine q_iconst (v := (-1)) dX9_split_30 (by decide) ?_
        exact q_ret dX9_split_31 rfl rfl (q_lfiw h k)
      · replace h := q_ift c18 h
        refine q_aload_n dX9_split_21 rfl ?_
        refine q_iload dX9_split_22 rfl ?_
        obtain ⟨r24, h24, h⟩ := q_bnd h
        refine q_callVi1 dX9_split_24 cl_X9_64 rfl (Nat.le_of_ble_eq_true rfl) (by omega) (sX9_isTick (by omega) h24 ?_)
        refine q_if_ne_b 32 dX9_split_27 (by decide) (fun c27 => ?_) (fun c27 => ?_)
        · replace h := q_ift c27 h
          refine q_aload_n dX9_split_32 rfl ?_
          refine q_iload_n dX9_split_33 rfl ?_
          refine q_iload_n dX9_split_34 rfl ?_
          refine q_iload_n dX9_split_35 rfl ?_
          refine q_iload dX9_split_36 rfl ?_
          refine q_iload dX9_split_38 rfl ?_
          refine q_iconst (v := (-1)) dX9_split_40 (by decide) ?_
          obtain ⟨⟨r41, T41⟩, h41, h⟩ := q_bnd h
          dsimp only at h
          refine q_callVi6 dX9_split_41 cl_X9_145 rfl (Nat.le_of_ble_eq_true rfl) (by omega) (sX9_parts (by omega) h41 ?_)
          exact q_ret dX9_split_44 rfl rfl (q_lfiw h k)
        · replace h := q_ifb c27 h
          refine q_iconst (v := (-1)) dX9_split_30 (by decide) ?_
          exact q_ret dX9_split_31 rfl rfl (q_lfiw h k)
