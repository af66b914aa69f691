def fX8_lay (a1 : Int32) (S : qS) : Option (Int32 × qS) := (fX5_isMade_10 a1 S).bind (fun r8 => if r8 = true then (fX5_isThere_10 a1 (S 0 6) S).bind (fun r28 => if r28 = true then (fX6_read S).bind (fun (r38, T38) => if r38 = (-4) then if q_inb a1 10 = true then (fX6_isAllAt (T38 14 a1.toNatClampNeg) T38).bind (fun r59 => if r59 = true then (fX5_hasRoomFor_16 (T38 29 5) T38).bind (fun r82 => if r82 = true then (fX8_layChanges a1 T38).bind (fun T93 => (fX4_countIn a1 (T93 0 6) T93).bind (fun r105 => some (r105, T93))) else some ((-3), T38)) else some ((-2), T38)) else none else some ((-2), T38)) else some ((-2), S)) else some ((-1), S))
set_option maxHeartbeats 4000000 in
set_option maxRecDepth 100000 in
theorem sX8_lay {l : Launch} {d : Nat} (hd : 5 ≤ d) {S : qS} {a1 : Int32} {r : Int32} {S' : qS} (h : fX8_lay a1 S = some (r, S')) {Q : Int32 → qS → Prop} (k : Q r S') : q_Mi l d yX8_lay cX8_lay 2 (some .int) [.inr 0, .inl a1] S Q := by
  refine q_Mi_of (own := RX8) rfl rfl [some (.inr 0), some (.inl a1)] rfl (Nat.le_of_ble_eq_true rfl) ?_
  unfold fX8_lay at h
  refine q_aload_n dX8_lay_0 rfl ?_
  refine q_getr dX8_lay_1 fl_X8_27 rfl rfl ?_
  refine q_getr dX8_lay_4 fl_X8_111 rfl rfl ?_
  refine q_iload_n dX8_lay_7 rfl ?_
  obtain ⟨r8, h8, h⟩ := q_bnd h
  refine q_callVi1 dX8_lay_8 cl_X8_75 rfl (Nat.le_of_ble_eq_true rfl) (by omega) (sX5_isMade_10 (by omega) h8 ?_)
  refine q_if_ne_b 16 dX8_lay_11 (by decide) (fun c11 => ?_) (fun c11 => ?_)
  · replace h := q_ift c11 h
    refine q_aload_n dX8_lay_16 rfl ?_
    refine q_getr dX8_lay_17 fl_X8_27 rfl rfl ?_
    refine q_getr dX8_lay_20 fl_X8_111 rfl rfl ?_
    refine q_iload_n dX8_lay_23 rfl ?_
    refine q_aload_n dX8_lay_24 rfl ?_
    refine q_geti dX8_lay_25 fl_X8_47 rfl rfl ?_
    obtain ⟨r28, h28, h⟩ := q_bnd h
    refine q_callVi2 dX8_lay_28 cl_X8_78 rfl (Nat.le_of_ble_eq_true rfl) (by omega) (sX5_isThere_10 (by omega) h28 ?_)
    refine q_if_eq_b 65 dX8_lay_31 (by decide) (fun c31 => ?_) (fun c31 => ?_)
    · replace h := q_ifb c31 h
      refine q_bipush (v := (-2)) dX8_lay_65 (by decide) ?_
      exact q_ret dX8_lay_67 rfl rfl (q_lfiw h k)
    · replace h := q_ift c31 h
      refine q_aload_n dX8_lay_34 rfl ?_
      refine q_getr dX8_lay_35 fl_X8_43 rfl rfl ?_
      obtain ⟨⟨r38, T38⟩, h38, h⟩ := q_bnd h
      dsimp only at h
      refine q_callVi0 dX8_lay_38 cl_X8_179 rfl (Nat.le_of_ble_eq_true rfl) (by omega) (sX6_read (by omega) h38 ?_)
      refine q_bipush (v := (-4)) dX8_lay_41 (by decide) ?_
      refine q_icmp_ne 65 dX8_lay_43 (by decide) (fun c43 => ?_) (fun c43 => ?_)
      · replace h := q_iff c43 h
        refine q_bipush (v := (-2)) dX8_lay_65 (by decide) ?_
        exact q_ret dX8_lay_67 rfl rfl (q_lfiw h k)
      · replace h := q_ift c43 h
        refine q_aload_n dX8_lay_46 rfl ?_
        refine q_getr dX8_lay_47 fl_X8_43 rfl rfl ?_
        refine q_aload_n dX8_lay_50 rfl ?_
        refine q_getr dX8_lay_51 fl_X8_27 rfl rfl ?_
        refine q_getr dX8_lay_54 fl_X8_120 rfl rfl ?_
        refine q_iload_n dX8_lay_57 rfl ?_
        obtain ⟨g58, h⟩ := q_gd h
        refine q_iald dX8_lay_58 rfl g58 ?_
        obtain ⟨r59, h59, h⟩ := q_bnd h
        refine q_callVi1 dX8_lay_59 cl_X8_183 rfl (Nat.le_of_ble_eq_true rfl) (by omega) (sX6_isAllAt (by omega) h59 ?_)
        refine q_if_ne_b 68 dX8_lay_62 (by decide) (fun c62 => ?_) (fun c62 => ?_)
        · replace h := q_ift c62 h
          refine q_aload_n dX8_lay_68 rfl ?_
          refine q_getr dX8_lay_69 fl_X8_32 rfl rfl ?_
          refine q_getr dX8_lay_72 fl_X8_136 rfl rfl ?_
          refine q_aload_n dX8_lay_75 rfl ?_
          refine q_getr dX8_lay_76 fl_X8_43 rfl rfl ?_
          refine q_geti dX8_lay_79 fl_X8_186 rfl rfl ?_
          obtain ⟨r82, h82, h⟩ := q_bnd h
          refine q_callVi1 dX8_lay_82 cl_X8_189 rfl (Nat.le_of_ble_eq_true rfl) (by omega) (sX5_hasRoomFor_16 (by omega) h82 ?_)
          refine q_if_ne_b 91 dX8_lay_85 (by decide) (fun c85 => ?_) (fun c85 => ?_)
          · replace h := q_ift c85 h
            refine q_aload_n dX8_lay_91 rfl ?_
            refine q_iload_n dX8_lay_92 rfl ?_
            obtain ⟨T93, h93, h⟩ := q_bnd h
            refine q_callVv1 dX8_lay_93 cl_X8_192 rfl (Nat.le_of_ble_eq_true rfl) (by omega) (sX8_layChanges (by omega) h93 ?_)
            refine q_aload_n dX8_lay_96 rfl ?_
            refine q_getr dX8_lay_97 fl_X8_32 rfl rfl ?_
            refine q_iload_n dX8_lay_100 rfl ?_
            refine q_aload_n dX8_lay_101 rfl ?_
            refine q_geti dX8_lay_102 fl_X8_47 rfl rfl ?_
            obtain ⟨r105, h105, h⟩ := q_bnd h
            refine q_callVi2 dX8_lay_105 cl_X8_114 rfl (Nat.le_of_ble_eq_true rfl) (by omega) (sX4_countIn (by omega) h105 ?_)
            exact q_ret dX8_lay_108 rfl rfl (q_lfiw h k)
          · replace h := q_ifb c85 h
            refine q_bipush (v := (-3)) dX8_lay_88 (by decide) ?_
            exact q_ret dX8_lay_90 rfl rfl (q_lfiw h k)
        · replace h := q_ifb c62 h
          refine q_bipush (v := (-2)) dX8_lay_65 (by decide) ?_
          exact q_ret dX8_lay_67 rfl rfl (q_lfiw h k)
  · replace h := q_ifb c11 h
    refine q_iconst (v := (-1)) dX8_lay_14 (by decide) ?_
    exact q_ret dX8_lay_15 rfl rfl (q_lfiw h k)
def fX8_answerFor (a1 a2 a3 a4 : Int32) (S : qS) : Option Int32 := (fX3_viewAt a1 a4 S).bind (fun r11 => (fX0_lookUp r11 a2 a3 a4 S).bind (fun r18 => some r18))
set_option maxHeartbeats 4000000 in
set_option maxRecDepth 100000 in
theorem sX8_answerFor {l : Launch} {d : Nat} (hd : 6 ≤ d) {S : qS} {a1 a2 a3 a4 : Int32} {r : Int32} (h : fX8_answerFor a1 a2 a3 a4 S = some r) {Q : Int32 → qS → Prop} (k : Q r S) : q_Mi l d yX8_answerFor cX8_answerFor 5 (some .int) [.inr 0, .inl a1, .inl a2, .inl a3, .inl a4] S Q := by
  refine q_Mi_of (own := RX8) rfl rfl [some (.inr 0), some (.inl a1), some (.inl a2), some (.inl a3), some (.inl a4)] rfl (Nat.le_of_ble_eq_true rfl) ?_
  unfold fX8_answerFor at h
  refine q_aload_n dX8_answerFor_0 rfl ?_
  refine q_getr dX8_answerFor_1 fl_X8_19 rfl rfl ?_
  refine q_aload_n dX8_answerFor_4 rfl ?_
  refine q_getr dX8_answerFor_5 fl_X8_10 rfl rfl ?_
  refine q_iload_n dX8_answerFor_8 rfl ?_
  refine q_iload dX8_answerFor_9 rfl ?_
  obtain ⟨r11, h11, h⟩ := q_bnd h
  refine q_callVi2 dX8_answerFor_11 cl_X8_93 rfl (Nat.le_of_ble_eq_true rfl) (by omega) (sX3_viewAt (by omega) h11 ?_)
  refine q_iload_n dX8_answerFor_14 rfl ?_
  refine q_iload_n dX8_answerFor_15 rfl ?_
  refine q_iload dX8_answerFor_16 rfl ?_
  obtain ⟨r18, h18, h⟩ := q_bnd h
  refine q_callVi4 dX8_answerFor_18 cl_X8_205 rfl (Nat.le_of_ble_eq_true rfl) (by omega) (sX0_lookUp (by omega) h18 ?_)
  exact q_ret dX8_answerFor_21 rfl rfl (q_lfi h k)
def fX8_isQuestion (a1 a2 : Int32) (S : qS) : Option Bool := (fX2_isName a1 S).bind (fun r1 => if r1 = true then (fX8_isType a2 S).bind (fun r8 => if r8 = true then some true else some false) else some false)
set_option maxHeartbeats 4000000 in
set_option maxRecDepth 100000 in
theorem sX8_isQuestion {l : Launch} {d : Nat} (hd : 1 ≤ d) {S : qS} {a1 a2 : Int32} {r : Bool} (h : fX8_isQuestion a1 a2 S = some r) {Q : Int32 → qS → Prop} (k : Q (q_b r) S) : q_Mi l d yX8_isQuestion cX8_isQuestion 2 (some .boolean) [.inl a1, .inl a2] S Q := by
  refine q_Mi_of (own := RX8) rfl rfl [some (.inl a1), some (.inl a2)] rfl (Nat.le_of_ble_eq_true rfl) ?_
  unfold fX8_isQuestion at h
  refine q_iload_n dX8_isQuestion_0 rfl ?_
  obtain ⟨r1, h1, h⟩ := q_bnd h
  refine q_callSi1 dX8_isQuestion_1 cl_X8_97 (Nat.le_of_ble_eq_true rfl) (by omega) (sX2_isName (by omega) h1 ?_)
  refine q_if_eq_b 18 dX8_isQuestion_4 (by decide) (fun c4 => ?_) (fun c4 => ?_)
  · replace h := q_ifb c4 h
    refine q_iconst (v := 0) dX8_isQuestion_18 (by decide) ?_
    exact q_ret (v := q_b false) dX8_isQuestion_19 rfl (q_b_nar false) (q_lfb h k)
  · replace h := q_ift c4 h
    refine q_iload_n dX8_isQuestion_7 rfl ?_
    obtain ⟨r8, h8, h⟩ := q_bnd h
    refine q_callSi1 dX8_isQuestion_8 cl_X8_156 (Nat.le_of_ble_eq_true rfl) (by omega) (sX8_isType (by omega) h8 ?_)
    refine q_if_eq_b 18 dX8_isQuestion_11 (by decide) (fun c11 => ?_) (fun c11 => ?_)
    · replace h := q_ifb c11 h
      refine q_iconst (v := 0) dX8_isQuestion_18 (by decide) ?_
      exact q_ret (v := q_b false) dX8_isQuestion_19 rfl (q_b_nar false) (q_lfb h k)
    · replace h := q_ift c11 h
      refine q_iconst (v := 1) dX8_isQuestion_14 (by decide) ?_
      refine q_goto 19 dX8_isQuestion_15 (by decide) ?_
      exact q_ret (v := q_b true) dX8_isQuestion_19 rfl (q_b_nar true) (q_lfb h k)
def fX8_answer (a1 a2 a3 a4 : Int32) (S : qS) : Option Int32 := (fX8_isAddress a1 S).bind (fun r1 => if r1 = true then (fX8_isQuestion a2 a3 S).bind (fun r9 => if r9 = true then (fX8_isTick a4 S).bind (fun r18 => if r18 = true then (fX8_answerFor a1 a2 a3 a4 S).bind (fun r32 => some r32) else some (-1)) else some (-1)) else some (-1))
set_option maxHeartbeats 4000000 in
set_option maxRecDepth 100000 in
theorem sX8_answer {l : Launch} {d : Nat} (hd : 7 ≤ d) {S : qS} {a1 a2 a3 a4 : Int32} {r : Int32} (h : fX8_answer a1 a2 a3 a4 S = some r) {Q : Int32 → qS → Prop} (k : Q r S) : q_Mi l d yX8_answer cX8_answer 5 (some .int) [.inr 0, .inl a1, .inl a2, .inl a3, .inl a4] S Q := by
  refine q_Mi_of (own := RX8) rfl rfl [some (.inr 0), some (.inl a1), some (.inl a2), some (.inl a3), some (.inl a4)] rfl (Nat.le_of_ble_eq_true rfl) ?_
  unfold fX8_answer at h
  refine q_iload_n dX8_answer_0 rfl ?_
  obtain ⟨r1, h1, h⟩ := q_bnd h
  refine q_callSi1 dX8_answer_1 cl_X8_55 (Nat.le_of_ble_eq_true rfl) (by omega) (sX8_isAddress (by omega) h1 ?_)
  refine q_if_eq_b 24 dX8_answer_4 (by decide) (fun c4 => ?_) (fun c4 => ?_)
  · replace h := q_ifb c4 h
    refine q_iconst (v := (-1)) dX8_answer_24 (by decide) ?_
    exact q_ret dX8_answer_25 rfl rfl (q_lfi h k)
  · replace h := q_ift c4 h
    refine q_iload_n dX8_answer_7 rfl ?_
    refine q_iload_n dX8_answer_8 rfl ?_
    obtain ⟨r9, h9, h⟩ := q_bnd h
    refine q_callSi2 dX8_answer_9 cl_X8_199 (Nat.le_of_ble_eq_true rfl) (by omega) (sX8_isQuestion (by omega) h9 ?_)
    refine q_if_eq_b 24 dX8_answer_12 (by decide) (fun c12 => ?_) (fun c12 => ?_)
    · replace h := q_ifb c12 h
      refine q_iconst (v := (-1)) dX8_answer_24 (by decide) ?_
      exact q_ret dX8_answer_25 rfl rfl (q_lfi h k)
    · replace h := q_ift c12 h
      refine q_aload_n dX8_answer_15 rfl ?_
      refine q_iload dX8_answer_16 rfl ?_
      obtain ⟨r18, h18, h⟩ := q_bnd h
      refine q_callVi1 dX8_answer_18 cl_X8_90 rfl (Nat.le_of_ble_eq_true rfl) (by omega) (sX8_isTick (by omega) h18 ?_)
      refine q_if_ne_b 26 dX8_answer_21 (by decide) (fun c21 => ?_) (fun c21 => ?_)
      · replace h := q_ift c21 h
        refine q_aload_n dX8_answer_26 rfl ?_
        refine q_iload_n dX8_answer_27 rfl ?_
        refine q_iload_n dX8_answer_28 rfl ?_
        refine q_iload_n dX8_answer_29 rfl ?_
        refine q_iload dX8_answer_30 rfl ?_
        obtain ⟨r32, h32, h⟩ := q_bnd h
        refine q_callVi4 dX8_answer_32 cl_X8_202 rfl (Nat.le_of_ble_eq_true rfl) (by omega) (sX8_answerFor (by omega) h32 ?_)
        exact q_ret dX8_answer_35 rfl rfl (q_lfi h k)
      · replace h := q_ifb c21 h
        refine q_iconst (v := (-1)) dX8_answer_24 (by decide) ?_
        exact q_ret dX8_answer_25 rfl rfl (q_lfi h k)
def fX8_viewAnswer (a1 a2 a3 a4 : Int32) (S : qS) : Option Int32 := (fX8_isView a1 S).bind (fun r1 => if r1 = true then (fX8_isQuestion a2 a3 S).bind (fun r9 => if r9 = true then (fX8_isTick a4 S).bind (fun r18 => if r18 = true then (fX0_lookUp a1 a2 a3 a4 S).bind (fun r35 => some r35) else some (-1)) else some (-1)) else some (-1))
set_option maxHeartbeats 4000000 in
set_option maxRecDepth 100000 in
theorem sX8_viewAnswer {l : Launch} {d : Nat} (hd : 6 ≤ d) {S : qS} {a1 a2 a3 a4 : Int32} {r : Int32} (h : fX8_viewAnswer a1 a2 a3 a4 S = some r) {Q : Int32 → qS → Prop} (k : Q r S) : q_Mi l d yX8_viewAnswer cX8_viewAnswer 5 (some .int) [.inr 0, .inl a1, .inl a2, .inl a3, .inl a4] S Q := by
  refine q_Mi_of (own := RX8) rfl rfl [some (.inr 0), some (.inl a1), some (.inl a2), some (.inl a3), some (.inl a4)] rfl (Nat.le_of_ble_eq_true rfl) ?_
  unfold fX8_viewAnswer at h
  refine q_iload_n dX8_viewAnswer_0 rfl ?_
  obtain ⟨r1, h1, h⟩ := q_bnd h
  refine q_callSi1 dX8_viewAnswer_1 cl_X8_51 (Nat.le_of_ble_eq_true rfl) (by omega) (sX8_isView (by omega) h1 ?_)
  refine q_if_eq_b 24 dX8_viewAnswer_4 (by decide) (fun c4 => ?_) (fun c4 => ?_)
  · replace h := q_ifb c4 h
    refine q_iconst (v := (-1)) dX8_viewAnswer_24 (by decide) ?_
    exact q_ret dX8_viewAnswer_25 rfl rfl (q_lfi h k)
  · replace h := q_ift c4 h
    refine q_iload_n dX8_viewAnswer_7 rfl ?_
    refine q_iload_n dX8_viewAnswer_8 rfl ?_
    obtain ⟨r9, h9, h⟩ := q_bnd h
    refine q_callSi2 dX8_viewAnswer_9 cl_X8_199 (Nat.le_of_ble_eq_true rfl) (by omega) (sX8_isQuestion (by omega) h9 ?_)
    refine q_if_eq_b 24 dX8_viewAnswer_12 (by decide) (fun c12 => ?_) (fun c12 => ?_)
    · replace h := q_ifb c12 h
      refine q_iconst (v := (-1)) dX8_viewAnswer_24 (by decide) ?_
      exact q_ret dX8_viewAnswer_25 rfl rfl (q_lfi h k)
    · replace h := q_ift c12 h
      refine q_aload_n dX8_viewAnswer_15 rfl ?_
      refine q_iload dX8_viewAnswer_16 rfl ?_
      obtain ⟨r18, h18, h⟩ := q_bnd h
      refine q_callVi1 dX8_viewAnswer_18 cl_X8_90 rfl (Nat.le_of_ble_eq_true rfl) (by omega) (sX8_isTick (by omega) h18 ?_)
      refine q_if_ne_b 26 dX8_viewAnswer_21 (by decide) (fun c21 => ?_) (fun c21 => ?_)
      · replace h := q_ift c21 h
        refine q_aload_n dX8_viewAnswer_26 rfl ?_
        refine q_getr dX8_viewAnswer_27 fl_X8_19 rfl rfl ?_
        refine q_iload_n dX8_viewAnswer_30 rfl ?_
        refine q_iload_n dX8_viewAnswer_31 rfl ?_
        refine q_iload_n dX8_viewAnswer_32 rfl ?_
        refine q_iload dX8_viewAnswer_33 rfl ?_
        obtain ⟨r35, h35, h⟩ := q_bnd h
        refine q_callVi4 dX8_viewAnswer_35 cl_X8_205 rfl (Nat.le_of_ble_eq_true rfl) (by omega) (sX0_lookUp (by omega) h35 ?_)
        exact q_ret dX8_viewAnswer_38 rfl rfl (q_lfi h k)
      · replace h := q_ifb c21 h
        refine q_iconst (v := (-1)) dX8_viewAnswer_24 (by decide) ?_
        exact q_ret dX8_viewAnswer_25 rfl rfl (q_lfi h k)
def fX8_zoneFor (a1 a2 a3 : Int32) (S : qS) : Option Int32 := (fX8_isView a1 S).bind (fun r1 => if r1 = true then (fX2_isName a2 S).bind (fun r8 => if r8 = true then (fX8_isTick a3 S).bind (fun r16 => if r16 = true then (fX7_responsible a1 a2 a3 S).bind (fun r31 => if r31 = (-1) then some (-4) else some r31) else some (-1)) else some (-1)) else some (-1))
set_option maxHeartbeats 4000000 in
set_option maxRecDepth 100000 in
theorem sX8_zoneFor {l : Launch} {d : Nat} (hd : 4 ≤ d) {S : qS} {a1 a2 a3 : Int32} {r : Int32} (h : fX8_zoneFor a1 a2 a3 S = some r) {Q : Int32 → qS → Prop} (k : Q r S) : q_Mi l d yX8_zoneFor cX8_zoneFor 5 (some .int) [.inr 0, .inl a1, .inl a2, .inl a3] S Q := by
  refine q_Mi_of (own := RX8) rfl rfl [some (.inr 0), some (.inl a1), some (.inl a2), some (.inl a3), none] rfl (Nat.le_of_ble_eq_true rfl) ?_
  unfold fX8_zoneFor at h
  refine q_iload_n dX8_zoneFor_0 rfl ?_
  obtain ⟨r1, h1, h⟩ := q_bnd h
  refine q_callSi1 dX8_zoneFor_1 cl_X8_51 (Nat.le_of_ble_eq_true rfl) (by omega) (sX8_isView (by omega) h1 ?_)
  refine q_if_eq_b 22 dX8_zoneFor_4 (by decide) (fun c4 => ?_) (fun c4 => ?_)
  · replace h := q_ifb c4 h
    refine q_iconst (v := (-1)) dX8_zoneFor_22 (by decide) ?_
    exact q_ret dX8_zoneFor_23 rfl rfl (q_lfi h k)
  · replace h := q_ift c4 h
    refine q_iload_n dX8_zoneFor_7 rfl ?_
    obtain ⟨r8, h8, h⟩ := q_bnd h
    refine q_callSi1 dX8_zoneFor_8 cl_X8_97 (Nat.le_of_ble_eq_true rfl) (by omega) (sX2_isName (by omega) h8 ?_)
    refine q_if_eq_b 22 dX8_zoneFor_11 (by decide) (fun c11 => ?_) (fun c11 => ?_)
    · replace h := q_ifb c11 h
      refine q_iconst (v := (-1)) dX8_zoneFor_22 (by decide) ?_
      exact q_ret dX8_zoneFor_23 rfl rfl (q_lfi h k)
    · replace h := q_ift c11 h
      refine q_aload_n dX8_zoneFor_14 rfl ?_
      refine q_iload_n dX8_zoneFor_15 rfl ?_
      obtain ⟨r16, h16, h⟩ := q_bnd h
      refine q_callVi1 dX8_zoneFor_16 cl_X8_90 rfl (Nat.le_of_ble_eq_true rfl) (by omega) (sX8_isTick (by omega) h16 ?_)
      refine q_if_ne_b 24 dX8_zoneFor_19 (by decide) (fun c19 => ?_) (fun c19 => ?_)
      · replace h := q_ift c19 h
        refine q_aload_n dX8_zoneFor_24 rfl ?_
        refine q_getr dX8_zoneFor_25 fl_X8_27 rfl rfl ?_
        refine q_iload_n dX8_zoneFor_28 rfl ?_
        refine q_iload_n dX8_zoneFor_29 rfl ?_
        refine q_iload_n dX8_zoneFor_30 rfl ?_
        obtain ⟨r31, h31, h⟩ := q_bnd h
        refine q_callVi3 dX8_zoneFor_31 cl_X8_208 rfl (Nat.le_of_ble_eq_true rfl) (by omega) (sX7_responsible (by omega) h31 ?_)
        refine q_istore dX8_zoneFor_34 (by decide) ?_
        refine q_iload dX8_zoneFor_36 rfl ?_
        refine q_iconst (v := (-1)) dX8_zoneFor_38 (by decide) ?_
        refine q_icmp_ne 47 dX8_zoneFor_39 (by decide) (fun c39 => ?_) (fun c39 => ?_)
        · replace h := q_iff c39 h
          refine q_iload dX8_zoneFor_47 rfl ?_
          exact q_ret dX8_zoneFor_49 rfl rfl (q_lfi h k)
        · replace h := q_ift c39 h
          refine q_bipush (v := (-4)) dX8_zoneFor_42 (by decide) ?_
          refine q_goto 49 dX8_zoneFor_44 (by decide) ?_
          exact q_ret dX8_zoneFor_49 rfl rfl (q_lfi h k)
      · replace h := q_ifb c19 h
        refine q_iconst (v := (-1)) dX8_zoneFor_22 (by decide) ?_
        exact q_ret dX8_zoneFor_23 rfl rfl (q_lfi h k)
def fX8_source (a1 a2 a3 a4 : Int32) (S : qS) : Option Int32 := (fX8_isView a1 S).bind (fun r1 => if r1 = true then (fX8_isQuestion a2 a3 S).bind (fun r9 => if r9 = true then (fX8_isTick a4 S).bind (fun r18 => if r18 = true then (fX0_recordBehind a1 a2 a3 a4 S).bind (fun r35 => if 0 ≤ r35 then if q_inb r35 70 = true then some (S 20 r35.toNatClampNeg) else none else some (-4)) else some (-1)) else some (-1)) else some (-1))
set_option maxHeartbeats 4000000 in
set_option maxRecDepth 100000 in
theorem sX8_source {l : Launch} {d : Nat} (hd : 5 ≤ d) {S : qS} {a1 a2 a3 a4 : Int32} {r : Int32} (h : fX8_source a1 a2 a3 a4 S = some r) {Q : Int32 → qS → Prop} (k : Q r S) : q_Mi l d yX8_source cX8_source 6 (some .int) [.inr 0, .inl a1, .inl a2, .inl a3, .inl a4] S Q := by
  refine q_Mi_of (own := RX8) rfl rfl [some (.inr 0), some (.inl a1), some (.inl a2), some (.inl a3), some (.inl a4), none] rfl (Nat.le_of_ble_eq_true rfl) ?_
  unfold fX8_source at h
  refine q_iload_n dX8_source_0 rfl ?_
  obtain ⟨r1, h1, h⟩ := q_bnd h
  refine q_callSi1 dX8_source_1 cl_X8_51 (Nat.le_of_ble_eq_true rfl) (by omega) (sX8_isView (by omega) h1 ?_)
  refine q_if_eq_b 24 dX8_source_4 (by decide) (fun c4 => ?_) (fun c4 => ?_)
  · replace h := q_ifb c4 h
    refine q_iconst (v := (-1)) dX8_source_24 (by decide) ?_
    exact q_ret dX8_source_25 rfl rfl (q_lfi h k)
  · replace h := q_ift c4 h
    refine q_iload_n dX8_source_7 rfl ?_
    refine q_iload_n dX8_source_8 rfl ?_
    obtain ⟨r9, h9, h⟩ := q_bnd h
    refine q_callSi2 dX8_source_9 cl_X8_199 (Nat.le_of_ble_eq_true rfl) (by omega) (sX8_isQuestion (by omega) h9 ?_)
    refine q_if_eq_b 24 dX8_source_12 (by decide) (fun c12 => ?_) (fun c12 => ?_)
    · replace h := q_ifb c12 h
      refine q_iconst (v := (-1)) dX8_source_24 (by decide) ?_
      exact q_ret dX8_source_25 rfl rfl (q_lfi h k)
    · replace h := q_ift c12 h
      refine q_aload_n dX8_source_15 rfl ?_
      refine q_iload dX8_source_16 rfl ?_
      obtain ⟨r18, h18, h⟩ := q_bnd h
      refine q_callVi1 dX8_source_18 cl_X8_90 rfl (Nat.le_of_ble_eq_true rfl) (by omega) (sX8_isTick (by omega) h18 ?_)
      refine q_if_ne_b 26 dX8_source_21 (by decide) (fun c21 => ?_) (fun c21 => ?_)
      · replace h := q_ift c21 h
        refine q_aload_n dX8_source_26 rfl ?_
        refine q_getr dX8_source_27 fl_X8_19 rfl rfl ?_
        refine q_iload_n dX8_source_30 rfl ?_
        refine q_iload_n dX8_source_31 rfl ?_
        refine q_iload_n dX8_source_32 rfl ?_
        refine q_iload dX8_source_33 rfl ?_
        obtain ⟨r35, h35, h⟩ := q_bnd h
        refine q_callVi4 dX8_source_35 cl_X8_211 rfl (Nat.le_of_ble_eq_true rfl) (by omega) (sX0_recordBehind (by omega) h35 ?_)
        refine q_istore dX8_source_38 (by decide) ?_
        refine q_iload dX8_source_40 rfl ?_
        refine q_if_ge 50 dX8_source_42 (by decide) (fun c42 => ?_) (fun c42 => ?_)
        · replace h := q_ift c42 h
          refine q_aload_n dX8_source_50 rfl ?_
          refine q_getr dX8_source_51 fl_X8_32 rfl rfl ?_
          refine q_getr dX8_source_54 fl_X8_173 rfl rfl ?_
          refine q_iload dX8_source_57 rfl ?_
          obtain ⟨g59, h⟩ := q_gd h
          refine q_iald dX8_source_59 rfl g59 ?_
          exact q_ret dX8_source_60 rfl rfl (q_lfi h k)
        · replace h := q_iff c42 h
          refine q_bipush (v := (-4)) dX8_source_45 (by decide) ?_
          refine q_goto 60 dX8_source_47 (by decide) ?_
          exact q_ret dX8_source_60 rfl rfl (q_lfi h k)
      · replace h := q_ifb c21 h
        refine q_iconst (v := (-1)) dX8_source_24 (by decide) ?_
        exact q_ret dX8_source_25 rfl rfl (q_lfi h k)
def fX8_countDiffering_6 (p1 p2 p3 p4 p5 : Int32) : Nat → Int32 → Int32 → qS → Option Int32
  | 0, _, _, _ => none
  | n + 1, v6, v7, S => if 124 < v7 then some v6 else (fX2_isName v7 S).bind (fun r15 => if r15 = true then (fX0_lookUp p1 v7 p5 p2 S).bind (fun r31 => (fX0_lookUp p3 v7 p5 p4 S).bind (fun r45 => if r31 = r45 then fX8_countDiffering_6 p1 p2 p3 p4 p5 n v6 (v7 + 1) S else fX8_countDiffering_6 p1 p2 p3 p4 p5 n (v6 + 1) (v7 + 1) S)) else fX8_countDiffering_6 p1 p2 p3 p4 p5 n v6 (v7 + 1) S)
set_option maxHeartbeats 4000000 in
set_option maxRecDepth 100000 in
theorem sX8_countDiffering_6 {l : Launch} {d : Nat} (hd : 6 ≤ d) {S : qS} {p1 p2 p3 p4 p5 : Int32} {r : Int32} {Q : Int32 → qS → Prop} (k : Q r S) : ∀ (n : Nat) (v6 : Int32) (v7 : Int32), fX8_countDiffering_6 p1 p2 p3 p4 p5 n v6 v7 S = some r → q_E l cX8_countDiffering 8 (some .int) RX8 d S 6 [some (.inr 0), some (.inl p1), some (.inl p2), some (.inl p3), some (.inl p4), some (.inl p5), some (.inl v6), some (.inl v7)] [] (q_Qi Q) := by
  intro n
  induction n with
  | zero => intro v6 v7 h; exact q_no h
  | succ n ih =>
    intro v6 v7 h
    rw [fX8_countDiffering_6] at h
    refine q_iload dX8_countDiffering_6 rfl ?_
    refine q_bipush (v := 124) dX8_countDiffering_8 (by decide) ?_
    refine q_icmp_gt 60 dX8_countDiffering_10 (by decide) (fun c10 => ?_) (fun c10 => ?_)
    · replace h := q_ift c10 h
      refine q_iload dX8_countDiffering_60 rfl ?_
      exact q_ret dX8_countDiffering_62 rfl rfl (q_lfi h k)
    · replace h := q_iff c10 h
      refine q_iload dX8_countDiffering_13 rfl ?_
      obtain ⟨r15, h15, h⟩ := q_bnd h
      refine q_callSi1 dX8_countDiffering_15 cl_X8_97 (Nat.le_of_ble_eq_true rfl) (by omega) (sX2_isName (by omega) h15 ?_)
      refine q_if_eq_b 54 dX8_countDiffering_18 (by decide) (fun c18 => ?_) (fun c18 => ?_)
      · replace h := q_ifb c18 h
        refine q_iinc (v := (v7 + 1)) dX8_countDiffering_54 rfl rfl (by decide) ?_
        refine q_goto 6 dX8_countDiffering_57 (by decide) ?_
        exact q_sub (ih _ _ h) (And.intro rfl (And.intro rfl (And.intro rfl (And.intro rfl (And.intro rfl (And.intro rfl (And.intro rfl (And.intro rfl trivial))))))))
      · replace h := q_ift c18 h
        refine q_aload_n dX8_countDiffering_21 rfl ?_
        refine q_getr dX8_countDiffering_22 fl_X8_19 rfl rfl ?_
        refine q_iload_n dX8_countDiffering_25 rfl ?_
        refine q_iload dX8_countDiffering_26 rfl ?_
        refine q_iload dX8_countDiffering_28 rfl ?_
        refine q_iload_n dX8_countDiffering_30 rfl ?_
        obtain ⟨r31, h31, h⟩ := q_bnd h
        refine q_callVi4 dX8_countDiffering_31 cl_X8_205 rfl (Nat.le_of_ble_eq_true rfl) (by omega) (sX0_lookUp (by omega) h31 ?_)
        refine q_aload_n dX8_countDiffering_34 rfl ?_
        refine q_getr dX8_countDiffering_35 fl_X8_19 rfl rfl ?_
        refine q_iload_n dX8_countDiffering_38 rfl ?_
        refine q_iload dX8_countDiffering_39 rfl ?_
        refine q_iload dX8_countDiffering_41 rfl ?_
        refine q_iload dX8_countDiffering_43 rfl ?_
        obtain ⟨r45, h45, h⟩ := q_bnd h
        refine q_callVi4 dX8_countDiffering_45 cl_X8_205 rfl (Nat.le_of_ble_eq_true rfl) (by omega) (sX0_lookUp (by omega) h45 ?_)
        refine q_icmp_eq 54 dX8_countDiffering_48 (by decide) (fun c48 => ?_) (fun c48 => ?_)
        · replace h := q_ift c48 h
          refine q_iinc (v := (v7 + 1)) dX8_countDiffering_54 rfl rfl (by decide) ?_
          refine q_goto 6 dX8_countDiffering_57 (by decide) ?_
          exact q_sub (ih _ _ h) (And.intro rfl (And.intro rfl (And.intro rfl (And.intro rfl (And.intro rfl (And.intro rfl (And.intro rfl (And.intro rfl trivial))))))))
        · replace h := q_iff c48 h
          refine q_iinc (v := (v6 + 1)) dX8_countDiffering_51 rfl rfl (by decide) ?_
          refine q_iinc (v := (v7 + 1)) dX8_countDiffering_54 rfl rfl (by decide) ?_
          refine q_goto 6 dX8_countDiffering_57 (by decide) ?_
          exact q_sub (ih _ _ h) (And.intro rfl (And.intro rfl (And.intro rfl (And.intro rfl (And.intro rfl (And.intro rfl (And.intro rfl (And.intro rfl trivial))))))))
def fX8_countDiffering (a1 a2 a3 a4 a5 : Int32) (S : qS) : Option Int32 := fX8_countDiffering_6 a1 a2 a3 a4 a5 20000 0 1 S
set_option maxHeartbeats 4000000 in
set_option maxRecDepth 100000 in
theorem sX8_countDiffering {l : Launch} {d : Nat} (hd : 6 ≤ d) {S : qS} {a1 a2 a3 a4 a5 : Int32} {r : Int32} (h : fX8_countDiffering a1 a2 a3 a4 a5 S = some r) {Q : Int32 → qS → Prop} (k : Q r S) : q_Mi l d yX8_countDiffering cX8_countDiffering 8 (some .int) [.inr 0, .inl a1, .inl a2, .inl a3, .inl a4, .inl a5] S Q := by
  refine q_Mi_of (own := RX8) rfl rfl [some (.inr 0), some (.inl a1), some (.inl a2), some (.inl a3), some (.inl a4), some (.inl a5), none, none] rfl (Nat.le_of_ble_eq_true rfl) ?_
  unfold fX8_countDiffering at h
  refine q_iconst (v := 0) dX8_countDiffering_0 (by decide) ?_
  refine q_istore dX8_countDiffering_1 (by decide) ?_
  refine q_iconst (v := 1) dX8_countDiffering_3 (by decide) ?_
  refine q_istore dX8_countDiffering_4 (by decide) ?_
  exact q_sub (sX8_countDiffering_6 hd k 20000 _ _ h) (And.intro rfl (And.intro rfl (And.intro rfl (And.intro rfl (And.intro rfl (And.intro rfl (And.intro rfl (And.intro rfl trivial))))))))
def fX8_differences (a1 a2 a3 a4 : Int32) (S : qS) : Option Int32 := (fX8_isView a1 S).bind (fun r1 => if r1 = true then (fX8_isType a2 S).bind (fun r8 => if r8 = true then (fX8_isTick a3 S).bind (fun r16 => if r16 = true then (fX8_isTick a4 S).bind (fun r25 => if r25 = true then (fX8_countDiffering a1 a3 a1 a4 a2 S).bind (fun r40 => some r40) else some (-1)) else some (-1)) else some (-1)) else some (-1))
set_option maxHeartbeats 4000000 in
set_option maxRecDepth 100000 in
theorem sX8_differences {l : Launch} {d : Nat} (hd : 7 ≤ d) {S : qS} {a1 a2 a3 a4 : Int32} {r : Int32} (h : fX8_differences a1 a2 a3 a4 S = some r) {Q : Int32 → qS → Prop} (k : Q r S) : q_Mi l d yX8_differences cX8_differences 5 (some .int) [.inr 0, .inl a1, .inl a2, .inl a3, .inl a4] S Q := by
  refine q_Mi_of (own := RX8) rfl rfl [some (.inr 0), some (.inl a1), some (.inl a2), some (.inl a3), some (.inl a4)] rfl (Nat.le_of_ble_eq_true rfl) ?_
  unfold fX8_differences at h
  refine q_iload_n dX8_differences_0 rfl ?_
  obtain ⟨r1, h1, h⟩ := q_bnd h
  refine q_callSi1 dX8_differences_1 cl_X8_51 (Nat.le_of_ble_eq_true rfl) (by omega) (sX8_isView (by omega) h1 ?_)
  refine q_if_eq_b 31 dX8_differences_4 (by decide) (fun c4 => ?_) (fun c4 => ?_)
  · replace h := q_ifb c4 h
    refine q_iconst (v := (-1)) dX8_differences_31 (by decide) ?_
    exact q_ret dX8_differences_32 rfl rfl (q_lfi h k)
  · replace h := q_ift c4 h
    refine q_iload_n dX8_differences_7 rfl ?_
    obtain ⟨r8, h8, h⟩ := q_bnd h
    refine q_callSi1 dX8_differences_8 cl_X8_156 (Nat.le_of_ble_eq_true rfl) (by omega) (sX8_isType (by omega) h8 ?_)
    refine q_if_eq_b 31 dX8_differences_11 (by decide) (fun c11 => ?_) (fun c11 => ?_)
    · replace h := q_ifb c11 h
      refine q_iconst (v := (-1)) dX8_differences_31 (by decide) ?_
      exact q_ret dX8_differences_32 rfl rfl (q_lfi h k)
    · replace h := q_ift c11 h
      refine q_aload_n dX8_differences_14 rfl ?_
      refine q_iload_n dX8_differences_15 rfl ?_
      obtain ⟨r16, h16, h⟩ := q_bnd h
      refine q_callVi1 dX8_differences_16 cl_X8_90 rfl (Nat.le_of_ble_eq_true rfl) (by omega) (sX8_isTick (by omega) h16 ?_)
      refine q_if_eq_b 31 dX8_differences_19 (by decide) (fun c19 => ?_) (fun c19 => ?_)
      · replace h := q_ifb c19 h
        refine q_iconst (v := (-1)) dX8_differences_31 (by decide) ?_
        exact q_ret dX8_differences_32 rfl rfl (q_lfi h k)
      · replace h := q_ift c19 h
        refine q_aload_n dX8_differences_22 rfl ?_
        refine q_iload dX8_differences_23 rfl ?_
        obtain ⟨r25, h25, h⟩ := q_bnd h
        refine q_callVi1 dX8_differences_25 cl_X8_90 rfl (Nat.le_of_ble_eq_true rfl) (by omega) (sX8_isTick (by omega) h25 ?_)
        refine q_if_ne_b 33 dX8_differences_28 (by decide) (fun c28 => ?_) (fun c28 => ?_)
        · replace h := q_ift c28 h
          refine q_aload_n dX8_differences_33 rfl ?_
          refine q_iload_n dX8_differences_34 rfl ?_
          refine q_iload_n dX8_differences_35 rfl ?_
          refine q_iload_n dX8_differences_36 rfl ?_
          refine q_iload dX8_differences_37 rfl ?_
          refine q_iload_n dX8_differences_39 rfl ?_
          obtain ⟨r40, h40, h⟩ := q_bnd h
          refine q_callVi5 dX8_differences_40 cl_X8_214 rfl (Nat.le_of_ble_eq_true rfl) (by omega) (sX8_countDiffering (by omega) h40 ?_)
          exact q_ret dX8_differences_43 rfl rfl (q_lfi h k)
        · replace h := q_ifb c28 h
          refine q_iconst (v := (-1)) dX8_differences_31 (by decide) ?_
          exact q_ret dX8_differences_32 rfl rfl (q_lfi h k)
def fX8_difference_44 (p1 p2 p3 p4 p5 : Int32) : Nat → Int32 → Int32 → qS → Option Int32
  | 0, _, _, _ => none
  | n + 1, v6, v7, S => if 124 < v7 then some (-4) else (fX2_isName v7 S).bind (fun r53 => if r53 = true then (fX0_lookUp p1 v7 p2 p3 S).bind (fun r68 => (fX0_lookUp p1 v7 p2 p4 S).bind (fun r81 => if r68 = r81 then fX8_difference_44 p1 p2 p3 p4 p5 n v6 (v7 + 1) S else if v6 = p5 then some v7 else fX8_difference_44 p1 p2 p3 p4 p5 n (v6 + 1) (v7 + 1) S)) else fX8_difference_44 p1 p2 p3 p4 p5 n v6 (v7 + 1) S)
set_option maxHeartbeats 4000000 in
set_option maxRecDepth 100000 in
theorem sX8_difference_44 {l : Launch} {d : Nat} (hd : 6 ≤ d) {S : qS} {p1 p2 p3 p4 p5 : Int32} {r : Int32} {Q : Int32 → qS → Prop} (k : Q r S) : ∀ (n : Nat) (v6 : Int32) (v7 : Int32), fX8_difference_44 p1 p2 p3 p4 p5 n v6 v7 S = some r → q_E l cX8_difference 8 (some .int) RX8 d S 44 [some (.inr 0), some (.inl p1), some (.inl p2), some (.inl p3), some (.inl p4), some (.inl p5), some (.inl v6), some (.inl v7)] [] (q_Qi Q) := by
  intro n
  induction n with
  | zero => intro v6 v7 h; exact q_no h
  | succ n ih =>
    intro v6 v7 h
    rw [fX8_difference_44] at h
    refine q_iload dX8_difference_44 rfl ?_
    refine q_bipush (v := 124) dX8_difference_46 (by decide) ?_
    refine q_icmp_gt 106 dX8_difference_48 (by decide) (fun c48 => ?_) (fun c48 => ?_)
    · replace h := q_ift c48 h
      refine q_bipush (v := (-4)) dX8_difference_106 (by decide) ?_
      exact q_ret dX8_difference_108 rfl rfl (q_lfi h k)
    · replace h := q_iff c48 h
      refine q_iload dX8_difference_51 rfl ?_
      obtain ⟨r53, h53, h⟩ := q_bnd h
      refine q_callSi1 dX8_difference_53 cl_X8_97 (Nat.le_of_ble_eq_true rfl) (by omega) (sX2_isName (by omega) h53 ?_)
      refine q_if_eq_b 100 dX8_difference_56 (by decide) (fun c56 => ?_) (fun c56 => ?_)
      · replace h := q_ifb c56 h
        refine q_iinc (v := (v7 + 1)) dX8_difference_100 rfl rfl (by decide) ?_
        refine q_goto 44 dX8_difference_103 (by decide) ?_
        exact q_sub (ih _ _ h) (And.intro rfl (And.intro rfl (And.intro rfl (And.intro rfl (And.intro rfl (And.intro rfl (And.intro rfl (And.intro rfl trivial))))))))
      · replace h := q_ift c56 h
        refine q_aload_n dX8_difference_59 rfl ?_
        refine q_getr dX8_difference_60 fl_X8_19 rfl rfl ?_
        refine q_iload_n dX8_difference_63 rfl ?_
        refine q_iload dX8_difference_64 rfl ?_
        refine q_iload_n dX8_difference_66 rfl ?_
        refine q_iload_n dX8_difference_67 rfl ?_
        obtain ⟨r68, h68, h⟩ := q_bnd h
        refine q_callVi4 dX8_difference_68 cl_X8_205 rfl (Nat.le_of_ble_eq_true rfl) (by omega) (sX0_lookUp (by omega) h68 ?_)
        refine q_aload_n dX8_difference_71 rfl ?_
        refine q_getr dX8_difference_72 fl_X8_19 rfl rfl ?_
        refine q_iload_n dX8_difference_75 rfl ?_
        refine q_iload dX8_difference_76 rfl ?_
        refine q_iload_n dX8_difference_78 rfl ?_
        refine q_iload dX8_difference_79 rfl ?_
        obtain ⟨r81, h81, h⟩ := q_bnd h
        refine q_callVi4 dX8_difference_81 cl_X8_205 rfl (Nat.le_of_ble_eq_true rfl) (by omega) (sX0_lookUp (by omega) h81 ?_)
        refine q_icmp_eq 100 dX8_difference_84 (by decide) (fun c84 => ?_) (fun c84 => ?_)
        · replace h := q_ift c84 h
          refine q_iinc (v := (v7 + 1)) dX8_difference_100 rfl rfl (by decide) ?_
          refine q_goto 44 dX8_difference_103 (by decide) ?_
          exact q_sub (ih _ _ h) (And.intro rfl (And.intro rfl (And.intro rfl (And.intro rfl (And.intro rfl (And.intro rfl (And.intro rfl (And.intro rfl trivial))))))))
        · replace h := q_iff c84 h
          refine q_iload dX8_difference_87 rfl ?_
          refine q_iload dX8_difference_89 rfl ?_
          refine q_icmp_ne 97 dX8_difference_91 (by decide) (fun c91 => ?_) (fun c91 => ?_)
          · replace h := q_iff c91 h
            refine q_iinc (v := (v6 + 1)) dX8_difference_97 rfl rfl (by decide) ?_
            refine q_iinc (v := (v7 + 1)) dX8_difference_100 rfl rfl (by decide) ?_
            refine q_goto 44 dX8_difference_103 (by decide) ?_
            exact q_sub (ih _ _ h) (And.intro rfl (And.intro rfl (And.intro rfl (And.intro rfl (And.intro rfl (And.intro rfl (And.intro rfl (And.intro rfl trivial))))))))
          · replace h := q_ift c91 h
            refine q_iload dX8_difference_94 rfl ?_
            exact q_ret dX8_difference_96 rfl rfl (q_lfi h k)
def fX8_difference (a1 a2 a3 a4 a5 : Int32) (S : qS) : Option Int32 := (fX8_isView a1 S).bind (fun r1 => if r1 = true then (fX8_isType a2 S).bind (fun r8 => if r8 = true then (fX8_isTick a3 S).bind (fun r16 => if r16 = true then (fX8_isTick a4 S).bind (fun r25 => if r25 = true then if 0 ≤ a5 then fX8_difference_44 a1 a2 a3 a4 a5 20000 0 1 S else some (-1) else some (-1)) else some (-1)) else some (-1)) else some (-1))
set_option maxHeartbeats 4000000 in
set_option maxRecDepth 100000 in
theorem sX8_difference {l : Launch} {d : Nat} (hd : 6 ≤ d) {S : qS} {a1 a2 a3 a4 a5 : Int32} {r : Int32} (h : fX8_difference a1 a2 a3 a4 a5 S = some r) {Q : Int32 → qS → Prop} (k : Q r S) : q_Mi l d yX8_difference cX8_difference 8 (some .int) [.inr 0, .inl a1, .inl a2, .inl a3, .inl a4, .inl a5] S Q := by
  refine q_Mi_of (own := RX8) rfl rfl [some (.inr 0), some (.inl a1), some (.inl a2), some (.inl a3), some (.inl a4), some (.inl a5), none, none] rfl (Nat.le_of_ble_eq_true rfl) ?_
  unfold fX8_difference at h
  refine q_iload_n dX8_difference_0 rfl ?_
  obtain ⟨r1, h1, h⟩ := q_bnd h
  refine q_callSi1 dX8_difference_1 cl_X8_51 (Nat.le_of_ble_eq_true rfl) (by omega) (sX8_isView (by omega) h1 ?_)
  refine q_if_eq_b 36 dX8_difference_4 (by decide) (fun c4 => ?_) (fun c4 => ?_)
  · replace h := q_ifb c4 h
    refine q_iconst (v := (-1)) dX8_difference_36 (by decide) ?_
    exact q_ret dX8_difference_37 rfl rfl (q_lfi h k)
  · replace h := q_ift c4 h
    refine q_iload_n dX8_difference_7 rfl ?_
    obtain ⟨r8, h8, h⟩ := q_bnd h
    refine q_callSi1 dX8_difference_8 cl_X8_156 (Nat.le_of_ble_eq_true rfl) (by omega) (sX8_isType (by omega) h8 ?_)
    refine q_if_eq_b 36 dX8_difference_11 (by decide) (fun c11 => ?_) (fun c11 => ?_)
    · replace h := q_ifb c11 h
      refine q_iconst (v := (-1)) dX8_difference_36 (by decide) ?_
      exact q_ret dX8_difference_37 rfl rfl (q_lfi h k)
    · replace h := q_ift c11 h
      refine q_aload_n dX8_difference_14 rfl ?_
      refine q_iload_n dX8_difference_15 rfl ?_
      obtain ⟨r16, h16, h⟩ := q_bnd h
      refine q_callVi1 dX8_difference_16 cl_X8_90 rfl (Nat.le_of_ble_eq_true rfl) (by omega) (sX8_isTick (by omega) h16 ?_)
      refine q_if_eq_b 36 dX8_difference_19 (by decide) (fun c19 => ?_) (fun c19 => ?_)
      · replace h := q_ifb c19 h
        refine q_iconst (v := (-1)) dX8_difference_36 (by decide) ?_
        exact q_ret dX8_difference_37 rfl rfl (q_lfi h k)
      · replace h := q_ift c19 h
        refine q_aload_n dX8_difference_22 rfl ?_
        refine q_iload dX8_difference_23 rfl ?_
        obtain ⟨r25, h25, h⟩ := q_bnd h
        refine q_callVi1 dX8_difference_25 cl_X8_90 rfl (Nat.le_of_ble_eq_true rfl) (by omega) (sX8_isTick (by omega) h25 ?_)
        refine q_if_eq_b 36 dX8_difference_28 (by decide) (fun c28 => ?_) (fun c28 => ?_)
        · replace h := q_ifb c28 h
          refine q_iconst (v := (-1)) dX8_difference_36 (by decide) ?_
          exact q_ret dX8_difference_37 rfl rfl (q_lfi h k)
        · replace h := q_ift c28 h
          refine q_iload dX8_difference_31 rfl ?_
          refine q_if_ge 38 dX8_difference_33 (by decide) (fun c33 => ?_) (fun c33 => ?_)
          · replace h := q_ift c33 h
            refine q_iconst (v := 0) dX8_difference_38 (by decide) ?_
            refine q_istore dX8_difference_39 (by decide) ?_
            refine q_iconst (v := 1) dX8_difference_41 (by decide) ?_
            refine q_istore dX8_difference_42 (by decide) ?_
            exact q_sub (sX8_difference_44 hd k 20000 _ _ h) (And.intro rfl (And.intro rfl (And.intro rfl (And.intro rfl (And.intro rfl (And.intro rfl (And.intro rfl (And.intro rfl trivial))))))))
          · replace h := q_iff c33 h
            refine q_iconst (v := (-1)) dX8_difference_36 (by decide) ?_
            exact q_ret dX8_difference_37 rfl rfl (q_lfi h k)
