def fX8_count (a1 : Int32) (S : qS) : Option Int32 := if a1 = 0 then (fX5_countThere_2 (S 0 6) S).bind (fun r51 => some r51) else if a1 = 1 then (fX5_countThere_10 (S 0 6) S).bind (fun r66 => some r66) else if a1 = 2 then (fX0_countRecords (S 0 6) S).bind (fun r78 => some r78) else if a1 = 3 then some (S 16 3) else if a1 = 4 then some (S 23 5) else if a1 = 5 then some (S 23 6) else some (-1)
set_option maxHeartbeats 4000000 in
set_option maxRecDepth 100000 in
theorem sX8_count {l : Launch} {d : Nat} (hd : 3 ≤ d) {S : qS} {a1 : Int32} {r : Int32} (h : fX8_count a1 S = some r) {Q : Int32 → qS → Prop} (k : Q r S) : q_Mi l d yX8_count cX8_count 2 (some .int) [.inr 0, .inl a1] S Q := by
  refine q_Mi_of (own := RX8) rfl rfl [some (.inr 0), some (.inl a1)] rfl (Nat.le_of_ble_eq_true rfl) ?_
  unfold fX8_count at h
  refine q_iload_n dX8_count_0 rfl ?_
  by_cases c1_0 : a1 = 0
  · replace h := q_ift c1_0 h
    refine q_tableIn 40 dX8_count_1 (by rw [c1_0]; decide) (by rw [c1_0]; decide) (off := 39) (by rw [c1_0]; rfl) (by decide) ?_
    refine q_aload_n dX8_count_40 rfl ?_
    refine q_getr dX8_count_41 fl_X8_10 rfl rfl ?_
    refine q_getr dX8_count_44 fl_X8_61 rfl rfl ?_
    refine q_aload_n dX8_count_47 rfl ?_
    refine q_geti dX8_count_48 fl_X8_47 rfl rfl ?_
    obtain ⟨r51, h51, h⟩ := q_bnd h
    refine q_callVi1 dX8_count_51 cl_X8_129 rfl (Nat.le_of_ble_eq_true rfl) (by omega) (sX5_countThere_2 (by omega) h51 ?_)
    exact q_ret dX8_count_54 rfl rfl (q_lfi h k)
  · replace h := q_iff c1_0 h
    by_cases c1_1 : a1 = 1
    · replace h := q_ift c1_1 h
      refine q_tableIn 55 dX8_count_1 (by rw [c1_1]; decide) (by rw [c1_1]; decide) (off := 54) (by rw [c1_1]; rfl) (by decide) ?_
      refine q_aload_n dX8_count_55 rfl ?_
      refine q_getr dX8_count_56 fl_X8_27 rfl rfl ?_
      refine q_getr dX8_count_59 fl_X8_111 rfl rfl ?_
      refine q_aload_n dX8_count_62 rfl ?_
      refine q_geti dX8_count_63 fl_X8_47 rfl rfl ?_
      obtain ⟨r66, h66, h⟩ := q_bnd h
      refine q_callVi1 dX8_count_66 cl_X8_129 rfl (Nat.le_of_ble_eq_true rfl) (by omega) (sX5_countThere_10 (by omega) h66 ?_)
      exact q_ret dX8_count_69 rfl rfl (q_lfi h k)
    · replace h := q_iff c1_1 h
      by_cases c1_2 : a1 = 2
      · replace h := q_ift c1_2 h
        refine q_tableIn 70 dX8_count_1 (by rw [c1_2]; decide) (by rw [c1_2]; decide) (off := 69) (by rw [c1_2]; rfl) (by decide) ?_
        refine q_aload_n dX8_count_70 rfl ?_
        refine q_getr dX8_count_71 fl_X8_19 rfl rfl ?_
        refine q_aload_n dX8_count_74 rfl ?_
        refine q_geti dX8_count_75 fl_X8_47 rfl rfl ?_
        obtain ⟨r78, h78, h⟩ := q_bnd h
        refine q_callVi1 dX8_count_78 cl_X8_133 rfl (Nat.le_of_ble_eq_true rfl) (by omega) (sX0_countRecords (by omega) h78 ?_)
        exact q_ret dX8_count_81 rfl rfl (q_lfi h k)
      · replace h := q_iff c1_2 h
        by_cases c1_3 : a1 = 3
        · replace h := q_ift c1_3 h
          refine q_tableIn 82 dX8_count_1 (by rw [c1_3]; decide) (by rw [c1_3]; decide) (off := 81) (by rw [c1_3]; rfl) (by decide) ?_
          refine q_aload_n dX8_count_82 rfl ?_
          refine q_getr dX8_count_83 fl_X8_32 rfl rfl ?_
          refine q_getr dX8_count_86 fl_X8_136 rfl rfl ?_
          refine q_geti dX8_count_89 fl_X8_137 rfl rfl ?_
          exact q_ret dX8_count_92 rfl rfl (q_lfi h k)
        · replace h := q_iff c1_3 h
          by_cases c1_4 : a1 = 4
          · replace h := q_ift c1_4 h
            refine q_tableIn 93 dX8_count_1 (by rw [c1_4]; decide) (by rw [c1_4]; decide) (off := 92) (by rw [c1_4]; rfl) (by decide) ?_
            refine q_aload_n dX8_count_93 rfl ?_
            refine q_getr dX8_count_94 fl_X8_36 rfl rfl ?_
            refine q_geti dX8_count_97 fl_X8_140 rfl rfl ?_
            exact q_ret dX8_count_100 rfl rfl (q_lfi h k)
          · replace h := q_iff c1_4 h
            by_cases c1_5 : a1 = 5
            · replace h := q_ift c1_5 h
              refine q_tableIn 101 dX8_count_1 (by rw [c1_5]; decide) (by rw [c1_5]; decide) (off := 100) (by rw [c1_5]; rfl) (by decide) ?_
              refine q_aload_n dX8_count_101 rfl ?_
              refine q_getr dX8_count_102 fl_X8_36 rfl rfl ?_
              refine q_geti dX8_count_105 fl_X8_143 rfl rfl ?_
              exact q_ret dX8_count_108 rfl rfl (q_lfi h k)
            · replace h := q_iff c1_5 h
              have hx : (a1).toInt < 0 ∨ 5 < (a1).toInt := by
                have e0 := q_ti c1_0 (n := 0) (by decide)
                have e1 := q_ti c1_1 (n := 1) (by decide)
                have e2 := q_ti c1_2 (n := 2) (by decide)
                have e3 := q_ti c1_3 (n := 3) (by decide)
                have e4 := q_ti c1_4 (n := 4) (by decide)
                have e5 := q_ti c1_5 (n := 5) (by decide)
                omega
              refine q_tableOut 109 dX8_count_1 hx (by decide) ?_
              refine q_iconst (v := (-1)) dX8_count_109 (by decide) ?_
              exact q_ret dX8_count_110 rfl rfl (q_lfi h k)
def fX8_set (a1 a2 a3 a4 : Int32) (S : qS) : Option (Int32 × qS) := (fX5_isMade_10 a1 S).bind (fun r8 => if r8 = true then (fX2_isName a2 S).bind (fun r15 => if r15 = true then (fX8_isValue a3 a4 S).bind (fun r24 => if r24 = true then if q_inb a1 10 = true then (fX2_isAt a2 (S 14 a1.toNatClampNeg) S).bind (fun r40 => if r40 = true then (fX5_isThere_10 a1 (S 0 6) S).bind (fun r60 => if r60 = true then (fX5_isFull_16 S).bind (fun r76 => if r76 = true then some ((-3), S) else (fX4_put a1 a2 a3 a4 (S 0 6) S).bind (fun T98 => (fX4_countIn a1 (T98 0 6) T98).bind (fun r110 => some (r110, T98)))) else some ((-2), S)) else some ((-1), S)) else none else some ((-1), S)) else some ((-1), S)) else some ((-1), S))
set_option maxHeartbeats 4000000 in
set_option maxRecDepth 100000 in
theorem sX8_set {l : Launch} {d : Nat} (hd : 4 ≤ d) {S : qS} {a1 a2 a3 a4 : Int32} {r : Int32} {S' : qS} (h : fX8_set a1 a2 a3 a4 S = some (r, S')) {Q : Int32 → qS → Prop} (k : Q r S') : q_Mi l d yX8_set cX8_set 5 (some .int) [.inr 0, .inl a1, .inl a2, .inl a3, .inl a4] S Q := by
  refine q_Mi_of (own := RX8) rfl rfl [some (.inr 0), some (.inl a1), some (.inl a2), some (.inl a3), some (.inl a4)] rfl (Nat.le_of_ble_eq_true rfl) ?_
  unfold fX8_set at h
  refine q_aload_n dX8_set_0 rfl ?_
  refine q_getr dX8_set_1 fl_X8_27 rfl rfl ?_
  refine q_getr dX8_set_4 fl_X8_111 rfl rfl ?_
  refine q_iload_n dX8_set_7 rfl ?_
  obtain ⟨r8, h8, h⟩ := q_bnd h
  refine q_callVi1 dX8_set_8 cl_X8_75 rfl (Nat.le_of_ble_eq_true rfl) (by omega) (sX5_isMade_10 (by omega) h8 ?_)
  refine q_if_eq_b 46 dX8_set_11 (by decide) (fun c11 => ?_) (fun c11 => ?_)
  · replace h := q_ifb c11 h
    refine q_iconst (v := (-1)) dX8_set_46 (by decide) ?_
    exact q_ret dX8_set_47 rfl rfl (q_lfiw h k)
  · replace h := q_ift c11 h
    refine q_iload_n dX8_set_14 rfl ?_
    obtain ⟨r15, h15, h⟩ := q_bnd h
    refine q_callSi1 dX8_set_15 cl_X8_97 (Nat.le_of_ble_eq_true rfl) (by omega) (sX2_isName (by omega) h15 ?_)
    refine q_if_eq_b 46 dX8_set_18 (by decide) (fun c18 => ?_) (fun c18 => ?_)
    · replace h := q_ifb c18 h
      refine q_iconst (v := (-1)) dX8_set_46 (by decide) ?_
      exact q_ret dX8_set_47 rfl rfl (q_lfiw h k)
    · replace h := q_ift c18 h
      refine q_iload_n dX8_set_21 rfl ?_
      refine q_iload dX8_set_22 rfl ?_
      obtain ⟨r24, h24, h⟩ := q_bnd h
      refine q_callSi2 dX8_set_24 cl_X8_146 (Nat.le_of_ble_eq_true rfl) (by omega) (sX8_isValue (by omega) h24 ?_)
      refine q_if_eq_b 46 dX8_set_27 (by decide) (fun c27 => ?_) (fun c27 => ?_)
      · replace h := q_ifb c27 h
        refine q_iconst (v := (-1)) dX8_set_46 (by decide) ?_
        exact q_ret dX8_set_47 rfl rfl (q_lfiw h k)
      · replace h := q_ift c27 h
        refine q_iload_n dX8_set_30 rfl ?_
        refine q_aload_n dX8_set_31 rfl ?_
        refine q_getr dX8_set_32 fl_X8_27 rfl rfl ?_
        refine q_getr dX8_set_35 fl_X8_120 rfl rfl ?_
        refine q_iload_n dX8_set_38 rfl ?_
        obtain ⟨g39, h⟩ := q_gd h
        refine q_iald dX8_set_39 rfl g39 ?_
        obtain ⟨r40, h40, h⟩ := q_bnd h
        refine q_callSi2 dX8_set_40 cl_X8_149 (Nat.le_of_ble_eq_true rfl) (by omega) (sX2_isAt (by omega) h40 ?_)
        refine q_if_ne_b 48 dX8_set_43 (by decide) (fun c43 => ?_) (fun c43 => ?_)
        · replace h := q_ift c43 h
          refine q_aload_n dX8_set_48 rfl ?_
          refine q_getr dX8_set_49 fl_X8_27 rfl rfl ?_
          refine q_getr dX8_set_52 fl_X8_111 rfl rfl ?_
          refine q_iload_n dX8_set_55 rfl ?_
          refine q_aload_n dX8_set_56 rfl ?_
          refine q_geti dX8_set_57 fl_X8_47 rfl rfl ?_
          obtain ⟨r60, h60, h⟩ := q_bnd h
          refine q_callVi2 dX8_set_60 cl_X8_78 rfl (Nat.le_of_ble_eq_true rfl) (by omega) (sX5_isThere_10 (by omega) h60 ?_)
          refine q_if_ne_b 69 dX8_set_63 (by decide) (fun c63 => ?_) (fun c63 => ?_)
          · replace h := q_ift c63 h
            refine q_aload_n dX8_set_69 rfl ?_
            refine q_getr dX8_set_70 fl_X8_32 rfl rfl ?_
            refine q_getr dX8_set_73 fl_X8_136 rfl rfl ?_
            obtain ⟨r76, h76, h⟩ := q_bnd h
            refine q_callVi0 dX8_set_76 cl_X8_65 rfl (Nat.le_of_ble_eq_true rfl) (by omega) (sX5_isFull_16 (by omega) h76 ?_)
            refine q_if_eq_b 85 dX8_set_79 (by decide) (fun c79 => ?_) (fun c79 => ?_)
            · replace h := q_ifb c79 h
              refine q_aload_n dX8_set_85 rfl ?_
              refine q_getr dX8_set_86 fl_X8_32 rfl rfl ?_
              refine q_iload_n dX8_set_89 rfl ?_
              refine q_iload_n dX8_set_90 rfl ?_
              refine q_iload_n dX8_set_91 rfl ?_
              refine q_iload dX8_set_92 rfl ?_
              refine q_aload_n dX8_set_94 rfl ?_
              refine q_geti dX8_set_95 fl_X8_47 rfl rfl ?_
              obtain ⟨T98, h98, h⟩ := q_bnd h
              refine q_callVv5 dX8_set_98 cl_X8_152 rfl (Nat.le_of_ble_eq_true rfl) (by omega) (sX4_put (by omega) h98 ?_)
              refine q_aload_n dX8_set_101 rfl ?_
              refine q_getr dX8_set_102 fl_X8_32 rfl rfl ?_
              refine q_iload_n dX8_set_105 rfl ?_
              refine q_aload_n dX8_set_106 rfl ?_
              refine q_geti dX8_set_107 fl_X8_47 rfl rfl ?_
              obtain ⟨r110, h110, h⟩ := q_bnd h
              refine q_callVi2 dX8_set_110 cl_X8_114 rfl (Nat.le_of_ble_eq_true rfl) (by omega) (sX4_countIn (by omega) h110 ?_)
              exact q_ret dX8_set_113 rfl rfl (q_lfiw h k)
            · replace h := q_ift c79 h
              refine q_bipush (v := (-3)) dX8_set_82 (by decide) ?_
              exact q_ret dX8_set_84 rfl rfl (q_lfiw h k)
          · replace h := q_ifb c63 h
            refine q_bipush (v := (-2)) dX8_set_66 (by decide) ?_
            exact q_ret dX8_set_68 rfl rfl (q_lfiw h k)
        · replace h := q_ifb c43 h
          refine q_iconst (v := (-1)) dX8_set_46 (by decide) ?_
          exact q_ret dX8_set_47 rfl rfl (q_lfiw h k)
def fX8_clear (a1 a2 a3 : Int32) (S : qS) : Option (Int32 × qS) := (fX5_isMade_10 a1 S).bind (fun r8 => if r8 = true then (fX2_isName a2 S).bind (fun r15 => if r15 = true then (fX8_isType a3 S).bind (fun r22 => if r22 = true then (fX5_isThere_10 a1 (S 0 6) S).bind (fun r42 => if r42 = true then (fX5_isFull_16 S).bind (fun r58 => if r58 = true then some ((-3), S) else (fX4_find a1 a2 a3 (S 0 6) S).bind (fun r78 => if r78 = (-1) then some ((-4), S) else (fX4_drop r78 (S 0 6) S).bind (fun T102 => if q_inb r78 70 = true then some ((T102 22 r78.toNatClampNeg), T102) else none))) else some ((-2), S)) else some ((-1), S)) else some ((-1), S)) else some ((-1), S))
set_option maxHeartbeats 4000000 in
set_option maxRecDepth 100000 in
theorem sX8_clear {l : Launch} {d : Nat} (hd : 4 ≤ d) {S : qS} {a1 a2 a3 : Int32} {r : Int32} {S' : qS} (h : fX8_clear a1 a2 a3 S = some (r, S')) {Q : Int32 → qS → Prop} (k : Q r S') : q_Mi l d yX8_clear cX8_clear 5 (some .int) [.inr 0, .inl a1, .inl a2, .inl a3] S Q := by
  refine q_Mi_of (own := RX8) rfl rfl [some (.inr 0), some (.inl a1), some (.inl a2), some (.inl a3), none] rfl (Nat.le_of_ble_eq_true rfl) ?_
  unfold fX8_clear at h
  refine q_aload_n dX8_clear_0 rfl ?_
  refine q_getr dX8_clear_1 fl_X8_27 rfl rfl ?_
  refine q_getr dX8_clear_4 fl_X8_111 rfl rfl ?_
  refine q_iload_n dX8_clear_7 rfl ?_
  obtain ⟨r8, h8, h⟩ := q_bnd h
  refine q_callVi1 dX8_clear_8 cl_X8_75 rfl (Nat.le_of_ble_eq_true rfl) (by omega) (sX5_isMade_10 (by omega) h8 ?_)
  refine q_if_eq_b 28 dX8_clear_11 (by decide) (fun c11 => ?_) (fun c11 => ?_)
  · replace h := q_ifb c11 h
    refine q_iconst (v := (-1)) dX8_clear_28 (by decide) ?_
    exact q_ret dX8_clear_29 rfl rfl (q_lfiw h k)
  · replace h := q_ift c11 h
    refine q_iload_n dX8_clear_14 rfl ?_
    obtain ⟨r15, h15, h⟩ := q_bnd h
    refine q_callSi1 dX8_clear_15 cl_X8_97 (Nat.le_of_ble_eq_true rfl) (by omega) (sX2_isName (by omega) h15 ?_)
    refine q_if_eq_b 28 dX8_clear_18 (by decide) (fun c18 => ?_) (fun c18 => ?_)
    · replace h := q_ifb c18 h
      refine q_iconst (v := (-1)) dX8_clear_28 (by decide) ?_
      exact q_ret dX8_clear_29 rfl rfl (q_lfiw h k)
    · replace h := q_ift c18 h
      refine q_iload_n dX8_clear_21 rfl ?_
      obtain ⟨r22, h22, h⟩ := q_bnd h
      refine q_callSi1 dX8_clear_22 cl_X8_156 (Nat.le_of_ble_eq_true rfl) (by omega) (sX8_isType (by omega) h22 ?_)
      refine q_if_ne_b 30 dX8_clear_25 (by decide) (fun c25 => ?_) (fun c25 => ?_)
      · replace h := q_ift c25 h
        refine q_aload_n dX8_clear_30 rfl ?_
        refine q_getr dX8_clear_31 fl_X8_27 rfl rfl ?_
        refine q_getr dX8_clear_34 fl_X8_111 rfl rfl ?_
        refine q_iload_n dX8_clear_37 rfl ?_
        refine q_aload_n dX8_clear_38 rfl ?_
        refine q_geti dX8_clear_39 fl_X8_47 rfl rfl ?_
        obtain ⟨r42, h42, h⟩ := q_bnd h
        refine q_callVi2 dX8_clear_42 cl_X8_78 rfl (Nat.le_of_ble_eq_true rfl) (by omega) (sX5_isThere_10 (by omega) h42 ?_)
        refine q_if_ne_b 51 dX8_clear_45 (by decide) (fun c45 => ?_) (fun c45 => ?_)
        · replace h := q_ift c45 h
          refine q_aload_n dX8_clear_51 rfl ?_
          refine q_getr dX8_clear_52 fl_X8_32 rfl rfl ?_
          refine q_getr dX8_clear_55 fl_X8_136 rfl rfl ?_
          obtain ⟨r58, h58, h⟩ := q_bnd h
          refine q_callVi0 dX8_clear_58 cl_X8_65 rfl (Nat.le_of_ble_eq_true rfl) (by omega) (sX5_isFull_16 (by omega) h58 ?_)
          refine q_if_eq_b 67 dX8_clear_61 (by decide) (fun c61 => ?_) (fun c61 => ?_)
          · replace h := q_ifb c61 h
            refine q_aload_n dX8_clear_67 rfl ?_
            refine q_getr dX8_clear_68 fl_X8_32 rfl rfl ?_
            refine q_iload_n dX8_clear_71 rfl ?_
            refine q_iload_n dX8_clear_72 rfl ?_
            refine q_iload_n dX8_clear_73 rfl ?_
            refine q_aload_n dX8_clear_74 rfl ?_
            refine q_geti dX8_clear_75 fl_X8_47 rfl rfl ?_
            obtain ⟨r78, h78, h⟩ := q_bnd h
            refine q_callVi4 dX8_clear_78 cl_X8_159 rfl (Nat.le_of_ble_eq_true rfl) (by omega) (sX4_find (by omega) h78 ?_)
            refine q_istore dX8_clear_81 (by decide) ?_
            refine q_iload dX8_clear_83 rfl ?_
            refine q_iconst (v := (-1)) dX8_clear_85 (by decide) ?_
            refine q_icmp_ne 92 dX8_clear_86 (by decide) (fun c86 => ?_) (fun c86 => ?_)
            · replace h := q_iff c86 h
              refine q_aload_n dX8_clear_92 rfl ?_
              refine q_getr dX8_clear_93 fl_X8_32 rfl rfl ?_
              refine q_iload dX8_clear_96 rfl ?_
              refine q_aload_n dX8_clear_98 rfl ?_
              refine q_geti dX8_clear_99 fl_X8_47 rfl rfl ?_
              obtain ⟨T102, h102, h⟩ := q_bnd h
              refine q_callVv2 dX8_clear_102 cl_X8_161 rfl (Nat.le_of_ble_eq_true rfl) (by omega) (sX4_drop (by omega) h102 ?_)
              refine q_aload_n dX8_clear_105 rfl ?_
              refine q_getr dX8_clear_106 fl_X8_32 rfl rfl ?_
              refine q_getr dX8_clear_109 fl_X8_164 rfl rfl ?_
              refine q_iload dX8_clear_112 rfl ?_
              obtain ⟨g114, h⟩ := q_gd h
              refine q_iald dX8_clear_114 rfl g114 ?_
              exact q_ret dX8_clear_115 rfl rfl (q_lfiw h k)
            · replace h := q_ift c86 h
              refine q_bipush (v := (-4)) dX8_clear_89 (by decide) ?_
              exact q_ret dX8_clear_91 rfl rfl (q_lfiw h k)
          · replace h := q_ift c61 h
            refine q_bipush (v := (-3)) dX8_clear_64 (by decide) ?_
            exact q_ret dX8_clear_66 rfl rfl (q_lfiw h k)
        · replace h := q_ifb c45 h
          refine q_bipush (v := (-2)) dX8_clear_48 (by decide) ?_
          exact q_ret dX8_clear_50 rfl rfl (q_lfiw h k)
      · replace h := q_ifb c25 h
        refine q_iconst (v := (-1)) dX8_clear_28 (by decide) ?_
        exact q_ret dX8_clear_29 rfl rfl (q_lfiw h k)
def fX8_record (a1 a2 a3 a4 : Int32) (S : qS) : Option Int32 := (fX5_isMade_10 a1 S).bind (fun r8 => if r8 = true then (fX2_isName a2 S).bind (fun r15 => if r15 = true then (fX8_isType a3 S).bind (fun r22 => if r22 = true then (fX8_isTick a4 S).bind (fun r31 => if r31 = true then (fX5_isThere_10 a1 a4 S).bind (fun r49 => if r49 = true then (fX4_find a1 a2 a3 a4 S).bind (fun r67 => if r67 = (-1) then some (-4) else if q_inb r67 70 = true then some (S 22 r67.toNatClampNeg) else none) else some (-2)) else some (-1)) else some (-1)) else some (-1)) else some (-1))
set_option maxHeartbeats 4000000 in
set_option maxRecDepth 100000 in
theorem sX8_record {l : Launch} {d : Nat} (hd : 2 ≤ d) {S : qS} {a1 a2 a3 a4 : Int32} {r : Int32} (h : fX8_record a1 a2 a3 a4 S = some r) {Q : Int32 → qS → Prop} (k : Q r S) : q_Mi l d yX8_record cX8_record 6 (some .int) [.inr 0, .inl a1, .inl a2, .inl a3, .inl a4] S Q := by
  refine q_Mi_of (own := RX8) rfl rfl [some (.inr 0), some (.inl a1), some (.inl a2), some (.inl a3), some (.inl a4), none] rfl (Nat.le_of_ble_eq_true rfl) ?_
  unfold fX8_record at h
  refine q_aload_n dX8_record_0 rfl ?_
  refine q_getr dX8_record_1 fl_X8_27 rfl rfl ?_
  refine q_getr dX8_record_4 fl_X8_111 rfl rfl ?_
  refine q_iload_n dX8_record_7 rfl ?_
  obtain ⟨r8, h8, h⟩ := q_bnd h
  refine q_callVi1 dX8_record_8 cl_X8_75 rfl (Nat.le_of_ble_eq_true rfl) (by omega) (sX5_isMade_10 (by omega) h8 ?_)
  refine q_if_eq_b 37 dX8_record_11 (by decide) (fun c11 => ?_) (fun c11 => ?_)
  · replace h := q_ifb c11 h
    refine q_iconst (v := (-1)) dX8_record_37 (by decide) ?_
    exact q_ret dX8_record_38 rfl rfl (q_lfi h k)
  · replace h := q_ift c11 h
    refine q_iload_n dX8_record_14 rfl ?_
    obtain ⟨r15, h15, h⟩ := q_bnd h
    refine q_callSi1 dX8_record_15 cl_X8_97 (Nat.le_of_ble_eq_true rfl) (by omega) (sX2_isName (by omega) h15 ?_)
    refine q_if_eq_b 37 dX8_record_18 (by decide) (fun c18 => ?_) (fun c18 => ?_)
    · replace h := q_ifb c18 h
      refine q_iconst (v := (-1)) dX8_record_37 (by decide) ?_
      exact q_ret dX8_record_38 rfl rfl (q_lfi h k)
    · replace h := q_ift c18 h
      refine q_iload_n dX8_record_21 rfl ?_
      obtain ⟨r22, h22, h⟩ := q_bnd h
      refine q_callSi1 dX8_record_22 cl_X8_156 (Nat.le_of_ble_eq_true rfl) (by omega) (sX8_isType (by omega) h22 ?_)
      refine q_if_eq_b 37 dX8_record_25 (by decide) (fun c25 => ?_) (fun c25 => ?_)
      · replace h := q_ifb c25 h
        refine q_iconst (v := (-1)) dX8_record_37 (by decide) ?_
        exact q_ret dX8_record_38 rfl rfl (q_lfi h k)
      · replace h := q_ift c25 h
        refine q_aload_n dX8_record_28 rfl ?_
        refine q_iload dX8_record_29 rfl ?_
        obtain ⟨r31, h31, h⟩ := q_bnd h
        refine q_callVi1 dX8_record_31 cl_X8_90 rfl (Nat.le_of_ble_eq_true rfl) (by omega) (sX8_isTick (by omega) h31 ?_)
        refine q_if_ne_b 39 dX8_record_34 (by decide) (fun c34 => ?_) (fun c34 => ?_)
        · replace h := q_ift c34 h
          refine q_aload_n dX8_record_39 rfl ?_
          refine q_getr dX8_record_40 fl_X8_27 rfl rfl ?_
          refine q_getr dX8_record_43 fl_X8_111 rfl rfl ?_
          refine q_iload_n dX8_record_46 rfl ?_
          refine q_iload dX8_record_47 rfl ?_
          obtain ⟨r49, h49, h⟩ := q_bnd h
          refine q_callVi2 dX8_record_49 cl_X8_78 rfl (Nat.le_of_ble_eq_true rfl) (by omega) (sX5_isThere_10 (by omega) h49 ?_)
          refine q_if_ne_b 58 dX8_record_52 (by decide) (fun c52 => ?_) (fun c52 => ?_)
          · replace h := q_ift c52 h
            refine q_aload_n dX8_record_58 rfl ?_
            refine q_getr dX8_record_59 fl_X8_32 rfl rfl ?_
            refine q_iload_n dX8_record_62 rfl ?_
            refine q_iload_n dX8_record_63 rfl ?_
            refine q_iload_n dX8_record_64 rfl ?_
            refine q_iload dX8_record_65 rfl ?_
            obtain ⟨r67, h67, h⟩ := q_bnd h
            refine q_callVi4 dX8_record_67 cl_X8_159 rfl (Nat.le_of_ble_eq_true rfl) (by omega) (sX4_find (by omega) h67 ?_)
            refine q_istore dX8_record_70 (by decide) ?_
            refine q_iload dX8_record_72 rfl ?_
            refine q_iconst (v := (-1)) dX8_record_74 (by decide) ?_
            refine q_icmp_ne 83 dX8_record_75 (by decide) (fun c75 => ?_) (fun c75 => ?_)
            · replace h := q_iff c75 h
              refine q_aload_n dX8_record_83 rfl ?_
              refine q_getr dX8_record_84 fl_X8_32 rfl rfl ?_
              refine q_getr dX8_record_87 fl_X8_164 rfl rfl ?_
              refine q_iload dX8_record_90 rfl ?_
              obtain ⟨g92, h⟩ := q_gd h
              refine q_iald dX8_record_92 rfl g92 ?_
              exact q_ret dX8_record_93 rfl rfl (q_lfi h k)
            · replace h := q_ift c75 h
              refine q_bipush (v := (-4)) dX8_record_78 (by decide) ?_
              refine q_goto 93 dX8_record_80 (by decide) ?_
              exact q_ret dX8_record_93 rfl rfl (q_lfi h k)
          · replace h := q_ifb c52 h
            refine q_bipush (v := (-2)) dX8_record_55 (by decide) ?_
            exact q_ret dX8_record_57 rfl rfl (q_lfi h k)
        · replace h := q_ifb c34 h
          refine q_iconst (v := (-1)) dX8_record_37 (by decide) ?_
          exact q_ret dX8_record_38 rfl rfl (q_lfi h k)
def fX8_serial (a1 a2 : Int32) (S : qS) : Option Int32 := (fX5_isMade_10 a1 S).bind (fun r8 => if r8 = true then (fX8_isTick a2 S).bind (fun r16 => if r16 = true then (fX4_countChanges a1 a2 S).bind (fun r30 => some r30) else some (-1)) else some (-1))
set_option maxHeartbeats 4000000 in
set_option maxRecDepth 100000 in
theorem sX8_serial {l : Launch} {d : Nat} (hd : 1 ≤ d) {S : qS} {a1 a2 : Int32} {r : Int32} (h : fX8_serial a1 a2 S = some r) {Q : Int32 → qS → Prop} (k : Q r S) : q_Mi l d yX8_serial cX8_serial 3 (some .int) [.inr 0, .inl a1, .inl a2] S Q := by
  refine q_Mi_of (own := RX8) rfl rfl [some (.inr 0), some (.inl a1), some (.inl a2)] rfl (Nat.le_of_ble_eq_true rfl) ?_
  unfold fX8_serial at h
  refine q_aload_n dX8_serial_0 rfl ?_
  refine q_getr dX8_serial_1 fl_X8_27 rfl rfl ?_
  refine q_getr dX8_serial_4 fl_X8_111 rfl rfl ?_
  refine q_iload_n dX8_serial_7 rfl ?_
  obtain ⟨r8, h8, h⟩ := q_bnd h
  refine q_callVi1 dX8_serial_8 cl_X8_75 rfl (Nat.le_of_ble_eq_true rfl) (by omega) (sX5_isMade_10 (by omega) h8 ?_)
  refine q_if_eq_b 22 dX8_serial_11 (by decide) (fun c11 => ?_) (fun c11 => ?_)
  · replace h := q_ifb c11 h
    refine q_iconst (v := (-1)) dX8_serial_22 (by decide) ?_
    exact q_ret dX8_serial_23 rfl rfl (q_lfi h k)
  · replace h := q_ift c11 h
    refine q_aload_n dX8_serial_14 rfl ?_
    refine q_iload_n dX8_serial_15 rfl ?_
    obtain ⟨r16, h16, h⟩ := q_bnd h
    refine q_callVi1 dX8_serial_16 cl_X8_90 rfl (Nat.le_of_ble_eq_true rfl) (by omega) (sX8_isTick (by omega) h16 ?_)
    refine q_if_ne_b 24 dX8_serial_19 (by decide) (fun c19 => ?_) (fun c19 => ?_)
    · replace h := q_ift c19 h
      refine q_aload_n dX8_serial_24 rfl ?_
      refine q_getr dX8_serial_25 fl_X8_32 rfl rfl ?_
      refine q_iload_n dX8_serial_28 rfl ?_
      refine q_iload_n dX8_serial_29 rfl ?_
      obtain ⟨r30, h30, h⟩ := q_bnd h
      refine q_callVi2 dX8_serial_30 cl_X8_167 rfl (Nat.le_of_ble_eq_true rfl) (by omega) (sX4_countChanges (by omega) h30 ?_)
      exact q_ret dX8_serial_33 rfl rfl (q_lfi h k)
    · replace h := q_ifb c19 h
      refine q_iconst (v := (-1)) dX8_serial_22 (by decide) ?_
      exact q_ret dX8_serial_23 rfl rfl (q_lfi h k)
def fX8_change (a1 a2 a3 : Int32) (S : qS) : Option Int32 := (fX5_isMade_10 a1 S).bind (fun r8 => if r8 = true then if a2 < 0 then some (-1) else if a3 < 0 then some (-1) else if a3 ≤ 3 then (fX4_findChange a1 a2 S).bind (fun r35 => if r35 = (-1) then some (-4) else if a3 = 0 then if q_inb r35 70 = true then some (S 17 r35.toNatClampNeg) else none else if a3 = 1 then if q_inb r35 70 = true then some (S 20 r35.toNatClampNeg) else none else if a3 = 2 then if q_inb r35 70 = true then some (S 21 r35.toNatClampNeg) else none else if q_inb r35 70 = true then some (S 22 r35.toNatClampNeg) else none) else some (-1) else some (-1))
set_option maxHeartbeats 4000000 in
set_option maxRecDepth 100000 in
theorem sX8_change {l : Launch} {d : Nat} (hd : 1 ≤ d) {S : qS} {a1 a2 a3 : Int32} {r : Int32} (h : fX8_change a1 a2 a3 S = some r) {Q : Int32 → qS → Prop} (k : Q r S) : q_Mi l d yX8_change cX8_change 5 (some .int) [.inr 0, .inl a1, .inl a2, .inl a3] S Q := by
  refine q_Mi_of (own := RX8) rfl rfl [some (.inr 0), some (.inl a1), some (.inl a2), some (.inl a3), none] rfl (Nat.le_of_ble_eq_true rfl) ?_
  unfold fX8_change at h
  refine q_aload_n dX8_change_0 rfl ?_
  refine q_getr dX8_change_1 fl_X8_27 rfl rfl ?_
  refine q_getr dX8_change_4 fl_X8_111 rfl rfl ?_
  refine q_iload_n dX8_change_7 rfl ?_
  obtain ⟨r8, h8, h⟩ := q_bnd h
  refine q_callVi1 dX8_change_8 cl_X8_75 rfl (Nat.le_of_ble_eq_true rfl) (by omega) (sX5_isMade_10 (by omega) h8 ?_)
  refine q_if_eq_b 27 dX8_change_11 (by decide) (fun c11 => ?_) (fun c11 => ?_)
  · replace h := q_ifb c11 h
    refine q_iconst (v := (-1)) dX8_change_27 (by decide) ?_
    exact q_ret dX8_change_28 rfl rfl (q_lfi h k)
  · replace h := q_ift c11 h
    refine q_iload_n dX8_change_14 rfl ?_
    refine q_if_lt 27 dX8_change_15 (by decide) (fun c15 => ?_) (fun c15 => ?_)
    · replace h := q_ift c15 h
      refine q_iconst (v := (-1)) dX8_change_27 (by decide) ?_
      exact q_ret dX8_change_28 rfl rfl (q_lfi h k)
    · replace h := q_iff c15 h
      refine q_iload_n dX8_change_18 rfl ?_
      refine q_if_lt 27 dX8_change_19 (by decide) (fun c19 => ?_) (fun c19 => ?_)
      · replace h := q_ift c19 h
        refine q_iconst (v := (-1)) dX8_change_27 (by decide) ?_
        exact q_ret dX8_change_28 rfl rfl (q_lfi h k)
      · replace h := q_iff c19 h
        refine q_iload_n dX8_change_22 rfl ?_
        refine q_iconst (v := 3) dX8_change_23 (by decide) ?_
        refine q_icmp_le 29 dX8_change_24 (by decide) (fun c24 => ?_) (fun c24 => ?_)
        · replace h := q_ift c24 h
          refine q_aload_n dX8_change_29 rfl ?_
          refine q_getr dX8_change_30 fl_X8_32 rfl rfl ?_
          refine q_iload_n dX8_change_33 rfl ?_
          refine q_iload_n dX8_change_34 rfl ?_
          obtain ⟨r35, h35, h⟩ := q_bnd h
          refine q_callVi2 dX8_change_35 cl_X8_170 rfl (Nat.le_of_ble_eq_true rfl) (by omega) (sX4_findChange (by omega) h35 ?_)
          refine q_istore dX8_change_38 (by decide) ?_
          refine q_iload dX8_change_40 rfl ?_
          refine q_iconst (v := (-1)) dX8_change_42 (by decide) ?_
          refine q_icmp_ne 49 dX8_change_43 (by decide) (fun c43 => ?_) (fun c43 => ?_)
          · replace h := q_iff c43 h
            refine q_iload_n dX8_change_49 rfl ?_
            by_cases c50_0 : a3 = 0
            · replace h := q_ift c50_0 h
              refine q_tableIn 76 dX8_change_50 (by rw [c50_0]; decide) (by rw [c50_0]; decide) (off := 26) (by rw [c50_0]; rfl) (by decide) ?_
              refine q_aload_n dX8_change_76 rfl ?_
              refine q_getr dX8_change_77 fl_X8_32 rfl rfl ?_
              refine q_getr dX8_change_80 fl_X8_136 rfl rfl ?_
              refine q_getr dX8_change_83 fl_X8_123 rfl rfl ?_
              refine q_iload dX8_change_86 rfl ?_
              obtain ⟨g88, h⟩ := q_gd h
              refine q_iald dX8_change_88 rfl g88 ?_
              exact q_ret dX8_change_89 rfl rfl (q_lfi h k)
            · replace h := q_iff c50_0 h
              by_cases c50_1 : a3 = 1
              · replace h := q_ift c50_1 h
                refine q_tableIn 90 dX8_change_50 (by rw [c50_1]; decide) (by rw [c50_1]; decide) (off := 40) (by rw [c50_1]; rfl) (by decide) ?_
                refine q_aload_n dX8_change_90 rfl ?_
                refine q_getr dX8_change_91 fl_X8_32 rfl rfl ?_
                refine q_getr dX8_change_94 fl_X8_173 rfl rfl ?_
                refine q_iload dX8_change_97 rfl ?_
                obtain ⟨g99, h⟩ := q_gd h
                refine q_iald dX8_change_99 rfl g99 ?_
                exact q_ret dX8_change_100 rfl rfl (q_lfi h k)
              · replace h := q_iff c50_1 h
                by_cases c50_2 : a3 = 2
                · replace h := q_ift c50_2 h
                  refine q_tableIn 101 dX8_change_50 (by rw [c50_2]; decide) (by rw [c50_2]; decide) (off := 51) (by rw [c50_2]; rfl) (by decide) ?_
                  refine q_aload_n dX8_change_101 rfl ?_
                  refine q_getr dX8_change_102 fl_X8_32 rfl rfl ?_
                  refine q_getr dX8_change_105 fl_X8_176 rfl rfl ?_
                  refine q_iload dX8_change_108 rfl ?_
                  obtain ⟨g110, h⟩ := q_gd h
                  refine q_iald dX8_change_110 rfl g110 ?_
                  exact q_ret dX8_change_111 rfl rfl (q_lfi h k)
                · replace h := q_iff c50_2 h
                  have hx : (a3).toInt < 0 ∨ 2 < (a3).toInt := by
                    have e0 := q_ti c50_0 (n := 0) (by decide)
                    have e1 := q_ti c50_1 (n := 1) (by decide)
                    have e2 := q_ti c50_2 (n := 2) (by decide)
                    omega
                  refine q_tableOut 112 dX8_change_50 hx (by decide) ?_
                  refine q_aload_n dX8_change_112 rfl ?_
                  refine q_getr dX8_change_113 fl_X8_32 rfl rfl ?_
                  refine q_getr dX8_change_116 fl_X8_164 rfl rfl ?_
                  refine q_iload dX8_change_119 rfl ?_
                  obtain ⟨g121, h⟩ := q_gd h
                  refine q_iald dX8_change_121 rfl g121 ?_
                  exact q_ret dX8_change_122 rfl rfl (q_lfi h k)
          · replace h := q_ift c43 h
            refine q_bipush (v := (-4)) dX8_change_46 (by decide) ?_
            exact q_ret dX8_change_48 rfl rfl (q_lfi h k)
        · replace h := q_iff c24 h
          refine q_iconst (v := (-1)) dX8_change_27 (by decide) ?_
          exact q_ret dX8_change_28 rfl rfl (q_lfi h k)
def fX8_layChanges_2 (p1 : Int32) : Nat → Int32 → qS → Option qS
  | 0, _, _ => none
  | n + 1, v2, S => if (S 29 5) ≤ v2 then some S else if q_inb v2 12 = true then if (S 33 v2.toNatClampNeg) = (-1) then if q_inb v2 12 = true then if q_inb v2 12 = true then (fX4_find p1 (S 31 v2.toNatClampNeg) (S 32 v2.toNatClampNeg) (S 0 6) S).bind (fun r95 => if r95 = (-1) then fX8_layChanges_2 p1 n (v2 + 1) S else (fX4_drop r95 (S 0 6) S).bind (fun T113 => fX8_layChanges_2 p1 n (v2 + 1) T113)) else none else none else if q_inb v2 12 = true then if q_inb v2 12 = true then if q_inb v2 12 = true then (fX4_put p1 (S 31 v2.toNatClampNeg) (S 32 v2.toNatClampNeg) (S 33 v2.toNatClampNeg) (S 0 6) S).bind (fun T62 => fX8_layChanges_2 p1 n (v2 + 1) T62) else none else none else none else none
set_option maxHeartbeats 4000000 in
set_option maxRecDepth 100000 in
theorem sX8_layChanges_2 {l : Launch} {d : Nat} (hd : 4 ≤ d) {p1 : Int32} {S' : qS} {Q : qS → Prop} (k : Q S') : ∀ (n : Nat) (v2 : Int32) (S : qS), fX8_layChanges_2 p1 n v2 S = some S' → q_E l cX8_layChanges 4 none RX8 d S 2 [some (.inr 0), some (.inl p1), some (.inl v2), none] [] (q_Qv Q) := by
  intro n
  induction n with
  | zero => intro v2 S h; exact q_no h
  | succ n ih =>
    intro v2 S h
    rw [fX8_layChanges_2] at h
    refine q_iload_n dX8_layChanges_2 rfl ?_
    refine q_aload_n dX8_layChanges_3 rfl ?_
    refine q_getr dX8_layChanges_4 fl_X8_43 rfl rfl ?_
    refine q_geti dX8_layChanges_7 fl_X8_186 rfl rfl ?_
    refine q_icmp_ge 122 dX8_layChanges_10 (by decide) (fun c10 => ?_) (fun c10 => ?_)
    · replace h := q_ift c10 h
      exact q_vret dX8_layChanges_122 rfl (q_lfv h k)
    · replace h := q_iff c10 h
      refine q_aload_n dX8_layChanges_13 rfl ?_
      refine q_getr dX8_layChanges_14 fl_X8_43 rfl rfl ?_
      refine q_getr dX8_layChanges_17 fl_X8_196 rfl rfl ?_
      refine q_iload_n dX8_layChanges_20 rfl ?_
      obtain ⟨g21, h⟩ := q_gd h
      refine q_iald dX8_layChanges_21 rfl g21 ?_
      refine q_iconst (v := (-1)) dX8_layChanges_22 (by decide) ?_
      refine q_icmp_eq 68 dX8_layChanges_23 (by decide) (fun c23 => ?_) (fun c23 => ?_)
      · replace h := q_ift c23 h
        refine q_aload_n dX8_layChanges_68 rfl ?_
        refine q_getr dX8_layChanges_69 fl_X8_32 rfl rfl ?_
        refine q_iload_n dX8_layChanges_72 rfl ?_
        refine q_aload_n dX8_layChanges_73 rfl ?_
        refine q_getr dX8_layChanges_74 fl_X8_43 rfl rfl ?_
        refine q_getr dX8_layChanges_77 fl_X8_197 rfl rfl ?_
        refine q_iload_n dX8_layChanges_80 rfl ?_
        obtain ⟨g81, h⟩ := q_gd h
        refine q_iald dX8_layChanges_81 rfl g81 ?_
        refine q_aload_n dX8_layChanges_82 rfl ?_
        refine q_getr dX8_layChanges_83 fl_X8_43 rfl rfl ?_
        refine q_getr dX8_layChanges_86 fl_X8_198 rfl rfl ?_
        refine q_iload_n dX8_layChanges_89 rfl ?_
        obtain ⟨g90, h⟩ := q_gd h
        refine q_iald dX8_layChanges_90 rfl g90 ?_
        refine q_aload_n dX8_layChanges_91 rfl ?_
        refine q_geti dX8_layChanges_92 fl_X8_47 rfl rfl ?_
        obtain ⟨r95, h95, h⟩ := q_bnd h
        refine q_callVi4 dX8_layChanges_95 cl_X8_159 rfl (Nat.le_of_ble_eq_true rfl) (by omega) (sX4_find (by omega) h95 ?_)
        refine q_istore_n dX8_layChanges_98 (by decide) ?_
        refine q_iload_n dX8_layChanges_99 rfl ?_
        refine q_iconst (v := (-1)) dX8_layChanges_100 (by decide) ?_
        refine q_icmp_eq 116 dX8_layChanges_101 (by decide) (fun c101 => ?_) (fun c101 => ?_)
        · replace h := q_ift c101 h
          refine q_iinc (v := (v2 + 1)) dX8_layChanges_116 rfl rfl (by decide) ?_
          refine q_goto 2 dX8_layChanges_119 (by decide) ?_
          exact q_sub (ih _ _ h) (And.intro rfl (And.intro rfl (And.intro rfl trivial)))
        · replace h := q_iff c101 h
          refine q_aload_n dX8_layChanges_104 rfl ?_
          refine q_getr dX8_layChanges_105 fl_X8_32 rfl rfl ?_
          refine q_iload_n dX8_layChanges_108 rfl ?_
          refine q_aload_n dX8_layChanges_109 rfl ?_
          refine q_geti dX8_layChanges_110 fl_X8_47 rfl rfl ?_
          obtain ⟨T113, h113, h⟩ := q_bnd h
          refine q_callVv2 dX8_layChanges_113 cl_X8_161 rfl (Nat.le_of_ble_eq_true rfl) (by omega) (sX4_drop (by omega) h113 ?_)
          refine q_iinc (v := (v2 + 1)) dX8_layChanges_116 rfl rfl (by decide) ?_
          refine q_goto 2 dX8_layChanges_119 (by decide) ?_
          exact q_sub (ih _ _ h) (And.intro rfl (And.intro rfl (And.intro rfl trivial)))
      · replace h := q_iff c23 h
        refine q_aload_n dX8_layChanges_26 rfl ?_
        refine q_getr dX8_layChanges_27 fl_X8_32 rfl rfl ?_
        refine q_iload_n dX8_layChanges_30 rfl ?_
        refine q_aload_n dX8_layChanges_31 rfl ?_
        refine q_getr dX8_layChanges_32 fl_X8_43 rfl rfl ?_
        refine q_getr dX8_layChanges_35 fl_X8_197 rfl rfl ?_
        refine q_iload_n dX8_layChanges_38 rfl ?_
        obtain ⟨g39, h⟩ := q_gd h
        refine q_iald dX8_layChanges_39 rfl g39 ?_
        refine q_aload_n dX8_layChanges_40 rfl ?_
        refine q_getr dX8_layChanges_41 fl_X8_43 rfl rfl ?_
        refine q_getr dX8_layChanges_44 fl_X8_198 rfl rfl ?_
        refine q_iload_n dX8_layChanges_47 rfl ?_
        obtain ⟨g48, h⟩ := q_gd h
        refine q_iald dX8_layChanges_48 rfl g48 ?_
        refine q_aload_n dX8_layChanges_49 rfl ?_
        refine q_getr dX8_layChanges_50 fl_X8_43 rfl rfl ?_
        refine q_getr dX8_layChanges_53 fl_X8_196 rfl rfl ?_
        refine q_iload_n dX8_layChanges_56 rfl ?_
        obtain ⟨g57, h⟩ := q_gd h
        refine q_iald dX8_layChanges_57 rfl g57 ?_
        refine q_aload_n dX8_layChanges_58 rfl ?_
        refine q_geti dX8_layChanges_59 fl_X8_47 rfl rfl ?_
        obtain ⟨T62, h62, h⟩ := q_bnd h
        refine q_callVv5 dX8_layChanges_62 cl_X8_152 rfl (Nat.le_of_ble_eq_true rfl) (by omega) (sX4_put (by omega) h62 ?_)
        refine q_goto 116 dX8_layChanges_65 (by decide) ?_
        refine q_iinc (v := (v2 + 1)) dX8_layChanges_116 rfl rfl (by decide) ?_
        refine q_goto 2 dX8_layChanges_119 (by decide) ?_
        exact q_sub (ih _ _ h) (And.intro rfl (And.intro rfl (And.intro rfl trivial)))
def fX8_layChanges (a1 : Int32) (S : qS) : Option qS := fX8_layChanges_2 a1 20000 0 S
set_option maxHeartbeats 4000000 in
set_option maxRecDepth 100000 in
theorem sX8_layChanges {l : Launch} {d : Nat} (hd : 4 ≤ d) {S : qS} {a1 : Int32} {S' : qS} (h : fX8_layChanges a1 S = some S') {Q : qS → Prop} (k : Q S') : q_Mv l d yX8_layChanges cX8_layChanges 4 none [.inr 0, .inl a1] S Q := by
  refine q_Mv_of (own := RX8) rfl rfl [some (.inr 0), some (.inl a1), none, none] rfl (Nat.le_of_ble_eq_true rfl) ?_
  unfold fX8_layChanges at h
  refine q_iconst (v := 0) dX8_layChanges_0 (by decide) ?_
  refine q_istore_n dX8_layChanges_1 (by decide) ?_
  exact q_sub (sX8_layChanges_2 hd k 20000 _ _ h) (And.intro rfl (And.intro rfl (And.intro rfl trivial)))
