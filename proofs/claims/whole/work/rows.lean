section
-- ===== PART A: goes FIRST, ahead of the names: the tables' words, and 'selects' of the private methods out of them =====
/-- a private method of a class that the tables say can be made, by its rows of tables_1 -/
def lw_okq (q : MethodName × Nat) : Prop := (q.1.cls ≠ "java/lang/invoke/MethodHandle" ∧ q.1.cls ≠ "java/lang/invoke/VarHandle") ∧ Cond.instantiable q.1.cls q.2 ∈ tables_1 ∧ Cond.privateMethod q.1 ∈ tables_1 ∧ Cond.instanceMethod q.1 ∈ tables_1
theorem lw_p0 : lw_okq (⟨"ViewedNames", "isTick", "(I)Z"⟩, 7) := ⟨⟨by decide +kernel, by decide +kernel⟩, List.mem_of_getElem? (i := 13) (by decide +kernel), List.mem_of_getElem? (i := 288) (by decide +kernel), List.mem_of_getElem? (i := 289) (by decide +kernel)⟩
theorem lw_p1 : lw_okq (⟨"ViewedNames$Records", "note", "(IIIII)I"⟩, 5) := ⟨⟨by decide +kernel, by decide +kernel⟩, List.mem_of_getElem? (i := 104) (by decide +kernel), List.mem_of_getElem? (i := 374) (by decide +kernel), List.mem_of_getElem? (i := 375) (by decide +kernel)⟩
theorem lw_p2 : lw_okq (⟨"ViewedNames$Text", "readChange", "(I)I"⟩, 6) := ⟨⟨by decide +kernel, by decide +kernel⟩, List.mem_of_getElem? (i := 181) (by decide +kernel), List.mem_of_getElem? (i := 417) (by decide +kernel), List.mem_of_getElem? (i := 418) (by decide +kernel)⟩
theorem lw_p3 : lw_okq (⟨"ViewedNames$Text", "digits", "(III)I"⟩, 6) := ⟨⟨by decide +kernel, by decide +kernel⟩, List.mem_of_getElem? (i := 181) (by decide +kernel), List.mem_of_getElem? (i := 421) (by decide +kernel), List.mem_of_getElem? (i := 422) (by decide +kernel)⟩
theorem lw_p4 : lw_okq (⟨"ViewedNames$Text", "characterAt", "(I)I"⟩, 6) := ⟨⟨by decide +kernel, by decide +kernel⟩, List.mem_of_getElem? (i := 181) (by decide +kernel), List.mem_of_getElem? (i := 425) (by decide +kernel), List.mem_of_getElem? (i := 426) (by decide +kernel)⟩
theorem lw_p5 : lw_okq (⟨"ViewedNames$Text", "nameIn", "(II)I"⟩, 6) := ⟨⟨by decide +kernel, by decide +kernel⟩, List.mem_of_getElem? (i := 181) (by decide +kernel), List.mem_of_getElem? (i := 430) (by decide +kernel), List.mem_of_getElem? (i := 431) (by decide +kernel)⟩
theorem lw_p6 : lw_okq (⟨"ViewedNames$Text", "numberIn", "(II)I"⟩, 6) := ⟨⟨by decide +kernel, by decide +kernel⟩, List.mem_of_getElem? (i := 181) (by decide +kernel), List.mem_of_getElem? (i := 434) (by decide +kernel), List.mem_of_getElem? (i := 435) (by decide +kernel)⟩
theorem lw_p7 : lw_okq (⟨"ViewedNames", "layChanges", "(I)V"⟩, 7) := ⟨⟨by decide +kernel, by decide +kernel⟩, List.mem_of_getElem? (i := 13) (by decide +kernel), List.mem_of_getElem? (i := 448) (by decide +kernel), List.mem_of_getElem? (i := 449) (by decide +kernel)⟩
theorem lw_p8 : lw_okq (⟨"ViewedNames", "answerFor", "(IIII)I"⟩, 7) := ⟨⟨by decide +kernel, by decide +kernel⟩, List.mem_of_getElem? (i := 13) (by decide +kernel), List.mem_of_getElem? (i := 459) (by decide +kernel), List.mem_of_getElem? (i := 460) (by decide +kernel)⟩
theorem lw_p9 : lw_okq (⟨"ViewedNames", "countDiffering", "(IIIII)I"⟩, 7) := ⟨⟨by decide +kernel, by decide +kernel⟩, List.mem_of_getElem? (i := 13) (by decide +kernel), List.mem_of_getElem? (i := 519) (by decide +kernel), List.mem_of_getElem? (i := 520) (by decide +kernel)⟩
theorem lw_p10 : lw_okq (⟨"ViewedNames$KeptAnswers", "forget", "(I)V"⟩, 8) := ⟨⟨by decide +kernel, by decide +kernel⟩, List.mem_of_getElem? (i := 143) (by decide +kernel), List.mem_of_getElem? (i := 573) (by decide +kernel), List.mem_of_getElem? (i := 574) (by decide +kernel)⟩
theorem lw_p11 : lw_okq (⟨"ViewedNamesModel", "isTick", "(I)Z"⟩, 17) := ⟨⟨by decide +kernel, by decide +kernel⟩, List.mem_of_getElem? (i := 597) (by decide +kernel), List.mem_of_getElem? (i := 681) (by decide +kernel), List.mem_of_getElem? (i := 682) (by decide +kernel)⟩
theorem lw_p12 : lw_okq (⟨"ViewedNamesModel", "viewAt", "(II)I"⟩, 17) := ⟨⟨by decide +kernel, by decide +kernel⟩, List.mem_of_getElem? (i := 597) (by decide +kernel), List.mem_of_getElem? (i := 685) (by decide +kernel), List.mem_of_getElem? (i := 686) (by decide +kernel)⟩
theorem lw_p13 : lw_okq (⟨"ViewedNamesModel", "isNetThere", "(II)Z"⟩, 17) := ⟨⟨by decide +kernel, by decide +kernel⟩, List.mem_of_getElem? (i := 597) (by decide +kernel), List.mem_of_getElem? (i := 689) (by decide +kernel), List.mem_of_getElem? (i := 690) (by decide +kernel)⟩
theorem lw_p14 : lw_okq (⟨"ViewedNamesModel", "isGone", "(I)Z"⟩, 17) := ⟨⟨by decide +kernel, by decide +kernel⟩, List.mem_of_getElem? (i := 597) (by decide +kernel), List.mem_of_getElem? (i := 709) (by decide +kernel), List.mem_of_getElem? (i := 710) (by decide +kernel)⟩
theorem lw_p15 : lw_okq (⟨"ViewedNamesModel", "isZone", "(I)Z"⟩, 17) := ⟨⟨by decide +kernel, by decide +kernel⟩, List.mem_of_getElem? (i := 597) (by decide +kernel), List.mem_of_getElem? (i := 717) (by decide +kernel), List.mem_of_getElem? (i := 718) (by decide +kernel)⟩
def lw_privs_1 : List (MethodName × Nat) := [(⟨"ViewedNames", "isTick", "(I)Z"⟩, 7), (⟨"ViewedNames$Records", "note", "(IIIII)I"⟩, 5), (⟨"ViewedNames$Text", "readChange", "(I)I"⟩, 6), (⟨"ViewedNames$Text", "digits", "(III)I"⟩, 6), (⟨"ViewedNames$Text", "characterAt", "(I)I"⟩, 6), (⟨"ViewedNames$Text", "nameIn", "(II)I"⟩, 6), (⟨"ViewedNames$Text", "numberIn", "(II)I"⟩, 6), (⟨"ViewedNames", "layChanges", "(I)V"⟩, 7), (⟨"ViewedNames", "answerFor", "(IIII)I"⟩, 7), (⟨"ViewedNames", "countDiffering", "(IIIII)I"⟩, 7), (⟨"ViewedNames$KeptAnswers", "forget", "(I)V"⟩, 8), (⟨"ViewedNamesModel", "isTick", "(I)Z"⟩, 17), (⟨"ViewedNamesModel", "viewAt", "(II)I"⟩, 17), (⟨"ViewedNamesModel", "isNetThere", "(II)Z"⟩, 17), (⟨"ViewedNamesModel", "isGone", "(I)Z"⟩, 17), (⟨"ViewedNamesModel", "isZone", "(I)Z"⟩, 17)]
theorem lw_r1 : ∀ q ∈ lw_privs_1, lw_okq q := List.forall_mem_cons.mpr ⟨lw_p0, List.forall_mem_cons.mpr ⟨lw_p1, List.forall_mem_cons.mpr ⟨lw_p2, List.forall_mem_cons.mpr ⟨lw_p3, List.forall_mem_cons.mpr ⟨lw_p4, List.forall_mem_cons.mpr ⟨lw_p5, List.forall_mem_cons.mpr ⟨lw_p6, List.forall_mem_cons.mpr ⟨lw_p7, List.forall_mem_cons.mpr ⟨lw_p8, List.forall_mem_cons.mpr ⟨lw_p9, List.forall_mem_cons.mpr ⟨lw_p10, List.forall_mem_cons.mpr ⟨lw_p11, List.forall_mem_cons.mpr ⟨lw_p12, List.forall_mem_cons.mpr ⟨lw_p13, List.forall_mem_cons.mpr ⟨lw_p14, List.forall_mem_cons.mpr ⟨lw_p15, fun _ h => absurd h List.not_mem_nil⟩⟩⟩⟩⟩⟩⟩⟩⟩⟩⟩⟩⟩⟩⟩⟩
theorem lw_p16 : lw_okq (⟨"ViewedNamesModel", "records", "(I)I"⟩, 17) := ⟨⟨by decide +kernel, by decide +kernel⟩, List.mem_of_getElem? (i := 597) (by decide +kernel), List.mem_of_getElem? (i := 721) (by decide +kernel), List.mem_of_getElem? (i := 722) (by decide +kernel)⟩
theorem lw_p17 : lw_okq (⟨"ViewedNamesModel", "valueAt", "(IIII)I"⟩, 17) := ⟨⟨by decide +kernel, by decide +kernel⟩, List.mem_of_getElem? (i := 597) (by decide +kernel), List.mem_of_getElem? (i := 725) (by decide +kernel), List.mem_of_getElem? (i := 726) (by decide +kernel)⟩
theorem lw_p18 : lw_okq (⟨"ViewedNamesModel", "part", "(II)I"⟩, 17) := ⟨⟨by decide +kernel, by decide +kernel⟩, List.mem_of_getElem? (i := 597) (by decide +kernel), List.mem_of_getElem? (i := 729) (by decide +kernel), List.mem_of_getElem? (i := 730) (by decide +kernel)⟩
theorem lw_p19 : lw_okq (⟨"ViewedNamesModel", "makes", "(IIII)V"⟩, 17) := ⟨⟨by decide +kernel, by decide +kernel⟩, List.mem_of_getElem? (i := 597) (by decide +kernel), List.mem_of_getElem? (i := 760) (by decide +kernel), List.mem_of_getElem? (i := 761) (by decide +kernel)⟩
theorem lw_p20 : lw_okq (⟨"ViewedNamesModel", "isThere", "(II)Z"⟩, 17) := ⟨⟨by decide +kernel, by decide +kernel⟩, List.mem_of_getElem? (i := 597) (by decide +kernel), List.mem_of_getElem? (i := 772) (by decide +kernel), List.mem_of_getElem? (i := 773) (by decide +kernel)⟩
theorem lw_p21 : lw_okq (⟨"ViewedNamesModel", "isQuestion", "(III)Z"⟩, 17) := ⟨⟨by decide +kernel, by decide +kernel⟩, List.mem_of_getElem? (i := 597) (by decide +kernel), List.mem_of_getElem? (i := 788) (by decide +kernel), List.mem_of_getElem? (i := 789) (by decide +kernel)⟩
theorem lw_p22 : lw_okq (⟨"ViewedNamesModel", "finds", "(IIII)I"⟩, 17) := ⟨⟨by decide +kernel, by decide +kernel⟩, List.mem_of_getElem? (i := 597) (by decide +kernel), List.mem_of_getElem? (i := 792) (by decide +kernel), List.mem_of_getElem? (i := 793) (by decide +kernel)⟩
theorem lw_p23 : lw_okq (⟨"ViewedNamesModel", "responsible", "(III)I"⟩, 17) := ⟨⟨by decide +kernel, by decide +kernel⟩, List.mem_of_getElem? (i := 597) (by decide +kernel), List.mem_of_getElem? (i := 796) (by decide +kernel), List.mem_of_getElem? (i := 797) (by decide +kernel)⟩
theorem lw_p24 : lw_okq (⟨"ViewedNamesModel", "exists", "(III)Z"⟩, 17) := ⟨⟨by decide +kernel, by decide +kernel⟩, List.mem_of_getElem? (i := 597) (by decide +kernel), List.mem_of_getElem? (i := 800) (by decide +kernel), List.mem_of_getElem? (i := 801) (by decide +kernel)⟩
theorem lw_p25 : lw_okq (⟨"ViewedNamesModel", "hasType", "(III)Z"⟩, 17) := ⟨⟨by decide +kernel, by decide +kernel⟩, List.mem_of_getElem? (i := 597) (by decide +kernel), List.mem_of_getElem? (i := 804) (by decide +kernel), List.mem_of_getElem? (i := 805) (by decide +kernel)⟩
theorem lw_p26 : lw_okq (⟨"ViewedNamesModel", "parts", "(IIIIII)I"⟩, 17) := ⟨⟨by decide +kernel, by decide +kernel⟩, List.mem_of_getElem? (i := 597) (by decide +kernel), List.mem_of_getElem? (i := 830) (by decide +kernel), List.mem_of_getElem? (i := 831) (by decide +kernel)⟩
theorem lw_p27 : lw_okq (⟨"ViewedNamesModel", "latestEvent", "(I)I"⟩, 17) := ⟨⟨by decide +kernel, by decide +kernel⟩, List.mem_of_getElem? (i := 597) (by decide +kernel), List.mem_of_getElem? (i := 846) (by decide +kernel), List.mem_of_getElem? (i := 847) (by decide +kernel)⟩
theorem lw_p28 : lw_okq (⟨"ViewedNamesModel", "isYoung", "(I)Z"⟩, 17) := ⟨⟨by decide +kernel, by decide +kernel⟩, List.mem_of_getElem? (i := 597) (by decide +kernel), List.mem_of_getElem? (i := 862) (by decide +kernel), List.mem_of_getElem? (i := 863) (by decide +kernel)⟩
theorem lw_p29 : lw_okq (⟨"ViewedNamesModel", "drops", "(I)V"⟩, 17) := ⟨⟨by decide +kernel, by decide +kernel⟩, List.mem_of_getElem? (i := 597) (by decide +kernel), List.mem_of_getElem? (i := 866) (by decide +kernel), List.mem_of_getElem? (i := 867) (by decide +kernel)⟩
theorem lw_p30 : lw_okq (⟨"ViewedNamesModel", "faultAt", "()I"⟩, 17) := ⟨⟨by decide +kernel, by decide +kernel⟩, List.mem_of_getElem? (i := 597) (by decide +kernel), List.mem_of_getElem? (i := 886) (by decide +kernel), List.mem_of_getElem? (i := 887) (by decide +kernel)⟩
theorem lw_p31 : lw_okq (⟨"ViewedNamesModel", "isChange", "()Z"⟩, 17) := ⟨⟨by decide +kernel, by decide +kernel⟩, List.mem_of_getElem? (i := 597) (by decide +kernel), List.mem_of_getElem? (i := 890) (by decide +kernel), List.mem_of_getElem? (i := 891) (by decide +kernel)⟩
def lw_privs_2 : List (MethodName × Nat) := [(⟨"ViewedNamesModel", "records", "(I)I"⟩, 17), (⟨"ViewedNamesModel", "valueAt", "(IIII)I"⟩, 17), (⟨"ViewedNamesModel", "part", "(II)I"⟩, 17), (⟨"ViewedNamesModel", "makes", "(IIII)V"⟩, 17), (⟨"ViewedNamesModel", "isThere", "(II)Z"⟩, 17), (⟨"ViewedNamesModel", "isQuestion", "(III)Z"⟩, 17), (⟨"ViewedNamesModel", "finds", "(IIII)I"⟩, 17), (⟨"ViewedNamesModel", "responsible", "(III)I"⟩, 17), (⟨"ViewedNamesModel", "exists", "(III)Z"⟩, 17), (⟨"ViewedNamesModel", "hasType", "(III)Z"⟩, 17), (⟨"ViewedNamesModel", "parts", "(IIIIII)I"⟩, 17), (⟨"ViewedNamesModel", "latestEvent", "(I)I"⟩, 17), (⟨"ViewedNamesModel", "isYoung", "(I)Z"⟩, 17), (⟨"ViewedNamesModel", "drops", "(I)V"⟩, 17), (⟨"ViewedNamesModel", "faultAt", "()I"⟩, 17), (⟨"ViewedNamesModel", "isChange", "()Z"⟩, 17)]
theorem lw_r2 : ∀ q ∈ lw_privs_2, lw_okq q := List.forall_mem_cons.mpr ⟨lw_p16, List.forall_mem_cons.mpr ⟨lw_p17, List.forall_mem_cons.mpr ⟨lw_p18, List.forall_mem_cons.mpr ⟨lw_p19, List.forall_mem_cons.mpr ⟨lw_p20, List.forall_mem_cons.mpr ⟨lw_p21, List.forall_mem_cons.mpr ⟨lw_p22, List.forall_mem_cons.mpr ⟨lw_p23, List.forall_mem_cons.mpr ⟨lw_p24, List.forall_mem_cons.mpr ⟨lw_p25, List.forall_mem_cons.mpr ⟨lw_p26, List.forall_mem_cons.mpr ⟨lw_p27, List.forall_mem_cons.mpr ⟨lw_p28, List.forall_mem_cons.mpr ⟨lw_p29, List.forall_mem_cons.mpr ⟨lw_p30, List.forall_mem_cons.mpr ⟨lw_p31, fun _ h => absurd h List.not_mem_nil⟩⟩⟩⟩⟩⟩⟩⟩⟩⟩⟩⟩⟩⟩⟩⟩
theorem lw_p32 : lw_okq (⟨"ViewedNamesModel", "isLabels", "()Z"⟩, 17) := ⟨⟨by decide +kernel, by decide +kernel⟩, List.mem_of_getElem? (i := 597) (by decide +kernel), List.mem_of_getElem? (i := 894) (by decide +kernel), List.mem_of_getElem? (i := 895) (by decide +kernel)⟩
theorem lw_p33 : lw_okq (⟨"ViewedNamesModel", "isHere", "(II)Z"⟩, 17) := ⟨⟨by decide +kernel, by decide +kernel⟩, List.mem_of_getElem? (i := 597) (by decide +kernel), List.mem_of_getElem? (i := 898) (by decide +kernel), List.mem_of_getElem? (i := 899) (by decide +kernel)⟩
theorem lw_p34 : lw_okq (⟨"ViewedNamesModel", "takes", "(I)Z"⟩, 17) := ⟨⟨by decide +kernel, by decide +kernel⟩, List.mem_of_getElem? (i := 597) (by decide +kernel), List.mem_of_getElem? (i := 902) (by decide +kernel), List.mem_of_getElem? (i := 903) (by decide +kernel)⟩
theorem lw_p35 : lw_okq (⟨"ViewedNamesModel", "isDigits", "()Z"⟩, 17) := ⟨⟨by decide +kernel, by decide +kernel⟩, List.mem_of_getElem? (i := 597) (by decide +kernel), List.mem_of_getElem? (i := 906) (by decide +kernel), List.mem_of_getElem? (i := 907) (by decide +kernel)⟩
def lw_privs_3 : List (MethodName × Nat) := [(⟨"ViewedNamesModel", "isLabels", "()Z"⟩, 17), (⟨"ViewedNamesModel", "isHere", "(II)Z"⟩, 17), (⟨"ViewedNamesModel", "takes", "(I)Z"⟩, 17), (⟨"ViewedNamesModel", "isDigits", "()Z"⟩, 17)]
theorem lw_r3 : ∀ q ∈ lw_privs_3, lw_okq q := List.forall_mem_cons.mpr ⟨lw_p32, List.forall_mem_cons.mpr ⟨lw_p33, List.forall_mem_cons.mpr ⟨lw_p34, List.forall_mem_cons.mpr ⟨lw_p35, fun _ h => absurd h List.not_mem_nil⟩⟩⟩⟩
def lw_privs : List (MethodName × Nat) := lw_privs_1 ++ (lw_privs_2 ++ (lw_privs_3))
def lw_tbl : List Cond := k2_sels lw_privs ++ tables_1
theorem lw_privs_ok : ∀ q ∈ lw_privs, lw_okq q := by
  show ∀ q ∈ lw_privs_1 ++ (lw_privs_2 ++ (lw_privs_3)), lw_okq q
  exact List.forall_mem_append.mpr ⟨lw_r1, List.forall_mem_append.mpr ⟨lw_r2, lw_r3⟩⟩
end
section
/-! ===== BEGIN printed: names, fields, word lists, decode rows ===== -/
def RX0 : String := "ViewedNames$Catalog"
def TX0 : u_T := fun k => match k with
  | 0 => ("ViewedNames$Catalog", "zones", "LViewedNames$Zones;", true)
  | _ => ("ViewedNames$Catalog", "records", "LViewedNames$Records;", true)
def tyX0 : Nat → FieldType := fun k => match k with
  | 0 => .object "ViewedNames$Zones"
  | _ => .object "ViewedNames$Records"
abbrev wsX00 : List Cond := u_ws RX0 TX0 2
theorem nmX0 : ∀ a, a < 2 → ∀ b, b < 2 → a ≠ b → (TX0 a).2.1 ≠ (TX0 b).2.1 := by decide +kernel
theorem tyX0_ok : ∀ k, k < 2 → parseFieldDescriptor (TX0 k).2.2.1 = some (tyX0 k) := by decide +kernel
abbrev cX0_init : ByteArray := prog_2_method_1_code
def yX0_init : MethodName := ⟨RX0, "<init>", "()V"⟩
abbrev cX0_lookUp : ByteArray := prog_2_method_2_code
def yX0_lookUp : MethodName := ⟨RX0, "lookUp", "(IIII)I"⟩
abbrev cX0_recordBehind : ByteArray := prog_2_method_3_code
def yX0_recordBehind : MethodName := ⟨RX0, "recordBehind", "(IIII)I"⟩
abbrev cX0_standingFor : ByteArray := prog_2_method_4_code
def yX0_standingFor : MethodName := ⟨RX0, "standingFor", "(III)I"⟩
abbrev cX0_countRecords : ByteArray := prog_2_method_5_code
def yX0_countRecords : MethodName := ⟨RX0, "countRecords", "(I)I"⟩
abbrev cX0_lastEvent : ByteArray := prog_2_method_6_code
def yX0_lastEvent : MethodName := ⟨RX0, "lastEvent", "(I)I"⟩
abbrev cX0_laterUpTo : ByteArray := prog_2_method_7_code
def yX0_laterUpTo : MethodName := ⟨RX0, "laterUpTo", "(III)I"⟩
def RX1 : String := "ViewedNames$KeptAnswers"
def TX1 : u_T := fun k => match k with
  | 0 => ("ViewedNames$KeptAnswers", "address", "[I", true)
  | 1 => ("ViewedNames$KeptAnswers", "name", "[I", true)
  | 2 => ("ViewedNames$KeptAnswers", "type", "[I", true)
  | 3 => ("ViewedNames$KeptAnswers", "answer", "[I", true)
  | 4 => ("ViewedNames$KeptAnswers", "tick", "[I", true)
  | 5 => ("ViewedNames$KeptAnswers", "size", "I", false)
  | 6 => ("ViewedNames$KeptAnswers", "hits", "I", false)
  | _ => ("ViewedNames$KeptAnswers", "keeping", "I", false)
def tyX1 : Nat → FieldType := fun k => match k with
  | 0 => .array .int
  | 1 => .array .int
  | 2 => .array .int
  | 3 => .array .int
  | 4 => .array .int
  | 5 => .int
  | 6 => .int
  | _ => .int
abbrev wsX10 : List Cond := u_ws RX1 TX1 8
theorem nmX1 : ∀ a, a < 8 → ∀ b, b < 8 → a ≠ b → (TX1 a).2.1 ≠ (TX1 b).2.1 := by decide +kernel
theorem tyX1_ok : ∀ k, k < 8 → parseFieldDescriptor (TX1 k).2.2.1 = some (tyX1 k) := by decide +kernel
abbrev cX1_init : ByteArray := prog_3_method_1_code
def yX1_init : MethodName := ⟨RX1, "<init>", "()V"⟩
abbrev cX1_find : ByteArray := prog_3_method_2_code
def yX1_find : MethodName := ⟨RX1, "find", "(III)I"⟩
abbrev cX1_isFresh : ByteArray := prog_3_method_3_code
def yX1_isFresh : MethodName := ⟨RX1, "isFresh", "(II)Z"⟩
abbrev cX1_keep : ByteArray := prog_3_method_4_code
def yX1_keep : MethodName := ⟨RX1, "keep", "(IIIII)V"⟩
abbrev cX1_forget : ByteArray := prog_3_method_5_code
def yX1_forget : MethodName := ⟨RX1, "forget", "(I)V"⟩
def RX2 : String := "ViewedNames$Names"
def TX2 : u_T := fun k => match k with
  | _ => ("", "", "", false)
def tyX2 : Nat → FieldType := fun k => match k with
  | _ => .int
abbrev wsX20 : List Cond := u_ws RX2 TX2 0
theorem nmX2 : ∀ a, a < 0 → ∀ b, b < 0 → a ≠ b → (TX2 a).2.1 ≠ (TX2 b).2.1 := by decide +kernel
theorem tyX2_ok : ∀ k, k < 0 → parseFieldDescriptor (TX2 k).2.2.1 = some (tyX2 k) := by decide +kernel
abbrev cX2_isName : ByteArray := prog_4_method_2_code
def yX2_isName : MethodName := ⟨RX2, "isName", "(I)Z"⟩
abbrev cX2_lastWeight : ByteArray := prog_4_method_3_code
def yX2_lastWeight : MethodName := ⟨RX2, "lastWeight", "(I)I"⟩
abbrev cX2_isPattern : ByteArray := prog_4_method_4_code
def yX2_isPattern : MethodName := ⟨RX2, "isPattern", "(I)Z"⟩
abbrev cX2_patternFor : ByteArray := prog_4_method_5_code
def yX2_patternFor : MethodName := ⟨RX2, "patternFor", "(I)I"⟩
abbrev cX2_isAt : ByteArray := prog_4_method_6_code
def yX2_isAt : MethodName := ⟨RX2, "isAt", "(II)Z"⟩
abbrev cX2_isBelow : ByteArray := prog_4_method_7_code
def yX2_isBelow : MethodName := ⟨RX2, "isBelow", "(II)Z"⟩
abbrev cX2_isLonger : ByteArray := prog_4_method_8_code
def yX2_isLonger : MethodName := ⟨RX2, "isLonger", "(II)Z"⟩
def RX3 : String := "ViewedNames$Nets"
def TX3 : u_T := fun k => match k with
  | 0 => ("ViewedNames$Nets", "spans", "LViewedNames$Spans;", true)
  | 1 => ("ViewedNames$Nets", "view", "[I", true)
  | 2 => ("ViewedNames$Nets", "base", "[I", true)
  | _ => ("ViewedNames$Nets", "length", "[I", true)
def tyX3 : Nat → FieldType := fun k => match k with
  | 0 => .object "ViewedNames$Spans"
  | 1 => .array .int
  | 2 => .array .int
  | _ => .array .int
abbrev wsX30 : List Cond := u_ws RX3 TX3 4
theorem nmX3 : ∀ a, a < 4 → ∀ b, b < 4 → a ≠ b → (TX3 a).2.1 ≠ (TX3 b).2.1 := by decide +kernel
theorem tyX3_ok : ∀ k, k < 4 → parseFieldDescriptor (TX3 k).2.2.1 = some (tyX3 k) := by decide +kernel
abbrev cX3_init : ByteArray := prog_5_method_1_code
def yX3_init : MethodName := ⟨RX3, "<init>", "()V"⟩
abbrev cX3_isLength : ByteArray := prog_5_method_2_code
def yX3_isLength : MethodName := ⟨RX3, "isLength", "(I)Z"⟩
abbrev cX3_make : ByteArray := prog_5_method_3_code
def yX3_make : MethodName := ⟨RX3, "make", "(IIII)I"⟩
abbrev cX3_viewAt : ByteArray := prog_5_method_4_code
def yX3_viewAt : MethodName := ⟨RX3, "viewAt", "(II)I"⟩
abbrev cX3_contains : ByteArray := prog_5_method_5_code
def yX3_contains : MethodName := ⟨RX3, "contains", "(II)Z"⟩
abbrev cX3_countAddresses : ByteArray := prog_5_method_6_code
def yX3_countAddresses : MethodName := ⟨RX3, "countAddresses", "(II)I"⟩
def RX4 : String := "ViewedNames$Records"
def TX4 : u_T := fun k => match k with
  | 0 => ("ViewedNames$Records", "spans", "LViewedNames$Spans;", true)
  | 1 => ("ViewedNames$Records", "zone", "[I", true)
  | 2 => ("ViewedNames$Records", "name", "[I", true)
  | 3 => ("ViewedNames$Records", "type", "[I", true)
  | _ => ("ViewedNames$Records", "value", "[I", true)
def tyX4 : Nat → FieldType := fun k => match k with
  | 0 => .object "ViewedNames$Spans"
  | 1 => .array .int
  | 2 => .array .int
  | 3 => .array .int
  | _ => .array .int
abbrev wsX40 : List Cond := u_ws RX4 TX4 5
theorem nmX4 : ∀ a, a < 5 → ∀ b, b < 5 → a ≠ b → (TX4 a).2.1 ≠ (TX4 b).2.1 := by decide +kernel
theorem tyX4_ok : ∀ k, k < 5 → parseFieldDescriptor (TX4 k).2.2.1 = some (tyX4 k) := by decide +kernel
abbrev cX4_init : ByteArray := prog_6_method_1_code
def yX4_init : MethodName := ⟨RX4, "<init>", "()V"⟩
abbrev cX4_find : ByteArray := prog_6_method_2_code
def yX4_find : MethodName := ⟨RX4, "find", "(IIII)I"⟩
abbrev cX4_exists : ByteArray := prog_6_method_3_code
def yX4_exists : MethodName := ⟨RX4, "exists", "(III)Z"⟩
abbrev cX4_put : ByteArray := prog_6_method_4_code
def yX4_put : MethodName := ⟨RX4, "put", "(IIIII)V"⟩
abbrev cX4_drop : ByteArray := prog_6_method_5_code
def yX4_drop : MethodName := ⟨RX4, "drop", "(II)V"⟩
abbrev cX4_note : ByteArray := prog_6_method_6_code
def yX4_note : MethodName := ⟨RX4, "note", "(IIIII)I"⟩
abbrev cX4_countIn : ByteArray := prog_6_method_7_code
def yX4_countIn : MethodName := ⟨RX4, "countIn", "(II)I"⟩
abbrev cX4_countChanges : ByteArray := prog_6_method_8_code
def yX4_countChanges : MethodName := ⟨RX4, "countChanges", "(II)I"⟩
abbrev cX4_findChange : ByteArray := prog_6_method_9_code
def yX4_findChange : MethodName := ⟨RX4, "findChange", "(II)I"⟩
def RX5 : String := "ViewedNames$Spans"
def TX5 : u_T := fun k => match k with
  | 0 => ("ViewedNames$Spans", "from", "[I", true)
  | 1 => ("ViewedNames$Spans", "until", "[I", true)
  | 2 => ("ViewedNames$Spans", "limit", "I", true)
  | _ => ("ViewedNames$Spans", "made", "I", false)
def tyX5 : Nat → FieldType := fun k => match k with
  | 0 => .array .int
  | 1 => .array .int
  | 2 => .int
  | _ => .int
abbrev wsX50 : List Cond := u_ws RX5 TX5 4
theorem nmX5 : ∀ a, a < 4 → ∀ b, b < 4 → a ≠ b → (TX5 a).2.1 ≠ (TX5 b).2.1 := by decide +kernel
theorem tyX5_ok : ∀ k, k < 4 → parseFieldDescriptor (TX5 k).2.2.1 = some (tyX5 k) := by decide +kernel
abbrev cX5_init : ByteArray := prog_7_method_1_code
def yX5_init : MethodName := ⟨RX5, "<init>", "(I)V"⟩
abbrev cX5_isFull : ByteArray := prog_7_method_2_code
def yX5_isFull : MethodName := ⟨RX5, "isFull", "()Z"⟩
abbrev cX5_hasRoomFor : ByteArray := prog_7_method_3_code
def yX5_hasRoomFor : MethodName := ⟨RX5, "hasRoomFor", "(I)Z"⟩
abbrev cX5_isMade : ByteArray := prog_7_method_4_code
def yX5_isMade : MethodName := ⟨RX5, "isMade", "(I)Z"⟩
abbrev cX5_isThere : ByteArray := prog_7_method_5_code
def yX5_isThere : MethodName := ⟨RX5, "isThere", "(II)Z"⟩
abbrev cX5_countThere : ByteArray := prog_7_method_6_code
def yX5_countThere : MethodName := ⟨RX5, "countThere", "(I)I"⟩
abbrev cX5_begin : ByteArray := prog_7_method_7_code
def yX5_begin : MethodName := ⟨RX5, "begin", "(I)I"⟩
abbrev cX5_end : ByteArray := prog_7_method_8_code
def yX5_end : MethodName := ⟨RX5, "end", "(II)V"⟩
def RX6 : String := "ViewedNames$Text"
def TX6 : u_T := fun k => match k with
  | 0 => ("ViewedNames$Text", "characters", "[I", true)
  | 1 => ("ViewedNames$Text", "length", "I", false)
  | 2 => ("ViewedNames$Text", "name", "[I", true)
  | 3 => ("ViewedNames$Text", "type", "[I", true)
  | 4 => ("ViewedNames$Text", "value", "[I", true)
  | _ => ("ViewedNames$Text", "changes", "I", false)
def tyX6 : Nat → FieldType := fun k => match k with
  | 0 => .array .int
  | 1 => .int
  | 2 => .array .int
  | 3 => .array .int
  | 4 => .array .int
  | _ => .int
abbrev wsX60 : List Cond := u_ws RX6 TX6 6
theorem nmX6 : ∀ a, a < 6 → ∀ b, b < 6 → a ≠ b → (TX6 a).2.1 ≠ (TX6 b).2.1 := by decide +kernel
theorem tyX6_ok : ∀ k, k < 6 → parseFieldDescriptor (TX6 k).2.2.1 = some (tyX6 k) := by decide +kernel
abbrev cX6_init : ByteArray := prog_8_method_1_code
def yX6_init : MethodName := ⟨RX6, "<init>", "()V"⟩
abbrev cX6_append : ByteArray := prog_8_method_2_code
def yX6_append : MethodName := ⟨RX6, "append", "(I)V"⟩
abbrev cX6_read : ByteArray := prog_8_method_3_code
def yX6_read : MethodName := ⟨RX6, "read", "()I"⟩
abbrev cX6_isAllAt : ByteArray := prog_8_method_4_code
def yX6_isAllAt : MethodName := ⟨RX6, "isAllAt", "(I)Z"⟩
abbrev cX6_readChange : ByteArray := prog_8_method_5_code
def yX6_readChange : MethodName := ⟨RX6, "readChange", "(I)I"⟩
abbrev cX6_characterAt : ByteArray := prog_8_method_6_code
def yX6_characterAt : MethodName := ⟨RX6, "characterAt", "(I)I"⟩
abbrev cX6_digits : ByteArray := prog_8_method_7_code
def yX6_digits : MethodName := ⟨RX6, "digits", "(III)I"⟩
abbrev cX6_nameIn : ByteArray := prog_8_method_8_code
def yX6_nameIn : MethodName := ⟨RX6, "nameIn", "(II)I"⟩
abbrev cX6_numberIn : ByteArray := prog_8_method_9_code
def yX6_numberIn : MethodName := ⟨RX6, "numberIn", "(II)I"⟩
def RX7 : String := "ViewedNames$Zones"
def TX7 : u_T := fun k => match k with
  | 0 => ("ViewedNames$Zones", "spans", "LViewedNames$Spans;", true)
  | 1 => ("ViewedNames$Zones", "view", "[I", true)
  | _ => ("ViewedNames$Zones", "apex", "[I", true)
def tyX7 : Nat → FieldType := fun k => match k with
  | 0 => .object "ViewedNames$Spans"
  | 1 => .array .int
  | _ => .array .int
abbrev wsX70 : List Cond := u_ws RX7 TX7 3
theorem nmX7 : ∀ a, a < 3 → ∀ b, b < 3 → a ≠ b → (TX7 a).2.1 ≠ (TX7 b).2.1 := by decide +kernel
theorem tyX7_ok : ∀ k, k < 3 → parseFieldDescriptor (TX7 k).2.2.1 = some (tyX7 k) := by decide +kernel
abbrev cX7_init : ByteArray := prog_9_method_1_code
def yX7_init : MethodName := ⟨RX7, "<init>", "()V"⟩
abbrev cX7_make : ByteArray := prog_9_method_2_code
def yX7_make : MethodName := ⟨RX7, "make", "(III)I"⟩
abbrev cX7_find : ByteArray := prog_9_method_3_code
def yX7_find : MethodName := ⟨RX7, "find", "(III)I"⟩
abbrev cX7_responsible : ByteArray := prog_9_method_4_code
def yX7_responsible : MethodName := ⟨RX7, "responsible", "(III)I"⟩
abbrev cX7_hides : ByteArray := prog_9_method_5_code
def yX7_hides : MethodName := ⟨RX7, "hides", "(II)Z"⟩
def RX8 : String := "ViewedNames"
def TX8 : u_T := fun k => match k with
  | 0 => ("ViewedNames", "nets", "LViewedNames$Nets;", true)
  | 1 => ("ViewedNames", "catalog", "LViewedNames$Catalog;", true)
  | 2 => ("ViewedNames", "zones", "LViewedNames$Zones;", true)
  | 3 => ("ViewedNames", "records", "LViewedNames$Records;", true)
  | 4 => ("ViewedNames", "kept", "LViewedNames$KeptAnswers;", true)
  | 5 => ("ViewedNames", "text", "LViewedNames$Text;", true)
  | _ => ("ViewedNames", "now", "I", false)
def tyX8 : Nat → FieldType := fun k => match k with
  | 0 => .object "ViewedNames$Nets"
  | 1 => .object "ViewedNames$Catalog"
  | 2 => .object "ViewedNames$Zones"
  | 3 => .object "ViewedNames$Records"
  | 4 => .object "ViewedNames$KeptAnswers"
  | 5 => .object "ViewedNames$Text"
  | _ => .int
abbrev wsX80 : List Cond := u_ws RX8 TX8 7
theorem nmX8 : ∀ a, a < 7 → ∀ b, b < 7 → a ≠ b → (TX8 a).2.1 ≠ (TX8 b).2.1 := by decide +kernel
theorem tyX8_ok : ∀ k, k < 7 → parseFieldDescriptor (TX8 k).2.2.1 = some (tyX8 k) := by decide +kernel
abbrev cX8_init : ByteArray := prog_1_method_1_code
def yX8_init : MethodName := ⟨RX8, "<init>", "()V"⟩
abbrev cX8_pass : ByteArray := prog_1_method_2_code
def yX8_pass : MethodName := ⟨RX8, "pass", "(I)I"⟩
abbrev cX8_time : ByteArray := prog_1_method_3_code
def yX8_time : MethodName := ⟨RX8, "time", "()I"⟩
abbrev cX8_addNet : ByteArray := prog_1_method_4_code
def yX8_addNet : MethodName := ⟨RX8, "addNet", "(III)I"⟩
abbrev cX8_removeNet : ByteArray := prog_1_method_5_code
def yX8_removeNet : MethodName := ⟨RX8, "removeNet", "(I)I"⟩
abbrev cX8_viewOf : ByteArray := prog_1_method_6_code
def yX8_viewOf : MethodName := ⟨RX8, "viewOf", "(II)I"⟩
abbrev cX8_addZone : ByteArray := prog_1_method_7_code
def yX8_addZone : MethodName := ⟨RX8, "addZone", "(II)I"⟩
abbrev cX8_removeZone : ByteArray := prog_1_method_8_code
def yX8_removeZone : MethodName := ⟨RX8, "removeZone", "(I)I"⟩
abbrev cX8_zoneInfo : ByteArray := prog_1_method_9_code
def yX8_zoneInfo : MethodName := ⟨RX8, "zoneInfo", "(II)I"⟩
abbrev cX8_count : ByteArray := prog_1_method_10_code
def yX8_count : MethodName := ⟨RX8, "count", "(I)I"⟩
abbrev cX8_set : ByteArray := prog_1_method_11_code
def yX8_set : MethodName := ⟨RX8, "set", "(IIII)I"⟩
abbrev cX8_clear : ByteArray := prog_1_method_12_code
def yX8_clear : MethodName := ⟨RX8, "clear", "(III)I"⟩
abbrev cX8_record : ByteArray := prog_1_method_13_code
def yX8_record : MethodName := ⟨RX8, "record", "(IIII)I"⟩
abbrev cX8_serial : ByteArray := prog_1_method_14_code
def yX8_serial : MethodName := ⟨RX8, "serial", "(II)I"⟩
abbrev cX8_change : ByteArray := prog_1_method_15_code
def yX8_change : MethodName := ⟨RX8, "change", "(III)I"⟩
abbrev cX8_lay : ByteArray := prog_1_method_16_code
def yX8_lay : MethodName := ⟨RX8, "lay", "(I)I"⟩
abbrev cX8_layChanges : ByteArray := prog_1_method_17_code
def yX8_layChanges : MethodName := ⟨RX8, "layChanges", "(I)V"⟩
abbrev cX8_answer : ByteArray := prog_1_method_18_code
def yX8_answer : MethodName := ⟨RX8, "answer", "(IIII)I"⟩
abbrev cX8_answerFor : ByteArray := prog_1_method_19_code
def yX8_answerFor : MethodName := ⟨RX8, "answerFor", "(IIII)I"⟩
abbrev cX8_viewAnswer : ByteArray := prog_1_method_20_code
def yX8_viewAnswer : MethodName := ⟨RX8, "viewAnswer", "(IIII)I"⟩
abbrev cX8_zoneFor : ByteArray := prog_1_method_21_code
def yX8_zoneFor : MethodName := ⟨RX8, "zoneFor", "(III)I"⟩
abbrev cX8_source : ByteArray := prog_1_method_22_code
def yX8_source : MethodName := ⟨RX8, "source", "(IIII)I"⟩
abbrev cX8_differences : ByteArray := prog_1_method_23_code
def yX8_differences : MethodName := ⟨RX8, "differences", "(IIII)I"⟩
abbrev cX8_difference : ByteArray := prog_1_method_24_code
def yX8_difference : MethodName := ⟨RX8, "difference", "(IIIII)I"⟩
abbrev cX8_split : ByteArray := prog_1_method_25_code
def yX8_split : MethodName := ⟨RX8, "split", "(IIII)I"⟩
abbrev cX8_countDiffering : ByteArray := prog_1_method_26_code
def yX8_countDiffering : MethodName := ⟨RX8, "countDiffering", "(IIIII)I"⟩
abbrev cX8_since : ByteArray := prog_1_method_27_code
def yX8_since : MethodName := ⟨RX8, "since", "(III)I"⟩
abbrev cX8_seenBy : ByteArray := prog_1_method_28_code
def yX8_seenBy : MethodName := ⟨RX8, "seenBy", "(IIII)I"⟩
abbrev cX8_setKeeping : ByteArray := prog_1_method_29_code
def yX8_setKeeping : MethodName := ⟨RX8, "setKeeping", "(I)I"⟩
abbrev cX8_ask : ByteArray := prog_1_method_30_code
def yX8_ask : MethodName := ⟨RX8, "ask", "(III)I"⟩
abbrev cX8_stale : ByteArray := prog_1_method_31_code
def yX8_stale : MethodName := ⟨RX8, "stale", "()I"⟩
abbrev cX8_type : ByteArray := prog_1_method_32_code
def yX8_type : MethodName := ⟨RX8, "type", "(I)I"⟩
abbrev cX8_clearText : ByteArray := prog_1_method_33_code
def yX8_clearText : MethodName := ⟨RX8, "clearText", "()I"⟩
abbrev cX8_fault : ByteArray := prog_1_method_34_code
def yX8_fault : MethodName := ⟨RX8, "fault", "()I"⟩
abbrev cX8_isTick : ByteArray := prog_1_method_35_code
def yX8_isTick : MethodName := ⟨RX8, "isTick", "(I)Z"⟩
abbrev cX8_isView : ByteArray := prog_1_method_36_code
def yX8_isView : MethodName := ⟨RX8, "isView", "(I)Z"⟩
abbrev cX8_isAddress : ByteArray := prog_1_method_37_code
def yX8_isAddress : MethodName := ⟨RX8, "isAddress", "(I)Z"⟩
abbrev cX8_isType : ByteArray := prog_1_method_38_code
def yX8_isType : MethodName := ⟨RX8, "isType", "(I)Z"⟩
abbrev cX8_isQuestion : ByteArray := prog_1_method_39_code
def yX8_isQuestion : MethodName := ⟨RX8, "isQuestion", "(II)Z"⟩
abbrev cX8_isValue : ByteArray := prog_1_method_40_code
def yX8_isValue : MethodName := ⟨RX8, "isValue", "(II)Z"⟩
def RX9 : String := "ViewedNamesModel"
def TX9 : u_T := fun k => match k with
  | 0 => ("ViewedNamesModel", "now", "I", false)
  | 1 => ("ViewedNamesModel", "nets", "[I", true)
  | 2 => ("ViewedNamesModel", "netsMany", "I", false)
  | 3 => ("ViewedNamesModel", "zones", "[I", true)
  | 4 => ("ViewedNamesModel", "zonesMany", "I", false)
  | 5 => ("ViewedNamesModel", "changes", "[I", true)
  | 6 => ("ViewedNamesModel", "changesMany", "I", false)
  | 7 => ("ViewedNamesModel", "kept", "[I", true)
  | 8 => ("ViewedNamesModel", "keptMany", "I", false)
  | 9 => ("ViewedNamesModel", "keeping", "I", false)
  | 10 => ("ViewedNamesModel", "hits", "I", false)
  | 11 => ("ViewedNamesModel", "text", "[I", true)
  | 12 => ("ViewedNamesModel", "typed", "I", false)
  | 13 => ("ViewedNamesModel", "from", "I", false)
  | 14 => ("ViewedNamesModel", "at", "I", false)
  | 15 => ("ViewedNamesModel", "read", "[I", true)
  | _ => ("ViewedNamesModel", "number", "I", false)
def tyX9 : Nat → FieldType := fun k => match k with
  | 0 => .int
  | 1 => .array .int
  | 2 => .int
  | 3 => .array .int
  | 4 => .int
  | 5 => .array .int
  | 6 => .int
  | 7 => .array .int
  | 8 => .int
  | 9 => .int
  | 10 => .int
  | 11 => .array .int
  | 12 => .int
  | 13 => .int
  | 14 => .int
  | 15 => .array .int
  | _ => .int
abbrev wsX90 : List Cond := u_ws RX9 TX9 17
theorem nmX9 : ∀ a, a < 17 → ∀ b, b < 17 → a ≠ b → (TX9 a).2.1 ≠ (TX9 b).2.1 := by decide +kernel
theorem tyX9_ok : ∀ k, k < 17 → parseFieldDescriptor (TX9 k).2.2.1 = some (tyX9 k) := by decide +kernel
abbrev cX9_init : ByteArray := prog_11_method_1_code
def yX9_init : MethodName := ⟨RX9, "<init>", "()V"⟩
abbrev cX9_in : ByteArray := prog_11_method_3_code
def yX9_in : MethodName := ⟨RX9, "in", "(III)Z"⟩
abbrev cX9_isName : ByteArray := prog_11_method_4_code
def yX9_isName : MethodName := ⟨RX9, "isName", "(I)Z"⟩
abbrev cX9_labels : ByteArray := prog_11_method_5_code
def yX9_labels : MethodName := ⟨RX9, "labels", "(I)I"⟩
abbrev cX9_lastLabel : ByteArray := prog_11_method_6_code
def yX9_lastLabel : MethodName := ⟨RX9, "lastLabel", "(I)I"⟩
abbrev cX9_isPattern : ByteArray := prog_11_method_7_code
def yX9_isPattern : MethodName := ⟨RX9, "isPattern", "(I)Z"⟩
abbrev cX9_first : ByteArray := prog_11_method_8_code
def yX9_first : MethodName := ⟨RX9, "first", "(II)I"⟩
abbrev cX9_isAt : ByteArray := prog_11_method_9_code
def yX9_isAt : MethodName := ⟨RX9, "isAt", "(II)Z"⟩
abbrev cX9_isBelow : ByteArray := prog_11_method_10_code
def yX9_isBelow : MethodName := ⟨RX9, "isBelow", "(II)Z"⟩
abbrev cX9_patternFor : ByteArray := prog_11_method_11_code
def yX9_patternFor : MethodName := ⟨RX9, "patternFor", "(I)I"⟩
abbrev cX9_isTick : ByteArray := prog_11_method_12_code
def yX9_isTick : MethodName := ⟨RX9, "isTick", "(I)Z"⟩
abbrev cX9_pass : ByteArray := prog_11_method_13_code
def yX9_pass : MethodName := ⟨RX9, "pass", "(I)I"⟩
abbrev cX9_time : ByteArray := prog_11_method_14_code
def yX9_time : MethodName := ⟨RX9, "time", "()I"⟩
abbrev cX9_isAddress : ByteArray := prog_11_method_15_code
def yX9_isAddress : MethodName := ⟨RX9, "isAddress", "(I)Z"⟩
abbrev cX9_addNet : ByteArray := prog_11_method_16_code
def yX9_addNet : MethodName := ⟨RX9, "addNet", "(III)I"⟩
abbrev cX9_isNetThere : ByteArray := prog_11_method_17_code
def yX9_isNetThere : MethodName := ⟨RX9, "isNetThere", "(II)Z"⟩
abbrev cX9_removeNet : ByteArray := prog_11_method_18_code
def yX9_removeNet : MethodName := ⟨RX9, "removeNet", "(I)I"⟩
abbrev cX9_viewAt : ByteArray := prog_11_method_19_code
def yX9_viewAt : MethodName := ⟨RX9, "viewAt", "(II)I"⟩
abbrev cX9_viewOf : ByteArray := prog_11_method_20_code
def yX9_viewOf : MethodName := ⟨RX9, "viewOf", "(II)I"⟩
abbrev cX9_isZone : ByteArray := prog_11_method_21_code
def yX9_isZone : MethodName := ⟨RX9, "isZone", "(I)Z"⟩
abbrev cX9_isThere : ByteArray := prog_11_method_22_code
def yX9_isThere : MethodName := ⟨RX9, "isThere", "(II)Z"⟩
abbrev cX9_isGone : ByteArray := prog_11_method_23_code
def yX9_isGone : MethodName := ⟨RX9, "isGone", "(I)Z"⟩
abbrev cX9_isView : ByteArray := prog_11_method_24_code
def yX9_isView : MethodName := ⟨RX9, "isView", "(I)Z"⟩
abbrev cX9_addZone : ByteArray := prog_11_method_25_code
def yX9_addZone : MethodName := ⟨RX9, "addZone", "(II)I"⟩
abbrev cX9_removeZone : ByteArray := prog_11_method_26_code
def yX9_removeZone : MethodName := ⟨RX9, "removeZone", "(I)I"⟩
abbrev cX9_zoneInfo : ByteArray := prog_11_method_27_code
def yX9_zoneInfo : MethodName := ⟨RX9, "zoneInfo", "(II)I"⟩
abbrev cX9_count : ByteArray := prog_11_method_28_code
def yX9_count : MethodName := ⟨RX9, "count", "(I)I"⟩
abbrev cX9_part : ByteArray := prog_11_method_29_code
def yX9_part : MethodName := ⟨RX9, "part", "(II)I"⟩
abbrev cX9_valueAt : ByteArray := prog_11_method_30_code
def yX9_valueAt : MethodName := ⟨RX9, "valueAt", "(IIII)I"⟩
abbrev cX9_records : ByteArray := prog_11_method_31_code
def yX9_records : MethodName := ⟨RX9, "records", "(I)I"⟩
abbrev cX9_hasType : ByteArray := prog_11_method_32_code
def yX9_hasType : MethodName := ⟨RX9, "hasType", "(III)Z"⟩
abbrev cX9_exists : ByteArray := prog_11_method_33_code
def yX9_exists : MethodName := ⟨RX9, "exists", "(III)Z"⟩
abbrev cX9_isType : ByteArray := prog_11_method_34_code
def yX9_isType : MethodName := ⟨RX9, "isType", "(I)Z"⟩
abbrev cX9_isValue : ByteArray := prog_11_method_35_code
def yX9_isValue : MethodName := ⟨RX9, "isValue", "(II)Z"⟩
abbrev cX9_makes : ByteArray := prog_11_method_36_code
def yX9_makes : MethodName := ⟨RX9, "makes", "(IIII)V"⟩
abbrev cX9_set : ByteArray := prog_11_method_37_code
def yX9_set : MethodName := ⟨RX9, "set", "(IIII)I"⟩
abbrev cX9_clear : ByteArray := prog_11_method_38_code
def yX9_clear : MethodName := ⟨RX9, "clear", "(III)I"⟩
abbrev cX9_record : ByteArray := prog_11_method_39_code
def yX9_record : MethodName := ⟨RX9, "record", "(IIII)I"⟩
abbrev cX9_serial : ByteArray := prog_11_method_40_code
def yX9_serial : MethodName := ⟨RX9, "serial", "(II)I"⟩
abbrev cX9_change : ByteArray := prog_11_method_41_code
def yX9_change : MethodName := ⟨RX9, "change", "(III)I"⟩
abbrev cX9_responsible : ByteArray := prog_11_method_42_code
def yX9_responsible : MethodName := ⟨RX9, "responsible", "(III)I"⟩
abbrev cX9_finds : ByteArray := prog_11_method_43_code
def yX9_finds : MethodName := ⟨RX9, "finds", "(IIII)I"⟩
abbrev cX9_isQuestion : ByteArray := prog_11_method_44_code
def yX9_isQuestion : MethodName := ⟨RX9, "isQuestion", "(III)Z"⟩
abbrev cX9_answer : ByteArray := prog_11_method_45_code
def yX9_answer : MethodName := ⟨RX9, "answer", "(IIII)I"⟩
abbrev cX9_viewAnswer : ByteArray := prog_11_method_46_code
def yX9_viewAnswer : MethodName := ⟨RX9, "viewAnswer", "(IIII)I"⟩
abbrev cX9_zoneFor : ByteArray := prog_11_method_47_code
def yX9_zoneFor : MethodName := ⟨RX9, "zoneFor", "(III)I"⟩
abbrev cX9_source : ByteArray := prog_11_method_48_code
def yX9_source : MethodName := ⟨RX9, "source", "(IIII)I"⟩
abbrev cX9_parts : ByteArray := prog_11_method_49_code
def yX9_parts : MethodName := ⟨RX9, "parts", "(IIIIII)I"⟩
abbrev cX9_differences : ByteArray := prog_11_method_50_code
def yX9_differences : MethodName := ⟨RX9, "differences", "(IIII)I"⟩
abbrev cX9_difference : ByteArray := prog_11_method_51_code
def yX9_difference : MethodName := ⟨RX9, "difference", "(IIIII)I"⟩
abbrev cX9_split : ByteArray := prog_11_method_52_code
def yX9_split : MethodName := ⟨RX9, "split", "(IIII)I"⟩
abbrev cX9_latestEvent : ByteArray := prog_11_method_53_code
def yX9_latestEvent : MethodName := ⟨RX9, "latestEvent", "(I)I"⟩
abbrev cX9_since : ByteArray := prog_11_method_54_code
def yX9_since : MethodName := ⟨RX9, "since", "(III)I"⟩
abbrev cX9_seenBy : ByteArray := prog_11_method_55_code
def yX9_seenBy : MethodName := ⟨RX9, "seenBy", "(IIII)I"⟩
abbrev cX9_setKeeping : ByteArray := prog_11_method_56_code
def yX9_setKeeping : MethodName := ⟨RX9, "setKeeping", "(I)I"⟩
abbrev cX9_isYoung : ByteArray := prog_11_method_57_code
def yX9_isYoung : MethodName := ⟨RX9, "isYoung", "(I)Z"⟩
abbrev cX9_drops : ByteArray := prog_11_method_58_code
def yX9_drops : MethodName := ⟨RX9, "drops", "(I)V"⟩
abbrev cX9_ask : ByteArray := prog_11_method_59_code
def yX9_ask : MethodName := ⟨RX9, "ask", "(III)I"⟩
abbrev cX9_stale : ByteArray := prog_11_method_60_code
def yX9_stale : MethodName := ⟨RX9, "stale", "()I"⟩
abbrev cX9_type : ByteArray := prog_11_method_61_code
def yX9_type : MethodName := ⟨RX9, "type", "(I)I"⟩
abbrev cX9_clearText : ByteArray := prog_11_method_62_code
def yX9_clearText : MethodName := ⟨RX9, "clearText", "()I"⟩
abbrev cX9_isHere : ByteArray := prog_11_method_63_code
def yX9_isHere : MethodName := ⟨RX9, "isHere", "(II)Z"⟩
abbrev cX9_isLabels : ByteArray := prog_11_method_64_code
def yX9_isLabels : MethodName := ⟨RX9, "isLabels", "()Z"⟩
abbrev cX9_isDigits : ByteArray := prog_11_method_65_code
def yX9_isDigits : MethodName := ⟨RX9, "isDigits", "()Z"⟩
abbrev cX9_takes : ByteArray := prog_11_method_66_code
def yX9_takes : MethodName := ⟨RX9, "takes", "(I)Z"⟩
abbrev cX9_isChange : ByteArray := prog_11_method_67_code
def yX9_isChange : MethodName := ⟨RX9, "isChange", "()Z"⟩
abbrev cX9_faultAt : ByteArray := prog_11_method_68_code
def yX9_faultAt : MethodName := ⟨RX9, "faultAt", "()I"⟩
abbrev cX9_fault : ByteArray := prog_11_method_69_code
def yX9_fault : MethodName := ⟨RX9, "fault", "()I"⟩
abbrev cX9_lay : ByteArray := prog_11_method_70_code
def yX9_lay : MethodName := ⟨RX9, "lay", "(I)I"⟩
def RJ9 : String := "java/lang/Math"
def TJ9 : u_T := fun k => match k with
  | _ => ("", "", "", false)
def tyJ9 : Nat → FieldType := fun k => match k with
  | _ => .int
abbrev wsJ90 : List Cond := u_ws RJ9 TJ9 0
theorem nmJ9 : ∀ a, a < 0 → ∀ b, b < 0 → a ≠ b → (TJ9 a).2.1 ≠ (TJ9 b).2.1 := by decide +kernel
theorem tyJ9_ok : ∀ k, k < 0 → parseFieldDescriptor (TJ9 k).2.2.1 = some (tyJ9 k) := by decide +kernel
abbrev cJ9_max_7cf53 : ByteArray := prog_12_method_65_code
def yJ9_max_7cf53 : MethodName := ⟨RJ9, "max", "(II)I"⟩
def RL : String := "ViewedNamesLaw"
abbrev cL_law : ByteArray := code
def yL_law : MethodName := ⟨RL, "law", "([I)Z"⟩
abbrev vwCl : List vw_C := [(RX0, TX0, 2), (RX1, TX1, 8), (RX3, TX3, 4), (RX4, TX4, 5), (RX5, TX5, 4), (RX6, TX6, 6), (RX7, TX7, 3), (RX8, TX8, 7), (RX9, TX9, 17)]
end
section
theorem dX2_isName_0 : decode cX2_isName 0 = .ok (.iload_n 0, 1) := by decide +kernel
theorem dX2_isName_1 : decode cX2_isName 1 = .ok (.iconst 1, 1) := by decide +kernel
theorem dX2_isName_2 : decode cX2_isName 2 = .ok (.if_icmp .lt 15, 3) := by decide +kernel
theorem dX2_isName_5 : decode cX2_isName 5 = .ok (.iload_n 0, 1) := by decide +kernel
theorem dX2_isName_6 : decode cX2_isName 6 = .ok (.bipush 124, 2) := by decide +kernel
theorem dX2_isName_8 : decode cX2_isName 8 = .ok (.if_icmp .gt 9, 3) := by decide +kernel
theorem dX2_isName_11 : decode cX2_isName 11 = .ok (.iload_n 0, 1) := by decide +kernel
theorem dX2_isName_12 : decode cX2_isName 12 = .ok (.iconst 5, 1) := by decide +kernel
theorem dX2_isName_13 : decode cX2_isName 13 = .ok (.irem, 1) := by decide +kernel
theorem dX2_isName_14 : decode cX2_isName 14 = .ok (.ifCond .ne 5, 3) := by decide +kernel
theorem dX2_isName_17 : decode cX2_isName 17 = .ok (.iconst 0, 1) := by decide +kernel
theorem dX2_isName_18 : decode cX2_isName 18 = .ok (.ireturn, 1) := by decide +kernel
theorem dX2_isName_19 : decode cX2_isName 19 = .ok (.iload_n 0, 1) := by decide +kernel
theorem dX2_isName_20 : decode cX2_isName 20 = .ok (.iconst 5, 1) := by decide +kernel
theorem dX2_isName_21 : decode cX2_isName 21 = .ok (.idiv, 1) := by decide +kernel
theorem dX2_isName_22 : decode cX2_isName 22 = .ok (.iconst 5, 1) := by decide +kernel
theorem dX2_isName_23 : decode cX2_isName 23 = .ok (.irem, 1) := by decide +kernel
theorem dX2_isName_24 : decode cX2_isName 24 = .ok (.ifCond .eq 7, 3) := by decide +kernel
theorem dX2_isName_27 : decode cX2_isName 27 = .ok (.iconst 1, 1) := by decide +kernel
theorem dX2_isName_28 : decode cX2_isName 28 = .ok (.goto 4, 3) := by decide +kernel
theorem dX2_isName_31 : decode cX2_isName 31 = .ok (.iconst 0, 1) := by decide +kernel
theorem dX2_isName_32 : decode cX2_isName 32 = .ok (.istore_n 1, 1) := by decide +kernel
theorem dX2_isName_33 : decode cX2_isName 33 = .ok (.iload_n 0, 1) := by decide +kernel
theorem dX2_isName_34 : decode cX2_isName 34 = .ok (.bipush 25, 2) := by decide +kernel
theorem dX2_isName_36 : decode cX2_isName 36 = .ok (.idiv, 1) := by decide +kernel
theorem dX2_isName_37 : decode cX2_isName 37 = .ok (.ifCond .eq 7, 3) := by decide +kernel
theorem dX2_isName_40 : decode cX2_isName 40 = .ok (.iconst 1, 1) := by decide +kernel
theorem dX2_isName_41 : decode cX2_isName 41 = .ok (.goto 4, 3) := by decide +kernel
theorem dX2_isName_44 : decode cX2_isName 44 = .ok (.iconst 0, 1) := by decide +kernel
theorem dX2_isName_45 : decode cX2_isName 45 = .ok (.istore_n 2, 1) := by decide +kernel
theorem dX2_isName_46 : decode cX2_isName 46 = .ok (.iload_n 1, 1) := by decide +kernel
theorem dX2_isName_47 : decode cX2_isName 47 = .ok (.ifCond .ne 7, 3) := by decide +kernel
theorem dX2_isName_50 : decode cX2_isName 50 = .ok (.iload_n 2, 1) := by decide +kernel
theorem dX2_isName_51 : decode cX2_isName 51 = .ok (.ifCond .ne 7, 3) := by decide +kernel
theorem dX2_isName_54 : decode cX2_isName 54 = .ok (.iconst 1, 1) := by decide +kernel
theorem dX2_isName_55 : decode cX2_isName 55 = .ok (.goto 4, 3) := by decide +kernel
theorem dX2_isName_58 : decode cX2_isName 58 = .ok (.iconst 0, 1) := by decide +kernel
theorem dX2_isName_59 : decode cX2_isName 59 = .ok (.ireturn, 1) := by decide +kernel
theorem dX2_lastWeight_0 : decode cX2_lastWeight 0 = .ok (.iload_n 0, 1) := by decide +kernel
theorem dX2_lastWeight_1 : decode cX2_lastWeight 1 = .ok (.iconst 5, 1) := by decide +kernel
theorem dX2_lastWeight_2 : decode cX2_lastWeight 2 = .ok (.if_icmp .ge 5, 3) := by decide +kernel
theorem dX2_lastWeight_5 : decode cX2_lastWeight 5 = .ok (.iconst 1, 1) := by decide +kernel
theorem dX2_lastWeight_6 : decode cX2_lastWeight 6 = .ok (.ireturn, 1) := by decide +kernel
theorem dX2_lastWeight_7 : decode cX2_lastWeight 7 = .ok (.iload_n 0, 1) := by decide +kernel
theorem dX2_lastWeight_8 : decode cX2_lastWeight 8 = .ok (.bipush 25, 2) := by decide +kernel
theorem dX2_lastWeight_10 : decode cX2_lastWeight 10 = .ok (.if_icmp .ge 7, 3) := by decide +kernel
theorem dX2_lastWeight_13 : decode cX2_lastWeight 13 = .ok (.iconst 5, 1) := by decide +kernel
theorem dX2_lastWeight_14 : decode cX2_lastWeight 14 = .ok (.goto 5, 3) := by decide +kernel
theorem dX2_lastWeight_17 : decode cX2_lastWeight 17 = .ok (.bipush 25, 2) := by decide +kernel
theorem dX2_lastWeight_19 : decode cX2_lastWeight 19 = .ok (.ireturn, 1) := by decide +kernel
theorem dX2_isPattern_0 : decode cX2_isPattern 0 = .ok (.iload_n 0, 1) := by decide +kernel
theorem dX2_isPattern_1 : decode cX2_isPattern 1 = .ok (.iconst 4, 1) := by decide +kernel
theorem dX2_isPattern_2 : decode cX2_isPattern 2 = .ok (.iload_n 0, 1) := by decide +kernel
theorem dX2_isPattern_3 : decode cX2_isPattern 3 = .ok (.invokestatic 9, 3) := by decide +kernel
theorem dX2_isPattern_6 : decode cX2_isPattern 6 = .ok (.imul, 1) := by decide +kernel
theorem dX2_isPattern_7 : decode cX2_isPattern 7 = .ok (.if_icmp .lt 7, 3) := by decide +kernel
theorem dX2_isPattern_10 : decode cX2_isPattern 10 = .ok (.iconst 1, 1) := by decide +kernel
theorem dX2_isPattern_11 : decode cX2_isPattern 11 = .ok (.goto 4, 3) := by decide +kernel
theorem dX2_isPattern_14 : decode cX2_isPattern 14 = .ok (.iconst 0, 1) := by decide +kernel
theorem dX2_isPattern_15 : decode cX2_isPattern 15 = .ok (.ireturn, 1) := by decide +kernel
theorem dX2_patternFor_0 : decode cX2_patternFor 0 = .ok (.iload_n 0, 1) := by decide +kernel
theorem dX2_patternFor_1 : decode cX2_patternFor 1 = .ok (.invokestatic 9, 3) := by decide +kernel
theorem dX2_patternFor_4 : decode cX2_patternFor 4 = .ok (.istore_n 1, 1) := by decide +kernel
theorem dX2_patternFor_5 : decode cX2_patternFor 5 = .ok (.iload_n 0, 1) := by decide +kernel
theorem dX2_patternFor_6 : decode cX2_patternFor 6 = .ok (.iload_n 1, 1) := by decide +kernel
theorem dX2_patternFor_7 : decode cX2_patternFor 7 = .ok (.irem, 1) := by decide +kernel
theorem dX2_patternFor_8 : decode cX2_patternFor 8 = .ok (.iconst 4, 1) := by decide +kernel
theorem dX2_patternFor_9 : decode cX2_patternFor 9 = .ok (.iload_n 1, 1) := by decide +kernel
theorem dX2_patternFor_10 : decode cX2_patternFor 10 = .ok (.imul, 1) := by decide +kernel
theorem dX2_patternFor_11 : decode cX2_patternFor 11 = .ok (.iadd, 1) := by decide +kernel
theorem dX2_patternFor_12 : decode cX2_patternFor 12 = .ok (.ireturn, 1) := by decide +kernel
theorem dX2_isAt_0 : decode cX2_isAt 0 = .ok (.iload_n 1, 1) := by decide +kernel
theorem dX2_isAt_1 : decode cX2_isAt 1 = .ok (.iconst 5, 1) := by decide +kernel
theorem dX2_isAt_2 : decode cX2_isAt 2 = .ok (.if_icmp .ge 16, 3) := by decide +kernel
theorem dX2_isAt_5 : decode cX2_isAt 5 = .ok (.iload_n 0, 1) := by decide +kernel
theorem dX2_isAt_6 : decode cX2_isAt 6 = .ok (.iconst 5, 1) := by decide +kernel
theorem dX2_isAt_7 : decode cX2_isAt 7 = .ok (.irem, 1) := by decide +kernel
theorem dX2_isAt_8 : decode cX2_isAt 8 = .ok (.iload_n 1, 1) := by decide +kernel
theorem dX2_isAt_9 : decode cX2_isAt 9 = .ok (.if_icmp .ne 7, 3) := by decide +kernel
theorem dX2_isAt_12 : decode cX2_isAt 12 = .ok (.iconst 1, 1) := by decide +kernel
theorem dX2_isAt_13 : decode cX2_isAt 13 = .ok (.goto 4, 3) := by decide +kernel
theorem dX2_isAt_16 : decode cX2_isAt 16 = .ok (.iconst 0, 1) := by decide +kernel
theorem dX2_isAt_17 : decode cX2_isAt 17 = .ok (.ireturn, 1) := by decide +kernel
theorem dX2_isAt_18 : decode cX2_isAt 18 = .ok (.iload_n 1, 1) := by decide +kernel
theorem dX2_isAt_19 : decode cX2_isAt 19 = .ok (.bipush 25, 2) := by decide +kernel
theorem dX2_isAt_21 : decode cX2_isAt 21 = .ok (.if_icmp .ge 19, 3) := by decide +kernel
theorem dX2_isAt_24 : decode cX2_isAt 24 = .ok (.iload_n 0, 1) := by decide +kernel
theorem dX2_isAt_25 : decode cX2_isAt 25 = .ok (.bipush 25, 2) := by decide +kernel
theorem dX2_isAt_27 : decode cX2_isAt 27 = .ok (.irem, 1) := by decide +kernel
theorem dX2_isAt_28 : decode cX2_isAt 28 = .ok (.iload_n 1, 1) := by decide +kernel
theorem dX2_isAt_29 : decode cX2_isAt 29 = .ok (.if_icmp .ne 7, 3) := by decide +kernel
theorem dX2_isAt_32 : decode cX2_isAt 32 = .ok (.iconst 1, 1) := by decide +kernel
theorem dX2_isAt_33 : decode cX2_isAt 33 = .ok (.goto 17, 3) := by decide +kernel
theorem dX2_isAt_36 : decode cX2_isAt 36 = .ok (.iconst 0, 1) := by decide +kernel
theorem dX2_isAt_37 : decode cX2_isAt 37 = .ok (.goto 13, 3) := by decide +kernel
theorem dX2_isAt_40 : decode cX2_isAt 40 = .ok (.iload_n 0, 1) := by decide +kernel
theorem dX2_isAt_41 : decode cX2_isAt 41 = .ok (.iload_n 1, 1) := by decide +kernel
theorem dX2_isAt_42 : decode cX2_isAt 42 = .ok (.if_icmp .ne 7, 3) := by decide +kernel
theorem dX2_isAt_45 : decode cX2_isAt 45 = .ok (.iconst 1, 1) := by decide +kernel
theorem dX2_isAt_46 : decode cX2_isAt 46 = .ok (.goto 4, 3) := by decide +kernel
theorem dX2_isAt_49 : decode cX2_isAt 49 = .ok (.iconst 0, 1) := by decide +kernel
theorem dX2_isAt_50 : decode cX2_isAt 50 = .ok (.ireturn, 1) := by decide +kernel
theorem dX2_isBelow_0 : decode cX2_isBelow 0 = .ok (.iload_n 0, 1) := by decide +kernel
theorem dX2_isBelow_1 : decode cX2_isBelow 1 = .ok (.iload_n 1, 1) := by decide +kernel
theorem dX2_isBelow_2 : decode cX2_isBelow 2 = .ok (.if_icmp .eq 15, 3) := by decide +kernel
theorem dX2_isBelow_5 : decode cX2_isBelow 5 = .ok (.iload_n 0, 1) := by decide +kernel
theorem dX2_isBelow_6 : decode cX2_isBelow 6 = .ok (.iload_n 1, 1) := by decide +kernel
theorem dX2_isBelow_7 : decode cX2_isBelow 7 = .ok (.invokestatic 13, 3) := by decide +kernel
theorem dX2_isBelow_10 : decode cX2_isBelow 10 = .ok (.ifCond .eq 7, 3) := by decide +kernel
theorem dX2_isBelow_13 : decode cX2_isBelow 13 = .ok (.iconst 1, 1) := by decide +kernel
theorem dX2_isBelow_14 : decode cX2_isBelow 14 = .ok (.goto 4, 3) := by decide +kernel
theorem dX2_isBelow_17 : decode cX2_isBelow 17 = .ok (.iconst 0, 1) := by decide +kernel
theorem dX2_isBelow_18 : decode cX2_isBelow 18 = .ok (.ireturn, 1) := by decide +kernel
theorem dX2_isLonger_0 : decode cX2_isLonger 0 = .ok (.iload_n 0, 1) := by decide +kernel
theorem dX2_isLonger_1 : decode cX2_isLonger 1 = .ok (.invokestatic 9, 3) := by decide +kernel
theorem dX2_isLonger_4 : decode cX2_isLonger 4 = .ok (.iload_n 1, 1) := by decide +kernel
theorem dX2_isLonger_5 : decode cX2_isLonger 5 = .ok (.invokestatic 9, 3) := by decide +kernel
theorem dX2_isLonger_8 : decode cX2_isLonger 8 = .ok (.if_icmp .le 7, 3) := by decide +kernel
theorem dX2_isLonger_11 : decode cX2_isLonger 11 = .ok (.iconst 1, 1) := by decide +kernel
theorem dX2_isLonger_12 : decode cX2_isLonger 12 = .ok (.goto 4, 3) := by decide +kernel
theorem dX2_isLonger_15 : decode cX2_isLonger 15 = .ok (.iconst 0, 1) := by decide +kernel
theorem dX2_isLonger_16 : decode cX2_isLonger 16 = .ok (.ireturn, 1) := by decide +kernel
end
section
theorem dX5_init_0 : decode cX5_init 0 = .ok (.aload_n 0, 1) := by decide +kernel
theorem dX5_init_1 : decode cX5_init 1 = .ok (.invokespecial 3, 3) := by decide +kernel
theorem dX5_init_4 : decode cX5_init 4 = .ok (.aload_n 0, 1) := by decide +kernel
theorem dX5_init_5 : decode cX5_init 5 = .ok (.iload_n 1, 1) := by decide +kernel
theorem dX5_init_6 : decode cX5_init 6 = .ok (.iconst 0, 1) := by decide +kernel
theorem dX5_init_7 : decode cX5_init 7 = .ok (.invokestatic 9, 3) := by decide +kernel
theorem dX5_init_10 : decode cX5_init 10 = .ok (.putfield 15, 3) := by decide +kernel
theorem dX5_init_13 : decode cX5_init 13 = .ok (.aload_n 0, 1) := by decide +kernel
theorem dX5_init_14 : decode cX5_init 14 = .ok (.aload_n 0, 1) := by decide +kernel
theorem dX5_init_15 : decode cX5_init 15 = .ok (.getfield 15, 3) := by decide +kernel
theorem dX5_init_18 : decode cX5_init 18 = .ok (.newarray .int, 2) := by decide +kernel
theorem dX5_init_20 : decode cX5_init 20 = .ok (.putfield 21, 3) := by decide +kernel
theorem dX5_init_23 : decode cX5_init 23 = .ok (.aload_n 0, 1) := by decide +kernel
theorem dX5_init_24 : decode cX5_init 24 = .ok (.aload_n 0, 1) := by decide +kernel
theorem dX5_init_25 : decode cX5_init 25 = .ok (.getfield 15, 3) := by decide +kernel
theorem dX5_init_28 : decode cX5_init 28 = .ok (.newarray .int, 2) := by decide +kernel
theorem dX5_init_30 : decode cX5_init 30 = .ok (.putfield 25, 3) := by decide +kernel
theorem dX5_init_33 : decode cX5_init 33 = .ok (.aload_n 0, 1) := by decide +kernel
theorem dX5_init_34 : decode cX5_init 34 = .ok (.iconst 0, 1) := by decide +kernel
theorem dX5_init_35 : decode cX5_init 35 = .ok (.putfield 28, 3) := by decide +kernel
theorem dX5_init_38 : decode cX5_init 38 = .ok (.return_, 1) := by decide +kernel
theorem dX5_isFull_0 : decode cX5_isFull 0 = .ok (.aload_n 0, 1) := by decide +kernel
theorem dX5_isFull_1 : decode cX5_isFull 1 = .ok (.getfield 28, 3) := by decide +kernel
theorem dX5_isFull_4 : decode cX5_isFull 4 = .ok (.aload_n 0, 1) := by decide +kernel
theorem dX5_isFull_5 : decode cX5_isFull 5 = .ok (.getfield 15, 3) := by decide +kernel
theorem dX5_isFull_8 : decode cX5_isFull 8 = .ok (.if_icmp .lt 7, 3) := by decide +kernel
theorem dX5_isFull_11 : decode cX5_isFull 11 = .ok (.iconst 1, 1) := by decide +kernel
theorem dX5_isFull_12 : decode cX5_isFull 12 = .ok (.goto 4, 3) := by decide +kernel
theorem dX5_isFull_15 : decode cX5_isFull 15 = .ok (.iconst 0, 1) := by decide +kernel
theorem dX5_isFull_16 : decode cX5_isFull 16 = .ok (.ireturn, 1) := by decide +kernel
theorem dX5_hasRoomFor_0 : decode cX5_hasRoomFor 0 = .ok (.iload_n 1, 1) := by decide +kernel
theorem dX5_hasRoomFor_1 : decode cX5_hasRoomFor 1 = .ok (.aload_n 0, 1) := by decide +kernel
theorem dX5_hasRoomFor_2 : decode cX5_hasRoomFor 2 = .ok (.getfield 15, 3) := by decide +kernel
theorem dX5_hasRoomFor_5 : decode cX5_hasRoomFor 5 = .ok (.aload_n 0, 1) := by decide +kernel
theorem dX5_hasRoomFor_6 : decode cX5_hasRoomFor 6 = .ok (.getfield 28, 3) := by decide +kernel
theorem dX5_hasRoomFor_9 : decode cX5_hasRoomFor 9 = .ok (.isub, 1) := by decide +kernel
theorem dX5_hasRoomFor_10 : decode cX5_hasRoomFor 10 = .ok (.if_icmp .gt 7, 3) := by decide +kernel
theorem dX5_hasRoomFor_13 : decode cX5_hasRoomFor 13 = .ok (.iconst 1, 1) := by decide +kernel
theorem dX5_hasRoomFor_14 : decode cX5_hasRoomFor 14 = .ok (.goto 4, 3) := by decide +kernel
theorem dX5_hasRoomFor_17 : decode cX5_hasRoomFor 17 = .ok (.iconst 0, 1) := by decide +kernel
theorem dX5_hasRoomFor_18 : decode cX5_hasRoomFor 18 = .ok (.ireturn, 1) := by decide +kernel
theorem dX5_isMade_0 : decode cX5_isMade 0 = .ok (.iload_n 1, 1) := by decide +kernel
theorem dX5_isMade_1 : decode cX5_isMade 1 = .ok (.ifCond .lt 15, 3) := by decide +kernel
theorem dX5_isMade_4 : decode cX5_isMade 4 = .ok (.iload_n 1, 1) := by decide +kernel
theorem dX5_isMade_5 : decode cX5_isMade 5 = .ok (.aload_n 0, 1) := by decide +kernel
theorem dX5_isMade_6 : decode cX5_isMade 6 = .ok (.getfield 28, 3) := by decide +kernel
theorem dX5_isMade_9 : decode cX5_isMade 9 = .ok (.if_icmp .ge 7, 3) := by decide +kernel
theorem dX5_isMade_12 : decode cX5_isMade 12 = .ok (.iconst 1, 1) := by decide +kernel
theorem dX5_isMade_13 : decode cX5_isMade 13 = .ok (.goto 4, 3) := by decide +kernel
theorem dX5_isMade_16 : decode cX5_isMade 16 = .ok (.iconst 0, 1) := by decide +kernel
theorem dX5_isMade_17 : decode cX5_isMade 17 = .ok (.ireturn, 1) := by decide +kernel
theorem dX5_isThere_0 : decode cX5_isThere 0 = .ok (.iload_n 1, 1) := by decide +kernel
theorem dX5_isThere_1 : decode cX5_isThere 1 = .ok (.ifCond .lt 35, 3) := by decide +kernel
theorem dX5_isThere_4 : decode cX5_isThere 4 = .ok (.iload_n 1, 1) := by decide +kernel
theorem dX5_isThere_5 : decode cX5_isThere 5 = .ok (.aload_n 0, 1) := by decide +kernel
theorem dX5_isThere_6 : decode cX5_isThere 6 = .ok (.getfield 28, 3) := by decide +kernel
theorem dX5_isThere_9 : decode cX5_isThere 9 = .ok (.if_icmp .ge 27, 3) := by decide +kernel
theorem dX5_isThere_12 : decode cX5_isThere 12 = .ok (.aload_n 0, 1) := by decide +kernel
theorem dX5_isThere_13 : decode cX5_isThere 13 = .ok (.getfield 21, 3) := by decide +kernel
theorem dX5_isThere_16 : decode cX5_isThere 16 = .ok (.iload_n 1, 1) := by decide +kernel
theorem dX5_isThere_17 : decode cX5_isThere 17 = .ok (.iaload, 1) := by decide +kernel
theorem dX5_isThere_18 : decode cX5_isThere 18 = .ok (.iload_n 2, 1) := by decide +kernel
theorem dX5_isThere_19 : decode cX5_isThere 19 = .ok (.if_icmp .gt 17, 3) := by decide +kernel
theorem dX5_isThere_22 : decode cX5_isThere 22 = .ok (.iload_n 2, 1) := by decide +kernel
theorem dX5_isThere_23 : decode cX5_isThere 23 = .ok (.aload_n 0, 1) := by decide +kernel
theorem dX5_isThere_24 : decode cX5_isThere 24 = .ok (.getfield 25, 3) := by decide +kernel
theorem dX5_isThere_27 : decode cX5_isThere 27 = .ok (.iload_n 1, 1) := by decide +kernel
theorem dX5_isThere_28 : decode cX5_isThere 28 = .ok (.iaload, 1) := by decide +kernel
theorem dX5_isThere_29 : decode cX5_isThere 29 = .ok (.if_icmp .ge 7, 3) := by decide +kernel
theorem dX5_isThere_32 : decode cX5_isThere 32 = .ok (.iconst 1, 1) := by decide +kernel
theorem dX5_isThere_33 : decode cX5_isThere 33 = .ok (.goto 4, 3) := by decide +kernel
theorem dX5_isThere_36 : decode cX5_isThere 36 = .ok (.iconst 0, 1) := by decide +kernel
theorem dX5_isThere_37 : decode cX5_isThere 37 = .ok (.ireturn, 1) := by decide +kernel
theorem dX5_countThere_0 : decode cX5_countThere 0 = .ok (.iconst 0, 1) := by decide +kernel
theorem dX5_countThere_1 : decode cX5_countThere 1 = .ok (.istore_n 2, 1) := by decide +kernel
theorem dX5_countThere_2 : decode cX5_countThere 2 = .ok (.iconst 0, 1) := by decide +kernel
theorem dX5_countThere_3 : decode cX5_countThere 3 = .ok (.istore_n 3, 1) := by decide +kernel
theorem dX5_countThere_4 : decode cX5_countThere 4 = .ok (.iload_n 3, 1) := by decide +kernel
theorem dX5_countThere_5 : decode cX5_countThere 5 = .ok (.aload_n 0, 1) := by decide +kernel
theorem dX5_countThere_6 : decode cX5_countThere 6 = .ok (.getfield 28, 3) := by decide +kernel
theorem dX5_countThere_9 : decode cX5_countThere 9 = .ok (.if_icmp .ge 21, 3) := by decide +kernel
theorem dX5_countThere_12 : decode cX5_countThere 12 = .ok (.aload_n 0, 1) := by decide +kernel
theorem dX5_countThere_13 : decode cX5_countThere 13 = .ok (.iload_n 3, 1) := by decide +kernel
theorem dX5_countThere_14 : decode cX5_countThere 14 = .ok (.iload_n 1, 1) := by decide +kernel
theorem dX5_countThere_15 : decode cX5_countThere 15 = .ok (.invokevirtual 31, 3) := by decide +kernel
theorem dX5_countThere_18 : decode cX5_countThere 18 = .ok (.ifCond .eq 6, 3) := by decide +kernel
theorem dX5_countThere_21 : decode cX5_countThere 21 = .ok (.iinc 2 1, 3) := by decide +kernel
theorem dX5_countThere_24 : decode cX5_countThere 24 = .ok (.iinc 3 1, 3) := by decide +kernel
theorem dX5_countThere_27 : decode cX5_countThere 27 = .ok (.goto (-23), 3) := by decide +kernel
theorem dX5_countThere_30 : decode cX5_countThere 30 = .ok (.iload_n 2, 1) := by decide +kernel
theorem dX5_countThere_31 : decode cX5_countThere 31 = .ok (.ireturn, 1) := by decide +kernel
theorem dX5_begin_0 : decode cX5_begin 0 = .ok (.aload_n 0, 1) := by decide +kernel
theorem dX5_begin_1 : decode cX5_begin 1 = .ok (.invokevirtual 35, 3) := by decide +kernel
theorem dX5_begin_4 : decode cX5_begin 4 = .ok (.ifCond .eq 5, 3) := by decide +kernel
theorem dX5_begin_7 : decode cX5_begin 7 = .ok (.iconst (-1), 1) := by decide +kernel
theorem dX5_begin_8 : decode cX5_begin 8 = .ok (.ireturn, 1) := by decide +kernel
theorem dX5_begin_9 : decode cX5_begin 9 = .ok (.aload_n 0, 1) := by decide +kernel
theorem dX5_begin_10 : decode cX5_begin 10 = .ok (.getfield 28, 3) := by decide +kernel
theorem dX5_begin_13 : decode cX5_begin 13 = .ok (.istore_n 2, 1) := by decide +kernel
theorem dX5_begin_14 : decode cX5_begin 14 = .ok (.aload_n 0, 1) := by decide +kernel
theorem dX5_begin_15 : decode cX5_begin 15 = .ok (.getfield 21, 3) := by decide +kernel
theorem dX5_begin_18 : decode cX5_begin 18 = .ok (.iload_n 2, 1) := by decide +kernel
theorem dX5_begin_19 : decode cX5_begin 19 = .ok (.iload_n 1, 1) := by decide +kernel
theorem dX5_begin_20 : decode cX5_begin 20 = .ok (.iastore, 1) := by decide +kernel
theorem dX5_begin_21 : decode cX5_begin 21 = .ok (.aload_n 0, 1) := by decide +kernel
theorem dX5_begin_22 : decode cX5_begin 22 = .ok (.getfield 25, 3) := by decide +kernel
theorem dX5_begin_25 : decode cX5_begin 25 = .ok (.iload_n 2, 1) := by decide +kernel
theorem dX5_begin_26 : decode cX5_begin 26 = .ok (.sipush 10000, 3) := by decide +kernel
theorem dX5_begin_29 : decode cX5_begin 29 = .ok (.iastore, 1) := by decide +kernel
theorem dX5_begin_30 : decode cX5_begin 30 = .ok (.aload_n 0, 1) := by decide +kernel
theorem dX5_begin_31 : decode cX5_begin 31 = .ok (.dup, 1) := by decide +kernel
theorem dX5_begin_32 : decode cX5_begin 32 = .ok (.getfield 28, 3) := by decide +kernel
theorem dX5_begin_35 : decode cX5_begin 35 = .ok (.iconst 1, 1) := by decide +kernel
theorem dX5_begin_36 : decode cX5_begin 36 = .ok (.iadd, 1) := by decide +kernel
theorem dX5_begin_37 : decode cX5_begin 37 = .ok (.putfield 28, 3) := by decide +kernel
theorem dX5_begin_40 : decode cX5_begin 40 = .ok (.iload_n 2, 1) := by decide +kernel
theorem dX5_begin_41 : decode cX5_begin 41 = .ok (.ireturn, 1) := by decide +kernel
theorem dX5_end_0 : decode cX5_end 0 = .ok (.aload_n 0, 1) := by decide +kernel
theorem dX5_end_1 : decode cX5_end 1 = .ok (.iload_n 1, 1) := by decide +kernel
theorem dX5_end_2 : decode cX5_end 2 = .ok (.invokevirtual 39, 3) := by decide +kernel
theorem dX5_end_5 : decode cX5_end 5 = .ok (.ifCond .eq 10, 3) := by decide +kernel
theorem dX5_end_8 : decode cX5_end 8 = .ok (.aload_n 0, 1) := by decide +kernel
theorem dX5_end_9 : decode cX5_end 9 = .ok (.getfield 25, 3) := by decide +kernel
theorem dX5_end_12 : decode cX5_end 12 = .ok (.iload_n 1, 1) := by decide +kernel
theorem dX5_end_13 : decode cX5_end 13 = .ok (.iload_n 2, 1) := by decide +kernel
theorem dX5_end_14 : decode cX5_end 14 = .ok (.iastore, 1) := by decide +kernel
theorem dX5_end_15 : decode cX5_end 15 = .ok (.return_, 1) := by decide +kernel
end
section
theorem dX3_init_0 : decode cX3_init 0 = .ok (.aload_n 0, 1) := by decide +kernel
theorem dX3_init_1 : decode cX3_init 1 = .ok (.invokespecial 3, 3) := by decide +kernel
theorem dX3_init_4 : decode cX3_init 4 = .ok (.aload_n 0, 1) := by decide +kernel
theorem dX3_init_5 : decode cX3_init 5 = .ok (.new 9, 3) := by decide +kernel
theorem dX3_init_8 : decode cX3_init 8 = .ok (.dup, 1) := by decide +kernel
theorem dX3_init_9 : decode cX3_init 9 = .ok (.bipush 10, 2) := by decide +kernel
theorem dX3_init_11 : decode cX3_init 11 = .ok (.invokespecial 13, 3) := by decide +kernel
theorem dX3_init_14 : decode cX3_init 14 = .ok (.putfield 16, 3) := by decide +kernel
theorem dX3_init_17 : decode cX3_init 17 = .ok (.aload_n 0, 1) := by decide +kernel
theorem dX3_init_18 : decode cX3_init 18 = .ok (.bipush 10, 2) := by decide +kernel
theorem dX3_init_20 : decode cX3_init 20 = .ok (.newarray .int, 2) := by decide +kernel
theorem dX3_init_22 : decode cX3_init 22 = .ok (.putfield 20, 3) := by decide +kernel
theorem dX3_init_25 : decode cX3_init 25 = .ok (.aload_n 0, 1) := by decide +kernel
theorem dX3_init_26 : decode cX3_init 26 = .ok (.bipush 10, 2) := by decide +kernel
theorem dX3_init_28 : decode cX3_init 28 = .ok (.newarray .int, 2) := by decide +kernel
theorem dX3_init_30 : decode cX3_init 30 = .ok (.putfield 24, 3) := by decide +kernel
theorem dX3_init_33 : decode cX3_init 33 = .ok (.aload_n 0, 1) := by decide +kernel
theorem dX3_init_34 : decode cX3_init 34 = .ok (.bipush 10, 2) := by decide +kernel
theorem dX3_init_36 : decode cX3_init 36 = .ok (.newarray .int, 2) := by decide +kernel
theorem dX3_init_38 : decode cX3_init 38 = .ok (.putfield 27, 3) := by decide +kernel
theorem dX3_init_41 : decode cX3_init 41 = .ok (.return_, 1) := by decide +kernel
theorem dX3_isLength_0 : decode cX3_isLength 0 = .ok (.iload_n 0, 1) := by decide +kernel
theorem dX3_isLength_1 : decode cX3_isLength 1 = .ok (.iconst 1, 1) := by decide +kernel
theorem dX3_isLength_2 : decode cX3_isLength 2 = .ok (.if_icmp .lt 13, 3) := by decide +kernel
theorem dX3_isLength_5 : decode cX3_isLength 5 = .ok (.iload_n 0, 1) := by decide +kernel
theorem dX3_isLength_6 : decode cX3_isLength 6 = .ok (.bipush 8, 2) := by decide +kernel
theorem dX3_isLength_8 : decode cX3_isLength 8 = .ok (.if_icmp .gt 7, 3) := by decide +kernel
theorem dX3_isLength_11 : decode cX3_isLength 11 = .ok (.iconst 1, 1) := by decide +kernel
theorem dX3_isLength_12 : decode cX3_isLength 12 = .ok (.goto 4, 3) := by decide +kernel
theorem dX3_isLength_15 : decode cX3_isLength 15 = .ok (.iconst 0, 1) := by decide +kernel
theorem dX3_isLength_16 : decode cX3_isLength 16 = .ok (.ireturn, 1) := by decide +kernel
theorem dX3_make_0 : decode cX3_make 0 = .ok (.aload_n 0, 1) := by decide +kernel
theorem dX3_make_1 : decode cX3_make 1 = .ok (.getfield 16, 3) := by decide +kernel
theorem dX3_make_4 : decode cX3_make 4 = .ok (.iload 4, 2) := by decide +kernel
theorem dX3_make_6 : decode cX3_make 6 = .ok (.invokevirtual 30, 3) := by decide +kernel
theorem dX3_make_9 : decode cX3_make 9 = .ok (.istore 5, 2) := by decide +kernel
theorem dX3_make_11 : decode cX3_make 11 = .ok (.iload 5, 2) := by decide +kernel
theorem dX3_make_13 : decode cX3_make 13 = .ok (.iconst (-1), 1) := by decide +kernel
theorem dX3_make_14 : decode cX3_make 14 = .ok (.if_icmp .eq 27, 3) := by decide +kernel
theorem dX3_make_17 : decode cX3_make 17 = .ok (.aload_n 0, 1) := by decide +kernel
theorem dX3_make_18 : decode cX3_make 18 = .ok (.getfield 20, 3) := by decide +kernel
theorem dX3_make_21 : decode cX3_make 21 = .ok (.iload 5, 2) := by decide +kernel
theorem dX3_make_23 : decode cX3_make 23 = .ok (.iload_n 1, 1) := by decide +kernel
theorem dX3_make_24 : decode cX3_make 24 = .ok (.iastore, 1) := by decide +kernel
theorem dX3_make_25 : decode cX3_make 25 = .ok (.aload_n 0, 1) := by decide +kernel
theorem dX3_make_26 : decode cX3_make 26 = .ok (.getfield 24, 3) := by decide +kernel
theorem dX3_make_29 : decode cX3_make 29 = .ok (.iload 5, 2) := by decide +kernel
theorem dX3_make_31 : decode cX3_make 31 = .ok (.iload_n 2, 1) := by decide +kernel
theorem dX3_make_32 : decode cX3_make 32 = .ok (.iastore, 1) := by decide +kernel
theorem dX3_make_33 : decode cX3_make 33 = .ok (.aload_n 0, 1) := by decide +kernel
theorem dX3_make_34 : decode cX3_make 34 = .ok (.getfield 27, 3) := by decide +kernel
theorem dX3_make_37 : decode cX3_make 37 = .ok (.iload 5, 2) := by decide +kernel
theorem dX3_make_39 : decode cX3_make 39 = .ok (.iload_n 3, 1) := by decide +kernel
theorem dX3_make_40 : decode cX3_make 40 = .ok (.iastore, 1) := by decide +kernel
theorem dX3_make_41 : decode cX3_make 41 = .ok (.iload 5, 2) := by decide +kernel
theorem dX3_make_43 : decode cX3_make 43 = .ok (.ireturn, 1) := by decide +kernel
theorem dX3_viewAt_0 : decode cX3_viewAt 0 = .ok (.iconst 0, 1) := by decide +kernel
theorem dX3_viewAt_1 : decode cX3_viewAt 1 = .ok (.istore_n 3, 1) := by decide +kernel
theorem dX3_viewAt_2 : decode cX3_viewAt 2 = .ok (.iconst 0, 1) := by decide +kernel
theorem dX3_viewAt_3 : decode cX3_viewAt 3 = .ok (.istore 4, 2) := by decide +kernel
theorem dX3_viewAt_5 : decode cX3_viewAt 5 = .ok (.iconst 0, 1) := by decide +kernel
theorem dX3_viewAt_6 : decode cX3_viewAt 6 = .ok (.istore 5, 2) := by decide +kernel
theorem dX3_viewAt_8 : decode cX3_viewAt 8 = .ok (.iload 5, 2) := by decide +kernel
theorem dX3_viewAt_10 : decode cX3_viewAt 10 = .ok (.aload_n 0, 1) := by decide +kernel
theorem dX3_viewAt_11 : decode cX3_viewAt 11 = .ok (.getfield 16, 3) := by decide +kernel
theorem dX3_viewAt_14 : decode cX3_viewAt 14 = .ok (.getfield 34, 3) := by decide +kernel
theorem dX3_viewAt_17 : decode cX3_viewAt 17 = .ok (.if_icmp .ge 60, 3) := by decide +kernel
theorem dX3_viewAt_20 : decode cX3_viewAt 20 = .ok (.aload_n 0, 1) := by decide +kernel
theorem dX3_viewAt_21 : decode cX3_viewAt 21 = .ok (.getfield 27, 3) := by decide +kernel
theorem dX3_viewAt_24 : decode cX3_viewAt 24 = .ok (.iload 5, 2) := by decide +kernel
theorem dX3_viewAt_26 : decode cX3_viewAt 26 = .ok (.iaload, 1) := by decide +kernel
theorem dX3_viewAt_27 : decode cX3_viewAt 27 = .ok (.iload_n 3, 1) := by decide +kernel
theorem dX3_viewAt_28 : decode cX3_viewAt 28 = .ok (.if_icmp .le 43, 3) := by decide +kernel
theorem dX3_viewAt_31 : decode cX3_viewAt 31 = .ok (.aload_n 0, 1) := by decide +kernel
theorem dX3_viewAt_32 : decode cX3_viewAt 32 = .ok (.iload 5, 2) := by decide +kernel
theorem dX3_viewAt_34 : decode cX3_viewAt 34 = .ok (.iload_n 1, 1) := by decide +kernel
theorem dX3_viewAt_35 : decode cX3_viewAt 35 = .ok (.invokevirtual 38, 3) := by decide +kernel
theorem dX3_viewAt_38 : decode cX3_viewAt 38 = .ok (.ifCond .eq 33, 3) := by decide +kernel
theorem dX3_viewAt_41 : decode cX3_viewAt 41 = .ok (.aload_n 0, 1) := by decide +kernel
theorem dX3_viewAt_42 : decode cX3_viewAt 42 = .ok (.getfield 16, 3) := by decide +kernel
theorem dX3_viewAt_45 : decode cX3_viewAt 45 = .ok (.iload 5, 2) := by decide +kernel
theorem dX3_viewAt_47 : decode cX3_viewAt 47 = .ok (.iload_n 2, 1) := by decide +kernel
theorem dX3_viewAt_48 : decode cX3_viewAt 48 = .ok (.invokevirtual 42, 3) := by decide +kernel
theorem dX3_viewAt_51 : decode cX3_viewAt 51 = .ok (.ifCond .eq 20, 3) := by decide +kernel
theorem dX3_viewAt_54 : decode cX3_viewAt 54 = .ok (.aload_n 0, 1) := by decide +kernel
theorem dX3_viewAt_55 : decode cX3_viewAt 55 = .ok (.getfield 27, 3) := by decide +kernel
theorem dX3_viewAt_58 : decode cX3_viewAt 58 = .ok (.iload 5, 2) := by decide +kernel
theorem dX3_viewAt_60 : decode cX3_viewAt 60 = .ok (.iaload, 1) := by decide +kernel
theorem dX3_viewAt_61 : decode cX3_viewAt 61 = .ok (.istore_n 3, 1) := by decide +kernel
theorem dX3_viewAt_62 : decode cX3_viewAt 62 = .ok (.aload_n 0, 1) := by decide +kernel
theorem dX3_viewAt_63 : decode cX3_viewAt 63 = .ok (.getfield 20, 3) := by decide +kernel
theorem dX3_viewAt_66 : decode cX3_viewAt 66 = .ok (.iload 5, 2) := by decide +kernel
theorem dX3_viewAt_68 : decode cX3_viewAt 68 = .ok (.iaload, 1) := by decide +kernel
theorem dX3_viewAt_69 : decode cX3_viewAt 69 = .ok (.istore 4, 2) := by decide +kernel
theorem dX3_viewAt_71 : decode cX3_viewAt 71 = .ok (.iinc 5 1, 3) := by decide +kernel
theorem dX3_viewAt_74 : decode cX3_viewAt 74 = .ok (.goto (-66), 3) := by decide +kernel
theorem dX3_viewAt_77 : decode cX3_viewAt 77 = .ok (.iload 4, 2) := by decide +kernel
theorem dX3_viewAt_79 : decode cX3_viewAt 79 = .ok (.ireturn, 1) := by decide +kernel
theorem dX3_contains_0 : decode cX3_contains 0 = .ok (.bipush 8, 2) := by decide +kernel
theorem dX3_contains_2 : decode cX3_contains 2 = .ok (.aload_n 0, 1) := by decide +kernel
theorem dX3_contains_3 : decode cX3_contains 3 = .ok (.getfield 27, 3) := by decide +kernel
theorem dX3_contains_6 : decode cX3_contains 6 = .ok (.iload_n 1, 1) := by decide +kernel
theorem dX3_contains_7 : decode cX3_contains 7 = .ok (.iaload, 1) := by decide +kernel
theorem dX3_contains_8 : decode cX3_contains 8 = .ok (.isub, 1) := by decide +kernel
theorem dX3_contains_9 : decode cX3_contains 9 = .ok (.istore_n 3, 1) := by decide +kernel
theorem dX3_contains_10 : decode cX3_contains 10 = .ok (.iload_n 2, 1) := by decide +kernel
theorem dX3_contains_11 : decode cX3_contains 11 = .ok (.iload_n 3, 1) := by decide +kernel
theorem dX3_contains_12 : decode cX3_contains 12 = .ok (.ishr, 1) := by decide +kernel
theorem dX3_contains_13 : decode cX3_contains 13 = .ok (.aload_n 0, 1) := by decide +kernel
theorem dX3_contains_14 : decode cX3_contains 14 = .ok (.getfield 24, 3) := by decide +kernel
theorem dX3_contains_17 : decode cX3_contains 17 = .ok (.iload_n 1, 1) := by decide +kernel
theorem dX3_contains_18 : decode cX3_contains 18 = .ok (.iaload, 1) := by decide +kernel
theorem dX3_contains_19 : decode cX3_contains 19 = .ok (.iload_n 3, 1) := by decide +kernel
theorem dX3_contains_20 : decode cX3_contains 20 = .ok (.ishr, 1) := by decide +kernel
theorem dX3_contains_21 : decode cX3_contains 21 = .ok (.if_icmp .ne 7, 3) := by decide +kernel
theorem dX3_contains_24 : decode cX3_contains 24 = .ok (.iconst 1, 1) := by decide +kernel
theorem dX3_contains_25 : decode cX3_contains 25 = .ok (.goto 4, 3) := by decide +kernel
theorem dX3_contains_28 : decode cX3_contains 28 = .ok (.iconst 0, 1) := by decide +kernel
theorem dX3_contains_29 : decode cX3_contains 29 = .ok (.ireturn, 1) := by decide +kernel
theorem dX3_countAddresses_0 : decode cX3_countAddresses 0 = .ok (.iconst 0, 1) := by decide +kernel
theorem dX3_countAddresses_1 : decode cX3_countAddresses 1 = .ok (.istore_n 3, 1) := by decide +kernel
theorem dX3_countAddresses_2 : decode cX3_countAddresses 2 = .ok (.iconst 0, 1) := by decide +kernel
theorem dX3_countAddresses_3 : decode cX3_countAddresses 3 = .ok (.istore 4, 2) := by decide +kernel
theorem dX3_countAddresses_5 : decode cX3_countAddresses 5 = .ok (.iload 4, 2) := by decide +kernel
theorem dX3_countAddresses_7 : decode cX3_countAddresses 7 = .ok (.sipush 255, 3) := by decide +kernel
theorem dX3_countAddresses_10 : decode cX3_countAddresses 10 = .ok (.if_icmp .gt 23, 3) := by decide +kernel
theorem dX3_countAddresses_13 : decode cX3_countAddresses 13 = .ok (.aload_n 0, 1) := by decide +kernel
theorem dX3_countAddresses_14 : decode cX3_countAddresses 14 = .ok (.iload 4, 2) := by decide +kernel
theorem dX3_countAddresses_16 : decode cX3_countAddresses 16 = .ok (.iload_n 2, 1) := by decide +kernel
theorem dX3_countAddresses_17 : decode cX3_countAddresses 17 = .ok (.invokevirtual 45, 3) := by decide +kernel
theorem dX3_countAddresses_20 : decode cX3_countAddresses 20 = .ok (.iload_n 1, 1) := by decide +kernel
theorem dX3_countAddresses_21 : decode cX3_countAddresses 21 = .ok (.if_icmp .ne 6, 3) := by decide +kernel
theorem dX3_countAddresses_24 : decode cX3_countAddresses 24 = .ok (.iinc 3 1, 3) := by decide +kernel
theorem dX3_countAddresses_27 : decode cX3_countAddresses 27 = .ok (.iinc 4 1, 3) := by decide +kernel
theorem dX3_countAddresses_30 : decode cX3_countAddresses 30 = .ok (.goto (-25), 3) := by decide +kernel
theorem dX3_countAddresses_33 : decode cX3_countAddresses 33 = .ok (.iload_n 3, 1) := by decide +kernel
theorem dX3_countAddresses_34 : decode cX3_countAddresses 34 = .ok (.ireturn, 1) := by decide +kernel
end
section
theorem dX7_init_0 : decode cX7_init 0 = .ok (.aload_n 0, 1) := by decide +kernel
theorem dX7_init_1 : decode cX7_init 1 = .ok (.invokespecial 3, 3) := by decide +kernel
theorem dX7_init_4 : decode cX7_init 4 = .ok (.aload_n 0, 1) := by decide +kernel
theorem dX7_init_5 : decode cX7_init 5 = .ok (.new 9, 3) := by decide +kernel
theorem dX7_init_8 : decode cX7_init 8 = .ok (.dup, 1) := by decide +kernel
theorem dX7_init_9 : decode cX7_init 9 = .ok (.bipush 10, 2) := by decide +kernel
theorem dX7_init_11 : decode cX7_init 11 = .ok (.invokespecial 13, 3) := by decide +kernel
theorem dX7_init_14 : decode cX7_init 14 = .ok (.putfield 16, 3) := by decide +kernel
theorem dX7_init_17 : decode cX7_init 17 = .ok (.aload_n 0, 1) := by decide +kernel
theorem dX7_init_18 : decode cX7_init 18 = .ok (.bipush 10, 2) := by decide +kernel
theorem dX7_init_20 : decode cX7_init 20 = .ok (.newarray .int, 2) := by decide +kernel
theorem dX7_init_22 : decode cX7_init 22 = .ok (.putfield 20, 3) := by decide +kernel
theorem dX7_init_25 : decode cX7_init 25 = .ok (.aload_n 0, 1) := by decide +kernel
theorem dX7_init_26 : decode cX7_init 26 = .ok (.bipush 10, 2) := by decide +kernel
theorem dX7_init_28 : decode cX7_init 28 = .ok (.newarray .int, 2) := by decide +kernel
theorem dX7_init_30 : decode cX7_init 30 = .ok (.putfield 24, 3) := by decide +kernel
theorem dX7_init_33 : decode cX7_init 33 = .ok (.return_, 1) := by decide +kernel
theorem dX7_make_0 : decode cX7_make 0 = .ok (.aload_n 0, 1) := by decide +kernel
theorem dX7_make_1 : decode cX7_make 1 = .ok (.getfield 16, 3) := by decide +kernel
theorem dX7_make_4 : decode cX7_make 4 = .ok (.iload_n 3, 1) := by decide +kernel
theorem dX7_make_5 : decode cX7_make 5 = .ok (.invokevirtual 27, 3) := by decide +kernel
theorem dX7_make_8 : decode cX7_make 8 = .ok (.istore 4, 2) := by decide +kernel
theorem dX7_make_10 : decode cX7_make 10 = .ok (.iload 4, 2) := by decide +kernel
theorem dX7_make_12 : decode cX7_make 12 = .ok (.iconst (-1), 1) := by decide +kernel
theorem dX7_make_13 : decode cX7_make 13 = .ok (.if_icmp .eq 19, 3) := by decide +kernel
theorem dX7_make_16 : decode cX7_make 16 = .ok (.aload_n 0, 1) := by decide +kernel
theorem dX7_make_17 : decode cX7_make 17 = .ok (.getfield 20, 3) := by decide +kernel
theorem dX7_make_20 : decode cX7_make 20 = .ok (.iload 4, 2) := by decide +kernel
theorem dX7_make_22 : decode cX7_make 22 = .ok (.iload_n 1, 1) := by decide +kernel
theorem dX7_make_23 : decode cX7_make 23 = .ok (.iastore, 1) := by decide +kernel
theorem dX7_make_24 : decode cX7_make 24 = .ok (.aload_n 0, 1) := by decide +kernel
theorem dX7_make_25 : decode cX7_make 25 = .ok (.getfield 24, 3) := by decide +kernel
theorem dX7_make_28 : decode cX7_make 28 = .ok (.iload 4, 2) := by decide +kernel
theorem dX7_make_30 : decode cX7_make 30 = .ok (.iload_n 2, 1) := by decide +kernel
theorem dX7_make_31 : decode cX7_make 31 = .ok (.iastore, 1) := by decide +kernel
theorem dX7_make_32 : decode cX7_make 32 = .ok (.iload 4, 2) := by decide +kernel
theorem dX7_make_34 : decode cX7_make 34 = .ok (.ireturn, 1) := by decide +kernel
theorem dX7_find_0 : decode cX7_find 0 = .ok (.iconst 0, 1) := by decide +kernel
theorem dX7_find_1 : decode cX7_find 1 = .ok (.istore 4, 2) := by decide +kernel
theorem dX7_find_3 : decode cX7_find 3 = .ok (.iload 4, 2) := by decide +kernel
theorem dX7_find_5 : decode cX7_find 5 = .ok (.aload_n 0, 1) := by decide +kernel
theorem dX7_find_6 : decode cX7_find 6 = .ok (.getfield 16, 3) := by decide +kernel
theorem dX7_find_9 : decode cX7_find 9 = .ok (.getfield 31, 3) := by decide +kernel
theorem dX7_find_12 : decode cX7_find 12 = .ok (.if_icmp .ge 47, 3) := by decide +kernel
theorem dX7_find_15 : decode cX7_find 15 = .ok (.aload_n 0, 1) := by decide +kernel
theorem dX7_find_16 : decode cX7_find 16 = .ok (.getfield 20, 3) := by decide +kernel
theorem dX7_find_19 : decode cX7_find 19 = .ok (.iload 4, 2) := by decide +kernel
theorem dX7_find_21 : decode cX7_find 21 = .ok (.iaload, 1) := by decide +kernel
theorem dX7_find_22 : decode cX7_find 22 = .ok (.iload_n 1, 1) := by decide +kernel
theorem dX7_find_23 : decode cX7_find 23 = .ok (.if_icmp .ne 30, 3) := by decide +kernel
theorem dX7_find_26 : decode cX7_find 26 = .ok (.aload_n 0, 1) := by decide +kernel
theorem dX7_find_27 : decode cX7_find 27 = .ok (.getfield 24, 3) := by decide +kernel
theorem dX7_find_30 : decode cX7_find 30 = .ok (.iload 4, 2) := by decide +kernel
theorem dX7_find_32 : decode cX7_find 32 = .ok (.iaload, 1) := by decide +kernel
theorem dX7_find_33 : decode cX7_find 33 = .ok (.iload_n 2, 1) := by decide +kernel
theorem dX7_find_34 : decode cX7_find 34 = .ok (.if_icmp .ne 19, 3) := by decide +kernel
theorem dX7_find_37 : decode cX7_find 37 = .ok (.aload_n 0, 1) := by decide +kernel
theorem dX7_find_38 : decode cX7_find 38 = .ok (.getfield 16, 3) := by decide +kernel
theorem dX7_find_41 : decode cX7_find 41 = .ok (.iload 4, 2) := by decide +kernel
theorem dX7_find_43 : decode cX7_find 43 = .ok (.iload_n 3, 1) := by decide +kernel
theorem dX7_find_44 : decode cX7_find 44 = .ok (.invokevirtual 35, 3) := by decide +kernel
theorem dX7_find_47 : decode cX7_find 47 = .ok (.ifCond .eq 6, 3) := by decide +kernel
theorem dX7_find_50 : decode cX7_find 50 = .ok (.iload 4, 2) := by decide +kernel
theorem dX7_find_52 : decode cX7_find 52 = .ok (.ireturn, 1) := by decide +kernel
theorem dX7_find_53 : decode cX7_find 53 = .ok (.iinc 4 1, 3) := by decide +kernel
theorem dX7_find_56 : decode cX7_find 56 = .ok (.goto (-53), 3) := by decide +kernel
theorem dX7_find_59 : decode cX7_find 59 = .ok (.iconst (-1), 1) := by decide +kernel
theorem dX7_find_60 : decode cX7_find 60 = .ok (.ireturn, 1) := by decide +kernel
theorem dX7_responsible_0 : decode cX7_responsible 0 = .ok (.iconst (-1), 1) := by decide +kernel
theorem dX7_responsible_1 : decode cX7_responsible 1 = .ok (.istore 4, 2) := by decide +kernel
theorem dX7_responsible_3 : decode cX7_responsible 3 = .ok (.iconst 0, 1) := by decide +kernel
theorem dX7_responsible_4 : decode cX7_responsible 4 = .ok (.istore 5, 2) := by decide +kernel
theorem dX7_responsible_6 : decode cX7_responsible 6 = .ok (.iload 5, 2) := by decide +kernel
theorem dX7_responsible_8 : decode cX7_responsible 8 = .ok (.aload_n 0, 1) := by decide +kernel
theorem dX7_responsible_9 : decode cX7_responsible 9 = .ok (.getfield 16, 3) := by decide +kernel
theorem dX7_responsible_12 : decode cX7_responsible 12 = .ok (.getfield 31, 3) := by decide +kernel
theorem dX7_responsible_15 : decode cX7_responsible 15 = .ok (.if_icmp .ge 90, 3) := by decide +kernel
theorem dX7_responsible_18 : decode cX7_responsible 18 = .ok (.aload_n 0, 1) := by decide +kernel
theorem dX7_responsible_19 : decode cX7_responsible 19 = .ok (.getfield 20, 3) := by decide +kernel
theorem dX7_responsible_22 : decode cX7_responsible 22 = .ok (.iload 5, 2) := by decide +kernel
theorem dX7_responsible_24 : decode cX7_responsible 24 = .ok (.iaload, 1) := by decide +kernel
theorem dX7_responsible_25 : decode cX7_responsible 25 = .ok (.iload_n 1, 1) := by decide +kernel
theorem dX7_responsible_26 : decode cX7_responsible 26 = .ok (.if_icmp .eq 13, 3) := by decide +kernel
theorem dX7_responsible_29 : decode cX7_responsible 29 = .ok (.aload_n 0, 1) := by decide +kernel
theorem dX7_responsible_30 : decode cX7_responsible 30 = .ok (.getfield 20, 3) := by decide +kernel
theorem dX7_responsible_33 : decode cX7_responsible 33 = .ok (.iload 5, 2) := by decide +kernel
theorem dX7_responsible_35 : decode cX7_responsible 35 = .ok (.iaload, 1) := by decide +kernel
theorem dX7_responsible_36 : decode cX7_responsible 36 = .ok (.ifCond .ne 7, 3) := by decide +kernel
theorem dX7_responsible_39 : decode cX7_responsible 39 = .ok (.iconst 1, 1) := by decide +kernel
theorem dX7_responsible_40 : decode cX7_responsible 40 = .ok (.goto 4, 3) := by decide +kernel
theorem dX7_responsible_43 : decode cX7_responsible 43 = .ok (.iconst 0, 1) := by decide +kernel
theorem dX7_responsible_44 : decode cX7_responsible 44 = .ok (.istore 6, 2) := by decide +kernel
theorem dX7_responsible_46 : decode cX7_responsible 46 = .ok (.iload 6, 2) := by decide +kernel
theorem dX7_responsible_48 : decode cX7_responsible 48 = .ok (.ifCond .eq 51, 3) := by decide +kernel
theorem dX7_responsible_51 : decode cX7_responsible 51 = .ok (.iload_n 2, 1) := by decide +kernel
theorem dX7_responsible_52 : decode cX7_responsible 52 = .ok (.aload_n 0, 1) := by decide +kernel
theorem dX7_responsible_53 : decode cX7_responsible 53 = .ok (.getfield 24, 3) := by decide +kernel
theorem dX7_responsible_56 : decode cX7_responsible 56 = .ok (.iload 5, 2) := by decide +kernel
theorem dX7_responsible_58 : decode cX7_responsible 58 = .ok (.iaload, 1) := by decide +kernel
theorem dX7_responsible_59 : decode cX7_responsible 59 = .ok (.invokestatic 39, 3) := by decide +kernel
theorem dX7_responsible_62 : decode cX7_responsible 62 = .ok (.ifCond .eq 37, 3) := by decide +kernel
theorem dX7_responsible_65 : decode cX7_responsible 65 = .ok (.aload_n 0, 1) := by decide +kernel
theorem dX7_responsible_66 : decode cX7_responsible 66 = .ok (.getfield 16, 3) := by decide +kernel
theorem dX7_responsible_69 : decode cX7_responsible 69 = .ok (.iload 5, 2) := by decide +kernel
theorem dX7_responsible_71 : decode cX7_responsible 71 = .ok (.iload_n 3, 1) := by decide +kernel
theorem dX7_responsible_72 : decode cX7_responsible 72 = .ok (.invokevirtual 35, 3) := by decide +kernel
theorem dX7_responsible_75 : decode cX7_responsible 75 = .ok (.ifCond .eq 24, 3) := by decide +kernel
theorem dX7_responsible_78 : decode cX7_responsible 78 = .ok (.iload 4, 2) := by decide +kernel
theorem dX7_responsible_80 : decode cX7_responsible 80 = .ok (.iconst (-1), 1) := by decide +kernel
theorem dX7_responsible_81 : decode cX7_responsible 81 = .ok (.if_icmp .eq 14, 3) := by decide +kernel
theorem dX7_responsible_84 : decode cX7_responsible 84 = .ok (.aload_n 0, 1) := by decide +kernel
theorem dX7_responsible_85 : decode cX7_responsible 85 = .ok (.iload 5, 2) := by decide +kernel
theorem dX7_responsible_87 : decode cX7_responsible 87 = .ok (.iload 4, 2) := by decide +kernel
theorem dX7_responsible_89 : decode cX7_responsible 89 = .ok (.invokevirtual 44, 3) := by decide +kernel
theorem dX7_responsible_92 : decode cX7_responsible 92 = .ok (.ifCond .eq 7, 3) := by decide +kernel
theorem dX7_responsible_95 : decode cX7_responsible 95 = .ok (.iload 5, 2) := by decide +kernel
theorem dX7_responsible_97 : decode cX7_responsible 97 = .ok (.istore 4, 2) := by decide +kernel
theorem dX7_responsible_99 : decode cX7_responsible 99 = .ok (.iinc 5 1, 3) := by decide +kernel
theorem dX7_responsible_102 : decode cX7_responsible 102 = .ok (.goto (-96), 3) := by decide +kernel
theorem dX7_responsible_105 : decode cX7_responsible 105 = .ok (.iload 4, 2) := by decide +kernel
theorem dX7_responsible_107 : decode cX7_responsible 107 = .ok (.ireturn, 1) := by decide +kernel
theorem dX7_hides_0 : decode cX7_hides 0 = .ok (.aload_n 0, 1) := by decide +kernel
theorem dX7_hides_1 : decode cX7_hides 1 = .ok (.getfield 24, 3) := by decide +kernel
theorem dX7_hides_4 : decode cX7_hides 4 = .ok (.iload_n 1, 1) := by decide +kernel
theorem dX7_hides_5 : decode cX7_hides 5 = .ok (.iaload, 1) := by decide +kernel
theorem dX7_hides_6 : decode cX7_hides 6 = .ok (.aload_n 0, 1) := by decide +kernel
theorem dX7_hides_7 : decode cX7_hides 7 = .ok (.getfield 24, 3) := by decide +kernel
theorem dX7_hides_10 : decode cX7_hides 10 = .ok (.iload_n 2, 1) := by decide +kernel
theorem dX7_hides_11 : decode cX7_hides 11 = .ok (.iaload, 1) := by decide +kernel
theorem dX7_hides_12 : decode cX7_hides 12 = .ok (.if_icmp .ne 18, 3) := by decide +kernel
theorem dX7_hides_15 : decode cX7_hides 15 = .ok (.aload_n 0, 1) := by decide +kernel
theorem dX7_hides_16 : decode cX7_hides 16 = .ok (.getfield 20, 3) := by decide +kernel
theorem dX7_hides_19 : decode cX7_hides 19 = .ok (.iload_n 1, 1) := by decide +kernel
theorem dX7_hides_20 : decode cX7_hides 20 = .ok (.iaload, 1) := by decide +kernel
theorem dX7_hides_21 : decode cX7_hides 21 = .ok (.ifCond .eq 7, 3) := by decide +kernel
theorem dX7_hides_24 : decode cX7_hides 24 = .ok (.iconst 1, 1) := by decide +kernel
theorem dX7_hides_25 : decode cX7_hides 25 = .ok (.goto 4, 3) := by decide +kernel
theorem dX7_hides_28 : decode cX7_hides 28 = .ok (.iconst 0, 1) := by decide +kernel
theorem dX7_hides_29 : decode cX7_hides 29 = .ok (.ireturn, 1) := by decide +kernel
theorem dX7_hides_30 : decode cX7_hides 30 = .ok (.aload_n 0, 1) := by decide +kernel
theorem dX7_hides_31 : decode cX7_hides 31 = .ok (.getfield 24, 3) := by decide +kernel
theorem dX7_hides_34 : decode cX7_hides 34 = .ok (.iload_n 1, 1) := by decide +kernel
theorem dX7_hides_35 : decode cX7_hides 35 = .ok (.iaload, 1) := by decide +kernel
theorem dX7_hides_36 : decode cX7_hides 36 = .ok (.aload_n 0, 1) := by decide +kernel
theorem dX7_hides_37 : decode cX7_hides 37 = .ok (.getfield 24, 3) := by decide +kernel
theorem dX7_hides_40 : decode cX7_hides 40 = .ok (.iload_n 2, 1) := by decide +kernel
theorem dX7_hides_41 : decode cX7_hides 41 = .ok (.iaload, 1) := by decide +kernel
theorem dX7_hides_42 : decode cX7_hides 42 = .ok (.invokestatic 47, 3) := by decide +kernel
theorem dX7_hides_45 : decode cX7_hides 45 = .ok (.ireturn, 1) := by decide +kernel
end
section
theorem dX4_init_0 : decode cX4_init 0 = .ok (.aload_n 0, 1) := by decide +kernel
theorem dX4_init_1 : decode cX4_init 1 = .ok (.invokespecial 3, 3) := by decide +kernel
theorem dX4_init_4 : decode cX4_init 4 = .ok (.aload_n 0, 1) := by decide +kernel
theorem dX4_init_5 : decode cX4_init 5 = .ok (.new 9, 3) := by decide +kernel
theorem dX4_init_8 : decode cX4_init 8 = .ok (.dup, 1) := by decide +kernel
theorem dX4_init_9 : decode cX4_init 9 = .ok (.bipush 70, 2) := by decide +kernel
theorem dX4_init_11 : decode cX4_init 11 = .ok (.invokespecial 13, 3) := by decide +kernel
theorem dX4_init_14 : decode cX4_init 14 = .ok (.putfield 16, 3) := by decide +kernel
theorem dX4_init_17 : decode cX4_init 17 = .ok (.aload_n 0, 1) := by decide +kernel
theorem dX4_init_18 : decode cX4_init 18 = .ok (.bipush 70, 2) := by decide +kernel
theorem dX4_init_20 : decode cX4_init 20 = .ok (.newarray .int, 2) := by decide +kernel
theorem dX4_init_22 : decode cX4_init 22 = .ok (.putfield 20, 3) := by decide +kernel
theorem dX4_init_25 : decode cX4_init 25 = .ok (.aload_n 0, 1) := by decide +kernel
theorem dX4_init_26 : decode cX4_init 26 = .ok (.bipush 70, 2) := by decide +kernel
theorem dX4_init_28 : decode cX4_init 28 = .ok (.newarray .int, 2) := by decide +kernel
theorem dX4_init_30 : decode cX4_init 30 = .ok (.putfield 24, 3) := by decide +kernel
theorem dX4_init_33 : decode cX4_init 33 = .ok (.aload_n 0, 1) := by decide +kernel
theorem dX4_init_34 : decode cX4_init 34 = .ok (.bipush 70, 2) := by decide +kernel
theorem dX4_init_36 : decode cX4_init 36 = .ok (.newarray .int, 2) := by decide +kernel
theorem dX4_init_38 : decode cX4_init 38 = .ok (.putfield 27, 3) := by decide +kernel
theorem dX4_init_41 : decode cX4_init 41 = .ok (.aload_n 0, 1) := by decide +kernel
theorem dX4_init_42 : decode cX4_init 42 = .ok (.bipush 70, 2) := by decide +kernel
theorem dX4_init_44 : decode cX4_init 44 = .ok (.newarray .int, 2) := by decide +kernel
theorem dX4_init_46 : decode cX4_init 46 = .ok (.putfield 30, 3) := by decide +kernel
theorem dX4_init_49 : decode cX4_init 49 = .ok (.return_, 1) := by decide +kernel
theorem dX4_find_0 : decode cX4_find 0 = .ok (.iconst 0, 1) := by decide +kernel
theorem dX4_find_1 : decode cX4_find 1 = .ok (.istore 5, 2) := by decide +kernel
theorem dX4_find_3 : decode cX4_find 3 = .ok (.iload 5, 2) := by decide +kernel
theorem dX4_find_5 : decode cX4_find 5 = .ok (.aload_n 0, 1) := by decide +kernel
theorem dX4_find_6 : decode cX4_find 6 = .ok (.getfield 16, 3) := by decide +kernel
theorem dX4_find_9 : decode cX4_find 9 = .ok (.getfield 33, 3) := by decide +kernel
theorem dX4_find_12 : decode cX4_find 12 = .ok (.if_icmp .ge 59, 3) := by decide +kernel
theorem dX4_find_15 : decode cX4_find 15 = .ok (.aload_n 0, 1) := by decide +kernel
theorem dX4_find_16 : decode cX4_find 16 = .ok (.getfield 24, 3) := by decide +kernel
theorem dX4_find_19 : decode cX4_find 19 = .ok (.iload 5, 2) := by decide +kernel
theorem dX4_find_21 : decode cX4_find 21 = .ok (.iaload, 1) := by decide +kernel
theorem dX4_find_22 : decode cX4_find 22 = .ok (.iload_n 2, 1) := by decide +kernel
theorem dX4_find_23 : decode cX4_find 23 = .ok (.if_icmp .ne 42, 3) := by decide +kernel
theorem dX4_find_26 : decode cX4_find 26 = .ok (.aload_n 0, 1) := by decide +kernel
theorem dX4_find_27 : decode cX4_find 27 = .ok (.getfield 27, 3) := by decide +kernel
theorem dX4_find_30 : decode cX4_find 30 = .ok (.iload 5, 2) := by decide +kernel
theorem dX4_find_32 : decode cX4_find 32 = .ok (.iaload, 1) := by decide +kernel
theorem dX4_find_33 : decode cX4_find 33 = .ok (.iload_n 3, 1) := by decide +kernel
theorem dX4_find_34 : decode cX4_find 34 = .ok (.if_icmp .ne 31, 3) := by decide +kernel
theorem dX4_find_37 : decode cX4_find 37 = .ok (.aload_n 0, 1) := by decide +kernel
theorem dX4_find_38 : decode cX4_find 38 = .ok (.getfield 20, 3) := by decide +kernel
theorem dX4_find_41 : decode cX4_find 41 = .ok (.iload 5, 2) := by decide +kernel
theorem dX4_find_43 : decode cX4_find 43 = .ok (.iaload, 1) := by decide +kernel
theorem dX4_find_44 : decode cX4_find 44 = .ok (.iload_n 1, 1) := by decide +kernel
theorem dX4_find_45 : decode cX4_find 45 = .ok (.if_icmp .ne 20, 3) := by decide +kernel
theorem dX4_find_48 : decode cX4_find 48 = .ok (.aload_n 0, 1) := by decide +kernel
theorem dX4_find_49 : decode cX4_find 49 = .ok (.getfield 16, 3) := by decide +kernel
theorem dX4_find_52 : decode cX4_find 52 = .ok (.iload 5, 2) := by decide +kernel
theorem dX4_find_54 : decode cX4_find 54 = .ok (.iload 4, 2) := by decide +kernel
theorem dX4_find_56 : decode cX4_find 56 = .ok (.invokevirtual 37, 3) := by decide +kernel
theorem dX4_find_59 : decode cX4_find 59 = .ok (.ifCond .eq 6, 3) := by decide +kernel
theorem dX4_find_62 : decode cX4_find 62 = .ok (.iload 5, 2) := by decide +kernel
theorem dX4_find_64 : decode cX4_find 64 = .ok (.ireturn, 1) := by decide +kernel
theorem dX4_find_65 : decode cX4_find 65 = .ok (.iinc 5 1, 3) := by decide +kernel
theorem dX4_find_68 : decode cX4_find 68 = .ok (.goto (-65), 3) := by decide +kernel
theorem dX4_find_71 : decode cX4_find 71 = .ok (.iconst (-1), 1) := by decide +kernel
theorem dX4_find_72 : decode cX4_find 72 = .ok (.ireturn, 1) := by decide +kernel
theorem dX4_exists_0 : decode cX4_exists 0 = .ok (.iconst 0, 1) := by decide +kernel
theorem dX4_exists_1 : decode cX4_exists 1 = .ok (.istore 4, 2) := by decide +kernel
theorem dX4_exists_3 : decode cX4_exists 3 = .ok (.iload 4, 2) := by decide +kernel
theorem dX4_exists_5 : decode cX4_exists 5 = .ok (.aload_n 0, 1) := by decide +kernel
theorem dX4_exists_6 : decode cX4_exists 6 = .ok (.getfield 16, 3) := by decide +kernel
theorem dX4_exists_9 : decode cX4_exists 9 = .ok (.getfield 33, 3) := by decide +kernel
theorem dX4_exists_12 : decode cX4_exists 12 = .ok (.if_icmp .ge 49, 3) := by decide +kernel
theorem dX4_exists_15 : decode cX4_exists 15 = .ok (.aload_n 0, 1) := by decide +kernel
theorem dX4_exists_16 : decode cX4_exists 16 = .ok (.getfield 20, 3) := by decide +kernel
theorem dX4_exists_19 : decode cX4_exists 19 = .ok (.iload 4, 2) := by decide +kernel
theorem dX4_exists_21 : decode cX4_exists 21 = .ok (.iaload, 1) := by decide +kernel
theorem dX4_exists_22 : decode cX4_exists 22 = .ok (.iload_n 1, 1) := by decide +kernel
theorem dX4_exists_23 : decode cX4_exists 23 = .ok (.if_icmp .ne 32, 3) := by decide +kernel
theorem dX4_exists_26 : decode cX4_exists 26 = .ok (.aload_n 0, 1) := by decide +kernel
theorem dX4_exists_27 : decode cX4_exists 27 = .ok (.getfield 24, 3) := by decide +kernel
theorem dX4_exists_30 : decode cX4_exists 30 = .ok (.iload 4, 2) := by decide +kernel
theorem dX4_exists_32 : decode cX4_exists 32 = .ok (.iaload, 1) := by decide +kernel
theorem dX4_exists_33 : decode cX4_exists 33 = .ok (.iload_n 2, 1) := by decide +kernel
theorem dX4_exists_34 : decode cX4_exists 34 = .ok (.invokestatic 41, 3) := by decide +kernel
theorem dX4_exists_37 : decode cX4_exists 37 = .ok (.ifCond .eq 18, 3) := by decide +kernel
theorem dX4_exists_40 : decode cX4_exists 40 = .ok (.aload_n 0, 1) := by decide +kernel
theorem dX4_exists_41 : decode cX4_exists 41 = .ok (.getfield 16, 3) := by decide +kernel
theorem dX4_exists_44 : decode cX4_exists 44 = .ok (.iload 4, 2) := by decide +kernel
theorem dX4_exists_46 : decode cX4_exists 46 = .ok (.iload_n 3, 1) := by decide +kernel
theorem dX4_exists_47 : decode cX4_exists 47 = .ok (.invokevirtual 37, 3) := by decide +kernel
theorem dX4_exists_50 : decode cX4_exists 50 = .ok (.ifCond .eq 5, 3) := by decide +kernel
theorem dX4_exists_53 : decode cX4_exists 53 = .ok (.iconst 1, 1) := by decide +kernel
theorem dX4_exists_54 : decode cX4_exists 54 = .ok (.ireturn, 1) := by decide +kernel
theorem dX4_exists_55 : decode cX4_exists 55 = .ok (.iinc 4 1, 3) := by decide +kernel
theorem dX4_exists_58 : decode cX4_exists 58 = .ok (.goto (-55), 3) := by decide +kernel
theorem dX4_exists_61 : decode cX4_exists 61 = .ok (.iconst 0, 1) := by decide +kernel
theorem dX4_exists_62 : decode cX4_exists 62 = .ok (.ireturn, 1) := by decide +kernel
theorem dX4_put_0 : decode cX4_put 0 = .ok (.aload_n 0, 1) := by decide +kernel
theorem dX4_put_1 : decode cX4_put 1 = .ok (.getfield 16, 3) := by decide +kernel
theorem dX4_put_4 : decode cX4_put 4 = .ok (.aload_n 0, 1) := by decide +kernel
theorem dX4_put_5 : decode cX4_put 5 = .ok (.iload_n 1, 1) := by decide +kernel
theorem dX4_put_6 : decode cX4_put 6 = .ok (.iload_n 2, 1) := by decide +kernel
theorem dX4_put_7 : decode cX4_put 7 = .ok (.iload_n 3, 1) := by decide +kernel
theorem dX4_put_8 : decode cX4_put 8 = .ok (.iload 5, 2) := by decide +kernel
theorem dX4_put_10 : decode cX4_put 10 = .ok (.invokevirtual 46, 3) := by decide +kernel
theorem dX4_put_13 : decode cX4_put 13 = .ok (.iload 5, 2) := by decide +kernel
theorem dX4_put_15 : decode cX4_put 15 = .ok (.invokevirtual 50, 3) := by decide +kernel
theorem dX4_put_18 : decode cX4_put 18 = .ok (.aload_n 0, 1) := by decide +kernel
theorem dX4_put_19 : decode cX4_put 19 = .ok (.iload_n 1, 1) := by decide +kernel
theorem dX4_put_20 : decode cX4_put 20 = .ok (.iload_n 2, 1) := by decide +kernel
theorem dX4_put_21 : decode cX4_put 21 = .ok (.iload_n 3, 1) := by decide +kernel
theorem dX4_put_22 : decode cX4_put 22 = .ok (.iload 4, 2) := by decide +kernel
theorem dX4_put_24 : decode cX4_put 24 = .ok (.iload 5, 2) := by decide +kernel
theorem dX4_put_26 : decode cX4_put 26 = .ok (.invokevirtual 54, 3) := by decide +kernel
theorem dX4_put_29 : decode cX4_put 29 = .ok (.pop, 1) := by decide +kernel
theorem dX4_put_30 : decode cX4_put 30 = .ok (.return_, 1) := by decide +kernel
theorem dX4_drop_0 : decode cX4_drop 0 = .ok (.aload_n 0, 1) := by decide +kernel
theorem dX4_drop_1 : decode cX4_drop 1 = .ok (.getfield 16, 3) := by decide +kernel
theorem dX4_drop_4 : decode cX4_drop 4 = .ok (.iload_n 1, 1) := by decide +kernel
theorem dX4_drop_5 : decode cX4_drop 5 = .ok (.invokevirtual 58, 3) := by decide +kernel
theorem dX4_drop_8 : decode cX4_drop 8 = .ok (.ifCond .eq 44, 3) := by decide +kernel
theorem dX4_drop_11 : decode cX4_drop 11 = .ok (.aload_n 0, 1) := by decide +kernel
theorem dX4_drop_12 : decode cX4_drop 12 = .ok (.getfield 16, 3) := by decide +kernel
theorem dX4_drop_15 : decode cX4_drop 15 = .ok (.iload_n 1, 1) := by decide +kernel
theorem dX4_drop_16 : decode cX4_drop 16 = .ok (.iload_n 2, 1) := by decide +kernel
theorem dX4_drop_17 : decode cX4_drop 17 = .ok (.invokevirtual 50, 3) := by decide +kernel
theorem dX4_drop_20 : decode cX4_drop 20 = .ok (.aload_n 0, 1) := by decide +kernel
theorem dX4_drop_21 : decode cX4_drop 21 = .ok (.getfield 16, 3) := by decide +kernel
theorem dX4_drop_24 : decode cX4_drop 24 = .ok (.aload_n 0, 1) := by decide +kernel
theorem dX4_drop_25 : decode cX4_drop 25 = .ok (.aload_n 0, 1) := by decide +kernel
theorem dX4_drop_26 : decode cX4_drop 26 = .ok (.getfield 20, 3) := by decide +kernel
theorem dX4_drop_29 : decode cX4_drop 29 = .ok (.iload_n 1, 1) := by decide +kernel
theorem dX4_drop_30 : decode cX4_drop 30 = .ok (.iaload, 1) := by decide +kernel
theorem dX4_drop_31 : decode cX4_drop 31 = .ok (.aload_n 0, 1) := by decide +kernel
theorem dX4_drop_32 : decode cX4_drop 32 = .ok (.getfield 24, 3) := by decide +kernel
theorem dX4_drop_35 : decode cX4_drop 35 = .ok (.iload_n 1, 1) := by decide +kernel
theorem dX4_drop_36 : decode cX4_drop 36 = .ok (.iaload, 1) := by decide +kernel
theorem dX4_drop_37 : decode cX4_drop 37 = .ok (.aload_n 0, 1) := by decide +kernel
theorem dX4_drop_38 : decode cX4_drop 38 = .ok (.getfield 27, 3) := by decide +kernel
theorem dX4_drop_41 : decode cX4_drop 41 = .ok (.iload_n 1, 1) := by decide +kernel
theorem dX4_drop_42 : decode cX4_drop 42 = .ok (.iaload, 1) := by decide +kernel
theorem dX4_drop_43 : decode cX4_drop 43 = .ok (.iconst (-1), 1) := by decide +kernel
theorem dX4_drop_44 : decode cX4_drop 44 = .ok (.iload_n 2, 1) := by decide +kernel
theorem dX4_drop_45 : decode cX4_drop 45 = .ok (.invokevirtual 54, 3) := by decide +kernel
theorem dX4_drop_48 : decode cX4_drop 48 = .ok (.iload_n 2, 1) := by decide +kernel
theorem dX4_drop_49 : decode cX4_drop 49 = .ok (.invokevirtual 50, 3) := by decide +kernel
theorem dX4_drop_52 : decode cX4_drop 52 = .ok (.return_, 1) := by decide +kernel
theorem dX4_note_0 : decode cX4_note 0 = .ok (.aload_n 0, 1) := by decide +kernel
theorem dX4_note_1 : decode cX4_note 1 = .ok (.getfield 16, 3) := by decide +kernel
theorem dX4_note_4 : decode cX4_note 4 = .ok (.iload 5, 2) := by decide +kernel
theorem dX4_note_6 : decode cX4_note 6 = .ok (.invokevirtual 62, 3) := by decide +kernel
theorem dX4_note_9 : decode cX4_note 9 = .ok (.istore 6, 2) := by decide +kernel
theorem dX4_note_11 : decode cX4_note 11 = .ok (.iload 6, 2) := by decide +kernel
theorem dX4_note_13 : decode cX4_note 13 = .ok (.iconst (-1), 1) := by decide +kernel
theorem dX4_note_14 : decode cX4_note 14 = .ok (.if_icmp .eq 36, 3) := by decide +kernel
theorem dX4_note_17 : decode cX4_note 17 = .ok (.aload_n 0, 1) := by decide +kernel
theorem dX4_note_18 : decode cX4_note 18 = .ok (.getfield 20, 3) := by decide +kernel
theorem dX4_note_21 : decode cX4_note 21 = .ok (.iload 6, 2) := by decide +kernel
theorem dX4_note_23 : decode cX4_note 23 = .ok (.iload_n 1, 1) := by decide +kernel
theorem dX4_note_24 : decode cX4_note 24 = .ok (.iastore, 1) := by decide +kernel
theorem dX4_note_25 : decode cX4_note 25 = .ok (.aload_n 0, 1) := by decide +kernel
theorem dX4_note_26 : decode cX4_note 26 = .ok (.getfield 24, 3) := by decide +kernel
theorem dX4_note_29 : decode cX4_note 29 = .ok (.iload 6, 2) := by decide +kernel
theorem dX4_note_31 : decode cX4_note 31 = .ok (.iload_n 2, 1) := by decide +kernel
theorem dX4_note_32 : decode cX4_note 32 = .ok (.iastore, 1) := by decide +kernel
theorem dX4_note_33 : decode cX4_note 33 = .ok (.aload_n 0, 1) := by decide +kernel
theorem dX4_note_34 : decode cX4_note 34 = .ok (.getfield 27, 3) := by decide +kernel
theorem dX4_note_37 : decode cX4_note 37 = .ok (.iload 6, 2) := by decide +kernel
theorem dX4_note_39 : decode cX4_note 39 = .ok (.iload_n 3, 1) := by decide +kernel
theorem dX4_note_40 : decode cX4_note 40 = .ok (.iastore, 1) := by decide +kernel
theorem dX4_note_41 : decode cX4_note 41 = .ok (.aload_n 0, 1) := by decide +kernel
theorem dX4_note_42 : decode cX4_note 42 = .ok (.getfield 30, 3) := by decide +kernel
theorem dX4_note_45 : decode cX4_note 45 = .ok (.iload 6, 2) := by decide +kernel
theorem dX4_note_47 : decode cX4_note 47 = .ok (.iload 4, 2) := by decide +kernel
theorem dX4_note_49 : decode cX4_note 49 = .ok (.iastore, 1) := by decide +kernel
theorem dX4_note_50 : decode cX4_note 50 = .ok (.iload 6, 2) := by decide +kernel
theorem dX4_note_52 : decode cX4_note 52 = .ok (.ireturn, 1) := by decide +kernel
theorem dX4_countIn_0 : decode cX4_countIn 0 = .ok (.iconst 0, 1) := by decide +kernel
theorem dX4_countIn_1 : decode cX4_countIn 1 = .ok (.istore_n 3, 1) := by decide +kernel
theorem dX4_countIn_2 : decode cX4_countIn 2 = .ok (.iconst 0, 1) := by decide +kernel
theorem dX4_countIn_3 : decode cX4_countIn 3 = .ok (.istore 4, 2) := by decide +kernel
theorem dX4_countIn_5 : decode cX4_countIn 5 = .ok (.iload 4, 2) := by decide +kernel
theorem dX4_countIn_7 : decode cX4_countIn 7 = .ok (.aload_n 0, 1) := by decide +kernel
theorem dX4_countIn_8 : decode cX4_countIn 8 = .ok (.getfield 16, 3) := by decide +kernel
theorem dX4_countIn_11 : decode cX4_countIn 11 = .ok (.getfield 33, 3) := by decide +kernel
theorem dX4_countIn_14 : decode cX4_countIn 14 = .ok (.if_icmp .ge 36, 3) := by decide +kernel
theorem dX4_countIn_17 : decode cX4_countIn 17 = .ok (.aload_n 0, 1) := by decide +kernel
theorem dX4_countIn_18 : decode cX4_countIn 18 = .ok (.getfield 20, 3) := by decide +kernel
theorem dX4_countIn_21 : decode cX4_countIn 21 = .ok (.iload 4, 2) := by decide +kernel
theorem dX4_countIn_23 : decode cX4_countIn 23 = .ok (.iaload, 1) := by decide +kernel
theorem dX4_countIn_24 : decode cX4_countIn 24 = .ok (.iload_n 1, 1) := by decide +kernel
theorem dX4_countIn_25 : decode cX4_countIn 25 = .ok (.if_icmp .ne 19, 3) := by decide +kernel
theorem dX4_countIn_28 : decode cX4_countIn 28 = .ok (.aload_n 0, 1) := by decide +kernel
theorem dX4_countIn_29 : decode cX4_countIn 29 = .ok (.getfield 16, 3) := by decide +kernel
theorem dX4_countIn_32 : decode cX4_countIn 32 = .ok (.iload 4, 2) := by decide +kernel
theorem dX4_countIn_34 : decode cX4_countIn 34 = .ok (.iload_n 2, 1) := by decide +kernel
theorem dX4_countIn_35 : decode cX4_countIn 35 = .ok (.invokevirtual 37, 3) := by decide +kernel
theorem dX4_countIn_38 : decode cX4_countIn 38 = .ok (.ifCond .eq 6, 3) := by decide +kernel
theorem dX4_countIn_41 : decode cX4_countIn 41 = .ok (.iinc 3 1, 3) := by decide +kernel
theorem dX4_countIn_44 : decode cX4_countIn 44 = .ok (.iinc 4 1, 3) := by decide +kernel
theorem dX4_countIn_47 : decode cX4_countIn 47 = .ok (.goto (-42), 3) := by decide +kernel
theorem dX4_countIn_50 : decode cX4_countIn 50 = .ok (.iload_n 3, 1) := by decide +kernel
theorem dX4_countIn_51 : decode cX4_countIn 51 = .ok (.ireturn, 1) := by decide +kernel
theorem dX4_countChanges_0 : decode cX4_countChanges 0 = .ok (.iconst 0, 1) := by decide +kernel
theorem dX4_countChanges_1 : decode cX4_countChanges 1 = .ok (.istore_n 3, 1) := by decide +kernel
theorem dX4_countChanges_2 : decode cX4_countChanges 2 = .ok (.iconst 0, 1) := by decide +kernel
theorem dX4_countChanges_3 : decode cX4_countChanges 3 = .ok (.istore 4, 2) := by decide +kernel
theorem dX4_countChanges_5 : decode cX4_countChanges 5 = .ok (.iload 4, 2) := by decide +kernel
theorem dX4_countChanges_7 : decode cX4_countChanges 7 = .ok (.aload_n 0, 1) := by decide +kernel
theorem dX4_countChanges_8 : decode cX4_countChanges 8 = .ok (.getfield 16, 3) := by decide +kernel
theorem dX4_countChanges_11 : decode cX4_countChanges 11 = .ok (.getfield 33, 3) := by decide +kernel
theorem dX4_countChanges_14 : decode cX4_countChanges 14 = .ok (.if_icmp .ge 37, 3) := by decide +kernel
theorem dX4_countChanges_17 : decode cX4_countChanges 17 = .ok (.aload_n 0, 1) := by decide +kernel
theorem dX4_countChanges_18 : decode cX4_countChanges 18 = .ok (.getfield 20, 3) := by decide +kernel
theorem dX4_countChanges_21 : decode cX4_countChanges 21 = .ok (.iload 4, 2) := by decide +kernel
theorem dX4_countChanges_23 : decode cX4_countChanges 23 = .ok (.iaload, 1) := by decide +kernel
theorem dX4_countChanges_24 : decode cX4_countChanges 24 = .ok (.iload_n 1, 1) := by decide +kernel
theorem dX4_countChanges_25 : decode cX4_countChanges 25 = .ok (.if_icmp .ne 20, 3) := by decide +kernel
theorem dX4_countChanges_28 : decode cX4_countChanges 28 = .ok (.aload_n 0, 1) := by decide +kernel
theorem dX4_countChanges_29 : decode cX4_countChanges 29 = .ok (.getfield 16, 3) := by decide +kernel
theorem dX4_countChanges_32 : decode cX4_countChanges 32 = .ok (.getfield 66, 3) := by decide +kernel
theorem dX4_countChanges_35 : decode cX4_countChanges 35 = .ok (.iload 4, 2) := by decide +kernel
theorem dX4_countChanges_37 : decode cX4_countChanges 37 = .ok (.iaload, 1) := by decide +kernel
theorem dX4_countChanges_38 : decode cX4_countChanges 38 = .ok (.iload_n 2, 1) := by decide +kernel
theorem dX4_countChanges_39 : decode cX4_countChanges 39 = .ok (.if_icmp .gt 6, 3) := by decide +kernel
theorem dX4_countChanges_42 : decode cX4_countChanges 42 = .ok (.iinc 3 1, 3) := by decide +kernel
theorem dX4_countChanges_45 : decode cX4_countChanges 45 = .ok (.iinc 4 1, 3) := by decide +kernel
theorem dX4_countChanges_48 : decode cX4_countChanges 48 = .ok (.goto (-43), 3) := by decide +kernel
theorem dX4_countChanges_51 : decode cX4_countChanges 51 = .ok (.iload_n 3, 1) := by decide +kernel
theorem dX4_countChanges_52 : decode cX4_countChanges 52 = .ok (.ireturn, 1) := by decide +kernel
theorem dX4_findChange_0 : decode cX4_findChange 0 = .ok (.iconst 0, 1) := by decide +kernel
theorem dX4_findChange_1 : decode cX4_findChange 1 = .ok (.istore_n 3, 1) := by decide +kernel
theorem dX4_findChange_2 : decode cX4_findChange 2 = .ok (.iconst 0, 1) := by decide +kernel
theorem dX4_findChange_3 : decode cX4_findChange 3 = .ok (.istore 4, 2) := by decide +kernel
theorem dX4_findChange_5 : decode cX4_findChange 5 = .ok (.iload 4, 2) := by decide +kernel
theorem dX4_findChange_7 : decode cX4_findChange 7 = .ok (.aload_n 0, 1) := by decide +kernel
theorem dX4_findChange_8 : decode cX4_findChange 8 = .ok (.getfield 16, 3) := by decide +kernel
theorem dX4_findChange_11 : decode cX4_findChange 11 = .ok (.getfield 33, 3) := by decide +kernel
theorem dX4_findChange_14 : decode cX4_findChange 14 = .ok (.if_icmp .ge 31, 3) := by decide +kernel
theorem dX4_findChange_17 : decode cX4_findChange 17 = .ok (.aload_n 0, 1) := by decide +kernel
theorem dX4_findChange_18 : decode cX4_findChange 18 = .ok (.getfield 20, 3) := by decide +kernel
theorem dX4_findChange_21 : decode cX4_findChange 21 = .ok (.iload 4, 2) := by decide +kernel
theorem dX4_findChange_23 : decode cX4_findChange 23 = .ok (.iaload, 1) := by decide +kernel
theorem dX4_findChange_24 : decode cX4_findChange 24 = .ok (.iload_n 1, 1) := by decide +kernel
theorem dX4_findChange_25 : decode cX4_findChange 25 = .ok (.if_icmp .ne 14, 3) := by decide +kernel
theorem dX4_findChange_28 : decode cX4_findChange 28 = .ok (.iload_n 3, 1) := by decide +kernel
theorem dX4_findChange_29 : decode cX4_findChange 29 = .ok (.iload_n 2, 1) := by decide +kernel
theorem dX4_findChange_30 : decode cX4_findChange 30 = .ok (.if_icmp .ne 6, 3) := by decide +kernel
theorem dX4_findChange_33 : decode cX4_findChange 33 = .ok (.iload 4, 2) := by decide +kernel
theorem dX4_findChange_35 : decode cX4_findChange 35 = .ok (.ireturn, 1) := by decide +kernel
theorem dX4_findChange_36 : decode cX4_findChange 36 = .ok (.iinc 3 1, 3) := by decide +kernel
theorem dX4_findChange_39 : decode cX4_findChange 39 = .ok (.iinc 4 1, 3) := by decide +kernel
theorem dX4_findChange_42 : decode cX4_findChange 42 = .ok (.goto (-37), 3) := by decide +kernel
theorem dX4_findChange_45 : decode cX4_findChange 45 = .ok (.iconst (-1), 1) := by decide +kernel
theorem dX4_findChange_46 : decode cX4_findChange 46 = .ok (.ireturn, 1) := by decide +kernel
end
section
theorem dX0_init_0 : decode cX0_init 0 = .ok (.aload_n 0, 1) := by decide +kernel
theorem dX0_init_1 : decode cX0_init 1 = .ok (.invokespecial 3, 3) := by decide +kernel
theorem dX0_init_4 : decode cX0_init 4 = .ok (.aload_n 0, 1) := by decide +kernel
theorem dX0_init_5 : decode cX0_init 5 = .ok (.new 9, 3) := by decide +kernel
theorem dX0_init_8 : decode cX0_init 8 = .ok (.dup, 1) := by decide +kernel
theorem dX0_init_9 : decode cX0_init 9 = .ok (.invokespecial 11, 3) := by decide +kernel
theorem dX0_init_12 : decode cX0_init 12 = .ok (.putfield 12, 3) := by decide +kernel
theorem dX0_init_15 : decode cX0_init 15 = .ok (.aload_n 0, 1) := by decide +kernel
theorem dX0_init_16 : decode cX0_init 16 = .ok (.new 18, 3) := by decide +kernel
theorem dX0_init_19 : decode cX0_init 19 = .ok (.dup, 1) := by decide +kernel
theorem dX0_init_20 : decode cX0_init 20 = .ok (.invokespecial 20, 3) := by decide +kernel
theorem dX0_init_23 : decode cX0_init 23 = .ok (.putfield 21, 3) := by decide +kernel
theorem dX0_init_26 : decode cX0_init 26 = .ok (.return_, 1) := by decide +kernel
theorem dX0_lookUp_0 : decode cX0_lookUp 0 = .ok (.aload_n 0, 1) := by decide +kernel
theorem dX0_lookUp_1 : decode cX0_lookUp 1 = .ok (.iload_n 1, 1) := by decide +kernel
theorem dX0_lookUp_2 : decode cX0_lookUp 2 = .ok (.iload_n 2, 1) := by decide +kernel
theorem dX0_lookUp_3 : decode cX0_lookUp 3 = .ok (.iload_n 3, 1) := by decide +kernel
theorem dX0_lookUp_4 : decode cX0_lookUp 4 = .ok (.iload 4, 2) := by decide +kernel
theorem dX0_lookUp_6 : decode cX0_lookUp 6 = .ok (.invokevirtual 25, 3) := by decide +kernel
theorem dX0_lookUp_9 : decode cX0_lookUp 9 = .ok (.istore 5, 2) := by decide +kernel
theorem dX0_lookUp_11 : decode cX0_lookUp 11 = .ok (.iload 5, 2) := by decide +kernel
theorem dX0_lookUp_13 : decode cX0_lookUp 13 = .ok (.ifCond .ge 8, 3) := by decide +kernel
theorem dX0_lookUp_16 : decode cX0_lookUp 16 = .ok (.iload 5, 2) := by decide +kernel
theorem dX0_lookUp_18 : decode cX0_lookUp 18 = .ok (.goto 13, 3) := by decide +kernel
theorem dX0_lookUp_21 : decode cX0_lookUp 21 = .ok (.aload_n 0, 1) := by decide +kernel
theorem dX0_lookUp_22 : decode cX0_lookUp 22 = .ok (.getfield 21, 3) := by decide +kernel
theorem dX0_lookUp_25 : decode cX0_lookUp 25 = .ok (.getfield 29, 3) := by decide +kernel
theorem dX0_lookUp_28 : decode cX0_lookUp 28 = .ok (.iload 5, 2) := by decide +kernel
theorem dX0_lookUp_30 : decode cX0_lookUp 30 = .ok (.iaload, 1) := by decide +kernel
theorem dX0_lookUp_31 : decode cX0_lookUp 31 = .ok (.ireturn, 1) := by decide +kernel
theorem dX0_recordBehind_0 : decode cX0_recordBehind 0 = .ok (.iload_n 2, 1) := by decide +kernel
theorem dX0_recordBehind_1 : decode cX0_recordBehind 1 = .ok (.istore 5, 2) := by decide +kernel
theorem dX0_recordBehind_3 : decode cX0_recordBehind 3 = .ok (.iconst 0, 1) := by decide +kernel
theorem dX0_recordBehind_4 : decode cX0_recordBehind 4 = .ok (.istore 6, 2) := by decide +kernel
theorem dX0_recordBehind_6 : decode cX0_recordBehind 6 = .ok (.iload 6, 2) := by decide +kernel
theorem dX0_recordBehind_8 : decode cX0_recordBehind 8 = .ok (.iconst 4, 1) := by decide +kernel
theorem dX0_recordBehind_9 : decode cX0_recordBehind 9 = .ok (.if_icmp .gt 115, 3) := by decide +kernel
theorem dX0_recordBehind_12 : decode cX0_recordBehind 12 = .ok (.aload_n 0, 1) := by decide +kernel
theorem dX0_recordBehind_13 : decode cX0_recordBehind 13 = .ok (.getfield 12, 3) := by decide +kernel
theorem dX0_recordBehind_16 : decode cX0_recordBehind 16 = .ok (.iload_n 1, 1) := by decide +kernel
theorem dX0_recordBehind_17 : decode cX0_recordBehind 17 = .ok (.iload 5, 2) := by decide +kernel
theorem dX0_recordBehind_19 : decode cX0_recordBehind 19 = .ok (.iload 4, 2) := by decide +kernel
theorem dX0_recordBehind_21 : decode cX0_recordBehind 21 = .ok (.invokevirtual 33, 3) := by decide +kernel
theorem dX0_recordBehind_24 : decode cX0_recordBehind 24 = .ok (.istore 7, 2) := by decide +kernel
theorem dX0_recordBehind_26 : decode cX0_recordBehind 26 = .ok (.iload 7, 2) := by decide +kernel
theorem dX0_recordBehind_28 : decode cX0_recordBehind 28 = .ok (.iconst (-1), 1) := by decide +kernel
theorem dX0_recordBehind_29 : decode cX0_recordBehind 29 = .ok (.if_icmp .ne 6, 3) := by decide +kernel
theorem dX0_recordBehind_32 : decode cX0_recordBehind 32 = .ok (.bipush (-11), 2) := by decide +kernel
theorem dX0_recordBehind_34 : decode cX0_recordBehind 34 = .ok (.ireturn, 1) := by decide +kernel
theorem dX0_recordBehind_35 : decode cX0_recordBehind 35 = .ok (.aload_n 0, 1) := by decide +kernel
theorem dX0_recordBehind_36 : decode cX0_recordBehind 36 = .ok (.iload 7, 2) := by decide +kernel
theorem dX0_recordBehind_38 : decode cX0_recordBehind 38 = .ok (.iload 5, 2) := by decide +kernel
theorem dX0_recordBehind_40 : decode cX0_recordBehind 40 = .ok (.iload 4, 2) := by decide +kernel
theorem dX0_recordBehind_42 : decode cX0_recordBehind 42 = .ok (.invokevirtual 37, 3) := by decide +kernel
theorem dX0_recordBehind_45 : decode cX0_recordBehind 45 = .ok (.istore 8, 2) := by decide +kernel
theorem dX0_recordBehind_47 : decode cX0_recordBehind 47 = .ok (.iload 8, 2) := by decide +kernel
theorem dX0_recordBehind_49 : decode cX0_recordBehind 49 = .ok (.iconst (-1), 1) := by decide +kernel
theorem dX0_recordBehind_50 : decode cX0_recordBehind 50 = .ok (.if_icmp .ne 6, 3) := by decide +kernel
theorem dX0_recordBehind_53 : decode cX0_recordBehind 53 = .ok (.bipush (-12), 2) := by decide +kernel
theorem dX0_recordBehind_55 : decode cX0_recordBehind 55 = .ok (.ireturn, 1) := by decide +kernel
theorem dX0_recordBehind_56 : decode cX0_recordBehind 56 = .ok (.aload_n 0, 1) := by decide +kernel
theorem dX0_recordBehind_57 : decode cX0_recordBehind 57 = .ok (.getfield 21, 3) := by decide +kernel
theorem dX0_recordBehind_60 : decode cX0_recordBehind 60 = .ok (.iload 7, 2) := by decide +kernel
theorem dX0_recordBehind_62 : decode cX0_recordBehind 62 = .ok (.iload 8, 2) := by decide +kernel
theorem dX0_recordBehind_64 : decode cX0_recordBehind 64 = .ok (.iload_n 3, 1) := by decide +kernel
theorem dX0_recordBehind_65 : decode cX0_recordBehind 65 = .ok (.iload 4, 2) := by decide +kernel
theorem dX0_recordBehind_67 : decode cX0_recordBehind 67 = .ok (.invokevirtual 40, 3) := by decide +kernel
theorem dX0_recordBehind_70 : decode cX0_recordBehind 70 = .ok (.istore 9, 2) := by decide +kernel
theorem dX0_recordBehind_72 : decode cX0_recordBehind 72 = .ok (.iload 9, 2) := by decide +kernel
theorem dX0_recordBehind_74 : decode cX0_recordBehind 74 = .ok (.iconst (-1), 1) := by decide +kernel
theorem dX0_recordBehind_75 : decode cX0_recordBehind 75 = .ok (.if_icmp .eq 6, 3) := by decide +kernel
theorem dX0_recordBehind_78 : decode cX0_recordBehind 78 = .ok (.iload 9, 2) := by decide +kernel
theorem dX0_recordBehind_80 : decode cX0_recordBehind 80 = .ok (.ireturn, 1) := by decide +kernel
theorem dX0_recordBehind_81 : decode cX0_recordBehind 81 = .ok (.aload_n 0, 1) := by decide +kernel
theorem dX0_recordBehind_82 : decode cX0_recordBehind 82 = .ok (.getfield 21, 3) := by decide +kernel
theorem dX0_recordBehind_85 : decode cX0_recordBehind 85 = .ok (.iload 7, 2) := by decide +kernel
theorem dX0_recordBehind_87 : decode cX0_recordBehind 87 = .ok (.iload 8, 2) := by decide +kernel
theorem dX0_recordBehind_89 : decode cX0_recordBehind 89 = .ok (.iconst 1, 1) := by decide +kernel
theorem dX0_recordBehind_90 : decode cX0_recordBehind 90 = .ok (.iload 4, 2) := by decide +kernel
theorem dX0_recordBehind_92 : decode cX0_recordBehind 92 = .ok (.invokevirtual 40, 3) := by decide +kernel
theorem dX0_recordBehind_95 : decode cX0_recordBehind 95 = .ok (.istore 10, 2) := by decide +kernel
theorem dX0_recordBehind_97 : decode cX0_recordBehind 97 = .ok (.iload 10, 2) := by decide +kernel
theorem dX0_recordBehind_99 : decode cX0_recordBehind 99 = .ok (.iconst (-1), 1) := by decide +kernel
theorem dX0_recordBehind_100 : decode cX0_recordBehind 100 = .ok (.if_icmp .ne 6, 3) := by decide +kernel
theorem dX0_recordBehind_103 : decode cX0_recordBehind 103 = .ok (.bipush (-13), 2) := by decide +kernel
theorem dX0_recordBehind_105 : decode cX0_recordBehind 105 = .ok (.ireturn, 1) := by decide +kernel
theorem dX0_recordBehind_106 : decode cX0_recordBehind 106 = .ok (.aload_n 0, 1) := by decide +kernel
theorem dX0_recordBehind_107 : decode cX0_recordBehind 107 = .ok (.getfield 21, 3) := by decide +kernel
theorem dX0_recordBehind_110 : decode cX0_recordBehind 110 = .ok (.getfield 29, 3) := by decide +kernel
theorem dX0_recordBehind_113 : decode cX0_recordBehind 113 = .ok (.iload 10, 2) := by decide +kernel
theorem dX0_recordBehind_115 : decode cX0_recordBehind 115 = .ok (.iaload, 1) := by decide +kernel
theorem dX0_recordBehind_116 : decode cX0_recordBehind 116 = .ok (.istore 5, 2) := by decide +kernel
theorem dX0_recordBehind_118 : decode cX0_recordBehind 118 = .ok (.iinc 6 1, 3) := by decide +kernel
theorem dX0_recordBehind_121 : decode cX0_recordBehind 121 = .ok (.goto (-115), 3) := by decide +kernel
theorem dX0_recordBehind_124 : decode cX0_recordBehind 124 = .ok (.bipush (-14), 2) := by decide +kernel
theorem dX0_recordBehind_126 : decode cX0_recordBehind 126 = .ok (.ireturn, 1) := by decide +kernel
theorem dX0_standingFor_0 : decode cX0_standingFor 0 = .ok (.aload_n 0, 1) := by decide +kernel
theorem dX0_standingFor_1 : decode cX0_standingFor 1 = .ok (.getfield 21, 3) := by decide +kernel
theorem dX0_standingFor_4 : decode cX0_standingFor 4 = .ok (.iload_n 1, 1) := by decide +kernel
theorem dX0_standingFor_5 : decode cX0_standingFor 5 = .ok (.iload_n 2, 1) := by decide +kernel
theorem dX0_standingFor_6 : decode cX0_standingFor 6 = .ok (.iload_n 3, 1) := by decide +kernel
theorem dX0_standingFor_7 : decode cX0_standingFor 7 = .ok (.invokevirtual 43, 3) := by decide +kernel
theorem dX0_standingFor_10 : decode cX0_standingFor 10 = .ok (.ifCond .eq 5, 3) := by decide +kernel
theorem dX0_standingFor_13 : decode cX0_standingFor 13 = .ok (.iload_n 2, 1) := by decide +kernel
theorem dX0_standingFor_14 : decode cX0_standingFor 14 = .ok (.ireturn, 1) := by decide +kernel
theorem dX0_standingFor_15 : decode cX0_standingFor 15 = .ok (.iload_n 2, 1) := by decide +kernel
theorem dX0_standingFor_16 : decode cX0_standingFor 16 = .ok (.invokestatic 47, 3) := by decide +kernel
theorem dX0_standingFor_19 : decode cX0_standingFor 19 = .ok (.ifCond .eq 5, 3) := by decide +kernel
theorem dX0_standingFor_22 : decode cX0_standingFor 22 = .ok (.iconst (-1), 1) := by decide +kernel
theorem dX0_standingFor_23 : decode cX0_standingFor 23 = .ok (.ireturn, 1) := by decide +kernel
theorem dX0_standingFor_24 : decode cX0_standingFor 24 = .ok (.iload_n 2, 1) := by decide +kernel
theorem dX0_standingFor_25 : decode cX0_standingFor 25 = .ok (.invokestatic 53, 3) := by decide +kernel
theorem dX0_standingFor_28 : decode cX0_standingFor 28 = .ok (.istore 4, 2) := by decide +kernel
theorem dX0_standingFor_30 : decode cX0_standingFor 30 = .ok (.iload 4, 2) := by decide +kernel
theorem dX0_standingFor_32 : decode cX0_standingFor 32 = .ok (.aload_n 0, 1) := by decide +kernel
theorem dX0_standingFor_33 : decode cX0_standingFor 33 = .ok (.getfield 12, 3) := by decide +kernel
theorem dX0_standingFor_36 : decode cX0_standingFor 36 = .ok (.getfield 57, 3) := by decide +kernel
theorem dX0_standingFor_39 : decode cX0_standingFor 39 = .ok (.iload_n 1, 1) := by decide +kernel
theorem dX0_standingFor_40 : decode cX0_standingFor 40 = .ok (.iaload, 1) := by decide +kernel
theorem dX0_standingFor_41 : decode cX0_standingFor 41 = .ok (.invokestatic 60, 3) := by decide +kernel
theorem dX0_standingFor_44 : decode cX0_standingFor 44 = .ok (.ifCond .eq 21, 3) := by decide +kernel
theorem dX0_standingFor_47 : decode cX0_standingFor 47 = .ok (.aload_n 0, 1) := by decide +kernel
theorem dX0_standingFor_48 : decode cX0_standingFor 48 = .ok (.getfield 21, 3) := by decide +kernel
theorem dX0_standingFor_51 : decode cX0_standingFor 51 = .ok (.iload_n 1, 1) := by decide +kernel
theorem dX0_standingFor_52 : decode cX0_standingFor 52 = .ok (.iload 4, 2) := by decide +kernel
theorem dX0_standingFor_54 : decode cX0_standingFor 54 = .ok (.iload_n 3, 1) := by decide +kernel
theorem dX0_standingFor_55 : decode cX0_standingFor 55 = .ok (.invokevirtual 43, 3) := by decide +kernel
theorem dX0_standingFor_58 : decode cX0_standingFor 58 = .ok (.ifCond .eq 7, 3) := by decide +kernel
theorem dX0_standingFor_61 : decode cX0_standingFor 61 = .ok (.iconst 1, 1) := by decide +kernel
theorem dX0_standingFor_62 : decode cX0_standingFor 62 = .ok (.goto 4, 3) := by decide +kernel
theorem dX0_standingFor_65 : decode cX0_standingFor 65 = .ok (.iconst 0, 1) := by decide +kernel
theorem dX0_standingFor_66 : decode cX0_standingFor 66 = .ok (.istore 5, 2) := by decide +kernel
theorem dX0_standingFor_68 : decode cX0_standingFor 68 = .ok (.iload 5, 2) := by decide +kernel
theorem dX0_standingFor_70 : decode cX0_standingFor 70 = .ok (.ifCond .eq 8, 3) := by decide +kernel
theorem dX0_standingFor_73 : decode cX0_standingFor 73 = .ok (.iload 4, 2) := by decide +kernel
theorem dX0_standingFor_75 : decode cX0_standingFor 75 = .ok (.goto 4, 3) := by decide +kernel
theorem dX0_standingFor_78 : decode cX0_standingFor 78 = .ok (.iconst (-1), 1) := by decide +kernel
theorem dX0_standingFor_79 : decode cX0_standingFor 79 = .ok (.ireturn, 1) := by decide +kernel
theorem dX0_countRecords_0 : decode cX0_countRecords 0 = .ok (.iconst 0, 1) := by decide +kernel
theorem dX0_countRecords_1 : decode cX0_countRecords 1 = .ok (.istore_n 2, 1) := by decide +kernel
theorem dX0_countRecords_2 : decode cX0_countRecords 2 = .ok (.iconst 0, 1) := by decide +kernel
theorem dX0_countRecords_3 : decode cX0_countRecords 3 = .ok (.istore_n 3, 1) := by decide +kernel
theorem dX0_countRecords_4 : decode cX0_countRecords 4 = .ok (.iload_n 3, 1) := by decide +kernel
theorem dX0_countRecords_5 : decode cX0_countRecords 5 = .ok (.aload_n 0, 1) := by decide +kernel
theorem dX0_countRecords_6 : decode cX0_countRecords 6 = .ok (.getfield 12, 3) := by decide +kernel
theorem dX0_countRecords_9 : decode cX0_countRecords 9 = .ok (.getfield 64, 3) := by decide +kernel
theorem dX0_countRecords_12 : decode cX0_countRecords 12 = .ok (.getfield 68, 3) := by decide +kernel
theorem dX0_countRecords_15 : decode cX0_countRecords 15 = .ok (.if_icmp .ge 36, 3) := by decide +kernel
theorem dX0_countRecords_18 : decode cX0_countRecords 18 = .ok (.aload_n 0, 1) := by decide +kernel
theorem dX0_countRecords_19 : decode cX0_countRecords 19 = .ok (.getfield 12, 3) := by decide +kernel
theorem dX0_countRecords_22 : decode cX0_countRecords 22 = .ok (.getfield 64, 3) := by decide +kernel
theorem dX0_countRecords_25 : decode cX0_countRecords 25 = .ok (.iload_n 3, 1) := by decide +kernel
theorem dX0_countRecords_26 : decode cX0_countRecords 26 = .ok (.iload_n 1, 1) := by decide +kernel
theorem dX0_countRecords_27 : decode cX0_countRecords 27 = .ok (.invokevirtual 74, 3) := by decide +kernel
theorem dX0_countRecords_30 : decode cX0_countRecords 30 = .ok (.ifCond .eq 15, 3) := by decide +kernel
theorem dX0_countRecords_33 : decode cX0_countRecords 33 = .ok (.iload_n 2, 1) := by decide +kernel
theorem dX0_countRecords_34 : decode cX0_countRecords 34 = .ok (.aload_n 0, 1) := by decide +kernel
theorem dX0_countRecords_35 : decode cX0_countRecords 35 = .ok (.getfield 21, 3) := by decide +kernel
theorem dX0_countRecords_38 : decode cX0_countRecords 38 = .ok (.iload_n 3, 1) := by decide +kernel
theorem dX0_countRecords_39 : decode cX0_countRecords 39 = .ok (.iload_n 1, 1) := by decide +kernel
theorem dX0_countRecords_40 : decode cX0_countRecords 40 = .ok (.invokevirtual 77, 3) := by decide +kernel
theorem dX0_countRecords_43 : decode cX0_countRecords 43 = .ok (.iadd, 1) := by decide +kernel
theorem dX0_countRecords_44 : decode cX0_countRecords 44 = .ok (.istore_n 2, 1) := by decide +kernel
theorem dX0_countRecords_45 : decode cX0_countRecords 45 = .ok (.iinc 3 1, 3) := by decide +kernel
theorem dX0_countRecords_48 : decode cX0_countRecords 48 = .ok (.goto (-44), 3) := by decide +kernel
theorem dX0_countRecords_51 : decode cX0_countRecords 51 = .ok (.iload_n 2, 1) := by decide +kernel
theorem dX0_countRecords_52 : decode cX0_countRecords 52 = .ok (.ireturn, 1) := by decide +kernel
theorem dX0_lastEvent_0 : decode cX0_lastEvent 0 = .ok (.iconst 0, 1) := by decide +kernel
theorem dX0_lastEvent_1 : decode cX0_lastEvent 1 = .ok (.istore_n 2, 1) := by decide +kernel
theorem dX0_lastEvent_2 : decode cX0_lastEvent 2 = .ok (.iconst 0, 1) := by decide +kernel
theorem dX0_lastEvent_3 : decode cX0_lastEvent 3 = .ok (.istore_n 3, 1) := by decide +kernel
theorem dX0_lastEvent_4 : decode cX0_lastEvent 4 = .ok (.iload_n 3, 1) := by decide +kernel
theorem dX0_lastEvent_5 : decode cX0_lastEvent 5 = .ok (.aload_n 0, 1) := by decide +kernel
theorem dX0_lastEvent_6 : decode cX0_lastEvent 6 = .ok (.getfield 12, 3) := by decide +kernel
theorem dX0_lastEvent_9 : decode cX0_lastEvent 9 = .ok (.getfield 64, 3) := by decide +kernel
theorem dX0_lastEvent_12 : decode cX0_lastEvent 12 = .ok (.getfield 68, 3) := by decide +kernel
theorem dX0_lastEvent_15 : decode cX0_lastEvent 15 = .ok (.if_icmp .ge 45, 3) := by decide +kernel
theorem dX0_lastEvent_18 : decode cX0_lastEvent 18 = .ok (.iload_n 1, 1) := by decide +kernel
theorem dX0_lastEvent_19 : decode cX0_lastEvent 19 = .ok (.iload_n 2, 1) := by decide +kernel
theorem dX0_lastEvent_20 : decode cX0_lastEvent 20 = .ok (.aload_n 0, 1) := by decide +kernel
theorem dX0_lastEvent_21 : decode cX0_lastEvent 21 = .ok (.getfield 12, 3) := by decide +kernel
theorem dX0_lastEvent_24 : decode cX0_lastEvent 24 = .ok (.getfield 64, 3) := by decide +kernel
theorem dX0_lastEvent_27 : decode cX0_lastEvent 27 = .ok (.getfield 81, 3) := by decide +kernel
theorem dX0_lastEvent_30 : decode cX0_lastEvent 30 = .ok (.iload_n 3, 1) := by decide +kernel
theorem dX0_lastEvent_31 : decode cX0_lastEvent 31 = .ok (.iaload, 1) := by decide +kernel
theorem dX0_lastEvent_32 : decode cX0_lastEvent 32 = .ok (.invokestatic 84, 3) := by decide +kernel
theorem dX0_lastEvent_35 : decode cX0_lastEvent 35 = .ok (.istore_n 2, 1) := by decide +kernel
theorem dX0_lastEvent_36 : decode cX0_lastEvent 36 = .ok (.iload_n 1, 1) := by decide +kernel
theorem dX0_lastEvent_37 : decode cX0_lastEvent 37 = .ok (.iload_n 2, 1) := by decide +kernel
theorem dX0_lastEvent_38 : decode cX0_lastEvent 38 = .ok (.aload_n 0, 1) := by decide +kernel
theorem dX0_lastEvent_39 : decode cX0_lastEvent 39 = .ok (.getfield 12, 3) := by decide +kernel
theorem dX0_lastEvent_42 : decode cX0_lastEvent 42 = .ok (.getfield 64, 3) := by decide +kernel
theorem dX0_lastEvent_45 : decode cX0_lastEvent 45 = .ok (.getfield 87, 3) := by decide +kernel
theorem dX0_lastEvent_48 : decode cX0_lastEvent 48 = .ok (.iload_n 3, 1) := by decide +kernel
theorem dX0_lastEvent_49 : decode cX0_lastEvent 49 = .ok (.iaload, 1) := by decide +kernel
theorem dX0_lastEvent_50 : decode cX0_lastEvent 50 = .ok (.invokestatic 84, 3) := by decide +kernel
theorem dX0_lastEvent_53 : decode cX0_lastEvent 53 = .ok (.istore_n 2, 1) := by decide +kernel
theorem dX0_lastEvent_54 : decode cX0_lastEvent 54 = .ok (.iinc 3 1, 3) := by decide +kernel
theorem dX0_lastEvent_57 : decode cX0_lastEvent 57 = .ok (.goto (-53), 3) := by decide +kernel
theorem dX0_lastEvent_60 : decode cX0_lastEvent 60 = .ok (.iconst 0, 1) := by decide +kernel
theorem dX0_lastEvent_61 : decode cX0_lastEvent 61 = .ok (.istore_n 3, 1) := by decide +kernel
theorem dX0_lastEvent_62 : decode cX0_lastEvent 62 = .ok (.iload_n 3, 1) := by decide +kernel
theorem dX0_lastEvent_63 : decode cX0_lastEvent 63 = .ok (.aload_n 0, 1) := by decide +kernel
theorem dX0_lastEvent_64 : decode cX0_lastEvent 64 = .ok (.getfield 21, 3) := by decide +kernel
theorem dX0_lastEvent_67 : decode cX0_lastEvent 67 = .ok (.getfield 90, 3) := by decide +kernel
theorem dX0_lastEvent_70 : decode cX0_lastEvent 70 = .ok (.getfield 68, 3) := by decide +kernel
theorem dX0_lastEvent_73 : decode cX0_lastEvent 73 = .ok (.if_icmp .ge 27, 3) := by decide +kernel
theorem dX0_lastEvent_76 : decode cX0_lastEvent 76 = .ok (.iload_n 1, 1) := by decide +kernel
theorem dX0_lastEvent_77 : decode cX0_lastEvent 77 = .ok (.iload_n 2, 1) := by decide +kernel
theorem dX0_lastEvent_78 : decode cX0_lastEvent 78 = .ok (.aload_n 0, 1) := by decide +kernel
theorem dX0_lastEvent_79 : decode cX0_lastEvent 79 = .ok (.getfield 21, 3) := by decide +kernel
theorem dX0_lastEvent_82 : decode cX0_lastEvent 82 = .ok (.getfield 90, 3) := by decide +kernel
theorem dX0_lastEvent_85 : decode cX0_lastEvent 85 = .ok (.getfield 81, 3) := by decide +kernel
theorem dX0_lastEvent_88 : decode cX0_lastEvent 88 = .ok (.iload_n 3, 1) := by decide +kernel
theorem dX0_lastEvent_89 : decode cX0_lastEvent 89 = .ok (.iaload, 1) := by decide +kernel
theorem dX0_lastEvent_90 : decode cX0_lastEvent 90 = .ok (.invokestatic 84, 3) := by decide +kernel
theorem dX0_lastEvent_93 : decode cX0_lastEvent 93 = .ok (.istore_n 2, 1) := by decide +kernel
theorem dX0_lastEvent_94 : decode cX0_lastEvent 94 = .ok (.iinc 3 1, 3) := by decide +kernel
theorem dX0_lastEvent_97 : decode cX0_lastEvent 97 = .ok (.goto (-35), 3) := by decide +kernel
theorem dX0_lastEvent_100 : decode cX0_lastEvent 100 = .ok (.iload_n 2, 1) := by decide +kernel
theorem dX0_lastEvent_101 : decode cX0_lastEvent 101 = .ok (.ireturn, 1) := by decide +kernel
theorem dX0_laterUpTo_0 : decode cX0_laterUpTo 0 = .ok (.iload_n 2, 1) := by decide +kernel
theorem dX0_laterUpTo_1 : decode cX0_laterUpTo 1 = .ok (.iload_n 0, 1) := by decide +kernel
theorem dX0_laterUpTo_2 : decode cX0_laterUpTo 2 = .ok (.if_icmp .gt 11, 3) := by decide +kernel
theorem dX0_laterUpTo_5 : decode cX0_laterUpTo 5 = .ok (.iload_n 1, 1) := by decide +kernel
theorem dX0_laterUpTo_6 : decode cX0_laterUpTo 6 = .ok (.iload_n 2, 1) := by decide +kernel
theorem dX0_laterUpTo_7 : decode cX0_laterUpTo 7 = .ok (.invokestatic 91, 3) := by decide +kernel
theorem dX0_laterUpTo_10 : decode cX0_laterUpTo 10 = .ok (.goto 4, 3) := by decide +kernel
theorem dX0_laterUpTo_13 : decode cX0_laterUpTo 13 = .ok (.iload_n 1, 1) := by decide +kernel
theorem dX0_laterUpTo_14 : decode cX0_laterUpTo 14 = .ok (.ireturn, 1) := by decide +kernel
end
section
theorem dX1_init_0 : decode cX1_init 0 = .ok (.aload_n 0, 1) := by decide +kernel
theorem dX1_init_1 : decode cX1_init 1 = .ok (.invokespecial 3, 3) := by decide +kernel
theorem dX1_init_4 : decode cX1_init 4 = .ok (.aload_n 0, 1) := by decide +kernel
theorem dX1_init_5 : decode cX1_init 5 = .ok (.bipush 6, 2) := by decide +kernel
theorem dX1_init_7 : decode cX1_init 7 = .ok (.newarray .int, 2) := by decide +kernel
theorem dX1_init_9 : decode cX1_init 9 = .ok (.putfield 11, 3) := by decide +kernel
theorem dX1_init_12 : decode cX1_init 12 = .ok (.aload_n 0, 1) := by decide +kernel
theorem dX1_init_13 : decode cX1_init 13 = .ok (.bipush 6, 2) := by decide +kernel
theorem dX1_init_15 : decode cX1_init 15 = .ok (.newarray .int, 2) := by decide +kernel
theorem dX1_init_17 : decode cX1_init 17 = .ok (.putfield 15, 3) := by decide +kernel
theorem dX1_init_20 : decode cX1_init 20 = .ok (.aload_n 0, 1) := by decide +kernel
theorem dX1_init_21 : decode cX1_init 21 = .ok (.bipush 6, 2) := by decide +kernel
theorem dX1_init_23 : decode cX1_init 23 = .ok (.newarray .int, 2) := by decide +kernel
theorem dX1_init_25 : decode cX1_init 25 = .ok (.putfield 18, 3) := by decide +kernel
theorem dX1_init_28 : decode cX1_init 28 = .ok (.aload_n 0, 1) := by decide +kernel
theorem dX1_init_29 : decode cX1_init 29 = .ok (.bipush 6, 2) := by decide +kernel
theorem dX1_init_31 : decode cX1_init 31 = .ok (.newarray .int, 2) := by decide +kernel
theorem dX1_init_33 : decode cX1_init 33 = .ok (.putfield 21, 3) := by decide +kernel
theorem dX1_init_36 : decode cX1_init 36 = .ok (.aload_n 0, 1) := by decide +kernel
theorem dX1_init_37 : decode cX1_init 37 = .ok (.bipush 6, 2) := by decide +kernel
theorem dX1_init_39 : decode cX1_init 39 = .ok (.newarray .int, 2) := by decide +kernel
theorem dX1_init_41 : decode cX1_init 41 = .ok (.putfield 24, 3) := by decide +kernel
theorem dX1_init_44 : decode cX1_init 44 = .ok (.aload_n 0, 1) := by decide +kernel
theorem dX1_init_45 : decode cX1_init 45 = .ok (.iconst 0, 1) := by decide +kernel
theorem dX1_init_46 : decode cX1_init 46 = .ok (.putfield 27, 3) := by decide +kernel
theorem dX1_init_49 : decode cX1_init 49 = .ok (.aload_n 0, 1) := by decide +kernel
theorem dX1_init_50 : decode cX1_init 50 = .ok (.iconst 0, 1) := by decide +kernel
theorem dX1_init_51 : decode cX1_init 51 = .ok (.putfield 31, 3) := by decide +kernel
theorem dX1_init_54 : decode cX1_init 54 = .ok (.aload_n 0, 1) := by decide +kernel
theorem dX1_init_55 : decode cX1_init 55 = .ok (.iconst 3, 1) := by decide +kernel
theorem dX1_init_56 : decode cX1_init 56 = .ok (.putfield 34, 3) := by decide +kernel
theorem dX1_init_59 : decode cX1_init 59 = .ok (.return_, 1) := by decide +kernel
theorem dX1_find_0 : decode cX1_find 0 = .ok (.iconst 0, 1) := by decide +kernel
theorem dX1_find_1 : decode cX1_find 1 = .ok (.istore 4, 2) := by decide +kernel
theorem dX1_find_3 : decode cX1_find 3 = .ok (.iload 4, 2) := by decide +kernel
theorem dX1_find_5 : decode cX1_find 5 = .ok (.aload_n 0, 1) := by decide +kernel
theorem dX1_find_6 : decode cX1_find 6 = .ok (.getfield 27, 3) := by decide +kernel
theorem dX1_find_9 : decode cX1_find 9 = .ok (.if_icmp .ge 45, 3) := by decide +kernel
theorem dX1_find_12 : decode cX1_find 12 = .ok (.aload_n 0, 1) := by decide +kernel
theorem dX1_find_13 : decode cX1_find 13 = .ok (.getfield 11, 3) := by decide +kernel
theorem dX1_find_16 : decode cX1_find 16 = .ok (.iload 4, 2) := by decide +kernel
theorem dX1_find_18 : decode cX1_find 18 = .ok (.iaload, 1) := by decide +kernel
theorem dX1_find_19 : decode cX1_find 19 = .ok (.iload_n 1, 1) := by decide +kernel
theorem dX1_find_20 : decode cX1_find 20 = .ok (.if_icmp .ne 28, 3) := by decide +kernel
theorem dX1_find_23 : decode cX1_find 23 = .ok (.aload_n 0, 1) := by decide +kernel
theorem dX1_find_24 : decode cX1_find 24 = .ok (.getfield 15, 3) := by decide +kernel
theorem dX1_find_27 : decode cX1_find 27 = .ok (.iload 4, 2) := by decide +kernel
theorem dX1_find_29 : decode cX1_find 29 = .ok (.iaload, 1) := by decide +kernel
theorem dX1_find_30 : decode cX1_find 30 = .ok (.iload_n 2, 1) := by decide +kernel
theorem dX1_find_31 : decode cX1_find 31 = .ok (.if_icmp .ne 17, 3) := by decide +kernel
theorem dX1_find_34 : decode cX1_find 34 = .ok (.aload_n 0, 1) := by decide +kernel
theorem dX1_find_35 : decode cX1_find 35 = .ok (.getfield 18, 3) := by decide +kernel
theorem dX1_find_38 : decode cX1_find 38 = .ok (.iload 4, 2) := by decide +kernel
theorem dX1_find_40 : decode cX1_find 40 = .ok (.iaload, 1) := by decide +kernel
theorem dX1_find_41 : decode cX1_find 41 = .ok (.iload_n 3, 1) := by decide +kernel
theorem dX1_find_42 : decode cX1_find 42 = .ok (.if_icmp .ne 6, 3) := by decide +kernel
theorem dX1_find_45 : decode cX1_find 45 = .ok (.iload 4, 2) := by decide +kernel
theorem dX1_find_47 : decode cX1_find 47 = .ok (.ireturn, 1) := by decide +kernel
theorem dX1_find_48 : decode cX1_find 48 = .ok (.iinc 4 1, 3) := by decide +kernel
theorem dX1_find_51 : decode cX1_find 51 = .ok (.goto (-48), 3) := by decide +kernel
theorem dX1_find_54 : decode cX1_find 54 = .ok (.iconst (-1), 1) := by decide +kernel
theorem dX1_find_55 : decode cX1_find 55 = .ok (.ireturn, 1) := by decide +kernel
theorem dX1_isFresh_0 : decode cX1_isFresh 0 = .ok (.iload_n 2, 1) := by decide +kernel
theorem dX1_isFresh_1 : decode cX1_isFresh 1 = .ok (.aload_n 0, 1) := by decide +kernel
theorem dX1_isFresh_2 : decode cX1_isFresh 2 = .ok (.getfield 24, 3) := by decide +kernel
theorem dX1_isFresh_5 : decode cX1_isFresh 5 = .ok (.iload_n 1, 1) := by decide +kernel
theorem dX1_isFresh_6 : decode cX1_isFresh 6 = .ok (.iaload, 1) := by decide +kernel
theorem dX1_isFresh_7 : decode cX1_isFresh 7 = .ok (.isub, 1) := by decide +kernel
theorem dX1_isFresh_8 : decode cX1_isFresh 8 = .ok (.aload_n 0, 1) := by decide +kernel
theorem dX1_isFresh_9 : decode cX1_isFresh 9 = .ok (.getfield 34, 3) := by decide +kernel
theorem dX1_isFresh_12 : decode cX1_isFresh 12 = .ok (.if_icmp .gt 7, 3) := by decide +kernel
theorem dX1_isFresh_15 : decode cX1_isFresh 15 = .ok (.iconst 1, 1) := by decide +kernel
theorem dX1_isFresh_16 : decode cX1_isFresh 16 = .ok (.goto 4, 3) := by decide +kernel
theorem dX1_isFresh_19 : decode cX1_isFresh 19 = .ok (.iconst 0, 1) := by decide +kernel
theorem dX1_isFresh_20 : decode cX1_isFresh 20 = .ok (.ireturn, 1) := by decide +kernel
theorem dX1_keep_0 : decode cX1_keep 0 = .ok (.aload_n 0, 1) := by decide +kernel
theorem dX1_keep_1 : decode cX1_keep 1 = .ok (.iload_n 1, 1) := by decide +kernel
theorem dX1_keep_2 : decode cX1_keep 2 = .ok (.iload_n 2, 1) := by decide +kernel
theorem dX1_keep_3 : decode cX1_keep 3 = .ok (.iload_n 3, 1) := by decide +kernel
theorem dX1_keep_4 : decode cX1_keep 4 = .ok (.invokevirtual 37, 3) := by decide +kernel
theorem dX1_keep_7 : decode cX1_keep 7 = .ok (.istore 6, 2) := by decide +kernel
theorem dX1_keep_9 : decode cX1_keep 9 = .ok (.iload 6, 2) := by decide +kernel
theorem dX1_keep_11 : decode cX1_keep 11 = .ok (.iconst (-1), 1) := by decide +kernel
theorem dX1_keep_12 : decode cX1_keep 12 = .ok (.if_icmp .eq 12, 3) := by decide +kernel
theorem dX1_keep_15 : decode cX1_keep 15 = .ok (.aload_n 0, 1) := by decide +kernel
theorem dX1_keep_16 : decode cX1_keep 16 = .ok (.iload 6, 2) := by decide +kernel
theorem dX1_keep_18 : decode cX1_keep 18 = .ok (.invokevirtual 41, 3) := by decide +kernel
theorem dX1_keep_21 : decode cX1_keep 21 = .ok (.goto 17, 3) := by decide +kernel
theorem dX1_keep_24 : decode cX1_keep 24 = .ok (.aload_n 0, 1) := by decide +kernel
theorem dX1_keep_25 : decode cX1_keep 25 = .ok (.getfield 27, 3) := by decide +kernel
theorem dX1_keep_28 : decode cX1_keep 28 = .ok (.bipush 6, 2) := by decide +kernel
theorem dX1_keep_30 : decode cX1_keep 30 = .ok (.if_icmp .lt 8, 3) := by decide +kernel
theorem dX1_keep_33 : decode cX1_keep 33 = .ok (.aload_n 0, 1) := by decide +kernel
theorem dX1_keep_34 : decode cX1_keep 34 = .ok (.iconst 0, 1) := by decide +kernel
theorem dX1_keep_35 : decode cX1_keep 35 = .ok (.invokevirtual 41, 3) := by decide +kernel
theorem dX1_keep_38 : decode cX1_keep 38 = .ok (.aload_n 0, 1) := by decide +kernel
theorem dX1_keep_39 : decode cX1_keep 39 = .ok (.getfield 11, 3) := by decide +kernel
theorem dX1_keep_42 : decode cX1_keep 42 = .ok (.aload_n 0, 1) := by decide +kernel
theorem dX1_keep_43 : decode cX1_keep 43 = .ok (.getfield 27, 3) := by decide +kernel
theorem dX1_keep_46 : decode cX1_keep 46 = .ok (.iload_n 1, 1) := by decide +kernel
theorem dX1_keep_47 : decode cX1_keep 47 = .ok (.iastore, 1) := by decide +kernel
theorem dX1_keep_48 : decode cX1_keep 48 = .ok (.aload_n 0, 1) := by decide +kernel
theorem dX1_keep_49 : decode cX1_keep 49 = .ok (.getfield 15, 3) := by decide +kernel
theorem dX1_keep_52 : decode cX1_keep 52 = .ok (.aload_n 0, 1) := by decide +kernel
theorem dX1_keep_53 : decode cX1_keep 53 = .ok (.getfield 27, 3) := by decide +kernel
theorem dX1_keep_56 : decode cX1_keep 56 = .ok (.iload_n 2, 1) := by decide +kernel
theorem dX1_keep_57 : decode cX1_keep 57 = .ok (.iastore, 1) := by decide +kernel
theorem dX1_keep_58 : decode cX1_keep 58 = .ok (.aload_n 0, 1) := by decide +kernel
theorem dX1_keep_59 : decode cX1_keep 59 = .ok (.getfield 18, 3) := by decide +kernel
theorem dX1_keep_62 : decode cX1_keep 62 = .ok (.aload_n 0, 1) := by decide +kernel
theorem dX1_keep_63 : decode cX1_keep 63 = .ok (.getfield 27, 3) := by decide +kernel
theorem dX1_keep_66 : decode cX1_keep 66 = .ok (.iload_n 3, 1) := by decide +kernel
theorem dX1_keep_67 : decode cX1_keep 67 = .ok (.iastore, 1) := by decide +kernel
theorem dX1_keep_68 : decode cX1_keep 68 = .ok (.aload_n 0, 1) := by decide +kernel
theorem dX1_keep_69 : decode cX1_keep 69 = .ok (.getfield 21, 3) := by decide +kernel
theorem dX1_keep_72 : decode cX1_keep 72 = .ok (.aload_n 0, 1) := by decide +kernel
theorem dX1_keep_73 : decode cX1_keep 73 = .ok (.getfield 27, 3) := by decide +kernel
theorem dX1_keep_76 : decode cX1_keep 76 = .ok (.iload 4, 2) := by decide +kernel
theorem dX1_keep_78 : decode cX1_keep 78 = .ok (.iastore, 1) := by decide +kernel
theorem dX1_keep_79 : decode cX1_keep 79 = .ok (.aload_n 0, 1) := by decide +kernel
theorem dX1_keep_80 : decode cX1_keep 80 = .ok (.getfield 24, 3) := by decide +kernel
theorem dX1_keep_83 : decode cX1_keep 83 = .ok (.aload_n 0, 1) := by decide +kernel
theorem dX1_keep_84 : decode cX1_keep 84 = .ok (.getfield 27, 3) := by decide +kernel
theorem dX1_keep_87 : decode cX1_keep 87 = .ok (.iload 5, 2) := by decide +kernel
theorem dX1_keep_89 : decode cX1_keep 89 = .ok (.iastore, 1) := by decide +kernel
theorem dX1_keep_90 : decode cX1_keep 90 = .ok (.aload_n 0, 1) := by decide +kernel
theorem dX1_keep_91 : decode cX1_keep 91 = .ok (.dup, 1) := by decide +kernel
theorem dX1_keep_92 : decode cX1_keep 92 = .ok (.getfield 27, 3) := by decide +kernel
theorem dX1_keep_95 : decode cX1_keep 95 = .ok (.iconst 1, 1) := by decide +kernel
theorem dX1_keep_96 : decode cX1_keep 96 = .ok (.iadd, 1) := by decide +kernel
theorem dX1_keep_97 : decode cX1_keep 97 = .ok (.putfield 27, 3) := by decide +kernel
theorem dX1_keep_100 : decode cX1_keep 100 = .ok (.return_, 1) := by decide +kernel
theorem dX1_forget_0 : decode cX1_forget 0 = .ok (.iload_n 1, 1) := by decide +kernel
theorem dX1_forget_1 : decode cX1_forget 1 = .ok (.istore_n 2, 1) := by decide +kernel
theorem dX1_forget_2 : decode cX1_forget 2 = .ok (.iload_n 2, 1) := by decide +kernel
theorem dX1_forget_3 : decode cX1_forget 3 = .ok (.iconst 1, 1) := by decide +kernel
theorem dX1_forget_4 : decode cX1_forget 4 = .ok (.iadd, 1) := by decide +kernel
theorem dX1_forget_5 : decode cX1_forget 5 = .ok (.aload_n 0, 1) := by decide +kernel
theorem dX1_forget_6 : decode cX1_forget 6 = .ok (.getfield 27, 3) := by decide +kernel
theorem dX1_forget_9 : decode cX1_forget 9 = .ok (.if_icmp .ge 79, 3) := by decide +kernel
theorem dX1_forget_12 : decode cX1_forget 12 = .ok (.aload_n 0, 1) := by decide +kernel
theorem dX1_forget_13 : decode cX1_forget 13 = .ok (.getfield 11, 3) := by decide +kernel
theorem dX1_forget_16 : decode cX1_forget 16 = .ok (.iload_n 2, 1) := by decide +kernel
theorem dX1_forget_17 : decode cX1_forget 17 = .ok (.aload_n 0, 1) := by decide +kernel
theorem dX1_forget_18 : decode cX1_forget 18 = .ok (.getfield 11, 3) := by decide +kernel
theorem dX1_forget_21 : decode cX1_forget 21 = .ok (.iload_n 2, 1) := by decide +kernel
theorem dX1_forget_22 : decode cX1_forget 22 = .ok (.iconst 1, 1) := by decide +kernel
theorem dX1_forget_23 : decode cX1_forget 23 = .ok (.iadd, 1) := by decide +kernel
theorem dX1_forget_24 : decode cX1_forget 24 = .ok (.iaload, 1) := by decide +kernel
theorem dX1_forget_25 : decode cX1_forget 25 = .ok (.iastore, 1) := by decide +kernel
theorem dX1_forget_26 : decode cX1_forget 26 = .ok (.aload_n 0, 1) := by decide +kernel
theorem dX1_forget_27 : decode cX1_forget 27 = .ok (.getfield 15, 3) := by decide +kernel
theorem dX1_forget_30 : decode cX1_forget 30 = .ok (.iload_n 2, 1) := by decide +kernel
theorem dX1_forget_31 : decode cX1_forget 31 = .ok (.aload_n 0, 1) := by decide +kernel
theorem dX1_forget_32 : decode cX1_forget 32 = .ok (.getfield 15, 3) := by decide +kernel
theorem dX1_forget_35 : decode cX1_forget 35 = .ok (.iload_n 2, 1) := by decide +kernel
theorem dX1_forget_36 : decode cX1_forget 36 = .ok (.iconst 1, 1) := by decide +kernel
theorem dX1_forget_37 : decode cX1_forget 37 = .ok (.iadd, 1) := by decide +kernel
theorem dX1_forget_38 : decode cX1_forget 38 = .ok (.iaload, 1) := by decide +kernel
theorem dX1_forget_39 : decode cX1_forget 39 = .ok (.iastore, 1) := by decide +kernel
theorem dX1_forget_40 : decode cX1_forget 40 = .ok (.aload_n 0, 1) := by decide +kernel
theorem dX1_forget_41 : decode cX1_forget 41 = .ok (.getfield 18, 3) := by decide +kernel
theorem dX1_forget_44 : decode cX1_forget 44 = .ok (.iload_n 2, 1) := by decide +kernel
theorem dX1_forget_45 : decode cX1_forget 45 = .ok (.aload_n 0, 1) := by decide +kernel
theorem dX1_forget_46 : decode cX1_forget 46 = .ok (.getfield 18, 3) := by decide +kernel
theorem dX1_forget_49 : decode cX1_forget 49 = .ok (.iload_n 2, 1) := by decide +kernel
theorem dX1_forget_50 : decode cX1_forget 50 = .ok (.iconst 1, 1) := by decide +kernel
theorem dX1_forget_51 : decode cX1_forget 51 = .ok (.iadd, 1) := by decide +kernel
theorem dX1_forget_52 : decode cX1_forget 52 = .ok (.iaload, 1) := by decide +kernel
theorem dX1_forget_53 : decode cX1_forget 53 = .ok (.iastore, 1) := by decide +kernel
theorem dX1_forget_54 : decode cX1_forget 54 = .ok (.aload_n 0, 1) := by decide +kernel
theorem dX1_forget_55 : decode cX1_forget 55 = .ok (.getfield 21, 3) := by decide +kernel
theorem dX1_forget_58 : decode cX1_forget 58 = .ok (.iload_n 2, 1) := by decide +kernel
theorem dX1_forget_59 : decode cX1_forget 59 = .ok (.aload_n 0, 1) := by decide +kernel
theorem dX1_forget_60 : decode cX1_forget 60 = .ok (.getfield 21, 3) := by decide +kernel
theorem dX1_forget_63 : decode cX1_forget 63 = .ok (.iload_n 2, 1) := by decide +kernel
theorem dX1_forget_64 : decode cX1_forget 64 = .ok (.iconst 1, 1) := by decide +kernel
theorem dX1_forget_65 : decode cX1_forget 65 = .ok (.iadd, 1) := by decide +kernel
theorem dX1_forget_66 : decode cX1_forget 66 = .ok (.iaload, 1) := by decide +kernel
theorem dX1_forget_67 : decode cX1_forget 67 = .ok (.iastore, 1) := by decide +kernel
theorem dX1_forget_68 : decode cX1_forget 68 = .ok (.aload_n 0, 1) := by decide +kernel
theorem dX1_forget_69 : decode cX1_forget 69 = .ok (.getfield 24, 3) := by decide +kernel
theorem dX1_forget_72 : decode cX1_forget 72 = .ok (.iload_n 2, 1) := by decide +kernel
theorem dX1_forget_73 : decode cX1_forget 73 = .ok (.aload_n 0, 1) := by decide +kernel
theorem dX1_forget_74 : decode cX1_forget 74 = .ok (.getfield 24, 3) := by decide +kernel
theorem dX1_forget_77 : decode cX1_forget 77 = .ok (.iload_n 2, 1) := by decide +kernel
theorem dX1_forget_78 : decode cX1_forget 78 = .ok (.iconst 1, 1) := by decide +kernel
theorem dX1_forget_79 : decode cX1_forget 79 = .ok (.iadd, 1) := by decide +kernel
theorem dX1_forget_80 : decode cX1_forget 80 = .ok (.iaload, 1) := by decide +kernel
theorem dX1_forget_81 : decode cX1_forget 81 = .ok (.iastore, 1) := by decide +kernel
theorem dX1_forget_82 : decode cX1_forget 82 = .ok (.iinc 2 1, 3) := by decide +kernel
theorem dX1_forget_85 : decode cX1_forget 85 = .ok (.goto (-83), 3) := by decide +kernel
theorem dX1_forget_88 : decode cX1_forget 88 = .ok (.aload_n 0, 1) := by decide +kernel
theorem dX1_forget_89 : decode cX1_forget 89 = .ok (.dup, 1) := by decide +kernel
theorem dX1_forget_90 : decode cX1_forget 90 = .ok (.getfield 27, 3) := by decide +kernel
theorem dX1_forget_93 : decode cX1_forget 93 = .ok (.iconst 1, 1) := by decide +kernel
theorem dX1_forget_94 : decode cX1_forget 94 = .ok (.isub, 1) := by decide +kernel
theorem dX1_forget_95 : decode cX1_forget 95 = .ok (.putfield 27, 3) := by decide +kernel
theorem dX1_forget_98 : decode cX1_forget 98 = .ok (.return_, 1) := by decide +kernel
end
section
theorem dX6_init_0 : decode cX6_init 0 = .ok (.aload_n 0, 1) := by decide +kernel
theorem dX6_init_1 : decode cX6_init 1 = .ok (.invokespecial 5, 3) := by decide +kernel
theorem dX6_init_4 : decode cX6_init 4 = .ok (.aload_n 0, 1) := by decide +kernel
theorem dX6_init_5 : decode cX6_init 5 = .ok (.bipush 60, 2) := by decide +kernel
theorem dX6_init_7 : decode cX6_init 7 = .ok (.newarray .int, 2) := by decide +kernel
theorem dX6_init_9 : decode cX6_init 9 = .ok (.putfield 11, 3) := by decide +kernel
theorem dX6_init_12 : decode cX6_init 12 = .ok (.aload_n 0, 1) := by decide +kernel
theorem dX6_init_13 : decode cX6_init 13 = .ok (.iconst 0, 1) := by decide +kernel
theorem dX6_init_14 : decode cX6_init 14 = .ok (.putfield 15, 3) := by decide +kernel
theorem dX6_init_17 : decode cX6_init 17 = .ok (.aload_n 0, 1) := by decide +kernel
theorem dX6_init_18 : decode cX6_init 18 = .ok (.bipush 12, 2) := by decide +kernel
theorem dX6_init_20 : decode cX6_init 20 = .ok (.newarray .int, 2) := by decide +kernel
theorem dX6_init_22 : decode cX6_init 22 = .ok (.putfield 19, 3) := by decide +kernel
theorem dX6_init_25 : decode cX6_init 25 = .ok (.aload_n 0, 1) := by decide +kernel
theorem dX6_init_26 : decode cX6_init 26 = .ok (.bipush 12, 2) := by decide +kernel
theorem dX6_init_28 : decode cX6_init 28 = .ok (.newarray .int, 2) := by decide +kernel
theorem dX6_init_30 : decode cX6_init 30 = .ok (.putfield 22, 3) := by decide +kernel
theorem dX6_init_33 : decode cX6_init 33 = .ok (.aload_n 0, 1) := by decide +kernel
theorem dX6_init_34 : decode cX6_init 34 = .ok (.bipush 12, 2) := by decide +kernel
theorem dX6_init_36 : decode cX6_init 36 = .ok (.newarray .int, 2) := by decide +kernel
theorem dX6_init_38 : decode cX6_init 38 = .ok (.putfield 25, 3) := by decide +kernel
theorem dX6_init_41 : decode cX6_init 41 = .ok (.aload_n 0, 1) := by decide +kernel
theorem dX6_init_42 : decode cX6_init 42 = .ok (.iconst 0, 1) := by decide +kernel
theorem dX6_init_43 : decode cX6_init 43 = .ok (.putfield 28, 3) := by decide +kernel
theorem dX6_init_46 : decode cX6_init 46 = .ok (.return_, 1) := by decide +kernel
theorem dX6_append_0 : decode cX6_append 0 = .ok (.aload_n 0, 1) := by decide +kernel
theorem dX6_append_1 : decode cX6_append 1 = .ok (.getfield 15, 3) := by decide +kernel
theorem dX6_append_4 : decode cX6_append 4 = .ok (.bipush 60, 2) := by decide +kernel
theorem dX6_append_6 : decode cX6_append 6 = .ok (.if_icmp .ge 23, 3) := by decide +kernel
theorem dX6_append_9 : decode cX6_append 9 = .ok (.aload_n 0, 1) := by decide +kernel
theorem dX6_append_10 : decode cX6_append 10 = .ok (.getfield 11, 3) := by decide +kernel
theorem dX6_append_13 : decode cX6_append 13 = .ok (.aload_n 0, 1) := by decide +kernel
theorem dX6_append_14 : decode cX6_append 14 = .ok (.getfield 15, 3) := by decide +kernel
theorem dX6_append_17 : decode cX6_append 17 = .ok (.iload_n 1, 1) := by decide +kernel
theorem dX6_append_18 : decode cX6_append 18 = .ok (.iastore, 1) := by decide +kernel
theorem dX6_append_19 : decode cX6_append 19 = .ok (.aload_n 0, 1) := by decide +kernel
theorem dX6_append_20 : decode cX6_append 20 = .ok (.dup, 1) := by decide +kernel
theorem dX6_append_21 : decode cX6_append 21 = .ok (.getfield 15, 3) := by decide +kernel
theorem dX6_append_24 : decode cX6_append 24 = .ok (.iconst 1, 1) := by decide +kernel
theorem dX6_append_25 : decode cX6_append 25 = .ok (.iadd, 1) := by decide +kernel
theorem dX6_append_26 : decode cX6_append 26 = .ok (.putfield 15, 3) := by decide +kernel
theorem dX6_append_29 : decode cX6_append 29 = .ok (.return_, 1) := by decide +kernel
theorem dX6_read_0 : decode cX6_read 0 = .ok (.aload_n 0, 1) := by decide +kernel
theorem dX6_read_1 : decode cX6_read 1 = .ok (.iconst 0, 1) := by decide +kernel
theorem dX6_read_2 : decode cX6_read 2 = .ok (.putfield 28, 3) := by decide +kernel
theorem dX6_read_5 : decode cX6_read 5 = .ok (.iconst 0, 1) := by decide +kernel
theorem dX6_read_6 : decode cX6_read 6 = .ok (.istore_n 1, 1) := by decide +kernel
theorem dX6_read_7 : decode cX6_read 7 = .ok (.iconst 0, 1) := by decide +kernel
theorem dX6_read_8 : decode cX6_read 8 = .ok (.istore_n 2, 1) := by decide +kernel
theorem dX6_read_9 : decode cX6_read 9 = .ok (.iload_n 2, 1) := by decide +kernel
theorem dX6_read_10 : decode cX6_read 10 = .ok (.bipush 12, 2) := by decide +kernel
theorem dX6_read_12 : decode cX6_read 12 = .ok (.if_icmp .ge 32, 3) := by decide +kernel
theorem dX6_read_15 : decode cX6_read 15 = .ok (.iload_n 1, 1) := by decide +kernel
theorem dX6_read_16 : decode cX6_read 16 = .ok (.aload_n 0, 1) := by decide +kernel
theorem dX6_read_17 : decode cX6_read 17 = .ok (.getfield 15, 3) := by decide +kernel
theorem dX6_read_20 : decode cX6_read 20 = .ok (.if_icmp .ge 24, 3) := by decide +kernel
theorem dX6_read_23 : decode cX6_read 23 = .ok (.aload_n 0, 1) := by decide +kernel
theorem dX6_read_24 : decode cX6_read 24 = .ok (.iload_n 1, 1) := by decide +kernel
theorem dX6_read_25 : decode cX6_read 25 = .ok (.invokevirtual 31, 3) := by decide +kernel
theorem dX6_read_28 : decode cX6_read 28 = .ok (.istore_n 3, 1) := by decide +kernel
theorem dX6_read_29 : decode cX6_read 29 = .ok (.iload_n 3, 1) := by decide +kernel
theorem dX6_read_30 : decode cX6_read 30 = .ok (.iconst (-1), 1) := by decide +kernel
theorem dX6_read_31 : decode cX6_read 31 = .ok (.if_icmp .ne 5, 3) := by decide +kernel
theorem dX6_read_34 : decode cX6_read 34 = .ok (.iload_n 1, 1) := by decide +kernel
theorem dX6_read_35 : decode cX6_read 35 = .ok (.ireturn, 1) := by decide +kernel
theorem dX6_read_36 : decode cX6_read 36 = .ok (.iload_n 3, 1) := by decide +kernel
theorem dX6_read_37 : decode cX6_read 37 = .ok (.istore_n 1, 1) := by decide +kernel
theorem dX6_read_38 : decode cX6_read 38 = .ok (.iinc 2 1, 3) := by decide +kernel
theorem dX6_read_41 : decode cX6_read 41 = .ok (.goto (-32), 3) := by decide +kernel
theorem dX6_read_44 : decode cX6_read 44 = .ok (.iload_n 1, 1) := by decide +kernel
theorem dX6_read_45 : decode cX6_read 45 = .ok (.aload_n 0, 1) := by decide +kernel
theorem dX6_read_46 : decode cX6_read 46 = .ok (.getfield 15, 3) := by decide +kernel
theorem dX6_read_49 : decode cX6_read 49 = .ok (.if_icmp .ge 7, 3) := by decide +kernel
theorem dX6_read_52 : decode cX6_read 52 = .ok (.iload_n 1, 1) := by decide +kernel
theorem dX6_read_53 : decode cX6_read 53 = .ok (.goto 5, 3) := by decide +kernel
theorem dX6_read_56 : decode cX6_read 56 = .ok (.bipush (-4), 2) := by decide +kernel
theorem dX6_read_58 : decode cX6_read 58 = .ok (.ireturn, 1) := by decide +kernel
theorem dX6_isAllAt_0 : decode cX6_isAllAt 0 = .ok (.iconst 0, 1) := by decide +kernel
theorem dX6_isAllAt_1 : decode cX6_isAllAt 1 = .ok (.istore_n 2, 1) := by decide +kernel
theorem dX6_isAllAt_2 : decode cX6_isAllAt 2 = .ok (.iload_n 2, 1) := by decide +kernel
theorem dX6_isAllAt_3 : decode cX6_isAllAt 3 = .ok (.aload_n 0, 1) := by decide +kernel
theorem dX6_isAllAt_4 : decode cX6_isAllAt 4 = .ok (.getfield 28, 3) := by decide +kernel
theorem dX6_isAllAt_7 : decode cX6_isAllAt 7 = .ok (.if_icmp .ge 24, 3) := by decide +kernel
theorem dX6_isAllAt_10 : decode cX6_isAllAt 10 = .ok (.aload_n 0, 1) := by decide +kernel
theorem dX6_isAllAt_11 : decode cX6_isAllAt 11 = .ok (.getfield 19, 3) := by decide +kernel
theorem dX6_isAllAt_14 : decode cX6_isAllAt 14 = .ok (.iload_n 2, 1) := by decide +kernel
theorem dX6_isAllAt_15 : decode cX6_isAllAt 15 = .ok (.iaload, 1) := by decide +kernel
theorem dX6_isAllAt_16 : decode cX6_isAllAt 16 = .ok (.iload_n 1, 1) := by decide +kernel
theorem dX6_isAllAt_17 : decode cX6_isAllAt 17 = .ok (.invokestatic 35, 3) := by decide +kernel
theorem dX6_isAllAt_20 : decode cX6_isAllAt 20 = .ok (.ifCond .ne 5, 3) := by decide +kernel
theorem dX6_isAllAt_23 : decode cX6_isAllAt 23 = .ok (.iconst 0, 1) := by decide +kernel
theorem dX6_isAllAt_24 : decode cX6_isAllAt 24 = .ok (.ireturn, 1) := by decide +kernel
theorem dX6_isAllAt_25 : decode cX6_isAllAt 25 = .ok (.iinc 2 1, 3) := by decide +kernel
theorem dX6_isAllAt_28 : decode cX6_isAllAt 28 = .ok (.goto (-26), 3) := by decide +kernel
theorem dX6_isAllAt_31 : decode cX6_isAllAt 31 = .ok (.iconst 1, 1) := by decide +kernel
theorem dX6_isAllAt_32 : decode cX6_isAllAt 32 = .ok (.ireturn, 1) := by decide +kernel
theorem dX6_readChange_0 : decode cX6_readChange 0 = .ok (.iload_n 1, 1) := by decide +kernel
theorem dX6_readChange_1 : decode cX6_readChange 1 = .ok (.aload_n 0, 1) := by decide +kernel
theorem dX6_readChange_2 : decode cX6_readChange 2 = .ok (.iload_n 1, 1) := by decide +kernel
theorem dX6_readChange_3 : decode cX6_readChange 3 = .ok (.bipush 49, 2) := by decide +kernel
theorem dX6_readChange_5 : decode cX6_readChange 5 = .ok (.bipush 52, 2) := by decide +kernel
theorem dX6_readChange_7 : decode cX6_readChange 7 = .ok (.invokevirtual 41, 3) := by decide +kernel
theorem dX6_readChange_10 : decode cX6_readChange 10 = .ok (.iadd, 1) := by decide +kernel
theorem dX6_readChange_11 : decode cX6_readChange 11 = .ok (.istore_n 2, 1) := by decide +kernel
theorem dX6_readChange_12 : decode cX6_readChange 12 = .ok (.aload_n 0, 1) := by decide +kernel
theorem dX6_readChange_13 : decode cX6_readChange 13 = .ok (.iload_n 2, 1) := by decide +kernel
theorem dX6_readChange_14 : decode cX6_readChange 14 = .ok (.iconst 1, 1) := by decide +kernel
theorem dX6_readChange_15 : decode cX6_readChange 15 = .ok (.iadd, 1) := by decide +kernel
theorem dX6_readChange_16 : decode cX6_readChange 16 = .ok (.invokevirtual 45, 3) := by decide +kernel
theorem dX6_readChange_19 : decode cX6_readChange 19 = .ok (.bipush 48, 2) := by decide +kernel
theorem dX6_readChange_21 : decode cX6_readChange 21 = .ok (.isub, 1) := by decide +kernel
theorem dX6_readChange_22 : decode cX6_readChange 22 = .ok (.istore_n 3, 1) := by decide +kernel
theorem dX6_readChange_23 : decode cX6_readChange 23 = .ok (.iload_n 2, 1) := by decide +kernel
theorem dX6_readChange_24 : decode cX6_readChange 24 = .ok (.iload_n 1, 1) := by decide +kernel
theorem dX6_readChange_25 : decode cX6_readChange 25 = .ok (.if_icmp .eq 20, 3) := by decide +kernel
theorem dX6_readChange_28 : decode cX6_readChange 28 = .ok (.aload_n 0, 1) := by decide +kernel
theorem dX6_readChange_29 : decode cX6_readChange 29 = .ok (.iload_n 2, 1) := by decide +kernel
theorem dX6_readChange_30 : decode cX6_readChange 30 = .ok (.invokevirtual 45, 3) := by decide +kernel
theorem dX6_readChange_33 : decode cX6_readChange 33 = .ok (.bipush 58, 2) := by decide +kernel
theorem dX6_readChange_35 : decode cX6_readChange 35 = .ok (.if_icmp .ne 10, 3) := by decide +kernel
theorem dX6_readChange_38 : decode cX6_readChange 38 = .ok (.iload_n 3, 1) := by decide +kernel
theorem dX6_readChange_39 : decode cX6_readChange 39 = .ok (.invokestatic 48, 3) := by decide +kernel
theorem dX6_readChange_42 : decode cX6_readChange 42 = .ok (.ifCond .ne 5, 3) := by decide +kernel
theorem dX6_readChange_45 : decode cX6_readChange 45 = .ok (.iconst (-1), 1) := by decide +kernel
theorem dX6_readChange_46 : decode cX6_readChange 46 = .ok (.ireturn, 1) := by decide +kernel
theorem dX6_readChange_47 : decode cX6_readChange 47 = .ok (.iload_n 2, 1) := by decide +kernel
theorem dX6_readChange_48 : decode cX6_readChange 48 = .ok (.iconst 2, 1) := by decide +kernel
theorem dX6_readChange_49 : decode cX6_readChange 49 = .ok (.iadd, 1) := by decide +kernel
theorem dX6_readChange_50 : decode cX6_readChange 50 = .ok (.istore 4, 2) := by decide +kernel
theorem dX6_readChange_52 : decode cX6_readChange 52 = .ok (.iconst (-1), 1) := by decide +kernel
theorem dX6_readChange_53 : decode cX6_readChange 53 = .ok (.istore 5, 2) := by decide +kernel
theorem dX6_readChange_55 : decode cX6_readChange 55 = .ok (.iload 4, 2) := by decide +kernel
theorem dX6_readChange_57 : decode cX6_readChange 57 = .ok (.iconst 1, 1) := by decide +kernel
theorem dX6_readChange_58 : decode cX6_readChange 58 = .ok (.iadd, 1) := by decide +kernel
theorem dX6_readChange_59 : decode cX6_readChange 59 = .ok (.istore 6, 2) := by decide +kernel
theorem dX6_readChange_61 : decode cX6_readChange 61 = .ok (.aload_n 0, 1) := by decide +kernel
theorem dX6_readChange_62 : decode cX6_readChange 62 = .ok (.iload 4, 2) := by decide +kernel
theorem dX6_readChange_64 : decode cX6_readChange 64 = .ok (.invokevirtual 45, 3) := by decide +kernel
theorem dX6_readChange_67 : decode cX6_readChange 67 = .ok (.bipush 61, 2) := by decide +kernel
theorem dX6_readChange_69 : decode cX6_readChange 69 = .ok (.if_icmp .ne 86, 3) := by decide +kernel
theorem dX6_readChange_72 : decode cX6_readChange 72 = .ok (.iload 6, 2) := by decide +kernel
theorem dX6_readChange_74 : decode cX6_readChange 74 = .ok (.iload_n 3, 1) := by decide +kernel
theorem dX6_readChange_75 : decode cX6_readChange 75 = .ok (.iconst 1, 1) := by decide +kernel
theorem dX6_readChange_76 : decode cX6_readChange 76 = .ok (.if_icmp .ne 16, 3) := by decide +kernel
theorem dX6_readChange_79 : decode cX6_readChange 79 = .ok (.aload_n 0, 1) := by decide +kernel
theorem dX6_readChange_80 : decode cX6_readChange 80 = .ok (.iload 6, 2) := by decide +kernel
theorem dX6_readChange_82 : decode cX6_readChange 82 = .ok (.bipush 49, 2) := by decide +kernel
theorem dX6_readChange_84 : decode cX6_readChange 84 = .ok (.bipush 52, 2) := by decide +kernel
theorem dX6_readChange_86 : decode cX6_readChange 86 = .ok (.invokevirtual 41, 3) := by decide +kernel
theorem dX6_readChange_89 : decode cX6_readChange 89 = .ok (.goto 13, 3) := by decide +kernel
theorem dX6_readChange_92 : decode cX6_readChange 92 = .ok (.aload_n 0, 1) := by decide +kernel
theorem dX6_readChange_93 : decode cX6_readChange 93 = .ok (.iload 6, 2) := by decide +kernel
theorem dX6_readChange_95 : decode cX6_readChange 95 = .ok (.bipush 48, 2) := by decide +kernel
theorem dX6_readChange_97 : decode cX6_readChange 97 = .ok (.bipush 57, 2) := by decide +kernel
theorem dX6_readChange_99 : decode cX6_readChange 99 = .ok (.invokevirtual 41, 3) := by decide +kernel
theorem dX6_readChange_102 : decode cX6_readChange 102 = .ok (.iadd, 1) := by decide +kernel
theorem dX6_readChange_103 : decode cX6_readChange 103 = .ok (.istore 6, 2) := by decide +kernel
theorem dX6_readChange_105 : decode cX6_readChange 105 = .ok (.iload_n 3, 1) := by decide +kernel
theorem dX6_readChange_106 : decode cX6_readChange 106 = .ok (.iconst 1, 1) := by decide +kernel
theorem dX6_readChange_107 : decode cX6_readChange 107 = .ok (.if_icmp .ne 16, 3) := by decide +kernel
theorem dX6_readChange_110 : decode cX6_readChange 110 = .ok (.aload_n 0, 1) := by decide +kernel
theorem dX6_readChange_111 : decode cX6_readChange 111 = .ok (.iload 4, 2) := by decide +kernel
theorem dX6_readChange_113 : decode cX6_readChange 113 = .ok (.iconst 1, 1) := by decide +kernel
theorem dX6_readChange_114 : decode cX6_readChange 114 = .ok (.iadd, 1) := by decide +kernel
theorem dX6_readChange_115 : decode cX6_readChange 115 = .ok (.iload 6, 2) := by decide +kernel
theorem dX6_readChange_117 : decode cX6_readChange 117 = .ok (.invokevirtual 54, 3) := by decide +kernel
theorem dX6_readChange_120 : decode cX6_readChange 120 = .ok (.goto 13, 3) := by decide +kernel
theorem dX6_readChange_123 : decode cX6_readChange 123 = .ok (.aload_n 0, 1) := by decide +kernel
theorem dX6_readChange_124 : decode cX6_readChange 124 = .ok (.iload 4, 2) := by decide +kernel
theorem dX6_readChange_126 : decode cX6_readChange 126 = .ok (.iconst 1, 1) := by decide +kernel
theorem dX6_readChange_127 : decode cX6_readChange 127 = .ok (.iadd, 1) := by decide +kernel
theorem dX6_readChange_128 : decode cX6_readChange 128 = .ok (.iload 6, 2) := by decide +kernel
theorem dX6_readChange_130 : decode cX6_readChange 130 = .ok (.invokevirtual 58, 3) := by decide +kernel
theorem dX6_readChange_133 : decode cX6_readChange 133 = .ok (.istore 5, 2) := by decide +kernel
theorem dX6_readChange_135 : decode cX6_readChange 135 = .ok (.iload 6, 2) := by decide +kernel
theorem dX6_readChange_137 : decode cX6_readChange 137 = .ok (.iload 4, 2) := by decide +kernel
theorem dX6_readChange_139 : decode cX6_readChange 139 = .ok (.iconst 1, 1) := by decide +kernel
theorem dX6_readChange_140 : decode cX6_readChange 140 = .ok (.iadd, 1) := by decide +kernel
theorem dX6_readChange_141 : decode cX6_readChange 141 = .ok (.if_icmp .eq 12, 3) := by decide +kernel
theorem dX6_readChange_144 : decode cX6_readChange 144 = .ok (.iload_n 3, 1) := by decide +kernel
theorem dX6_readChange_145 : decode cX6_readChange 145 = .ok (.iload 5, 2) := by decide +kernel
theorem dX6_readChange_147 : decode cX6_readChange 147 = .ok (.invokestatic 61, 3) := by decide +kernel
theorem dX6_readChange_150 : decode cX6_readChange 150 = .ok (.ifCond .ne 18, 3) := by decide +kernel
theorem dX6_readChange_153 : decode cX6_readChange 153 = .ok (.iconst (-1), 1) := by decide +kernel
theorem dX6_readChange_154 : decode cX6_readChange 154 = .ok (.ireturn, 1) := by decide +kernel
theorem dX6_readChange_155 : decode cX6_readChange 155 = .ok (.aload_n 0, 1) := by decide +kernel
theorem dX6_readChange_156 : decode cX6_readChange 156 = .ok (.iload 4, 2) := by decide +kernel
theorem dX6_readChange_158 : decode cX6_readChange 158 = .ok (.invokevirtual 45, 3) := by decide +kernel
theorem dX6_readChange_161 : decode cX6_readChange 161 = .ok (.bipush 45, 2) := by decide +kernel
theorem dX6_readChange_163 : decode cX6_readChange 163 = .ok (.if_icmp .eq 5, 3) := by decide +kernel
theorem dX6_readChange_166 : decode cX6_readChange 166 = .ok (.iconst (-1), 1) := by decide +kernel
theorem dX6_readChange_167 : decode cX6_readChange 167 = .ok (.ireturn, 1) := by decide +kernel
theorem dX6_readChange_168 : decode cX6_readChange 168 = .ok (.aload_n 0, 1) := by decide +kernel
theorem dX6_readChange_169 : decode cX6_readChange 169 = .ok (.iload 6, 2) := by decide +kernel
theorem dX6_readChange_171 : decode cX6_readChange 171 = .ok (.invokevirtual 45, 3) := by decide +kernel
theorem dX6_readChange_174 : decode cX6_readChange 174 = .ok (.bipush 59, 2) := by decide +kernel
theorem dX6_readChange_176 : decode cX6_readChange 176 = .ok (.if_icmp .ne 12, 3) := by decide +kernel
theorem dX6_readChange_179 : decode cX6_readChange 179 = .ok (.aload_n 0, 1) := by decide +kernel
theorem dX6_readChange_180 : decode cX6_readChange 180 = .ok (.getfield 28, 3) := by decide +kernel
theorem dX6_readChange_183 : decode cX6_readChange 183 = .ok (.bipush 12, 2) := by decide +kernel
theorem dX6_readChange_185 : decode cX6_readChange 185 = .ok (.if_icmp .lt 5, 3) := by decide +kernel
theorem dX6_readChange_188 : decode cX6_readChange 188 = .ok (.iconst (-1), 1) := by decide +kernel
theorem dX6_readChange_189 : decode cX6_readChange 189 = .ok (.ireturn, 1) := by decide +kernel
theorem dX6_readChange_190 : decode cX6_readChange 190 = .ok (.aload_n 0, 1) := by decide +kernel
theorem dX6_readChange_191 : decode cX6_readChange 191 = .ok (.getfield 19, 3) := by decide +kernel
theorem dX6_readChange_194 : decode cX6_readChange 194 = .ok (.aload_n 0, 1) := by decide +kernel
theorem dX6_readChange_195 : decode cX6_readChange 195 = .ok (.getfield 28, 3) := by decide +kernel
theorem dX6_readChange_198 : decode cX6_readChange 198 = .ok (.aload_n 0, 1) := by decide +kernel
theorem dX6_readChange_199 : decode cX6_readChange 199 = .ok (.iload_n 1, 1) := by decide +kernel
theorem dX6_readChange_200 : decode cX6_readChange 200 = .ok (.iload_n 2, 1) := by decide +kernel
theorem dX6_readChange_201 : decode cX6_readChange 201 = .ok (.invokevirtual 54, 3) := by decide +kernel
theorem dX6_readChange_204 : decode cX6_readChange 204 = .ok (.iastore, 1) := by decide +kernel
theorem dX6_readChange_205 : decode cX6_readChange 205 = .ok (.aload_n 0, 1) := by decide +kernel
theorem dX6_readChange_206 : decode cX6_readChange 206 = .ok (.getfield 22, 3) := by decide +kernel
theorem dX6_readChange_209 : decode cX6_readChange 209 = .ok (.aload_n 0, 1) := by decide +kernel
theorem dX6_readChange_210 : decode cX6_readChange 210 = .ok (.getfield 28, 3) := by decide +kernel
theorem dX6_readChange_213 : decode cX6_readChange 213 = .ok (.iload_n 3, 1) := by decide +kernel
theorem dX6_readChange_214 : decode cX6_readChange 214 = .ok (.iastore, 1) := by decide +kernel
theorem dX6_readChange_215 : decode cX6_readChange 215 = .ok (.aload_n 0, 1) := by decide +kernel
theorem dX6_readChange_216 : decode cX6_readChange 216 = .ok (.getfield 25, 3) := by decide +kernel
theorem dX6_readChange_219 : decode cX6_readChange 219 = .ok (.aload_n 0, 1) := by decide +kernel
theorem dX6_readChange_220 : decode cX6_readChange 220 = .ok (.getfield 28, 3) := by decide +kernel
theorem dX6_readChange_223 : decode cX6_readChange 223 = .ok (.iload 5, 2) := by decide +kernel
theorem dX6_readChange_225 : decode cX6_readChange 225 = .ok (.iastore, 1) := by decide +kernel
theorem dX6_readChange_226 : decode cX6_readChange 226 = .ok (.aload_n 0, 1) := by decide +kernel
theorem dX6_readChange_227 : decode cX6_readChange 227 = .ok (.dup, 1) := by decide +kernel
theorem dX6_readChange_228 : decode cX6_readChange 228 = .ok (.getfield 28, 3) := by decide +kernel
theorem dX6_readChange_231 : decode cX6_readChange 231 = .ok (.iconst 1, 1) := by decide +kernel
theorem dX6_readChange_232 : decode cX6_readChange 232 = .ok (.iadd, 1) := by decide +kernel
theorem dX6_readChange_233 : decode cX6_readChange 233 = .ok (.putfield 28, 3) := by decide +kernel
theorem dX6_readChange_236 : decode cX6_readChange 236 = .ok (.iload 6, 2) := by decide +kernel
theorem dX6_readChange_238 : decode cX6_readChange 238 = .ok (.iconst 1, 1) := by decide +kernel
theorem dX6_readChange_239 : decode cX6_readChange 239 = .ok (.iadd, 1) := by decide +kernel
theorem dX6_readChange_240 : decode cX6_readChange 240 = .ok (.ireturn, 1) := by decide +kernel
theorem dX6_characterAt_0 : decode cX6_characterAt 0 = .ok (.iload_n 1, 1) := by decide +kernel
theorem dX6_characterAt_1 : decode cX6_characterAt 1 = .ok (.ifCond .lt 20, 3) := by decide +kernel
theorem dX6_characterAt_4 : decode cX6_characterAt 4 = .ok (.iload_n 1, 1) := by decide +kernel
theorem dX6_characterAt_5 : decode cX6_characterAt 5 = .ok (.aload_n 0, 1) := by decide +kernel
theorem dX6_characterAt_6 : decode cX6_characterAt 6 = .ok (.getfield 15, 3) := by decide +kernel
theorem dX6_characterAt_9 : decode cX6_characterAt 9 = .ok (.if_icmp .ge 12, 3) := by decide +kernel
theorem dX6_characterAt_12 : decode cX6_characterAt 12 = .ok (.aload_n 0, 1) := by decide +kernel
theorem dX6_characterAt_13 : decode cX6_characterAt 13 = .ok (.getfield 11, 3) := by decide +kernel
theorem dX6_characterAt_16 : decode cX6_characterAt 16 = .ok (.iload_n 1, 1) := by decide +kernel
theorem dX6_characterAt_17 : decode cX6_characterAt 17 = .ok (.iaload, 1) := by decide +kernel
theorem dX6_characterAt_18 : decode cX6_characterAt 18 = .ok (.goto 4, 3) := by decide +kernel
theorem dX6_characterAt_21 : decode cX6_characterAt 21 = .ok (.iconst (-1), 1) := by decide +kernel
theorem dX6_characterAt_22 : decode cX6_characterAt 22 = .ok (.ireturn, 1) := by decide +kernel
theorem dX6_digits_0 : decode cX6_digits 0 = .ok (.iconst 0, 1) := by decide +kernel
theorem dX6_digits_1 : decode cX6_digits 1 = .ok (.istore 4, 2) := by decide +kernel
theorem dX6_digits_3 : decode cX6_digits 3 = .ok (.iload 4, 2) := by decide +kernel
theorem dX6_digits_5 : decode cX6_digits 5 = .ok (.iconst 3, 1) := by decide +kernel
theorem dX6_digits_6 : decode cX6_digits 6 = .ok (.if_icmp .ge 33, 3) := by decide +kernel
theorem dX6_digits_9 : decode cX6_digits 9 = .ok (.aload_n 0, 1) := by decide +kernel
theorem dX6_digits_10 : decode cX6_digits 10 = .ok (.iload_n 1, 1) := by decide +kernel
theorem dX6_digits_11 : decode cX6_digits 11 = .ok (.iload 4, 2) := by decide +kernel
theorem dX6_digits_13 : decode cX6_digits 13 = .ok (.iadd, 1) := by decide +kernel
theorem dX6_digits_14 : decode cX6_digits 14 = .ok (.invokevirtual 45, 3) := by decide +kernel
theorem dX6_digits_17 : decode cX6_digits 17 = .ok (.iload_n 2, 1) := by decide +kernel
theorem dX6_digits_18 : decode cX6_digits 18 = .ok (.if_icmp .lt 21, 3) := by decide +kernel
theorem dX6_digits_21 : decode cX6_digits 21 = .ok (.aload_n 0, 1) := by decide +kernel
theorem dX6_digits_22 : decode cX6_digits 22 = .ok (.iload_n 1, 1) := by decide +kernel
theorem dX6_digits_23 : decode cX6_digits 23 = .ok (.iload 4, 2) := by decide +kernel
theorem dX6_digits_25 : decode cX6_digits 25 = .ok (.iadd, 1) := by decide +kernel
theorem dX6_digits_26 : decode cX6_digits 26 = .ok (.invokevirtual 45, 3) := by decide +kernel
theorem dX6_digits_29 : decode cX6_digits 29 = .ok (.iload_n 3, 1) := by decide +kernel
theorem dX6_digits_30 : decode cX6_digits 30 = .ok (.if_icmp .gt 9, 3) := by decide +kernel
theorem dX6_digits_33 : decode cX6_digits 33 = .ok (.iinc 4 1, 3) := by decide +kernel
theorem dX6_digits_36 : decode cX6_digits 36 = .ok (.goto (-33), 3) := by decide +kernel
theorem dX6_digits_39 : decode cX6_digits 39 = .ok (.iload 4, 2) := by decide +kernel
theorem dX6_digits_41 : decode cX6_digits 41 = .ok (.ireturn, 1) := by decide +kernel
theorem dX6_nameIn_0 : decode cX6_nameIn 0 = .ok (.iconst 0, 1) := by decide +kernel
theorem dX6_nameIn_1 : decode cX6_nameIn 1 = .ok (.istore_n 3, 1) := by decide +kernel
theorem dX6_nameIn_2 : decode cX6_nameIn 2 = .ok (.iload_n 2, 1) := by decide +kernel
theorem dX6_nameIn_3 : decode cX6_nameIn 3 = .ok (.iconst 1, 1) := by decide +kernel
theorem dX6_nameIn_4 : decode cX6_nameIn 4 = .ok (.isub, 1) := by decide +kernel
theorem dX6_nameIn_5 : decode cX6_nameIn 5 = .ok (.istore 4, 2) := by decide +kernel
theorem dX6_nameIn_7 : decode cX6_nameIn 7 = .ok (.iload 4, 2) := by decide +kernel
theorem dX6_nameIn_9 : decode cX6_nameIn 9 = .ok (.iload_n 1, 1) := by decide +kernel
theorem dX6_nameIn_10 : decode cX6_nameIn 10 = .ok (.if_icmp .lt 23, 3) := by decide +kernel
theorem dX6_nameIn_13 : decode cX6_nameIn 13 = .ok (.iload_n 3, 1) := by decide +kernel
theorem dX6_nameIn_14 : decode cX6_nameIn 14 = .ok (.iconst 5, 1) := by decide +kernel
theorem dX6_nameIn_15 : decode cX6_nameIn 15 = .ok (.imul, 1) := by decide +kernel
theorem dX6_nameIn_16 : decode cX6_nameIn 16 = .ok (.aload_n 0, 1) := by decide +kernel
theorem dX6_nameIn_17 : decode cX6_nameIn 17 = .ok (.iload 4, 2) := by decide +kernel
theorem dX6_nameIn_19 : decode cX6_nameIn 19 = .ok (.invokevirtual 45, 3) := by decide +kernel
theorem dX6_nameIn_22 : decode cX6_nameIn 22 = .ok (.iadd, 1) := by decide +kernel
theorem dX6_nameIn_23 : decode cX6_nameIn 23 = .ok (.bipush 48, 2) := by decide +kernel
theorem dX6_nameIn_25 : decode cX6_nameIn 25 = .ok (.isub, 1) := by decide +kernel
theorem dX6_nameIn_26 : decode cX6_nameIn 26 = .ok (.istore_n 3, 1) := by decide +kernel
theorem dX6_nameIn_27 : decode cX6_nameIn 27 = .ok (.iinc 4 (-1), 3) := by decide +kernel
theorem dX6_nameIn_30 : decode cX6_nameIn 30 = .ok (.goto (-23), 3) := by decide +kernel
theorem dX6_nameIn_33 : decode cX6_nameIn 33 = .ok (.iload_n 3, 1) := by decide +kernel
theorem dX6_nameIn_34 : decode cX6_nameIn 34 = .ok (.ireturn, 1) := by decide +kernel
theorem dX6_numberIn_0 : decode cX6_numberIn 0 = .ok (.iconst 0, 1) := by decide +kernel
theorem dX6_numberIn_1 : decode cX6_numberIn 1 = .ok (.istore_n 3, 1) := by decide +kernel
theorem dX6_numberIn_2 : decode cX6_numberIn 2 = .ok (.iload_n 1, 1) := by decide +kernel
theorem dX6_numberIn_3 : decode cX6_numberIn 3 = .ok (.istore 4, 2) := by decide +kernel
theorem dX6_numberIn_5 : decode cX6_numberIn 5 = .ok (.iload 4, 2) := by decide +kernel
theorem dX6_numberIn_7 : decode cX6_numberIn 7 = .ok (.iload_n 2, 1) := by decide +kernel
theorem dX6_numberIn_8 : decode cX6_numberIn 8 = .ok (.if_icmp .ge 24, 3) := by decide +kernel
theorem dX6_numberIn_11 : decode cX6_numberIn 11 = .ok (.iload_n 3, 1) := by decide +kernel
theorem dX6_numberIn_12 : decode cX6_numberIn 12 = .ok (.bipush 10, 2) := by decide +kernel
theorem dX6_numberIn_14 : decode cX6_numberIn 14 = .ok (.imul, 1) := by decide +kernel
theorem dX6_numberIn_15 : decode cX6_numberIn 15 = .ok (.aload_n 0, 1) := by decide +kernel
theorem dX6_numberIn_16 : decode cX6_numberIn 16 = .ok (.iload 4, 2) := by decide +kernel
theorem dX6_numberIn_18 : decode cX6_numberIn 18 = .ok (.invokevirtual 45, 3) := by decide +kernel
theorem dX6_numberIn_21 : decode cX6_numberIn 21 = .ok (.iadd, 1) := by decide +kernel
theorem dX6_numberIn_22 : decode cX6_numberIn 22 = .ok (.bipush 48, 2) := by decide +kernel
theorem dX6_numberIn_24 : decode cX6_numberIn 24 = .ok (.isub, 1) := by decide +kernel
theorem dX6_numberIn_25 : decode cX6_numberIn 25 = .ok (.istore_n 3, 1) := by decide +kernel
theorem dX6_numberIn_26 : decode cX6_numberIn 26 = .ok (.iinc 4 1, 3) := by decide +kernel
theorem dX6_numberIn_29 : decode cX6_numberIn 29 = .ok (.goto (-24), 3) := by decide +kernel
theorem dX6_numberIn_32 : decode cX6_numberIn 32 = .ok (.iload_n 3, 1) := by decide +kernel
theorem dX6_numberIn_33 : decode cX6_numberIn 33 = .ok (.ireturn, 1) := by decide +kernel
end
section
theorem dX8_init_0 : decode cX8_init 0 = .ok (.aload_n 0, 1) := by decide +kernel
theorem dX8_init_1 : decode cX8_init 1 = .ok (.invokespecial 1, 3) := by decide +kernel
theorem dX8_init_4 : decode cX8_init 4 = .ok (.aload_n 0, 1) := by decide +kernel
theorem dX8_init_5 : decode cX8_init 5 = .ok (.new 7, 3) := by decide +kernel
theorem dX8_init_8 : decode cX8_init 8 = .ok (.dup, 1) := by decide +kernel
theorem dX8_init_9 : decode cX8_init 9 = .ok (.invokespecial 9, 3) := by decide +kernel
theorem dX8_init_12 : decode cX8_init 12 = .ok (.putfield 10, 3) := by decide +kernel
theorem dX8_init_15 : decode cX8_init 15 = .ok (.aload_n 0, 1) := by decide +kernel
theorem dX8_init_16 : decode cX8_init 16 = .ok (.new 16, 3) := by decide +kernel
theorem dX8_init_19 : decode cX8_init 19 = .ok (.dup, 1) := by decide +kernel
theorem dX8_init_20 : decode cX8_init 20 = .ok (.invokespecial 18, 3) := by decide +kernel
theorem dX8_init_23 : decode cX8_init 23 = .ok (.putfield 19, 3) := by decide +kernel
theorem dX8_init_26 : decode cX8_init 26 = .ok (.aload_n 0, 1) := by decide +kernel
theorem dX8_init_27 : decode cX8_init 27 = .ok (.aload_n 0, 1) := by decide +kernel
theorem dX8_init_28 : decode cX8_init 28 = .ok (.getfield 19, 3) := by decide +kernel
theorem dX8_init_31 : decode cX8_init 31 = .ok (.getfield 23, 3) := by decide +kernel
theorem dX8_init_34 : decode cX8_init 34 = .ok (.putfield 27, 3) := by decide +kernel
theorem dX8_init_37 : decode cX8_init 37 = .ok (.aload_n 0, 1) := by decide +kernel
theorem dX8_init_38 : decode cX8_init 38 = .ok (.aload_n 0, 1) := by decide +kernel
theorem dX8_init_39 : decode cX8_init 39 = .ok (.getfield 19, 3) := by decide +kernel
theorem dX8_init_42 : decode cX8_init 42 = .ok (.getfield 28, 3) := by decide +kernel
theorem dX8_init_45 : decode cX8_init 45 = .ok (.putfield 32, 3) := by decide +kernel
theorem dX8_init_48 : decode cX8_init 48 = .ok (.aload_n 0, 1) := by decide +kernel
theorem dX8_init_49 : decode cX8_init 49 = .ok (.new 33, 3) := by decide +kernel
theorem dX8_init_52 : decode cX8_init 52 = .ok (.dup, 1) := by decide +kernel
theorem dX8_init_53 : decode cX8_init 53 = .ok (.invokespecial 35, 3) := by decide +kernel
theorem dX8_init_56 : decode cX8_init 56 = .ok (.putfield 36, 3) := by decide +kernel
theorem dX8_init_59 : decode cX8_init 59 = .ok (.aload_n 0, 1) := by decide +kernel
theorem dX8_init_60 : decode cX8_init 60 = .ok (.new 40, 3) := by decide +kernel
theorem dX8_init_63 : decode cX8_init 63 = .ok (.dup, 1) := by decide +kernel
theorem dX8_init_64 : decode cX8_init 64 = .ok (.invokespecial 42, 3) := by decide +kernel
theorem dX8_init_67 : decode cX8_init 67 = .ok (.putfield 43, 3) := by decide +kernel
theorem dX8_init_70 : decode cX8_init 70 = .ok (.aload_n 0, 1) := by decide +kernel
theorem dX8_init_71 : decode cX8_init 71 = .ok (.iconst 0, 1) := by decide +kernel
theorem dX8_init_72 : decode cX8_init 72 = .ok (.putfield 47, 3) := by decide +kernel
theorem dX8_init_75 : decode cX8_init 75 = .ok (.return_, 1) := by decide +kernel
theorem dX8_pass_0 : decode cX8_pass 0 = .ok (.iload_n 1, 1) := by decide +kernel
theorem dX8_pass_1 : decode cX8_pass 1 = .ok (.iconst 1, 1) := by decide +kernel
theorem dX8_pass_2 : decode cX8_pass 2 = .ok (.if_icmp .lt 10, 3) := by decide +kernel
theorem dX8_pass_5 : decode cX8_pass 5 = .ok (.iload_n 1, 1) := by decide +kernel
theorem dX8_pass_6 : decode cX8_pass 6 = .ok (.sipush 1000, 3) := by decide +kernel
theorem dX8_pass_9 : decode cX8_pass 9 = .ok (.if_icmp .le 5, 3) := by decide +kernel
theorem dX8_pass_12 : decode cX8_pass 12 = .ok (.iconst (-1), 1) := by decide +kernel
theorem dX8_pass_13 : decode cX8_pass 13 = .ok (.ireturn, 1) := by decide +kernel
theorem dX8_pass_14 : decode cX8_pass 14 = .ok (.aload_n 0, 1) := by decide +kernel
theorem dX8_pass_15 : decode cX8_pass 15 = .ok (.getfield 47, 3) := by decide +kernel
theorem dX8_pass_18 : decode cX8_pass 18 = .ok (.iload_n 1, 1) := by decide +kernel
theorem dX8_pass_19 : decode cX8_pass 19 = .ok (.iadd, 1) := by decide +kernel
theorem dX8_pass_20 : decode cX8_pass 20 = .ok (.sipush 9999, 3) := by decide +kernel
theorem dX8_pass_23 : decode cX8_pass 23 = .ok (.if_icmp .le 6, 3) := by decide +kernel
theorem dX8_pass_26 : decode cX8_pass 26 = .ok (.bipush (-3), 2) := by decide +kernel
theorem dX8_pass_28 : decode cX8_pass 28 = .ok (.ireturn, 1) := by decide +kernel
theorem dX8_pass_29 : decode cX8_pass 29 = .ok (.aload_n 0, 1) := by decide +kernel
theorem dX8_pass_30 : decode cX8_pass 30 = .ok (.dup, 1) := by decide +kernel
theorem dX8_pass_31 : decode cX8_pass 31 = .ok (.getfield 47, 3) := by decide +kernel
theorem dX8_pass_34 : decode cX8_pass 34 = .ok (.iload_n 1, 1) := by decide +kernel
theorem dX8_pass_35 : decode cX8_pass 35 = .ok (.iadd, 1) := by decide +kernel
theorem dX8_pass_36 : decode cX8_pass 36 = .ok (.putfield 47, 3) := by decide +kernel
theorem dX8_pass_39 : decode cX8_pass 39 = .ok (.aload_n 0, 1) := by decide +kernel
theorem dX8_pass_40 : decode cX8_pass 40 = .ok (.getfield 47, 3) := by decide +kernel
theorem dX8_pass_43 : decode cX8_pass 43 = .ok (.ireturn, 1) := by decide +kernel
theorem dX8_time_0 : decode cX8_time 0 = .ok (.aload_n 0, 1) := by decide +kernel
theorem dX8_time_1 : decode cX8_time 1 = .ok (.getfield 47, 3) := by decide +kernel
theorem dX8_time_4 : decode cX8_time 4 = .ok (.ireturn, 1) := by decide +kernel
theorem dX8_addNet_0 : decode cX8_addNet 0 = .ok (.iload_n 1, 1) := by decide +kernel
theorem dX8_addNet_1 : decode cX8_addNet 1 = .ok (.invokestatic 51, 3) := by decide +kernel
theorem dX8_addNet_4 : decode cX8_addNet 4 = .ok (.ifCond .eq 21, 3) := by decide +kernel
theorem dX8_addNet_7 : decode cX8_addNet 7 = .ok (.iload_n 1, 1) := by decide +kernel
theorem dX8_addNet_8 : decode cX8_addNet 8 = .ok (.ifCond .eq 17, 3) := by decide +kernel
theorem dX8_addNet_11 : decode cX8_addNet 11 = .ok (.iload_n 2, 1) := by decide +kernel
theorem dX8_addNet_12 : decode cX8_addNet 12 = .ok (.invokestatic 55, 3) := by decide +kernel
theorem dX8_addNet_15 : decode cX8_addNet 15 = .ok (.ifCond .eq 10, 3) := by decide +kernel
theorem dX8_addNet_18 : decode cX8_addNet 18 = .ok (.iload_n 3, 1) := by decide +kernel
theorem dX8_addNet_19 : decode cX8_addNet 19 = .ok (.invokestatic 58, 3) := by decide +kernel
theorem dX8_addNet_22 : decode cX8_addNet 22 = .ok (.ifCond .ne 5, 3) := by decide +kernel
theorem dX8_addNet_25 : decode cX8_addNet 25 = .ok (.iconst (-1), 1) := by decide +kernel
theorem dX8_addNet_26 : decode cX8_addNet 26 = .ok (.ireturn, 1) := by decide +kernel
theorem dX8_addNet_27 : decode cX8_addNet 27 = .ok (.aload_n 0, 1) := by decide +kernel
theorem dX8_addNet_28 : decode cX8_addNet 28 = .ok (.getfield 10, 3) := by decide +kernel
theorem dX8_addNet_31 : decode cX8_addNet 31 = .ok (.getfield 61, 3) := by decide +kernel
theorem dX8_addNet_34 : decode cX8_addNet 34 = .ok (.invokevirtual 65, 3) := by decide +kernel
theorem dX8_addNet_37 : decode cX8_addNet 37 = .ok (.ifCond .eq 6, 3) := by decide +kernel
theorem dX8_addNet_40 : decode cX8_addNet 40 = .ok (.bipush (-3), 2) := by decide +kernel
theorem dX8_addNet_42 : decode cX8_addNet 42 = .ok (.ireturn, 1) := by decide +kernel
theorem dX8_addNet_43 : decode cX8_addNet 43 = .ok (.aload_n 0, 1) := by decide +kernel
theorem dX8_addNet_44 : decode cX8_addNet 44 = .ok (.getfield 10, 3) := by decide +kernel
theorem dX8_addNet_47 : decode cX8_addNet 47 = .ok (.iload_n 1, 1) := by decide +kernel
theorem dX8_addNet_48 : decode cX8_addNet 48 = .ok (.iload_n 2, 1) := by decide +kernel
theorem dX8_addNet_49 : decode cX8_addNet 49 = .ok (.iload_n 3, 1) := by decide +kernel
theorem dX8_addNet_50 : decode cX8_addNet 50 = .ok (.aload_n 0, 1) := by decide +kernel
theorem dX8_addNet_51 : decode cX8_addNet 51 = .ok (.getfield 47, 3) := by decide +kernel
theorem dX8_addNet_54 : decode cX8_addNet 54 = .ok (.invokevirtual 71, 3) := by decide +kernel
theorem dX8_addNet_57 : decode cX8_addNet 57 = .ok (.ireturn, 1) := by decide +kernel
theorem dX8_removeNet_0 : decode cX8_removeNet 0 = .ok (.aload_n 0, 1) := by decide +kernel
theorem dX8_removeNet_1 : decode cX8_removeNet 1 = .ok (.getfield 10, 3) := by decide +kernel
theorem dX8_removeNet_4 : decode cX8_removeNet 4 = .ok (.getfield 61, 3) := by decide +kernel
theorem dX8_removeNet_7 : decode cX8_removeNet 7 = .ok (.iload_n 1, 1) := by decide +kernel
theorem dX8_removeNet_8 : decode cX8_removeNet 8 = .ok (.invokevirtual 75, 3) := by decide +kernel
theorem dX8_removeNet_11 : decode cX8_removeNet 11 = .ok (.ifCond .ne 5, 3) := by decide +kernel
theorem dX8_removeNet_14 : decode cX8_removeNet 14 = .ok (.iconst (-1), 1) := by decide +kernel
theorem dX8_removeNet_15 : decode cX8_removeNet 15 = .ok (.ireturn, 1) := by decide +kernel
theorem dX8_removeNet_16 : decode cX8_removeNet 16 = .ok (.aload_n 0, 1) := by decide +kernel
theorem dX8_removeNet_17 : decode cX8_removeNet 17 = .ok (.getfield 10, 3) := by decide +kernel
theorem dX8_removeNet_20 : decode cX8_removeNet 20 = .ok (.getfield 61, 3) := by decide +kernel
theorem dX8_removeNet_23 : decode cX8_removeNet 23 = .ok (.iload_n 1, 1) := by decide +kernel
theorem dX8_removeNet_24 : decode cX8_removeNet 24 = .ok (.aload_n 0, 1) := by decide +kernel
theorem dX8_removeNet_25 : decode cX8_removeNet 25 = .ok (.getfield 47, 3) := by decide +kernel
theorem dX8_removeNet_28 : decode cX8_removeNet 28 = .ok (.invokevirtual 78, 3) := by decide +kernel
theorem dX8_removeNet_31 : decode cX8_removeNet 31 = .ok (.ifCond .ne 6, 3) := by decide +kernel
theorem dX8_removeNet_34 : decode cX8_removeNet 34 = .ok (.bipush (-2), 2) := by decide +kernel
theorem dX8_removeNet_36 : decode cX8_removeNet 36 = .ok (.ireturn, 1) := by decide +kernel
theorem dX8_removeNet_37 : decode cX8_removeNet 37 = .ok (.aload_n 0, 1) := by decide +kernel
theorem dX8_removeNet_38 : decode cX8_removeNet 38 = .ok (.getfield 10, 3) := by decide +kernel
theorem dX8_removeNet_41 : decode cX8_removeNet 41 = .ok (.getfield 61, 3) := by decide +kernel
theorem dX8_removeNet_44 : decode cX8_removeNet 44 = .ok (.iload_n 1, 1) := by decide +kernel
theorem dX8_removeNet_45 : decode cX8_removeNet 45 = .ok (.aload_n 0, 1) := by decide +kernel
theorem dX8_removeNet_46 : decode cX8_removeNet 46 = .ok (.getfield 47, 3) := by decide +kernel
theorem dX8_removeNet_49 : decode cX8_removeNet 49 = .ok (.invokevirtual 82, 3) := by decide +kernel
theorem dX8_removeNet_52 : decode cX8_removeNet 52 = .ok (.aload_n 0, 1) := by decide +kernel
theorem dX8_removeNet_53 : decode cX8_removeNet 53 = .ok (.getfield 10, 3) := by decide +kernel
theorem dX8_removeNet_56 : decode cX8_removeNet 56 = .ok (.getfield 86, 3) := by decide +kernel
theorem dX8_removeNet_59 : decode cX8_removeNet 59 = .ok (.iload_n 1, 1) := by decide +kernel
theorem dX8_removeNet_60 : decode cX8_removeNet 60 = .ok (.iaload, 1) := by decide +kernel
theorem dX8_removeNet_61 : decode cX8_removeNet 61 = .ok (.ireturn, 1) := by decide +kernel
theorem dX8_viewOf_0 : decode cX8_viewOf 0 = .ok (.iload_n 1, 1) := by decide +kernel
theorem dX8_viewOf_1 : decode cX8_viewOf 1 = .ok (.invokestatic 55, 3) := by decide +kernel
theorem dX8_viewOf_4 : decode cX8_viewOf 4 = .ok (.ifCond .eq 11, 3) := by decide +kernel
theorem dX8_viewOf_7 : decode cX8_viewOf 7 = .ok (.aload_n 0, 1) := by decide +kernel
theorem dX8_viewOf_8 : decode cX8_viewOf 8 = .ok (.iload_n 2, 1) := by decide +kernel
theorem dX8_viewOf_9 : decode cX8_viewOf 9 = .ok (.invokevirtual 90, 3) := by decide +kernel
theorem dX8_viewOf_12 : decode cX8_viewOf 12 = .ok (.ifCond .ne 5, 3) := by decide +kernel
theorem dX8_viewOf_15 : decode cX8_viewOf 15 = .ok (.iconst (-1), 1) := by decide +kernel
theorem dX8_viewOf_16 : decode cX8_viewOf 16 = .ok (.ireturn, 1) := by decide +kernel
theorem dX8_viewOf_17 : decode cX8_viewOf 17 = .ok (.aload_n 0, 1) := by decide +kernel
theorem dX8_viewOf_18 : decode cX8_viewOf 18 = .ok (.getfield 10, 3) := by decide +kernel
theorem dX8_viewOf_21 : decode cX8_viewOf 21 = .ok (.iload_n 1, 1) := by decide +kernel
theorem dX8_viewOf_22 : decode cX8_viewOf 22 = .ok (.iload_n 2, 1) := by decide +kernel
theorem dX8_viewOf_23 : decode cX8_viewOf 23 = .ok (.invokevirtual 93, 3) := by decide +kernel
theorem dX8_viewOf_26 : decode cX8_viewOf 26 = .ok (.ireturn, 1) := by decide +kernel
theorem dX8_addZone_0 : decode cX8_addZone 0 = .ok (.iload_n 1, 1) := by decide +kernel
theorem dX8_addZone_1 : decode cX8_addZone 1 = .ok (.invokestatic 51, 3) := by decide +kernel
theorem dX8_addZone_4 : decode cX8_addZone 4 = .ok (.ifCond .eq 17, 3) := by decide +kernel
theorem dX8_addZone_7 : decode cX8_addZone 7 = .ok (.iload_n 2, 1) := by decide +kernel
theorem dX8_addZone_8 : decode cX8_addZone 8 = .ok (.invokestatic 97, 3) := by decide +kernel
theorem dX8_addZone_11 : decode cX8_addZone 11 = .ok (.ifCond .eq 10, 3) := by decide +kernel
theorem dX8_addZone_14 : decode cX8_addZone 14 = .ok (.iload_n 2, 1) := by decide +kernel
theorem dX8_addZone_15 : decode cX8_addZone 15 = .ok (.invokestatic 102, 3) := by decide +kernel
theorem dX8_addZone_18 : decode cX8_addZone 18 = .ok (.ifCond .eq 5, 3) := by decide +kernel
theorem dX8_addZone_21 : decode cX8_addZone 21 = .ok (.iconst (-1), 1) := by decide +kernel
theorem dX8_addZone_22 : decode cX8_addZone 22 = .ok (.ireturn, 1) := by decide +kernel
theorem dX8_addZone_23 : decode cX8_addZone 23 = .ok (.aload_n 0, 1) := by decide +kernel
theorem dX8_addZone_24 : decode cX8_addZone 24 = .ok (.getfield 27, 3) := by decide +kernel
theorem dX8_addZone_27 : decode cX8_addZone 27 = .ok (.iload_n 1, 1) := by decide +kernel
theorem dX8_addZone_28 : decode cX8_addZone 28 = .ok (.iload_n 2, 1) := by decide +kernel
theorem dX8_addZone_29 : decode cX8_addZone 29 = .ok (.aload_n 0, 1) := by decide +kernel
theorem dX8_addZone_30 : decode cX8_addZone 30 = .ok (.getfield 47, 3) := by decide +kernel
theorem dX8_addZone_33 : decode cX8_addZone 33 = .ok (.invokevirtual 105, 3) := by decide +kernel
theorem dX8_addZone_36 : decode cX8_addZone 36 = .ok (.iconst (-1), 1) := by decide +kernel
theorem dX8_addZone_37 : decode cX8_addZone 37 = .ok (.if_icmp .eq 6, 3) := by decide +kernel
theorem dX8_addZone_40 : decode cX8_addZone 40 = .ok (.bipush (-2), 2) := by decide +kernel
theorem dX8_addZone_42 : decode cX8_addZone 42 = .ok (.ireturn, 1) := by decide +kernel
theorem dX8_addZone_43 : decode cX8_addZone 43 = .ok (.aload_n 0, 1) := by decide +kernel
theorem dX8_addZone_44 : decode cX8_addZone 44 = .ok (.getfield 27, 3) := by decide +kernel
theorem dX8_addZone_47 : decode cX8_addZone 47 = .ok (.getfield 111, 3) := by decide +kernel
theorem dX8_addZone_50 : decode cX8_addZone 50 = .ok (.invokevirtual 65, 3) := by decide +kernel
theorem dX8_addZone_53 : decode cX8_addZone 53 = .ok (.ifCond .eq 6, 3) := by decide +kernel
theorem dX8_addZone_56 : decode cX8_addZone 56 = .ok (.bipush (-3), 2) := by decide +kernel
theorem dX8_addZone_58 : decode cX8_addZone 58 = .ok (.ireturn, 1) := by decide +kernel
theorem dX8_addZone_59 : decode cX8_addZone 59 = .ok (.aload_n 0, 1) := by decide +kernel
theorem dX8_addZone_60 : decode cX8_addZone 60 = .ok (.getfield 27, 3) := by decide +kernel
theorem dX8_addZone_63 : decode cX8_addZone 63 = .ok (.iload_n 1, 1) := by decide +kernel
theorem dX8_addZone_64 : decode cX8_addZone 64 = .ok (.iload_n 2, 1) := by decide +kernel
theorem dX8_addZone_65 : decode cX8_addZone 65 = .ok (.aload_n 0, 1) := by decide +kernel
theorem dX8_addZone_66 : decode cX8_addZone 66 = .ok (.getfield 47, 3) := by decide +kernel
theorem dX8_addZone_69 : decode cX8_addZone 69 = .ok (.invokevirtual 112, 3) := by decide +kernel
theorem dX8_addZone_72 : decode cX8_addZone 72 = .ok (.ireturn, 1) := by decide +kernel
theorem dX8_removeZone_0 : decode cX8_removeZone 0 = .ok (.aload_n 0, 1) := by decide +kernel
theorem dX8_removeZone_1 : decode cX8_removeZone 1 = .ok (.getfield 27, 3) := by decide +kernel
theorem dX8_removeZone_4 : decode cX8_removeZone 4 = .ok (.getfield 111, 3) := by decide +kernel
theorem dX8_removeZone_7 : decode cX8_removeZone 7 = .ok (.iload_n 1, 1) := by decide +kernel
theorem dX8_removeZone_8 : decode cX8_removeZone 8 = .ok (.invokevirtual 75, 3) := by decide +kernel
theorem dX8_removeZone_11 : decode cX8_removeZone 11 = .ok (.ifCond .ne 5, 3) := by decide +kernel
theorem dX8_removeZone_14 : decode cX8_removeZone 14 = .ok (.iconst (-1), 1) := by decide +kernel
theorem dX8_removeZone_15 : decode cX8_removeZone 15 = .ok (.ireturn, 1) := by decide +kernel
theorem dX8_removeZone_16 : decode cX8_removeZone 16 = .ok (.aload_n 0, 1) := by decide +kernel
theorem dX8_removeZone_17 : decode cX8_removeZone 17 = .ok (.getfield 27, 3) := by decide +kernel
theorem dX8_removeZone_20 : decode cX8_removeZone 20 = .ok (.getfield 111, 3) := by decide +kernel
theorem dX8_removeZone_23 : decode cX8_removeZone 23 = .ok (.iload_n 1, 1) := by decide +kernel
theorem dX8_removeZone_24 : decode cX8_removeZone 24 = .ok (.aload_n 0, 1) := by decide +kernel
theorem dX8_removeZone_25 : decode cX8_removeZone 25 = .ok (.getfield 47, 3) := by decide +kernel
theorem dX8_removeZone_28 : decode cX8_removeZone 28 = .ok (.invokevirtual 78, 3) := by decide +kernel
theorem dX8_removeZone_31 : decode cX8_removeZone 31 = .ok (.ifCond .ne 6, 3) := by decide +kernel
theorem dX8_removeZone_34 : decode cX8_removeZone 34 = .ok (.bipush (-2), 2) := by decide +kernel
theorem dX8_removeZone_36 : decode cX8_removeZone 36 = .ok (.ireturn, 1) := by decide +kernel
theorem dX8_removeZone_37 : decode cX8_removeZone 37 = .ok (.aload_n 0, 1) := by decide +kernel
theorem dX8_removeZone_38 : decode cX8_removeZone 38 = .ok (.getfield 27, 3) := by decide +kernel
theorem dX8_removeZone_41 : decode cX8_removeZone 41 = .ok (.getfield 111, 3) := by decide +kernel
theorem dX8_removeZone_44 : decode cX8_removeZone 44 = .ok (.iload_n 1, 1) := by decide +kernel
theorem dX8_removeZone_45 : decode cX8_removeZone 45 = .ok (.aload_n 0, 1) := by decide +kernel
theorem dX8_removeZone_46 : decode cX8_removeZone 46 = .ok (.getfield 47, 3) := by decide +kernel
theorem dX8_removeZone_49 : decode cX8_removeZone 49 = .ok (.invokevirtual 82, 3) := by decide +kernel
theorem dX8_removeZone_52 : decode cX8_removeZone 52 = .ok (.aload_n 0, 1) := by decide +kernel
theorem dX8_removeZone_53 : decode cX8_removeZone 53 = .ok (.getfield 32, 3) := by decide +kernel
theorem dX8_removeZone_56 : decode cX8_removeZone 56 = .ok (.iload_n 1, 1) := by decide +kernel
theorem dX8_removeZone_57 : decode cX8_removeZone 57 = .ok (.aload_n 0, 1) := by decide +kernel
theorem dX8_removeZone_58 : decode cX8_removeZone 58 = .ok (.getfield 47, 3) := by decide +kernel
theorem dX8_removeZone_61 : decode cX8_removeZone 61 = .ok (.invokevirtual 114, 3) := by decide +kernel
theorem dX8_removeZone_64 : decode cX8_removeZone 64 = .ok (.ireturn, 1) := by decide +kernel
theorem dX8_zoneInfo_0 : decode cX8_zoneInfo 0 = .ok (.aload_n 0, 1) := by decide +kernel
theorem dX8_zoneInfo_1 : decode cX8_zoneInfo 1 = .ok (.getfield 27, 3) := by decide +kernel
theorem dX8_zoneInfo_4 : decode cX8_zoneInfo 4 = .ok (.getfield 111, 3) := by decide +kernel
theorem dX8_zoneInfo_7 : decode cX8_zoneInfo 7 = .ok (.iload_n 1, 1) := by decide +kernel
theorem dX8_zoneInfo_8 : decode cX8_zoneInfo 8 = .ok (.invokevirtual 75, 3) := by decide +kernel
theorem dX8_zoneInfo_11 : decode cX8_zoneInfo 11 = .ok (.ifCond .ne 5, 3) := by decide +kernel
theorem dX8_zoneInfo_14 : decode cX8_zoneInfo 14 = .ok (.iconst (-1), 1) := by decide +kernel
theorem dX8_zoneInfo_15 : decode cX8_zoneInfo 15 = .ok (.ireturn, 1) := by decide +kernel
theorem dX8_zoneInfo_16 : decode cX8_zoneInfo 16 = .ok (.iload_n 2, 1) := by decide +kernel
theorem dX8_zoneInfo_17 : decode cX8_zoneInfo 17 = .ok (.tableswitch 100 0 3 #[31, 41, 51, 64], 31) := by decide +kernel
theorem dX8_zoneInfo_48 : decode cX8_zoneInfo 48 = .ok (.aload_n 0, 1) := by decide +kernel
theorem dX8_zoneInfo_49 : decode cX8_zoneInfo 49 = .ok (.getfield 27, 3) := by decide +kernel
theorem dX8_zoneInfo_52 : decode cX8_zoneInfo 52 = .ok (.getfield 119, 3) := by decide +kernel
theorem dX8_zoneInfo_55 : decode cX8_zoneInfo 55 = .ok (.iload_n 1, 1) := by decide +kernel
theorem dX8_zoneInfo_56 : decode cX8_zoneInfo 56 = .ok (.iaload, 1) := by decide +kernel
theorem dX8_zoneInfo_57 : decode cX8_zoneInfo 57 = .ok (.ireturn, 1) := by decide +kernel
theorem dX8_zoneInfo_58 : decode cX8_zoneInfo 58 = .ok (.aload_n 0, 1) := by decide +kernel
theorem dX8_zoneInfo_59 : decode cX8_zoneInfo 59 = .ok (.getfield 27, 3) := by decide +kernel
theorem dX8_zoneInfo_62 : decode cX8_zoneInfo 62 = .ok (.getfield 120, 3) := by decide +kernel
theorem dX8_zoneInfo_65 : decode cX8_zoneInfo 65 = .ok (.iload_n 1, 1) := by decide +kernel
theorem dX8_zoneInfo_66 : decode cX8_zoneInfo 66 = .ok (.iaload, 1) := by decide +kernel
theorem dX8_zoneInfo_67 : decode cX8_zoneInfo 67 = .ok (.ireturn, 1) := by decide +kernel
theorem dX8_zoneInfo_68 : decode cX8_zoneInfo 68 = .ok (.aload_n 0, 1) := by decide +kernel
theorem dX8_zoneInfo_69 : decode cX8_zoneInfo 69 = .ok (.getfield 27, 3) := by decide +kernel
theorem dX8_zoneInfo_72 : decode cX8_zoneInfo 72 = .ok (.getfield 111, 3) := by decide +kernel
theorem dX8_zoneInfo_75 : decode cX8_zoneInfo 75 = .ok (.getfield 123, 3) := by decide +kernel
theorem dX8_zoneInfo_78 : decode cX8_zoneInfo 78 = .ok (.iload_n 1, 1) := by decide +kernel
theorem dX8_zoneInfo_79 : decode cX8_zoneInfo 79 = .ok (.iaload, 1) := by decide +kernel
theorem dX8_zoneInfo_80 : decode cX8_zoneInfo 80 = .ok (.ireturn, 1) := by decide +kernel
theorem dX8_zoneInfo_81 : decode cX8_zoneInfo 81 = .ok (.aload_n 0, 1) := by decide +kernel
theorem dX8_zoneInfo_82 : decode cX8_zoneInfo 82 = .ok (.getfield 27, 3) := by decide +kernel
theorem dX8_zoneInfo_85 : decode cX8_zoneInfo 85 = .ok (.getfield 111, 3) := by decide +kernel
theorem dX8_zoneInfo_88 : decode cX8_zoneInfo 88 = .ok (.iload_n 1, 1) := by decide +kernel
theorem dX8_zoneInfo_89 : decode cX8_zoneInfo 89 = .ok (.aload_n 0, 1) := by decide +kernel
theorem dX8_zoneInfo_90 : decode cX8_zoneInfo 90 = .ok (.getfield 47, 3) := by decide +kernel
theorem dX8_zoneInfo_93 : decode cX8_zoneInfo 93 = .ok (.invokevirtual 78, 3) := by decide +kernel
theorem dX8_zoneInfo_96 : decode cX8_zoneInfo 96 = .ok (.ifCond .eq 8, 3) := by decide +kernel
theorem dX8_zoneInfo_99 : decode cX8_zoneInfo 99 = .ok (.bipush (-4), 2) := by decide +kernel
theorem dX8_zoneInfo_101 : decode cX8_zoneInfo 101 = .ok (.goto 15, 3) := by decide +kernel
theorem dX8_zoneInfo_104 : decode cX8_zoneInfo 104 = .ok (.aload_n 0, 1) := by decide +kernel
theorem dX8_zoneInfo_105 : decode cX8_zoneInfo 105 = .ok (.getfield 27, 3) := by decide +kernel
theorem dX8_zoneInfo_108 : decode cX8_zoneInfo 108 = .ok (.getfield 111, 3) := by decide +kernel
theorem dX8_zoneInfo_111 : decode cX8_zoneInfo 111 = .ok (.getfield 126, 3) := by decide +kernel
theorem dX8_zoneInfo_114 : decode cX8_zoneInfo 114 = .ok (.iload_n 1, 1) := by decide +kernel
theorem dX8_zoneInfo_115 : decode cX8_zoneInfo 115 = .ok (.iaload, 1) := by decide +kernel
theorem dX8_zoneInfo_116 : decode cX8_zoneInfo 116 = .ok (.ireturn, 1) := by decide +kernel
theorem dX8_zoneInfo_117 : decode cX8_zoneInfo 117 = .ok (.iconst (-1), 1) := by decide +kernel
theorem dX8_zoneInfo_118 : decode cX8_zoneInfo 118 = .ok (.ireturn, 1) := by decide +kernel
theorem dX8_count_0 : decode cX8_count 0 = .ok (.iload_n 1, 1) := by decide +kernel
theorem dX8_count_1 : decode cX8_count 1 = .ok (.tableswitch 108 0 5 #[39, 54, 69, 81, 92, 100], 39) := by decide +kernel
theorem dX8_count_40 : decode cX8_count 40 = .ok (.aload_n 0, 1) := by decide +kernel
theorem dX8_count_41 : decode cX8_count 41 = .ok (.getfield 10, 3) := by decide +kernel
theorem dX8_count_44 : decode cX8_count 44 = .ok (.getfield 61, 3) := by decide +kernel
theorem dX8_count_47 : decode cX8_count 47 = .ok (.aload_n 0, 1) := by decide +kernel
theorem dX8_count_48 : decode cX8_count 48 = .ok (.getfield 47, 3) := by decide +kernel
theorem dX8_count_51 : decode cX8_count 51 = .ok (.invokevirtual 129, 3) := by decide +kernel
theorem dX8_count_54 : decode cX8_count 54 = .ok (.ireturn, 1) := by decide +kernel
theorem dX8_count_55 : decode cX8_count 55 = .ok (.aload_n 0, 1) := by decide +kernel
theorem dX8_count_56 : decode cX8_count 56 = .ok (.getfield 27, 3) := by decide +kernel
theorem dX8_count_59 : decode cX8_count 59 = .ok (.getfield 111, 3) := by decide +kernel
theorem dX8_count_62 : decode cX8_count 62 = .ok (.aload_n 0, 1) := by decide +kernel
theorem dX8_count_63 : decode cX8_count 63 = .ok (.getfield 47, 3) := by decide +kernel
theorem dX8_count_66 : decode cX8_count 66 = .ok (.invokevirtual 129, 3) := by decide +kernel
theorem dX8_count_69 : decode cX8_count 69 = .ok (.ireturn, 1) := by decide +kernel
theorem dX8_count_70 : decode cX8_count 70 = .ok (.aload_n 0, 1) := by decide +kernel
theorem dX8_count_71 : decode cX8_count 71 = .ok (.getfield 19, 3) := by decide +kernel
theorem dX8_count_74 : decode cX8_count 74 = .ok (.aload_n 0, 1) := by decide +kernel
theorem dX8_count_75 : decode cX8_count 75 = .ok (.getfield 47, 3) := by decide +kernel
theorem dX8_count_78 : decode cX8_count 78 = .ok (.invokevirtual 133, 3) := by decide +kernel
theorem dX8_count_81 : decode cX8_count 81 = .ok (.ireturn, 1) := by decide +kernel
theorem dX8_count_82 : decode cX8_count 82 = .ok (.aload_n 0, 1) := by decide +kernel
theorem dX8_count_83 : decode cX8_count 83 = .ok (.getfield 32, 3) := by decide +kernel
theorem dX8_count_86 : decode cX8_count 86 = .ok (.getfield 136, 3) := by decide +kernel
theorem dX8_count_89 : decode cX8_count 89 = .ok (.getfield 137, 3) := by decide +kernel
theorem dX8_count_92 : decode cX8_count 92 = .ok (.ireturn, 1) := by decide +kernel
theorem dX8_count_93 : decode cX8_count 93 = .ok (.aload_n 0, 1) := by decide +kernel
theorem dX8_count_94 : decode cX8_count 94 = .ok (.getfield 36, 3) := by decide +kernel
theorem dX8_count_97 : decode cX8_count 97 = .ok (.getfield 140, 3) := by decide +kernel
theorem dX8_count_100 : decode cX8_count 100 = .ok (.ireturn, 1) := by decide +kernel
theorem dX8_count_101 : decode cX8_count 101 = .ok (.aload_n 0, 1) := by decide +kernel
theorem dX8_count_102 : decode cX8_count 102 = .ok (.getfield 36, 3) := by decide +kernel
theorem dX8_count_105 : decode cX8_count 105 = .ok (.getfield 143, 3) := by decide +kernel
theorem dX8_count_108 : decode cX8_count 108 = .ok (.ireturn, 1) := by decide +kernel
theorem dX8_count_109 : decode cX8_count 109 = .ok (.iconst (-1), 1) := by decide +kernel
theorem dX8_count_110 : decode cX8_count 110 = .ok (.ireturn, 1) := by decide +kernel
theorem dX8_set_0 : decode cX8_set 0 = .ok (.aload_n 0, 1) := by decide +kernel
theorem dX8_set_1 : decode cX8_set 1 = .ok (.getfield 27, 3) := by decide +kernel
theorem dX8_set_4 : decode cX8_set 4 = .ok (.getfield 111, 3) := by decide +kernel
theorem dX8_set_7 : decode cX8_set 7 = .ok (.iload_n 1, 1) := by decide +kernel
theorem dX8_set_8 : decode cX8_set 8 = .ok (.invokevirtual 75, 3) := by decide +kernel
theorem dX8_set_11 : decode cX8_set 11 = .ok (.ifCond .eq 35, 3) := by decide +kernel
theorem dX8_set_14 : decode cX8_set 14 = .ok (.iload_n 2, 1) := by decide +kernel
theorem dX8_set_15 : decode cX8_set 15 = .ok (.invokestatic 97, 3) := by decide +kernel
theorem dX8_set_18 : decode cX8_set 18 = .ok (.ifCond .eq 28, 3) := by decide +kernel
theorem dX8_set_21 : decode cX8_set 21 = .ok (.iload_n 3, 1) := by decide +kernel
theorem dX8_set_22 : decode cX8_set 22 = .ok (.iload 4, 2) := by decide +kernel
theorem dX8_set_24 : decode cX8_set 24 = .ok (.invokestatic 146, 3) := by decide +kernel
theorem dX8_set_27 : decode cX8_set 27 = .ok (.ifCond .eq 19, 3) := by decide +kernel
theorem dX8_set_30 : decode cX8_set 30 = .ok (.iload_n 2, 1) := by decide +kernel
theorem dX8_set_31 : decode cX8_set 31 = .ok (.aload_n 0, 1) := by decide +kernel
theorem dX8_set_32 : decode cX8_set 32 = .ok (.getfield 27, 3) := by decide +kernel
theorem dX8_set_35 : decode cX8_set 35 = .ok (.getfield 120, 3) := by decide +kernel
theorem dX8_set_38 : decode cX8_set 38 = .ok (.iload_n 1, 1) := by decide +kernel
theorem dX8_set_39 : decode cX8_set 39 = .ok (.iaload, 1) := by decide +kernel
theorem dX8_set_40 : decode cX8_set 40 = .ok (.invokestatic 149, 3) := by decide +kernel
theorem dX8_set_43 : decode cX8_set 43 = .ok (.ifCond .ne 5, 3) := by decide +kernel
theorem dX8_set_46 : decode cX8_set 46 = .ok (.iconst (-1), 1) := by decide +kernel
theorem dX8_set_47 : decode cX8_set 47 = .ok (.ireturn, 1) := by decide +kernel
theorem dX8_set_48 : decode cX8_set 48 = .ok (.aload_n 0, 1) := by decide +kernel
theorem dX8_set_49 : decode cX8_set 49 = .ok (.getfield 27, 3) := by decide +kernel
theorem dX8_set_52 : decode cX8_set 52 = .ok (.getfield 111, 3) := by decide +kernel
theorem dX8_set_55 : decode cX8_set 55 = .ok (.iload_n 1, 1) := by decide +kernel
theorem dX8_set_56 : decode cX8_set 56 = .ok (.aload_n 0, 1) := by decide +kernel
theorem dX8_set_57 : decode cX8_set 57 = .ok (.getfield 47, 3) := by decide +kernel
theorem dX8_set_60 : decode cX8_set 60 = .ok (.invokevirtual 78, 3) := by decide +kernel
theorem dX8_set_63 : decode cX8_set 63 = .ok (.ifCond .ne 6, 3) := by decide +kernel
theorem dX8_set_66 : decode cX8_set 66 = .ok (.bipush (-2), 2) := by decide +kernel
theorem dX8_set_68 : decode cX8_set 68 = .ok (.ireturn, 1) := by decide +kernel
theorem dX8_set_69 : decode cX8_set 69 = .ok (.aload_n 0, 1) := by decide +kernel
theorem dX8_set_70 : decode cX8_set 70 = .ok (.getfield 32, 3) := by decide +kernel
theorem dX8_set_73 : decode cX8_set 73 = .ok (.getfield 136, 3) := by decide +kernel
theorem dX8_set_76 : decode cX8_set 76 = .ok (.invokevirtual 65, 3) := by decide +kernel
theorem dX8_set_79 : decode cX8_set 79 = .ok (.ifCond .eq 6, 3) := by decide +kernel
theorem dX8_set_82 : decode cX8_set 82 = .ok (.bipush (-3), 2) := by decide +kernel
theorem dX8_set_84 : decode cX8_set 84 = .ok (.ireturn, 1) := by decide +kernel
theorem dX8_set_85 : decode cX8_set 85 = .ok (.aload_n 0, 1) := by decide +kernel
theorem dX8_set_86 : decode cX8_set 86 = .ok (.getfield 32, 3) := by decide +kernel
theorem dX8_set_89 : decode cX8_set 89 = .ok (.iload_n 1, 1) := by decide +kernel
theorem dX8_set_90 : decode cX8_set 90 = .ok (.iload_n 2, 1) := by decide +kernel
theorem dX8_set_91 : decode cX8_set 91 = .ok (.iload_n 3, 1) := by decide +kernel
theorem dX8_set_92 : decode cX8_set 92 = .ok (.iload 4, 2) := by decide +kernel
theorem dX8_set_94 : decode cX8_set 94 = .ok (.aload_n 0, 1) := by decide +kernel
theorem dX8_set_95 : decode cX8_set 95 = .ok (.getfield 47, 3) := by decide +kernel
theorem dX8_set_98 : decode cX8_set 98 = .ok (.invokevirtual 152, 3) := by decide +kernel
theorem dX8_set_101 : decode cX8_set 101 = .ok (.aload_n 0, 1) := by decide +kernel
theorem dX8_set_102 : decode cX8_set 102 = .ok (.getfield 32, 3) := by decide +kernel
theorem dX8_set_105 : decode cX8_set 105 = .ok (.iload_n 1, 1) := by decide +kernel
theorem dX8_set_106 : decode cX8_set 106 = .ok (.aload_n 0, 1) := by decide +kernel
theorem dX8_set_107 : decode cX8_set 107 = .ok (.getfield 47, 3) := by decide +kernel
theorem dX8_set_110 : decode cX8_set 110 = .ok (.invokevirtual 114, 3) := by decide +kernel
theorem dX8_set_113 : decode cX8_set 113 = .ok (.ireturn, 1) := by decide +kernel
theorem dX8_clear_0 : decode cX8_clear 0 = .ok (.aload_n 0, 1) := by decide +kernel
theorem dX8_clear_1 : decode cX8_clear 1 = .ok (.getfield 27, 3) := by decide +kernel
theorem dX8_clear_4 : decode cX8_clear 4 = .ok (.getfield 111, 3) := by decide +kernel
theorem dX8_clear_7 : decode cX8_clear 7 = .ok (.iload_n 1, 1) := by decide +kernel
theorem dX8_clear_8 : decode cX8_clear 8 = .ok (.invokevirtual 75, 3) := by decide +kernel
theorem dX8_clear_11 : decode cX8_clear 11 = .ok (.ifCond .eq 17, 3) := by decide +kernel
theorem dX8_clear_14 : decode cX8_clear 14 = .ok (.iload_n 2, 1) := by decide +kernel
theorem dX8_clear_15 : decode cX8_clear 15 = .ok (.invokestatic 97, 3) := by decide +kernel
theorem dX8_clear_18 : decode cX8_clear 18 = .ok (.ifCond .eq 10, 3) := by decide +kernel
theorem dX8_clear_21 : decode cX8_clear 21 = .ok (.iload_n 3, 1) := by decide +kernel
theorem dX8_clear_22 : decode cX8_clear 22 = .ok (.invokestatic 156, 3) := by decide +kernel
theorem dX8_clear_25 : decode cX8_clear 25 = .ok (.ifCond .ne 5, 3) := by decide +kernel
theorem dX8_clear_28 : decode cX8_clear 28 = .ok (.iconst (-1), 1) := by decide +kernel
theorem dX8_clear_29 : decode cX8_clear 29 = .ok (.ireturn, 1) := by decide +kernel
theorem dX8_clear_30 : decode cX8_clear 30 = .ok (.aload_n 0, 1) := by decide +kernel
theorem dX8_clear_31 : decode cX8_clear 31 = .ok (.getfield 27, 3) := by decide +kernel
theorem dX8_clear_34 : decode cX8_clear 34 = .ok (.getfield 111, 3) := by decide +kernel
theorem dX8_clear_37 : decode cX8_clear 37 = .ok (.iload_n 1, 1) := by decide +kernel
theorem dX8_clear_38 : decode cX8_clear 38 = .ok (.aload_n 0, 1) := by decide +kernel
theorem dX8_clear_39 : decode cX8_clear 39 = .ok (.getfield 47, 3) := by decide +kernel
theorem dX8_clear_42 : decode cX8_clear 42 = .ok (.invokevirtual 78, 3) := by decide +kernel
theorem dX8_clear_45 : decode cX8_clear 45 = .ok (.ifCond .ne 6, 3) := by decide +kernel
theorem dX8_clear_48 : decode cX8_clear 48 = .ok (.bipush (-2), 2) := by decide +kernel
theorem dX8_clear_50 : decode cX8_clear 50 = .ok (.ireturn, 1) := by decide +kernel
theorem dX8_clear_51 : decode cX8_clear 51 = .ok (.aload_n 0, 1) := by decide +kernel
theorem dX8_clear_52 : decode cX8_clear 52 = .ok (.getfield 32, 3) := by decide +kernel
theorem dX8_clear_55 : decode cX8_clear 55 = .ok (.getfield 136, 3) := by decide +kernel
theorem dX8_clear_58 : decode cX8_clear 58 = .ok (.invokevirtual 65, 3) := by decide +kernel
theorem dX8_clear_61 : decode cX8_clear 61 = .ok (.ifCond .eq 6, 3) := by decide +kernel
theorem dX8_clear_64 : decode cX8_clear 64 = .ok (.bipush (-3), 2) := by decide +kernel
theorem dX8_clear_66 : decode cX8_clear 66 = .ok (.ireturn, 1) := by decide +kernel
theorem dX8_clear_67 : decode cX8_clear 67 = .ok (.aload_n 0, 1) := by decide +kernel
theorem dX8_clear_68 : decode cX8_clear 68 = .ok (.getfield 32, 3) := by decide +kernel
theorem dX8_clear_71 : decode cX8_clear 71 = .ok (.iload_n 1, 1) := by decide +kernel
theorem dX8_clear_72 : decode cX8_clear 72 = .ok (.iload_n 2, 1) := by decide +kernel
theorem dX8_clear_73 : decode cX8_clear 73 = .ok (.iload_n 3, 1) := by decide +kernel
theorem dX8_clear_74 : decode cX8_clear 74 = .ok (.aload_n 0, 1) := by decide +kernel
theorem dX8_clear_75 : decode cX8_clear 75 = .ok (.getfield 47, 3) := by decide +kernel
theorem dX8_clear_78 : decode cX8_clear 78 = .ok (.invokevirtual 159, 3) := by decide +kernel
theorem dX8_clear_81 : decode cX8_clear 81 = .ok (.istore 4, 2) := by decide +kernel
theorem dX8_clear_83 : decode cX8_clear 83 = .ok (.iload 4, 2) := by decide +kernel
theorem dX8_clear_85 : decode cX8_clear 85 = .ok (.iconst (-1), 1) := by decide +kernel
theorem dX8_clear_86 : decode cX8_clear 86 = .ok (.if_icmp .ne 6, 3) := by decide +kernel
theorem dX8_clear_89 : decode cX8_clear 89 = .ok (.bipush (-4), 2) := by decide +kernel
theorem dX8_clear_91 : decode cX8_clear 91 = .ok (.ireturn, 1) := by decide +kernel
theorem dX8_clear_92 : decode cX8_clear 92 = .ok (.aload_n 0, 1) := by decide +kernel
theorem dX8_clear_93 : decode cX8_clear 93 = .ok (.getfield 32, 3) := by decide +kernel
theorem dX8_clear_96 : decode cX8_clear 96 = .ok (.iload 4, 2) := by decide +kernel
theorem dX8_clear_98 : decode cX8_clear 98 = .ok (.aload_n 0, 1) := by decide +kernel
theorem dX8_clear_99 : decode cX8_clear 99 = .ok (.getfield 47, 3) := by decide +kernel
theorem dX8_clear_102 : decode cX8_clear 102 = .ok (.invokevirtual 161, 3) := by decide +kernel
theorem dX8_clear_105 : decode cX8_clear 105 = .ok (.aload_n 0, 1) := by decide +kernel
theorem dX8_clear_106 : decode cX8_clear 106 = .ok (.getfield 32, 3) := by decide +kernel
theorem dX8_clear_109 : decode cX8_clear 109 = .ok (.getfield 164, 3) := by decide +kernel
theorem dX8_clear_112 : decode cX8_clear 112 = .ok (.iload 4, 2) := by decide +kernel
theorem dX8_clear_114 : decode cX8_clear 114 = .ok (.iaload, 1) := by decide +kernel
theorem dX8_clear_115 : decode cX8_clear 115 = .ok (.ireturn, 1) := by decide +kernel
theorem dX8_record_0 : decode cX8_record 0 = .ok (.aload_n 0, 1) := by decide +kernel
theorem dX8_record_1 : decode cX8_record 1 = .ok (.getfield 27, 3) := by decide +kernel
theorem dX8_record_4 : decode cX8_record 4 = .ok (.getfield 111, 3) := by decide +kernel
theorem dX8_record_7 : decode cX8_record 7 = .ok (.iload_n 1, 1) := by decide +kernel
theorem dX8_record_8 : decode cX8_record 8 = .ok (.invokevirtual 75, 3) := by decide +kernel
theorem dX8_record_11 : decode cX8_record 11 = .ok (.ifCond .eq 26, 3) := by decide +kernel
theorem dX8_record_14 : decode cX8_record 14 = .ok (.iload_n 2, 1) := by decide +kernel
theorem dX8_record_15 : decode cX8_record 15 = .ok (.invokestatic 97, 3) := by decide +kernel
theorem dX8_record_18 : decode cX8_record 18 = .ok (.ifCond .eq 19, 3) := by decide +kernel
theorem dX8_record_21 : decode cX8_record 21 = .ok (.iload_n 3, 1) := by decide +kernel
theorem dX8_record_22 : decode cX8_record 22 = .ok (.invokestatic 156, 3) := by decide +kernel
theorem dX8_record_25 : decode cX8_record 25 = .ok (.ifCond .eq 12, 3) := by decide +kernel
theorem dX8_record_28 : decode cX8_record 28 = .ok (.aload_n 0, 1) := by decide +kernel
theorem dX8_record_29 : decode cX8_record 29 = .ok (.iload 4, 2) := by decide +kernel
theorem dX8_record_31 : decode cX8_record 31 = .ok (.invokevirtual 90, 3) := by decide +kernel
theorem dX8_record_34 : decode cX8_record 34 = .ok (.ifCond .ne 5, 3) := by decide +kernel
theorem dX8_record_37 : decode cX8_record 37 = .ok (.iconst (-1), 1) := by decide +kernel
theorem dX8_record_38 : decode cX8_record 38 = .ok (.ireturn, 1) := by decide +kernel
theorem dX8_record_39 : decode cX8_record 39 = .ok (.aload_n 0, 1) := by decide +kernel
theorem dX8_record_40 : decode cX8_record 40 = .ok (.getfield 27, 3) := by decide +kernel
theorem dX8_record_43 : decode cX8_record 43 = .ok (.getfield 111, 3) := by decide +kernel
theorem dX8_record_46 : decode cX8_record 46 = .ok (.iload_n 1, 1) := by decide +kernel
theorem dX8_record_47 : decode cX8_record 47 = .ok (.iload 4, 2) := by decide +kernel
theorem dX8_record_49 : decode cX8_record 49 = .ok (.invokevirtual 78, 3) := by decide +kernel
theorem dX8_record_52 : decode cX8_record 52 = .ok (.ifCond .ne 6, 3) := by decide +kernel
theorem dX8_record_55 : decode cX8_record 55 = .ok (.bipush (-2), 2) := by decide +kernel
theorem dX8_record_57 : decode cX8_record 57 = .ok (.ireturn, 1) := by decide +kernel
theorem dX8_record_58 : decode cX8_record 58 = .ok (.aload_n 0, 1) := by decide +kernel
theorem dX8_record_59 : decode cX8_record 59 = .ok (.getfield 32, 3) := by decide +kernel
theorem dX8_record_62 : decode cX8_record 62 = .ok (.iload_n 1, 1) := by decide +kernel
theorem dX8_record_63 : decode cX8_record 63 = .ok (.iload_n 2, 1) := by decide +kernel
theorem dX8_record_64 : decode cX8_record 64 = .ok (.iload_n 3, 1) := by decide +kernel
theorem dX8_record_65 : decode cX8_record 65 = .ok (.iload 4, 2) := by decide +kernel
theorem dX8_record_67 : decode cX8_record 67 = .ok (.invokevirtual 159, 3) := by decide +kernel
theorem dX8_record_70 : decode cX8_record 70 = .ok (.istore 5, 2) := by decide +kernel
theorem dX8_record_72 : decode cX8_record 72 = .ok (.iload 5, 2) := by decide +kernel
theorem dX8_record_74 : decode cX8_record 74 = .ok (.iconst (-1), 1) := by decide +kernel
theorem dX8_record_75 : decode cX8_record 75 = .ok (.if_icmp .ne 8, 3) := by decide +kernel
theorem dX8_record_78 : decode cX8_record 78 = .ok (.bipush (-4), 2) := by decide +kernel
theorem dX8_record_80 : decode cX8_record 80 = .ok (.goto 13, 3) := by decide +kernel
theorem dX8_record_83 : decode cX8_record 83 = .ok (.aload_n 0, 1) := by decide +kernel
theorem dX8_record_84 : decode cX8_record 84 = .ok (.getfield 32, 3) := by decide +kernel
theorem dX8_record_87 : decode cX8_record 87 = .ok (.getfield 164, 3) := by decide +kernel
theorem dX8_record_90 : decode cX8_record 90 = .ok (.iload 5, 2) := by decide +kernel
theorem dX8_record_92 : decode cX8_record 92 = .ok (.iaload, 1) := by decide +kernel
theorem dX8_record_93 : decode cX8_record 93 = .ok (.ireturn, 1) := by decide +kernel
theorem dX8_serial_0 : decode cX8_serial 0 = .ok (.aload_n 0, 1) := by decide +kernel
theorem dX8_serial_1 : decode cX8_serial 1 = .ok (.getfield 27, 3) := by decide +kernel
theorem dX8_serial_4 : decode cX8_serial 4 = .ok (.getfield 111, 3) := by decide +kernel
theorem dX8_serial_7 : decode cX8_serial 7 = .ok (.iload_n 1, 1) := by decide +kernel
theorem dX8_serial_8 : decode cX8_serial 8 = .ok (.invokevirtual 75, 3) := by decide +kernel
theorem dX8_serial_11 : decode cX8_serial 11 = .ok (.ifCond .eq 11, 3) := by decide +kernel
theorem dX8_serial_14 : decode cX8_serial 14 = .ok (.aload_n 0, 1) := by decide +kernel
theorem dX8_serial_15 : decode cX8_serial 15 = .ok (.iload_n 2, 1) := by decide +kernel
theorem dX8_serial_16 : decode cX8_serial 16 = .ok (.invokevirtual 90, 3) := by decide +kernel
theorem dX8_serial_19 : decode cX8_serial 19 = .ok (.ifCond .ne 5, 3) := by decide +kernel
theorem dX8_serial_22 : decode cX8_serial 22 = .ok (.iconst (-1), 1) := by decide +kernel
theorem dX8_serial_23 : decode cX8_serial 23 = .ok (.ireturn, 1) := by decide +kernel
theorem dX8_serial_24 : decode cX8_serial 24 = .ok (.aload_n 0, 1) := by decide +kernel
theorem dX8_serial_25 : decode cX8_serial 25 = .ok (.getfield 32, 3) := by decide +kernel
theorem dX8_serial_28 : decode cX8_serial 28 = .ok (.iload_n 1, 1) := by decide +kernel
theorem dX8_serial_29 : decode cX8_serial 29 = .ok (.iload_n 2, 1) := by decide +kernel
theorem dX8_serial_30 : decode cX8_serial 30 = .ok (.invokevirtual 167, 3) := by decide +kernel
theorem dX8_serial_33 : decode cX8_serial 33 = .ok (.ireturn, 1) := by decide +kernel
theorem dX8_change_0 : decode cX8_change 0 = .ok (.aload_n 0, 1) := by decide +kernel
theorem dX8_change_1 : decode cX8_change 1 = .ok (.getfield 27, 3) := by decide +kernel
theorem dX8_change_4 : decode cX8_change 4 = .ok (.getfield 111, 3) := by decide +kernel
theorem dX8_change_7 : decode cX8_change 7 = .ok (.iload_n 1, 1) := by decide +kernel
theorem dX8_change_8 : decode cX8_change 8 = .ok (.invokevirtual 75, 3) := by decide +kernel
theorem dX8_change_11 : decode cX8_change 11 = .ok (.ifCond .eq 16, 3) := by decide +kernel
theorem dX8_change_14 : decode cX8_change 14 = .ok (.iload_n 2, 1) := by decide +kernel
theorem dX8_change_15 : decode cX8_change 15 = .ok (.ifCond .lt 12, 3) := by decide +kernel
theorem dX8_change_18 : decode cX8_change 18 = .ok (.iload_n 3, 1) := by decide +kernel
theorem dX8_change_19 : decode cX8_change 19 = .ok (.ifCond .lt 8, 3) := by decide +kernel
theorem dX8_change_22 : decode cX8_change 22 = .ok (.iload_n 3, 1) := by decide +kernel
theorem dX8_change_23 : decode cX8_change 23 = .ok (.iconst 3, 1) := by decide +kernel
theorem dX8_change_24 : decode cX8_change 24 = .ok (.if_icmp .le 5, 3) := by decide +kernel
theorem dX8_change_27 : decode cX8_change 27 = .ok (.iconst (-1), 1) := by decide +kernel
theorem dX8_change_28 : decode cX8_change 28 = .ok (.ireturn, 1) := by decide +kernel
theorem dX8_change_29 : decode cX8_change 29 = .ok (.aload_n 0, 1) := by decide +kernel
theorem dX8_change_30 : decode cX8_change 30 = .ok (.getfield 32, 3) := by decide +kernel
theorem dX8_change_33 : decode cX8_change 33 = .ok (.iload_n 1, 1) := by decide +kernel
theorem dX8_change_34 : decode cX8_change 34 = .ok (.iload_n 2, 1) := by decide +kernel
theorem dX8_change_35 : decode cX8_change 35 = .ok (.invokevirtual 170, 3) := by decide +kernel
theorem dX8_change_38 : decode cX8_change 38 = .ok (.istore 4, 2) := by decide +kernel
theorem dX8_change_40 : decode cX8_change 40 = .ok (.iload 4, 2) := by decide +kernel
theorem dX8_change_42 : decode cX8_change 42 = .ok (.iconst (-1), 1) := by decide +kernel
theorem dX8_change_43 : decode cX8_change 43 = .ok (.if_icmp .ne 6, 3) := by decide +kernel
theorem dX8_change_46 : decode cX8_change 46 = .ok (.bipush (-4), 2) := by decide +kernel
theorem dX8_change_48 : decode cX8_change 48 = .ok (.ireturn, 1) := by decide +kernel
theorem dX8_change_49 : decode cX8_change 49 = .ok (.iload_n 3, 1) := by decide +kernel
theorem dX8_change_50 : decode cX8_change 50 = .ok (.tableswitch 62 0 2 #[26, 40, 51], 26) := by decide +kernel
theorem dX8_change_76 : decode cX8_change 76 = .ok (.aload_n 0, 1) := by decide +kernel
theorem dX8_change_77 : decode cX8_change 77 = .ok (.getfield 32, 3) := by decide +kernel
theorem dX8_change_80 : decode cX8_change 80 = .ok (.getfield 136, 3) := by decide +kernel
theorem dX8_change_83 : decode cX8_change 83 = .ok (.getfield 123, 3) := by decide +kernel
theorem dX8_change_86 : decode cX8_change 86 = .ok (.iload 4, 2) := by decide +kernel
theorem dX8_change_88 : decode cX8_change 88 = .ok (.iaload, 1) := by decide +kernel
theorem dX8_change_89 : decode cX8_change 89 = .ok (.ireturn, 1) := by decide +kernel
theorem dX8_change_90 : decode cX8_change 90 = .ok (.aload_n 0, 1) := by decide +kernel
theorem dX8_change_91 : decode cX8_change 91 = .ok (.getfield 32, 3) := by decide +kernel
theorem dX8_change_94 : decode cX8_change 94 = .ok (.getfield 173, 3) := by decide +kernel
theorem dX8_change_97 : decode cX8_change 97 = .ok (.iload 4, 2) := by decide +kernel
theorem dX8_change_99 : decode cX8_change 99 = .ok (.iaload, 1) := by decide +kernel
theorem dX8_change_100 : decode cX8_change 100 = .ok (.ireturn, 1) := by decide +kernel
theorem dX8_change_101 : decode cX8_change 101 = .ok (.aload_n 0, 1) := by decide +kernel
theorem dX8_change_102 : decode cX8_change 102 = .ok (.getfield 32, 3) := by decide +kernel
theorem dX8_change_105 : decode cX8_change 105 = .ok (.getfield 176, 3) := by decide +kernel
theorem dX8_change_108 : decode cX8_change 108 = .ok (.iload 4, 2) := by decide +kernel
theorem dX8_change_110 : decode cX8_change 110 = .ok (.iaload, 1) := by decide +kernel
theorem dX8_change_111 : decode cX8_change 111 = .ok (.ireturn, 1) := by decide +kernel
theorem dX8_change_112 : decode cX8_change 112 = .ok (.aload_n 0, 1) := by decide +kernel
theorem dX8_change_113 : decode cX8_change 113 = .ok (.getfield 32, 3) := by decide +kernel
theorem dX8_change_116 : decode cX8_change 116 = .ok (.getfield 164, 3) := by decide +kernel
theorem dX8_change_119 : decode cX8_change 119 = .ok (.iload 4, 2) := by decide +kernel
theorem dX8_change_121 : decode cX8_change 121 = .ok (.iaload, 1) := by decide +kernel
theorem dX8_change_122 : decode cX8_change 122 = .ok (.ireturn, 1) := by decide +kernel
theorem dX8_lay_0 : decode cX8_lay 0 = .ok (.aload_n 0, 1) := by decide +kernel
theorem dX8_lay_1 : decode cX8_lay 1 = .ok (.getfield 27, 3) := by decide +kernel
theorem dX8_lay_4 : decode cX8_lay 4 = .ok (.getfield 111, 3) := by decide +kernel
theorem dX8_lay_7 : decode cX8_lay 7 = .ok (.iload_n 1, 1) := by decide +kernel
theorem dX8_lay_8 : decode cX8_lay 8 = .ok (.invokevirtual 75, 3) := by decide +kernel
theorem dX8_lay_11 : decode cX8_lay 11 = .ok (.ifCond .ne 5, 3) := by decide +kernel
theorem dX8_lay_14 : decode cX8_lay 14 = .ok (.iconst (-1), 1) := by decide +kernel
theorem dX8_lay_15 : decode cX8_lay 15 = .ok (.ireturn, 1) := by decide +kernel
theorem dX8_lay_16 : decode cX8_lay 16 = .ok (.aload_n 0, 1) := by decide +kernel
theorem dX8_lay_17 : decode cX8_lay 17 = .ok (.getfield 27, 3) := by decide +kernel
theorem dX8_lay_20 : decode cX8_lay 20 = .ok (.getfield 111, 3) := by decide +kernel
theorem dX8_lay_23 : decode cX8_lay 23 = .ok (.iload_n 1, 1) := by decide +kernel
theorem dX8_lay_24 : decode cX8_lay 24 = .ok (.aload_n 0, 1) := by decide +kernel
theorem dX8_lay_25 : decode cX8_lay 25 = .ok (.getfield 47, 3) := by decide +kernel
theorem dX8_lay_28 : decode cX8_lay 28 = .ok (.invokevirtual 78, 3) := by decide +kernel
theorem dX8_lay_31 : decode cX8_lay 31 = .ok (.ifCond .eq 34, 3) := by decide +kernel
theorem dX8_lay_34 : decode cX8_lay 34 = .ok (.aload_n 0, 1) := by decide +kernel
theorem dX8_lay_35 : decode cX8_lay 35 = .ok (.getfield 43, 3) := by decide +kernel
theorem dX8_lay_38 : decode cX8_lay 38 = .ok (.invokevirtual 179, 3) := by decide +kernel
theorem dX8_lay_41 : decode cX8_lay 41 = .ok (.bipush (-4), 2) := by decide +kernel
theorem dX8_lay_43 : decode cX8_lay 43 = .ok (.if_icmp .ne 22, 3) := by decide +kernel
theorem dX8_lay_46 : decode cX8_lay 46 = .ok (.aload_n 0, 1) := by decide +kernel
theorem dX8_lay_47 : decode cX8_lay 47 = .ok (.getfield 43, 3) := by decide +kernel
theorem dX8_lay_50 : decode cX8_lay 50 = .ok (.aload_n 0, 1) := by decide +kernel
theorem dX8_lay_51 : decode cX8_lay 51 = .ok (.getfield 27, 3) := by decide +kernel
theorem dX8_lay_54 : decode cX8_lay 54 = .ok (.getfield 120, 3) := by decide +kernel
theorem dX8_lay_57 : decode cX8_lay 57 = .ok (.iload_n 1, 1) := by decide +kernel
theorem dX8_lay_58 : decode cX8_lay 58 = .ok (.iaload, 1) := by decide +kernel
theorem dX8_lay_59 : decode cX8_lay 59 = .ok (.invokevirtual 183, 3) := by decide +kernel
theorem dX8_lay_62 : decode cX8_lay 62 = .ok (.ifCond .ne 6, 3) := by decide +kernel
theorem dX8_lay_65 : decode cX8_lay 65 = .ok (.bipush (-2), 2) := by decide +kernel
theorem dX8_lay_67 : decode cX8_lay 67 = .ok (.ireturn, 1) := by decide +kernel
theorem dX8_lay_68 : decode cX8_lay 68 = .ok (.aload_n 0, 1) := by decide +kernel
theorem dX8_lay_69 : decode cX8_lay 69 = .ok (.getfield 32, 3) := by decide +kernel
theorem dX8_lay_72 : decode cX8_lay 72 = .ok (.getfield 136, 3) := by decide +kernel
theorem dX8_lay_75 : decode cX8_lay 75 = .ok (.aload_n 0, 1) := by decide +kernel
theorem dX8_lay_76 : decode cX8_lay 76 = .ok (.getfield 43, 3) := by decide +kernel
theorem dX8_lay_79 : decode cX8_lay 79 = .ok (.getfield 186, 3) := by decide +kernel
theorem dX8_lay_82 : decode cX8_lay 82 = .ok (.invokevirtual 189, 3) := by decide +kernel
theorem dX8_lay_85 : decode cX8_lay 85 = .ok (.ifCond .ne 6, 3) := by decide +kernel
theorem dX8_lay_88 : decode cX8_lay 88 = .ok (.bipush (-3), 2) := by decide +kernel
theorem dX8_lay_90 : decode cX8_lay 90 = .ok (.ireturn, 1) := by decide +kernel
theorem dX8_lay_91 : decode cX8_lay 91 = .ok (.aload_n 0, 1) := by decide +kernel
theorem dX8_lay_92 : decode cX8_lay 92 = .ok (.iload_n 1, 1) := by decide +kernel
theorem dX8_lay_93 : decode cX8_lay 93 = .ok (.invokevirtual 192, 3) := by decide +kernel
theorem dX8_lay_96 : decode cX8_lay 96 = .ok (.aload_n 0, 1) := by decide +kernel
theorem dX8_lay_97 : decode cX8_lay 97 = .ok (.getfield 32, 3) := by decide +kernel
theorem dX8_lay_100 : decode cX8_lay 100 = .ok (.iload_n 1, 1) := by decide +kernel
theorem dX8_lay_101 : decode cX8_lay 101 = .ok (.aload_n 0, 1) := by decide +kernel
theorem dX8_lay_102 : decode cX8_lay 102 = .ok (.getfield 47, 3) := by decide +kernel
theorem dX8_lay_105 : decode cX8_lay 105 = .ok (.invokevirtual 114, 3) := by decide +kernel
theorem dX8_lay_108 : decode cX8_lay 108 = .ok (.ireturn, 1) := by decide +kernel
theorem dX8_layChanges_0 : decode cX8_layChanges 0 = .ok (.iconst 0, 1) := by decide +kernel
theorem dX8_layChanges_1 : decode cX8_layChanges 1 = .ok (.istore_n 2, 1) := by decide +kernel
theorem dX8_layChanges_2 : decode cX8_layChanges 2 = .ok (.iload_n 2, 1) := by decide +kernel
theorem dX8_layChanges_3 : decode cX8_layChanges 3 = .ok (.aload_n 0, 1) := by decide +kernel
theorem dX8_layChanges_4 : decode cX8_layChanges 4 = .ok (.getfield 43, 3) := by decide +kernel
theorem dX8_layChanges_7 : decode cX8_layChanges 7 = .ok (.getfield 186, 3) := by decide +kernel
theorem dX8_layChanges_10 : decode cX8_layChanges 10 = .ok (.if_icmp .ge 112, 3) := by decide +kernel
theorem dX8_layChanges_13 : decode cX8_layChanges 13 = .ok (.aload_n 0, 1) := by decide +kernel
theorem dX8_layChanges_14 : decode cX8_layChanges 14 = .ok (.getfield 43, 3) := by decide +kernel
theorem dX8_layChanges_17 : decode cX8_layChanges 17 = .ok (.getfield 196, 3) := by decide +kernel
theorem dX8_layChanges_20 : decode cX8_layChanges 20 = .ok (.iload_n 2, 1) := by decide +kernel
theorem dX8_layChanges_21 : decode cX8_layChanges 21 = .ok (.iaload, 1) := by decide +kernel
theorem dX8_layChanges_22 : decode cX8_layChanges 22 = .ok (.iconst (-1), 1) := by decide +kernel
theorem dX8_layChanges_23 : decode cX8_layChanges 23 = .ok (.if_icmp .eq 45, 3) := by decide +kernel
theorem dX8_layChanges_26 : decode cX8_layChanges 26 = .ok (.aload_n 0, 1) := by decide +kernel
theorem dX8_layChanges_27 : decode cX8_layChanges 27 = .ok (.getfield 32, 3) := by decide +kernel
theorem dX8_layChanges_30 : decode cX8_layChanges 30 = .ok (.iload_n 1, 1) := by decide +kernel
theorem dX8_layChanges_31 : decode cX8_layChanges 31 = .ok (.aload_n 0, 1) := by decide +kernel
theorem dX8_layChanges_32 : decode cX8_layChanges 32 = .ok (.getfield 43, 3) := by decide +kernel
theorem dX8_layChanges_35 : decode cX8_layChanges 35 = .ok (.getfield 197, 3) := by decide +kernel
theorem dX8_layChanges_38 : decode cX8_layChanges 38 = .ok (.iload_n 2, 1) := by decide +kernel
theorem dX8_layChanges_39 : decode cX8_layChanges 39 = .ok (.iaload, 1) := by decide +kernel
theorem dX8_layChanges_40 : decode cX8_layChanges 40 = .ok (.aload_n 0, 1) := by decide +kernel
theorem dX8_layChanges_41 : decode cX8_layChanges 41 = .ok (.getfield 43, 3) := by decide +kernel
theorem dX8_layChanges_44 : decode cX8_layChanges 44 = .ok (.getfield 198, 3) := by decide +kernel
theorem dX8_layChanges_47 : decode cX8_layChanges 47 = .ok (.iload_n 2, 1) := by decide +kernel
theorem dX8_layChanges_48 : decode cX8_layChanges 48 = .ok (.iaload, 1) := by decide +kernel
theorem dX8_layChanges_49 : decode cX8_layChanges 49 = .ok (.aload_n 0, 1) := by decide +kernel
theorem dX8_layChanges_50 : decode cX8_layChanges 50 = .ok (.getfield 43, 3) := by decide +kernel
theorem dX8_layChanges_53 : decode cX8_layChanges 53 = .ok (.getfield 196, 3) := by decide +kernel
theorem dX8_layChanges_56 : decode cX8_layChanges 56 = .ok (.iload_n 2, 1) := by decide +kernel
theorem dX8_layChanges_57 : decode cX8_layChanges 57 = .ok (.iaload, 1) := by decide +kernel
theorem dX8_layChanges_58 : decode cX8_layChanges 58 = .ok (.aload_n 0, 1) := by decide +kernel
theorem dX8_layChanges_59 : decode cX8_layChanges 59 = .ok (.getfield 47, 3) := by decide +kernel
theorem dX8_layChanges_62 : decode cX8_layChanges 62 = .ok (.invokevirtual 152, 3) := by decide +kernel
theorem dX8_layChanges_65 : decode cX8_layChanges 65 = .ok (.goto 51, 3) := by decide +kernel
theorem dX8_layChanges_68 : decode cX8_layChanges 68 = .ok (.aload_n 0, 1) := by decide +kernel
theorem dX8_layChanges_69 : decode cX8_layChanges 69 = .ok (.getfield 32, 3) := by decide +kernel
theorem dX8_layChanges_72 : decode cX8_layChanges 72 = .ok (.iload_n 1, 1) := by decide +kernel
theorem dX8_layChanges_73 : decode cX8_layChanges 73 = .ok (.aload_n 0, 1) := by decide +kernel
theorem dX8_layChanges_74 : decode cX8_layChanges 74 = .ok (.getfield 43, 3) := by decide +kernel
theorem dX8_layChanges_77 : decode cX8_layChanges 77 = .ok (.getfield 197, 3) := by decide +kernel
theorem dX8_layChanges_80 : decode cX8_layChanges 80 = .ok (.iload_n 2, 1) := by decide +kernel
theorem dX8_layChanges_81 : decode cX8_layChanges 81 = .ok (.iaload, 1) := by decide +kernel
theorem dX8_layChanges_82 : decode cX8_layChanges 82 = .ok (.aload_n 0, 1) := by decide +kernel
theorem dX8_layChanges_83 : decode cX8_layChanges 83 = .ok (.getfield 43, 3) := by decide +kernel
theorem dX8_layChanges_86 : decode cX8_layChanges 86 = .ok (.getfield 198, 3) := by decide +kernel
theorem dX8_layChanges_89 : decode cX8_layChanges 89 = .ok (.iload_n 2, 1) := by decide +kernel
theorem dX8_layChanges_90 : decode cX8_layChanges 90 = .ok (.iaload, 1) := by decide +kernel
theorem dX8_layChanges_91 : decode cX8_layChanges 91 = .ok (.aload_n 0, 1) := by decide +kernel
theorem dX8_layChanges_92 : decode cX8_layChanges 92 = .ok (.getfield 47, 3) := by decide +kernel
theorem dX8_layChanges_95 : decode cX8_layChanges 95 = .ok (.invokevirtual 159, 3) := by decide +kernel
theorem dX8_layChanges_98 : decode cX8_layChanges 98 = .ok (.istore_n 3, 1) := by decide +kernel
theorem dX8_layChanges_99 : decode cX8_layChanges 99 = .ok (.iload_n 3, 1) := by decide +kernel
theorem dX8_layChanges_100 : decode cX8_layChanges 100 = .ok (.iconst (-1), 1) := by decide +kernel
theorem dX8_layChanges_101 : decode cX8_layChanges 101 = .ok (.if_icmp .eq 15, 3) := by decide +kernel
theorem dX8_layChanges_104 : decode cX8_layChanges 104 = .ok (.aload_n 0, 1) := by decide +kernel
theorem dX8_layChanges_105 : decode cX8_layChanges 105 = .ok (.getfield 32, 3) := by decide +kernel
theorem dX8_layChanges_108 : decode cX8_layChanges 108 = .ok (.iload_n 3, 1) := by decide +kernel
theorem dX8_layChanges_109 : decode cX8_layChanges 109 = .ok (.aload_n 0, 1) := by decide +kernel
theorem dX8_layChanges_110 : decode cX8_layChanges 110 = .ok (.getfield 47, 3) := by decide +kernel
theorem dX8_layChanges_113 : decode cX8_layChanges 113 = .ok (.invokevirtual 161, 3) := by decide +kernel
theorem dX8_layChanges_116 : decode cX8_layChanges 116 = .ok (.iinc 2 1, 3) := by decide +kernel
theorem dX8_layChanges_119 : decode cX8_layChanges 119 = .ok (.goto (-117), 3) := by decide +kernel
theorem dX8_layChanges_122 : decode cX8_layChanges 122 = .ok (.return_, 1) := by decide +kernel
theorem dX8_answer_0 : decode cX8_answer 0 = .ok (.iload_n 1, 1) := by decide +kernel
theorem dX8_answer_1 : decode cX8_answer 1 = .ok (.invokestatic 55, 3) := by decide +kernel
theorem dX8_answer_4 : decode cX8_answer 4 = .ok (.ifCond .eq 20, 3) := by decide +kernel
theorem dX8_answer_7 : decode cX8_answer 7 = .ok (.iload_n 2, 1) := by decide +kernel
theorem dX8_answer_8 : decode cX8_answer 8 = .ok (.iload_n 3, 1) := by decide +kernel
theorem dX8_answer_9 : decode cX8_answer 9 = .ok (.invokestatic 199, 3) := by decide +kernel
theorem dX8_answer_12 : decode cX8_answer 12 = .ok (.ifCond .eq 12, 3) := by decide +kernel
theorem dX8_answer_15 : decode cX8_answer 15 = .ok (.aload_n 0, 1) := by decide +kernel
theorem dX8_answer_16 : decode cX8_answer 16 = .ok (.iload 4, 2) := by decide +kernel
theorem dX8_answer_18 : decode cX8_answer 18 = .ok (.invokevirtual 90, 3) := by decide +kernel
theorem dX8_answer_21 : decode cX8_answer 21 = .ok (.ifCond .ne 5, 3) := by decide +kernel
theorem dX8_answer_24 : decode cX8_answer 24 = .ok (.iconst (-1), 1) := by decide +kernel
theorem dX8_answer_25 : decode cX8_answer 25 = .ok (.ireturn, 1) := by decide +kernel
theorem dX8_answer_26 : decode cX8_answer 26 = .ok (.aload_n 0, 1) := by decide +kernel
theorem dX8_answer_27 : decode cX8_answer 27 = .ok (.iload_n 1, 1) := by decide +kernel
theorem dX8_answer_28 : decode cX8_answer 28 = .ok (.iload_n 2, 1) := by decide +kernel
theorem dX8_answer_29 : decode cX8_answer 29 = .ok (.iload_n 3, 1) := by decide +kernel
theorem dX8_answer_30 : decode cX8_answer 30 = .ok (.iload 4, 2) := by decide +kernel
theorem dX8_answer_32 : decode cX8_answer 32 = .ok (.invokevirtual 202, 3) := by decide +kernel
theorem dX8_answer_35 : decode cX8_answer 35 = .ok (.ireturn, 1) := by decide +kernel
theorem dX8_answerFor_0 : decode cX8_answerFor 0 = .ok (.aload_n 0, 1) := by decide +kernel
theorem dX8_answerFor_1 : decode cX8_answerFor 1 = .ok (.getfield 19, 3) := by decide +kernel
theorem dX8_answerFor_4 : decode cX8_answerFor 4 = .ok (.aload_n 0, 1) := by decide +kernel
theorem dX8_answerFor_5 : decode cX8_answerFor 5 = .ok (.getfield 10, 3) := by decide +kernel
theorem dX8_answerFor_8 : decode cX8_answerFor 8 = .ok (.iload_n 1, 1) := by decide +kernel
theorem dX8_answerFor_9 : decode cX8_answerFor 9 = .ok (.iload 4, 2) := by decide +kernel
theorem dX8_answerFor_11 : decode cX8_answerFor 11 = .ok (.invokevirtual 93, 3) := by decide +kernel
theorem dX8_answerFor_14 : decode cX8_answerFor 14 = .ok (.iload_n 2, 1) := by decide +kernel
theorem dX8_answerFor_15 : decode cX8_answerFor 15 = .ok (.iload_n 3, 1) := by decide +kernel
theorem dX8_answerFor_16 : decode cX8_answerFor 16 = .ok (.iload 4, 2) := by decide +kernel
theorem dX8_answerFor_18 : decode cX8_answerFor 18 = .ok (.invokevirtual 205, 3) := by decide +kernel
theorem dX8_answerFor_21 : decode cX8_answerFor 21 = .ok (.ireturn, 1) := by decide +kernel
theorem dX8_viewAnswer_0 : decode cX8_viewAnswer 0 = .ok (.iload_n 1, 1) := by decide +kernel
theorem dX8_viewAnswer_1 : decode cX8_viewAnswer 1 = .ok (.invokestatic 51, 3) := by decide +kernel
theorem dX8_viewAnswer_4 : decode cX8_viewAnswer 4 = .ok (.ifCond .eq 20, 3) := by decide +kernel
theorem dX8_viewAnswer_7 : decode cX8_viewAnswer 7 = .ok (.iload_n 2, 1) := by decide +kernel
theorem dX8_viewAnswer_8 : decode cX8_viewAnswer 8 = .ok (.iload_n 3, 1) := by decide +kernel
theorem dX8_viewAnswer_9 : decode cX8_viewAnswer 9 = .ok (.invokestatic 199, 3) := by decide +kernel
theorem dX8_viewAnswer_12 : decode cX8_viewAnswer 12 = .ok (.ifCond .eq 12, 3) := by decide +kernel
theorem dX8_viewAnswer_15 : decode cX8_viewAnswer 15 = .ok (.aload_n 0, 1) := by decide +kernel
theorem dX8_viewAnswer_16 : decode cX8_viewAnswer 16 = .ok (.iload 4, 2) := by decide +kernel
theorem dX8_viewAnswer_18 : decode cX8_viewAnswer 18 = .ok (.invokevirtual 90, 3) := by decide +kernel
theorem dX8_viewAnswer_21 : decode cX8_viewAnswer 21 = .ok (.ifCond .ne 5, 3) := by decide +kernel
theorem dX8_viewAnswer_24 : decode cX8_viewAnswer 24 = .ok (.iconst (-1), 1) := by decide +kernel
theorem dX8_viewAnswer_25 : decode cX8_viewAnswer 25 = .ok (.ireturn, 1) := by decide +kernel
theorem dX8_viewAnswer_26 : decode cX8_viewAnswer 26 = .ok (.aload_n 0, 1) := by decide +kernel
theorem dX8_viewAnswer_27 : decode cX8_viewAnswer 27 = .ok (.getfield 19, 3) := by decide +kernel
theorem dX8_viewAnswer_30 : decode cX8_viewAnswer 30 = .ok (.iload_n 1, 1) := by decide +kernel
theorem dX8_viewAnswer_31 : decode cX8_viewAnswer 31 = .ok (.iload_n 2, 1) := by decide +kernel
theorem dX8_viewAnswer_32 : decode cX8_viewAnswer 32 = .ok (.iload_n 3, 1) := by decide +kernel
theorem dX8_viewAnswer_33 : decode cX8_viewAnswer 33 = .ok (.iload 4, 2) := by decide +kernel
theorem dX8_viewAnswer_35 : decode cX8_viewAnswer 35 = .ok (.invokevirtual 205, 3) := by decide +kernel
theorem dX8_viewAnswer_38 : decode cX8_viewAnswer 38 = .ok (.ireturn, 1) := by decide +kernel
theorem dX8_zoneFor_0 : decode cX8_zoneFor 0 = .ok (.iload_n 1, 1) := by decide +kernel
theorem dX8_zoneFor_1 : decode cX8_zoneFor 1 = .ok (.invokestatic 51, 3) := by decide +kernel
theorem dX8_zoneFor_4 : decode cX8_zoneFor 4 = .ok (.ifCond .eq 18, 3) := by decide +kernel
theorem dX8_zoneFor_7 : decode cX8_zoneFor 7 = .ok (.iload_n 2, 1) := by decide +kernel
theorem dX8_zoneFor_8 : decode cX8_zoneFor 8 = .ok (.invokestatic 97, 3) := by decide +kernel
theorem dX8_zoneFor_11 : decode cX8_zoneFor 11 = .ok (.ifCond .eq 11, 3) := by decide +kernel
theorem dX8_zoneFor_14 : decode cX8_zoneFor 14 = .ok (.aload_n 0, 1) := by decide +kernel
end
section
theorem dX8_zoneFor_15 : decode cX8_zoneFor 15 = .ok (.iload_n 3, 1) := by decide +kernel
theorem dX8_zoneFor_16 : decode cX8_zoneFor 16 = .ok (.invokevirtual 90, 3) := by decide +kernel
theorem dX8_zoneFor_19 : decode cX8_zoneFor 19 = .ok (.ifCond .ne 5, 3) := by decide +kernel
theorem dX8_zoneFor_22 : decode cX8_zoneFor 22 = .ok (.iconst (-1), 1) := by decide +kernel
theorem dX8_zoneFor_23 : decode cX8_zoneFor 23 = .ok (.ireturn, 1) := by decide +kernel
theorem dX8_zoneFor_24 : decode cX8_zoneFor 24 = .ok (.aload_n 0, 1) := by decide +kernel
theorem dX8_zoneFor_25 : decode cX8_zoneFor 25 = .ok (.getfield 27, 3) := by decide +kernel
theorem dX8_zoneFor_28 : decode cX8_zoneFor 28 = .ok (.iload_n 1, 1) := by decide +kernel
theorem dX8_zoneFor_29 : decode cX8_zoneFor 29 = .ok (.iload_n 2, 1) := by decide +kernel
theorem dX8_zoneFor_30 : decode cX8_zoneFor 30 = .ok (.iload_n 3, 1) := by decide +kernel
theorem dX8_zoneFor_31 : decode cX8_zoneFor 31 = .ok (.invokevirtual 208, 3) := by decide +kernel
theorem dX8_zoneFor_34 : decode cX8_zoneFor 34 = .ok (.istore 4, 2) := by decide +kernel
theorem dX8_zoneFor_36 : decode cX8_zoneFor 36 = .ok (.iload 4, 2) := by decide +kernel
theorem dX8_zoneFor_38 : decode cX8_zoneFor 38 = .ok (.iconst (-1), 1) := by decide +kernel
theorem dX8_zoneFor_39 : decode cX8_zoneFor 39 = .ok (.if_icmp .ne 8, 3) := by decide +kernel
theorem dX8_zoneFor_42 : decode cX8_zoneFor 42 = .ok (.bipush (-4), 2) := by decide +kernel
theorem dX8_zoneFor_44 : decode cX8_zoneFor 44 = .ok (.goto 5, 3) := by decide +kernel
theorem dX8_zoneFor_47 : decode cX8_zoneFor 47 = .ok (.iload 4, 2) := by decide +kernel
theorem dX8_zoneFor_49 : decode cX8_zoneFor 49 = .ok (.ireturn, 1) := by decide +kernel
theorem dX8_source_0 : decode cX8_source 0 = .ok (.iload_n 1, 1) := by decide +kernel
theorem dX8_source_1 : decode cX8_source 1 = .ok (.invokestatic 51, 3) := by decide +kernel
theorem dX8_source_4 : decode cX8_source 4 = .ok (.ifCond .eq 20, 3) := by decide +kernel
theorem dX8_source_7 : decode cX8_source 7 = .ok (.iload_n 2, 1) := by decide +kernel
theorem dX8_source_8 : decode cX8_source 8 = .ok (.iload_n 3, 1) := by decide +kernel
theorem dX8_source_9 : decode cX8_source 9 = .ok (.invokestatic 199, 3) := by decide +kernel
theorem dX8_source_12 : decode cX8_source 12 = .ok (.ifCond .eq 12, 3) := by decide +kernel
theorem dX8_source_15 : decode cX8_source 15 = .ok (.aload_n 0, 1) := by decide +kernel
theorem dX8_source_16 : decode cX8_source 16 = .ok (.iload 4, 2) := by decide +kernel
theorem dX8_source_18 : decode cX8_source 18 = .ok (.invokevirtual 90, 3) := by decide +kernel
theorem dX8_source_21 : decode cX8_source 21 = .ok (.ifCond .ne 5, 3) := by decide +kernel
theorem dX8_source_24 : decode cX8_source 24 = .ok (.iconst (-1), 1) := by decide +kernel
theorem dX8_source_25 : decode cX8_source 25 = .ok (.ireturn, 1) := by decide +kernel
theorem dX8_source_26 : decode cX8_source 26 = .ok (.aload_n 0, 1) := by decide +kernel
theorem dX8_source_27 : decode cX8_source 27 = .ok (.getfield 19, 3) := by decide +kernel
theorem dX8_source_30 : decode cX8_source 30 = .ok (.iload_n 1, 1) := by decide +kernel
theorem dX8_source_31 : decode cX8_source 31 = .ok (.iload_n 2, 1) := by decide +kernel
theorem dX8_source_32 : decode cX8_source 32 = .ok (.iload_n 3, 1) := by decide +kernel
theorem dX8_source_33 : decode cX8_source 33 = .ok (.iload 4, 2) := by decide +kernel
theorem dX8_source_35 : decode cX8_source 35 = .ok (.invokevirtual 211, 3) := by decide +kernel
theorem dX8_source_38 : decode cX8_source 38 = .ok (.istore 5, 2) := by decide +kernel
theorem dX8_source_40 : decode cX8_source 40 = .ok (.iload 5, 2) := by decide +kernel
theorem dX8_source_42 : decode cX8_source 42 = .ok (.ifCond .ge 8, 3) := by decide +kernel
theorem dX8_source_45 : decode cX8_source 45 = .ok (.bipush (-4), 2) := by decide +kernel
theorem dX8_source_47 : decode cX8_source 47 = .ok (.goto 13, 3) := by decide +kernel
theorem dX8_source_50 : decode cX8_source 50 = .ok (.aload_n 0, 1) := by decide +kernel
theorem dX8_source_51 : decode cX8_source 51 = .ok (.getfield 32, 3) := by decide +kernel
theorem dX8_source_54 : decode cX8_source 54 = .ok (.getfield 173, 3) := by decide +kernel
theorem dX8_source_57 : decode cX8_source 57 = .ok (.iload 5, 2) := by decide +kernel
theorem dX8_source_59 : decode cX8_source 59 = .ok (.iaload, 1) := by decide +kernel
theorem dX8_source_60 : decode cX8_source 60 = .ok (.ireturn, 1) := by decide +kernel
theorem dX8_differences_0 : decode cX8_differences 0 = .ok (.iload_n 1, 1) := by decide +kernel
theorem dX8_differences_1 : decode cX8_differences 1 = .ok (.invokestatic 51, 3) := by decide +kernel
theorem dX8_differences_4 : decode cX8_differences 4 = .ok (.ifCond .eq 27, 3) := by decide +kernel
theorem dX8_differences_7 : decode cX8_differences 7 = .ok (.iload_n 2, 1) := by decide +kernel
theorem dX8_differences_8 : decode cX8_differences 8 = .ok (.invokestatic 156, 3) := by decide +kernel
theorem dX8_differences_11 : decode cX8_differences 11 = .ok (.ifCond .eq 20, 3) := by decide +kernel
theorem dX8_differences_14 : decode cX8_differences 14 = .ok (.aload_n 0, 1) := by decide +kernel
theorem dX8_differences_15 : decode cX8_differences 15 = .ok (.iload_n 3, 1) := by decide +kernel
theorem dX8_differences_16 : decode cX8_differences 16 = .ok (.invokevirtual 90, 3) := by decide +kernel
theorem dX8_differences_19 : decode cX8_differences 19 = .ok (.ifCond .eq 12, 3) := by decide +kernel
theorem dX8_differences_22 : decode cX8_differences 22 = .ok (.aload_n 0, 1) := by decide +kernel
theorem dX8_differences_23 : decode cX8_differences 23 = .ok (.iload 4, 2) := by decide +kernel
theorem dX8_differences_25 : decode cX8_differences 25 = .ok (.invokevirtual 90, 3) := by decide +kernel
theorem dX8_differences_28 : decode cX8_differences 28 = .ok (.ifCond .ne 5, 3) := by decide +kernel
theorem dX8_differences_31 : decode cX8_differences 31 = .ok (.iconst (-1), 1) := by decide +kernel
theorem dX8_differences_32 : decode cX8_differences 32 = .ok (.ireturn, 1) := by decide +kernel
theorem dX8_differences_33 : decode cX8_differences 33 = .ok (.aload_n 0, 1) := by decide +kernel
theorem dX8_differences_34 : decode cX8_differences 34 = .ok (.iload_n 1, 1) := by decide +kernel
theorem dX8_differences_35 : decode cX8_differences 35 = .ok (.iload_n 3, 1) := by decide +kernel
theorem dX8_differences_36 : decode cX8_differences 36 = .ok (.iload_n 1, 1) := by decide +kernel
theorem dX8_differences_37 : decode cX8_differences 37 = .ok (.iload 4, 2) := by decide +kernel
theorem dX8_differences_39 : decode cX8_differences 39 = .ok (.iload_n 2, 1) := by decide +kernel
theorem dX8_differences_40 : decode cX8_differences 40 = .ok (.invokevirtual 214, 3) := by decide +kernel
theorem dX8_differences_43 : decode cX8_differences 43 = .ok (.ireturn, 1) := by decide +kernel
theorem dX8_difference_0 : decode cX8_difference 0 = .ok (.iload_n 1, 1) := by decide +kernel
theorem dX8_difference_1 : decode cX8_difference 1 = .ok (.invokestatic 51, 3) := by decide +kernel
theorem dX8_difference_4 : decode cX8_difference 4 = .ok (.ifCond .eq 32, 3) := by decide +kernel
theorem dX8_difference_7 : decode cX8_difference 7 = .ok (.iload_n 2, 1) := by decide +kernel
theorem dX8_difference_8 : decode cX8_difference 8 = .ok (.invokestatic 156, 3) := by decide +kernel
theorem dX8_difference_11 : decode cX8_difference 11 = .ok (.ifCond .eq 25, 3) := by decide +kernel
theorem dX8_difference_14 : decode cX8_difference 14 = .ok (.aload_n 0, 1) := by decide +kernel
theorem dX8_difference_15 : decode cX8_difference 15 = .ok (.iload_n 3, 1) := by decide +kernel
theorem dX8_difference_16 : decode cX8_difference 16 = .ok (.invokevirtual 90, 3) := by decide +kernel
theorem dX8_difference_19 : decode cX8_difference 19 = .ok (.ifCond .eq 17, 3) := by decide +kernel
theorem dX8_difference_22 : decode cX8_difference 22 = .ok (.aload_n 0, 1) := by decide +kernel
theorem dX8_difference_23 : decode cX8_difference 23 = .ok (.iload 4, 2) := by decide +kernel
theorem dX8_difference_25 : decode cX8_difference 25 = .ok (.invokevirtual 90, 3) := by decide +kernel
theorem dX8_difference_28 : decode cX8_difference 28 = .ok (.ifCond .eq 8, 3) := by decide +kernel
theorem dX8_difference_31 : decode cX8_difference 31 = .ok (.iload 5, 2) := by decide +kernel
theorem dX8_difference_33 : decode cX8_difference 33 = .ok (.ifCond .ge 5, 3) := by decide +kernel
theorem dX8_difference_36 : decode cX8_difference 36 = .ok (.iconst (-1), 1) := by decide +kernel
theorem dX8_difference_37 : decode cX8_difference 37 = .ok (.ireturn, 1) := by decide +kernel
theorem dX8_difference_38 : decode cX8_difference 38 = .ok (.iconst 0, 1) := by decide +kernel
theorem dX8_difference_39 : decode cX8_difference 39 = .ok (.istore 6, 2) := by decide +kernel
theorem dX8_difference_41 : decode cX8_difference 41 = .ok (.iconst 1, 1) := by decide +kernel
theorem dX8_difference_42 : decode cX8_difference 42 = .ok (.istore 7, 2) := by decide +kernel
theorem dX8_difference_44 : decode cX8_difference 44 = .ok (.iload 7, 2) := by decide +kernel
theorem dX8_difference_46 : decode cX8_difference 46 = .ok (.bipush 124, 2) := by decide +kernel
theorem dX8_difference_48 : decode cX8_difference 48 = .ok (.if_icmp .gt 58, 3) := by decide +kernel
theorem dX8_difference_51 : decode cX8_difference 51 = .ok (.iload 7, 2) := by decide +kernel
theorem dX8_difference_53 : decode cX8_difference 53 = .ok (.invokestatic 97, 3) := by decide +kernel
theorem dX8_difference_56 : decode cX8_difference 56 = .ok (.ifCond .eq 44, 3) := by decide +kernel
theorem dX8_difference_59 : decode cX8_difference 59 = .ok (.aload_n 0, 1) := by decide +kernel
theorem dX8_difference_60 : decode cX8_difference 60 = .ok (.getfield 19, 3) := by decide +kernel
theorem dX8_difference_63 : decode cX8_difference 63 = .ok (.iload_n 1, 1) := by decide +kernel
theorem dX8_difference_64 : decode cX8_difference 64 = .ok (.iload 7, 2) := by decide +kernel
theorem dX8_difference_66 : decode cX8_difference 66 = .ok (.iload_n 2, 1) := by decide +kernel
theorem dX8_difference_67 : decode cX8_difference 67 = .ok (.iload_n 3, 1) := by decide +kernel
theorem dX8_difference_68 : decode cX8_difference 68 = .ok (.invokevirtual 205, 3) := by decide +kernel
theorem dX8_difference_71 : decode cX8_difference 71 = .ok (.aload_n 0, 1) := by decide +kernel
theorem dX8_difference_72 : decode cX8_difference 72 = .ok (.getfield 19, 3) := by decide +kernel
theorem dX8_difference_75 : decode cX8_difference 75 = .ok (.iload_n 1, 1) := by decide +kernel
theorem dX8_difference_76 : decode cX8_difference 76 = .ok (.iload 7, 2) := by decide +kernel
theorem dX8_difference_78 : decode cX8_difference 78 = .ok (.iload_n 2, 1) := by decide +kernel
theorem dX8_difference_79 : decode cX8_difference 79 = .ok (.iload 4, 2) := by decide +kernel
theorem dX8_difference_81 : decode cX8_difference 81 = .ok (.invokevirtual 205, 3) := by decide +kernel
theorem dX8_difference_84 : decode cX8_difference 84 = .ok (.if_icmp .eq 16, 3) := by decide +kernel
theorem dX8_difference_87 : decode cX8_difference 87 = .ok (.iload 6, 2) := by decide +kernel
theorem dX8_difference_89 : decode cX8_difference 89 = .ok (.iload 5, 2) := by decide +kernel
theorem dX8_difference_91 : decode cX8_difference 91 = .ok (.if_icmp .ne 6, 3) := by decide +kernel
theorem dX8_difference_94 : decode cX8_difference 94 = .ok (.iload 7, 2) := by decide +kernel
theorem dX8_difference_96 : decode cX8_difference 96 = .ok (.ireturn, 1) := by decide +kernel
theorem dX8_difference_97 : decode cX8_difference 97 = .ok (.iinc 6 1, 3) := by decide +kernel
theorem dX8_difference_100 : decode cX8_difference 100 = .ok (.iinc 7 1, 3) := by decide +kernel
theorem dX8_difference_103 : decode cX8_difference 103 = .ok (.goto (-59), 3) := by decide +kernel
theorem dX8_difference_106 : decode cX8_difference 106 = .ok (.bipush (-4), 2) := by decide +kernel
theorem dX8_difference_108 : decode cX8_difference 108 = .ok (.ireturn, 1) := by decide +kernel
theorem dX8_split_0 : decode cX8_split 0 = .ok (.iload_n 1, 1) := by decide +kernel
theorem dX8_split_1 : decode cX8_split 1 = .ok (.invokestatic 51, 3) := by decide +kernel
theorem dX8_split_4 : decode cX8_split 4 = .ok (.ifCond .eq 26, 3) := by decide +kernel
theorem dX8_split_7 : decode cX8_split 7 = .ok (.iload_n 2, 1) := by decide +kernel
theorem dX8_split_8 : decode cX8_split 8 = .ok (.invokestatic 51, 3) := by decide +kernel
theorem dX8_split_11 : decode cX8_split 11 = .ok (.ifCond .eq 19, 3) := by decide +kernel
theorem dX8_split_14 : decode cX8_split 14 = .ok (.iload_n 3, 1) := by decide +kernel
theorem dX8_split_15 : decode cX8_split 15 = .ok (.invokestatic 156, 3) := by decide +kernel
theorem dX8_split_18 : decode cX8_split 18 = .ok (.ifCond .eq 12, 3) := by decide +kernel
theorem dX8_split_21 : decode cX8_split 21 = .ok (.aload_n 0, 1) := by decide +kernel
theorem dX8_split_22 : decode cX8_split 22 = .ok (.iload 4, 2) := by decide +kernel
theorem dX8_split_24 : decode cX8_split 24 = .ok (.invokevirtual 90, 3) := by decide +kernel
theorem dX8_split_27 : decode cX8_split 27 = .ok (.ifCond .ne 5, 3) := by decide +kernel
theorem dX8_split_30 : decode cX8_split 30 = .ok (.iconst (-1), 1) := by decide +kernel
theorem dX8_split_31 : decode cX8_split 31 = .ok (.ireturn, 1) := by decide +kernel
theorem dX8_split_32 : decode cX8_split 32 = .ok (.aload_n 0, 1) := by decide +kernel
theorem dX8_split_33 : decode cX8_split 33 = .ok (.iload_n 1, 1) := by decide +kernel
theorem dX8_split_34 : decode cX8_split 34 = .ok (.iload 4, 2) := by decide +kernel
theorem dX8_split_36 : decode cX8_split 36 = .ok (.iload_n 2, 1) := by decide +kernel
theorem dX8_split_37 : decode cX8_split 37 = .ok (.iload 4, 2) := by decide +kernel
theorem dX8_split_39 : decode cX8_split 39 = .ok (.iload_n 3, 1) := by decide +kernel
theorem dX8_split_40 : decode cX8_split 40 = .ok (.invokevirtual 214, 3) := by decide +kernel
theorem dX8_split_43 : decode cX8_split 43 = .ok (.ireturn, 1) := by decide +kernel
theorem dX8_countDiffering_0 : decode cX8_countDiffering 0 = .ok (.iconst 0, 1) := by decide +kernel
theorem dX8_countDiffering_1 : decode cX8_countDiffering 1 = .ok (.istore 6, 2) := by decide +kernel
theorem dX8_countDiffering_3 : decode cX8_countDiffering 3 = .ok (.iconst 1, 1) := by decide +kernel
theorem dX8_countDiffering_4 : decode cX8_countDiffering 4 = .ok (.istore 7, 2) := by decide +kernel
theorem dX8_countDiffering_6 : decode cX8_countDiffering 6 = .ok (.iload 7, 2) := by decide +kernel
theorem dX8_countDiffering_8 : decode cX8_countDiffering 8 = .ok (.bipush 124, 2) := by decide +kernel
theorem dX8_countDiffering_10 : decode cX8_countDiffering 10 = .ok (.if_icmp .gt 50, 3) := by decide +kernel
theorem dX8_countDiffering_13 : decode cX8_countDiffering 13 = .ok (.iload 7, 2) := by decide +kernel
theorem dX8_countDiffering_15 : decode cX8_countDiffering 15 = .ok (.invokestatic 97, 3) := by decide +kernel
theorem dX8_countDiffering_18 : decode cX8_countDiffering 18 = .ok (.ifCond .eq 36, 3) := by decide +kernel
theorem dX8_countDiffering_21 : decode cX8_countDiffering 21 = .ok (.aload_n 0, 1) := by decide +kernel
theorem dX8_countDiffering_22 : decode cX8_countDiffering 22 = .ok (.getfield 19, 3) := by decide +kernel
theorem dX8_countDiffering_25 : decode cX8_countDiffering 25 = .ok (.iload_n 1, 1) := by decide +kernel
theorem dX8_countDiffering_26 : decode cX8_countDiffering 26 = .ok (.iload 7, 2) := by decide +kernel
theorem dX8_countDiffering_28 : decode cX8_countDiffering 28 = .ok (.iload 5, 2) := by decide +kernel
theorem dX8_countDiffering_30 : decode cX8_countDiffering 30 = .ok (.iload_n 2, 1) := by decide +kernel
theorem dX8_countDiffering_31 : decode cX8_countDiffering 31 = .ok (.invokevirtual 205, 3) := by decide +kernel
theorem dX8_countDiffering_34 : decode cX8_countDiffering 34 = .ok (.aload_n 0, 1) := by decide +kernel
theorem dX8_countDiffering_35 : decode cX8_countDiffering 35 = .ok (.getfield 19, 3) := by decide +kernel
theorem dX8_countDiffering_38 : decode cX8_countDiffering 38 = .ok (.iload_n 3, 1) := by decide +kernel
theorem dX8_countDiffering_39 : decode cX8_countDiffering 39 = .ok (.iload 7, 2) := by decide +kernel
theorem dX8_countDiffering_41 : decode cX8_countDiffering 41 = .ok (.iload 5, 2) := by decide +kernel
theorem dX8_countDiffering_43 : decode cX8_countDiffering 43 = .ok (.iload 4, 2) := by decide +kernel
theorem dX8_countDiffering_45 : decode cX8_countDiffering 45 = .ok (.invokevirtual 205, 3) := by decide +kernel
theorem dX8_countDiffering_48 : decode cX8_countDiffering 48 = .ok (.if_icmp .eq 6, 3) := by decide +kernel
theorem dX8_countDiffering_51 : decode cX8_countDiffering 51 = .ok (.iinc 6 1, 3) := by decide +kernel
theorem dX8_countDiffering_54 : decode cX8_countDiffering 54 = .ok (.iinc 7 1, 3) := by decide +kernel
theorem dX8_countDiffering_57 : decode cX8_countDiffering 57 = .ok (.goto (-51), 3) := by decide +kernel
theorem dX8_countDiffering_60 : decode cX8_countDiffering 60 = .ok (.iload 6, 2) := by decide +kernel
theorem dX8_countDiffering_62 : decode cX8_countDiffering 62 = .ok (.ireturn, 1) := by decide +kernel
theorem dX8_since_0 : decode cX8_since 0 = .ok (.iload_n 1, 1) := by decide +kernel
theorem dX8_since_1 : decode cX8_since 1 = .ok (.invokestatic 51, 3) := by decide +kernel
theorem dX8_since_4 : decode cX8_since 4 = .ok (.ifCond .eq 11, 3) := by decide +kernel
theorem dX8_since_7 : decode cX8_since 7 = .ok (.iload_n 2, 1) := by decide +kernel
theorem dX8_since_8 : decode cX8_since 8 = .ok (.iload_n 3, 1) := by decide +kernel
theorem dX8_since_9 : decode cX8_since 9 = .ok (.invokestatic 199, 3) := by decide +kernel
theorem dX8_since_12 : decode cX8_since 12 = .ok (.ifCond .ne 5, 3) := by decide +kernel
theorem dX8_since_15 : decode cX8_since 15 = .ok (.iconst (-1), 1) := by decide +kernel
theorem dX8_since_16 : decode cX8_since 16 = .ok (.ireturn, 1) := by decide +kernel
theorem dX8_since_17 : decode cX8_since 17 = .ok (.aload_n 0, 1) := by decide +kernel
theorem dX8_since_18 : decode cX8_since 18 = .ok (.getfield 19, 3) := by decide +kernel
theorem dX8_since_21 : decode cX8_since 21 = .ok (.iload_n 1, 1) := by decide +kernel
theorem dX8_since_22 : decode cX8_since 22 = .ok (.iload_n 2, 1) := by decide +kernel
theorem dX8_since_23 : decode cX8_since 23 = .ok (.iload_n 3, 1) := by decide +kernel
theorem dX8_since_24 : decode cX8_since 24 = .ok (.aload_n 0, 1) := by decide +kernel
theorem dX8_since_25 : decode cX8_since 25 = .ok (.getfield 47, 3) := by decide +kernel
theorem dX8_since_28 : decode cX8_since 28 = .ok (.invokevirtual 205, 3) := by decide +kernel
theorem dX8_since_31 : decode cX8_since 31 = .ok (.istore 4, 2) := by decide +kernel
theorem dX8_since_33 : decode cX8_since 33 = .ok (.aload_n 0, 1) := by decide +kernel
theorem dX8_since_34 : decode cX8_since 34 = .ok (.getfield 19, 3) := by decide +kernel
theorem dX8_since_37 : decode cX8_since 37 = .ok (.aload_n 0, 1) := by decide +kernel
theorem dX8_since_38 : decode cX8_since 38 = .ok (.getfield 47, 3) := by decide +kernel
theorem dX8_since_41 : decode cX8_since 41 = .ok (.invokevirtual 218, 3) := by decide +kernel
theorem dX8_since_44 : decode cX8_since 44 = .ok (.istore 5, 2) := by decide +kernel
theorem dX8_since_46 : decode cX8_since 46 = .ok (.iconst 0, 1) := by decide +kernel
theorem dX8_since_47 : decode cX8_since 47 = .ok (.istore 6, 2) := by decide +kernel
theorem dX8_since_49 : decode cX8_since 49 = .ok (.iload 6, 2) := by decide +kernel
theorem dX8_since_51 : decode cX8_since 51 = .ok (.sipush 9999, 3) := by decide +kernel
theorem dX8_since_54 : decode cX8_since 54 = .ok (.if_icmp .ge 49, 3) := by decide +kernel
theorem dX8_since_57 : decode cX8_since 57 = .ok (.iload 5, 2) := by decide +kernel
theorem dX8_since_59 : decode cX8_since 59 = .ok (.ifCond .le 44, 3) := by decide +kernel
theorem dX8_since_62 : decode cX8_since 62 = .ok (.aload_n 0, 1) := by decide +kernel
theorem dX8_since_63 : decode cX8_since 63 = .ok (.getfield 19, 3) := by decide +kernel
theorem dX8_since_66 : decode cX8_since 66 = .ok (.iload_n 1, 1) := by decide +kernel
theorem dX8_since_67 : decode cX8_since 67 = .ok (.iload_n 2, 1) := by decide +kernel
theorem dX8_since_68 : decode cX8_since 68 = .ok (.iload_n 3, 1) := by decide +kernel
theorem dX8_since_69 : decode cX8_since 69 = .ok (.iload 5, 2) := by decide +kernel
theorem dX8_since_71 : decode cX8_since 71 = .ok (.iconst 1, 1) := by decide +kernel
theorem dX8_since_72 : decode cX8_since 72 = .ok (.isub, 1) := by decide +kernel
theorem dX8_since_73 : decode cX8_since 73 = .ok (.invokevirtual 205, 3) := by decide +kernel
theorem dX8_since_76 : decode cX8_since 76 = .ok (.iload 4, 2) := by decide +kernel
theorem dX8_since_78 : decode cX8_since 78 = .ok (.if_icmp .eq 6, 3) := by decide +kernel
theorem dX8_since_81 : decode cX8_since 81 = .ok (.iload 5, 2) := by decide +kernel
theorem dX8_since_83 : decode cX8_since 83 = .ok (.ireturn, 1) := by decide +kernel
theorem dX8_since_84 : decode cX8_since 84 = .ok (.aload_n 0, 1) := by decide +kernel
theorem dX8_since_85 : decode cX8_since 85 = .ok (.getfield 19, 3) := by decide +kernel
theorem dX8_since_88 : decode cX8_since 88 = .ok (.iload 5, 2) := by decide +kernel
theorem dX8_since_90 : decode cX8_since 90 = .ok (.iconst 1, 1) := by decide +kernel
theorem dX8_since_91 : decode cX8_since 91 = .ok (.isub, 1) := by decide +kernel
theorem dX8_since_92 : decode cX8_since 92 = .ok (.invokevirtual 218, 3) := by decide +kernel
theorem dX8_since_95 : decode cX8_since 95 = .ok (.istore 5, 2) := by decide +kernel
theorem dX8_since_97 : decode cX8_since 97 = .ok (.iinc 6 1, 3) := by decide +kernel
theorem dX8_since_100 : decode cX8_since 100 = .ok (.goto (-51), 3) := by decide +kernel
theorem dX8_since_103 : decode cX8_since 103 = .ok (.iload 5, 2) := by decide +kernel
theorem dX8_since_105 : decode cX8_since 105 = .ok (.ireturn, 1) := by decide +kernel
theorem dX8_seenBy_0 : decode cX8_seenBy 0 = .ok (.iload_n 1, 1) := by decide +kernel
theorem dX8_seenBy_1 : decode cX8_seenBy 1 = .ok (.iload_n 2, 1) := by decide +kernel
theorem dX8_seenBy_2 : decode cX8_seenBy 2 = .ok (.invokestatic 199, 3) := by decide +kernel
theorem dX8_seenBy_5 : decode cX8_seenBy 5 = .ok (.ifCond .eq 12, 3) := by decide +kernel
theorem dX8_seenBy_8 : decode cX8_seenBy 8 = .ok (.aload_n 0, 1) := by decide +kernel
theorem dX8_seenBy_9 : decode cX8_seenBy 9 = .ok (.iload 4, 2) := by decide +kernel
theorem dX8_seenBy_11 : decode cX8_seenBy 11 = .ok (.invokevirtual 90, 3) := by decide +kernel
theorem dX8_seenBy_14 : decode cX8_seenBy 14 = .ok (.ifCond .ne 5, 3) := by decide +kernel
theorem dX8_seenBy_17 : decode cX8_seenBy 17 = .ok (.iconst (-1), 1) := by decide +kernel
theorem dX8_seenBy_18 : decode cX8_seenBy 18 = .ok (.ireturn, 1) := by decide +kernel
theorem dX8_seenBy_19 : decode cX8_seenBy 19 = .ok (.iconst 0, 1) := by decide +kernel
theorem dX8_seenBy_20 : decode cX8_seenBy 20 = .ok (.istore 5, 2) := by decide +kernel
theorem dX8_seenBy_22 : decode cX8_seenBy 22 = .ok (.iconst 0, 1) := by decide +kernel
theorem dX8_seenBy_23 : decode cX8_seenBy 23 = .ok (.istore 6, 2) := by decide +kernel
theorem dX8_seenBy_25 : decode cX8_seenBy 25 = .ok (.iload 6, 2) := by decide +kernel
theorem dX8_seenBy_27 : decode cX8_seenBy 27 = .ok (.iconst 3, 1) := by decide +kernel
theorem dX8_seenBy_28 : decode cX8_seenBy 28 = .ok (.if_icmp .gt 42, 3) := by decide +kernel
theorem dX8_seenBy_31 : decode cX8_seenBy 31 = .ok (.aload_n 0, 1) := by decide +kernel
theorem dX8_seenBy_32 : decode cX8_seenBy 32 = .ok (.getfield 19, 3) := by decide +kernel
theorem dX8_seenBy_35 : decode cX8_seenBy 35 = .ok (.iload 6, 2) := by decide +kernel
theorem dX8_seenBy_37 : decode cX8_seenBy 37 = .ok (.iload_n 1, 1) := by decide +kernel
theorem dX8_seenBy_38 : decode cX8_seenBy 38 = .ok (.iload_n 2, 1) := by decide +kernel
theorem dX8_seenBy_39 : decode cX8_seenBy 39 = .ok (.iload 4, 2) := by decide +kernel
theorem dX8_seenBy_41 : decode cX8_seenBy 41 = .ok (.invokevirtual 205, 3) := by decide +kernel
theorem dX8_seenBy_44 : decode cX8_seenBy 44 = .ok (.iload_n 3, 1) := by decide +kernel
theorem dX8_seenBy_45 : decode cX8_seenBy 45 = .ok (.if_icmp .ne 19, 3) := by decide +kernel
theorem dX8_seenBy_48 : decode cX8_seenBy 48 = .ok (.iload 5, 2) := by decide +kernel
theorem dX8_seenBy_50 : decode cX8_seenBy 50 = .ok (.aload_n 0, 1) := by decide +kernel
theorem dX8_seenBy_51 : decode cX8_seenBy 51 = .ok (.getfield 10, 3) := by decide +kernel
theorem dX8_seenBy_54 : decode cX8_seenBy 54 = .ok (.iload 6, 2) := by decide +kernel
theorem dX8_seenBy_56 : decode cX8_seenBy 56 = .ok (.iload 4, 2) := by decide +kernel
theorem dX8_seenBy_58 : decode cX8_seenBy 58 = .ok (.invokevirtual 221, 3) := by decide +kernel
theorem dX8_seenBy_61 : decode cX8_seenBy 61 = .ok (.iadd, 1) := by decide +kernel
theorem dX8_seenBy_62 : decode cX8_seenBy 62 = .ok (.istore 5, 2) := by decide +kernel
theorem dX8_seenBy_64 : decode cX8_seenBy 64 = .ok (.iinc 6 1, 3) := by decide +kernel
theorem dX8_seenBy_67 : decode cX8_seenBy 67 = .ok (.goto (-42), 3) := by decide +kernel
theorem dX8_seenBy_70 : decode cX8_seenBy 70 = .ok (.iload 5, 2) := by decide +kernel
theorem dX8_seenBy_72 : decode cX8_seenBy 72 = .ok (.ireturn, 1) := by decide +kernel
theorem dX8_setKeeping_0 : decode cX8_setKeeping 0 = .ok (.iload_n 1, 1) := by decide +kernel
theorem dX8_setKeeping_1 : decode cX8_setKeeping 1 = .ok (.ifCond .lt 9, 3) := by decide +kernel
theorem dX8_setKeeping_4 : decode cX8_setKeeping 4 = .ok (.iload_n 1, 1) := by decide +kernel
theorem dX8_setKeeping_5 : decode cX8_setKeeping 5 = .ok (.bipush 100, 2) := by decide +kernel
theorem dX8_setKeeping_7 : decode cX8_setKeeping 7 = .ok (.if_icmp .le 5, 3) := by decide +kernel
theorem dX8_setKeeping_10 : decode cX8_setKeeping 10 = .ok (.iconst (-1), 1) := by decide +kernel
theorem dX8_setKeeping_11 : decode cX8_setKeeping 11 = .ok (.ireturn, 1) := by decide +kernel
theorem dX8_setKeeping_12 : decode cX8_setKeeping 12 = .ok (.aload_n 0, 1) := by decide +kernel
theorem dX8_setKeeping_13 : decode cX8_setKeeping 13 = .ok (.getfield 36, 3) := by decide +kernel
theorem dX8_setKeeping_16 : decode cX8_setKeeping 16 = .ok (.getfield 224, 3) := by decide +kernel
theorem dX8_setKeeping_19 : decode cX8_setKeeping 19 = .ok (.istore_n 2, 1) := by decide +kernel
theorem dX8_setKeeping_20 : decode cX8_setKeeping 20 = .ok (.aload_n 0, 1) := by decide +kernel
theorem dX8_setKeeping_21 : decode cX8_setKeeping 21 = .ok (.getfield 36, 3) := by decide +kernel
theorem dX8_setKeeping_24 : decode cX8_setKeeping 24 = .ok (.iload_n 1, 1) := by decide +kernel
theorem dX8_setKeeping_25 : decode cX8_setKeeping 25 = .ok (.putfield 224, 3) := by decide +kernel
theorem dX8_setKeeping_28 : decode cX8_setKeeping 28 = .ok (.iload_n 2, 1) := by decide +kernel
theorem dX8_setKeeping_29 : decode cX8_setKeeping 29 = .ok (.ireturn, 1) := by decide +kernel
theorem dX8_ask_0 : decode cX8_ask 0 = .ok (.iload_n 1, 1) := by decide +kernel
theorem dX8_ask_1 : decode cX8_ask 1 = .ok (.invokestatic 55, 3) := by decide +kernel
theorem dX8_ask_4 : decode cX8_ask 4 = .ok (.ifCond .eq 11, 3) := by decide +kernel
theorem dX8_ask_7 : decode cX8_ask 7 = .ok (.iload_n 2, 1) := by decide +kernel
theorem dX8_ask_8 : decode cX8_ask 8 = .ok (.iload_n 3, 1) := by decide +kernel
theorem dX8_ask_9 : decode cX8_ask 9 = .ok (.invokestatic 199, 3) := by decide +kernel
theorem dX8_ask_12 : decode cX8_ask 12 = .ok (.ifCond .ne 5, 3) := by decide +kernel
theorem dX8_ask_15 : decode cX8_ask 15 = .ok (.iconst (-1), 1) := by decide +kernel
theorem dX8_ask_16 : decode cX8_ask 16 = .ok (.ireturn, 1) := by decide +kernel
theorem dX8_ask_17 : decode cX8_ask 17 = .ok (.aload_n 0, 1) := by decide +kernel
theorem dX8_ask_18 : decode cX8_ask 18 = .ok (.getfield 36, 3) := by decide +kernel
theorem dX8_ask_21 : decode cX8_ask 21 = .ok (.iload_n 1, 1) := by decide +kernel
theorem dX8_ask_22 : decode cX8_ask 22 = .ok (.iload_n 2, 1) := by decide +kernel
theorem dX8_ask_23 : decode cX8_ask 23 = .ok (.iload_n 3, 1) := by decide +kernel
theorem dX8_ask_24 : decode cX8_ask 24 = .ok (.invokevirtual 227, 3) := by decide +kernel
theorem dX8_ask_27 : decode cX8_ask 27 = .ok (.istore 4, 2) := by decide +kernel
theorem dX8_ask_29 : decode cX8_ask 29 = .ok (.iload 4, 2) := by decide +kernel
theorem dX8_ask_31 : decode cX8_ask 31 = .ok (.iconst (-1), 1) := by decide +kernel
theorem dX8_ask_32 : decode cX8_ask 32 = .ok (.if_icmp .eq 43, 3) := by decide +kernel
theorem dX8_ask_35 : decode cX8_ask 35 = .ok (.aload_n 0, 1) := by decide +kernel
theorem dX8_ask_36 : decode cX8_ask 36 = .ok (.getfield 36, 3) := by decide +kernel
theorem dX8_ask_39 : decode cX8_ask 39 = .ok (.iload 4, 2) := by decide +kernel
theorem dX8_ask_41 : decode cX8_ask 41 = .ok (.aload_n 0, 1) := by decide +kernel
theorem dX8_ask_42 : decode cX8_ask 42 = .ok (.getfield 47, 3) := by decide +kernel
theorem dX8_ask_45 : decode cX8_ask 45 = .ok (.invokevirtual 228, 3) := by decide +kernel
theorem dX8_ask_48 : decode cX8_ask 48 = .ok (.ifCond .eq 27, 3) := by decide +kernel
theorem dX8_ask_51 : decode cX8_ask 51 = .ok (.aload_n 0, 1) := by decide +kernel
theorem dX8_ask_52 : decode cX8_ask 52 = .ok (.getfield 36, 3) := by decide +kernel
theorem dX8_ask_55 : decode cX8_ask 55 = .ok (.dup, 1) := by decide +kernel
theorem dX8_ask_56 : decode cX8_ask 56 = .ok (.getfield 143, 3) := by decide +kernel
theorem dX8_ask_59 : decode cX8_ask 59 = .ok (.iconst 1, 1) := by decide +kernel
theorem dX8_ask_60 : decode cX8_ask 60 = .ok (.iadd, 1) := by decide +kernel
theorem dX8_ask_61 : decode cX8_ask 61 = .ok (.putfield 143, 3) := by decide +kernel
theorem dX8_ask_64 : decode cX8_ask 64 = .ok (.aload_n 0, 1) := by decide +kernel
theorem dX8_ask_65 : decode cX8_ask 65 = .ok (.getfield 36, 3) := by decide +kernel
theorem dX8_ask_68 : decode cX8_ask 68 = .ok (.getfield 231, 3) := by decide +kernel
theorem dX8_ask_71 : decode cX8_ask 71 = .ok (.iload 4, 2) := by decide +kernel
theorem dX8_ask_73 : decode cX8_ask 73 = .ok (.iaload, 1) := by decide +kernel
theorem dX8_ask_74 : decode cX8_ask 74 = .ok (.ireturn, 1) := by decide +kernel
theorem dX8_ask_75 : decode cX8_ask 75 = .ok (.aload_n 0, 1) := by decide +kernel
theorem dX8_ask_76 : decode cX8_ask 76 = .ok (.iload_n 1, 1) := by decide +kernel
theorem dX8_ask_77 : decode cX8_ask 77 = .ok (.iload_n 2, 1) := by decide +kernel
theorem dX8_ask_78 : decode cX8_ask 78 = .ok (.iload_n 3, 1) := by decide +kernel
theorem dX8_ask_79 : decode cX8_ask 79 = .ok (.aload_n 0, 1) := by decide +kernel
theorem dX8_ask_80 : decode cX8_ask 80 = .ok (.getfield 47, 3) := by decide +kernel
theorem dX8_ask_83 : decode cX8_ask 83 = .ok (.invokevirtual 202, 3) := by decide +kernel
theorem dX8_ask_86 : decode cX8_ask 86 = .ok (.istore 5, 2) := by decide +kernel
theorem dX8_ask_88 : decode cX8_ask 88 = .ok (.aload_n 0, 1) := by decide +kernel
theorem dX8_ask_89 : decode cX8_ask 89 = .ok (.getfield 36, 3) := by decide +kernel
theorem dX8_ask_92 : decode cX8_ask 92 = .ok (.iload_n 1, 1) := by decide +kernel
theorem dX8_ask_93 : decode cX8_ask 93 = .ok (.iload_n 2, 1) := by decide +kernel
theorem dX8_ask_94 : decode cX8_ask 94 = .ok (.iload_n 3, 1) := by decide +kernel
theorem dX8_ask_95 : decode cX8_ask 95 = .ok (.iload 5, 2) := by decide +kernel
theorem dX8_ask_97 : decode cX8_ask 97 = .ok (.aload_n 0, 1) := by decide +kernel
theorem dX8_ask_98 : decode cX8_ask 98 = .ok (.getfield 47, 3) := by decide +kernel
theorem dX8_ask_101 : decode cX8_ask 101 = .ok (.invokevirtual 234, 3) := by decide +kernel
theorem dX8_ask_104 : decode cX8_ask 104 = .ok (.iload 5, 2) := by decide +kernel
theorem dX8_ask_106 : decode cX8_ask 106 = .ok (.ireturn, 1) := by decide +kernel
theorem dX8_stale_0 : decode cX8_stale 0 = .ok (.iconst 0, 1) := by decide +kernel
theorem dX8_stale_1 : decode cX8_stale 1 = .ok (.istore_n 1, 1) := by decide +kernel
theorem dX8_stale_2 : decode cX8_stale 2 = .ok (.iconst 0, 1) := by decide +kernel
theorem dX8_stale_3 : decode cX8_stale 3 = .ok (.istore_n 2, 1) := by decide +kernel
theorem dX8_stale_4 : decode cX8_stale 4 = .ok (.iload_n 2, 1) := by decide +kernel
theorem dX8_stale_5 : decode cX8_stale 5 = .ok (.aload_n 0, 1) := by decide +kernel
theorem dX8_stale_6 : decode cX8_stale 6 = .ok (.getfield 36, 3) := by decide +kernel
theorem dX8_stale_9 : decode cX8_stale 9 = .ok (.getfield 140, 3) := by decide +kernel
theorem dX8_stale_12 : decode cX8_stale 12 = .ok (.if_icmp .ge 74, 3) := by decide +kernel
theorem dX8_stale_15 : decode cX8_stale 15 = .ok (.aload_n 0, 1) := by decide +kernel
theorem dX8_stale_16 : decode cX8_stale 16 = .ok (.getfield 36, 3) := by decide +kernel
theorem dX8_stale_19 : decode cX8_stale 19 = .ok (.iload_n 2, 1) := by decide +kernel
theorem dX8_stale_20 : decode cX8_stale 20 = .ok (.aload_n 0, 1) := by decide +kernel
theorem dX8_stale_21 : decode cX8_stale 21 = .ok (.getfield 47, 3) := by decide +kernel
theorem dX8_stale_24 : decode cX8_stale 24 = .ok (.invokevirtual 228, 3) := by decide +kernel
theorem dX8_stale_27 : decode cX8_stale 27 = .ok (.ifCond .eq 53, 3) := by decide +kernel
theorem dX8_stale_30 : decode cX8_stale 30 = .ok (.aload_n 0, 1) := by decide +kernel
theorem dX8_stale_31 : decode cX8_stale 31 = .ok (.getfield 36, 3) := by decide +kernel
theorem dX8_stale_34 : decode cX8_stale 34 = .ok (.getfield 231, 3) := by decide +kernel
theorem dX8_stale_37 : decode cX8_stale 37 = .ok (.iload_n 2, 1) := by decide +kernel
theorem dX8_stale_38 : decode cX8_stale 38 = .ok (.iaload, 1) := by decide +kernel
theorem dX8_stale_39 : decode cX8_stale 39 = .ok (.aload_n 0, 1) := by decide +kernel
theorem dX8_stale_40 : decode cX8_stale 40 = .ok (.aload_n 0, 1) := by decide +kernel
theorem dX8_stale_41 : decode cX8_stale 41 = .ok (.getfield 36, 3) := by decide +kernel
theorem dX8_stale_44 : decode cX8_stale 44 = .ok (.getfield 237, 3) := by decide +kernel
theorem dX8_stale_47 : decode cX8_stale 47 = .ok (.iload_n 2, 1) := by decide +kernel
theorem dX8_stale_48 : decode cX8_stale 48 = .ok (.iaload, 1) := by decide +kernel
theorem dX8_stale_49 : decode cX8_stale 49 = .ok (.aload_n 0, 1) := by decide +kernel
theorem dX8_stale_50 : decode cX8_stale 50 = .ok (.getfield 36, 3) := by decide +kernel
theorem dX8_stale_53 : decode cX8_stale 53 = .ok (.getfield 240, 3) := by decide +kernel
theorem dX8_stale_56 : decode cX8_stale 56 = .ok (.iload_n 2, 1) := by decide +kernel
theorem dX8_stale_57 : decode cX8_stale 57 = .ok (.iaload, 1) := by decide +kernel
theorem dX8_stale_58 : decode cX8_stale 58 = .ok (.aload_n 0, 1) := by decide +kernel
theorem dX8_stale_59 : decode cX8_stale 59 = .ok (.getfield 36, 3) := by decide +kernel
theorem dX8_stale_62 : decode cX8_stale 62 = .ok (.getfield 241, 3) := by decide +kernel
theorem dX8_stale_65 : decode cX8_stale 65 = .ok (.iload_n 2, 1) := by decide +kernel
theorem dX8_stale_66 : decode cX8_stale 66 = .ok (.iaload, 1) := by decide +kernel
theorem dX8_stale_67 : decode cX8_stale 67 = .ok (.aload_n 0, 1) := by decide +kernel
theorem dX8_stale_68 : decode cX8_stale 68 = .ok (.getfield 47, 3) := by decide +kernel
theorem dX8_stale_71 : decode cX8_stale 71 = .ok (.invokevirtual 202, 3) := by decide +kernel
theorem dX8_stale_74 : decode cX8_stale 74 = .ok (.if_icmp .eq 6, 3) := by decide +kernel
theorem dX8_stale_77 : decode cX8_stale 77 = .ok (.iinc 1 1, 3) := by decide +kernel
theorem dX8_stale_80 : decode cX8_stale 80 = .ok (.iinc 2 1, 3) := by decide +kernel
theorem dX8_stale_83 : decode cX8_stale 83 = .ok (.goto (-79), 3) := by decide +kernel
theorem dX8_stale_86 : decode cX8_stale 86 = .ok (.iload_n 1, 1) := by decide +kernel
theorem dX8_stale_87 : decode cX8_stale 87 = .ok (.ireturn, 1) := by decide +kernel
theorem dX8_type_0 : decode cX8_type 0 = .ok (.iload_n 1, 1) := by decide +kernel
theorem dX8_type_1 : decode cX8_type 1 = .ok (.bipush 32, 2) := by decide +kernel
theorem dX8_type_3 : decode cX8_type 3 = .ok (.if_icmp .lt 9, 3) := by decide +kernel
theorem dX8_type_6 : decode cX8_type 6 = .ok (.iload_n 1, 1) := by decide +kernel
theorem dX8_type_7 : decode cX8_type 7 = .ok (.bipush 126, 2) := by decide +kernel
theorem dX8_type_9 : decode cX8_type 9 = .ok (.if_icmp .le 5, 3) := by decide +kernel
theorem dX8_type_12 : decode cX8_type 12 = .ok (.iconst (-1), 1) := by decide +kernel
theorem dX8_type_13 : decode cX8_type 13 = .ok (.ireturn, 1) := by decide +kernel
theorem dX8_type_14 : decode cX8_type 14 = .ok (.aload_n 0, 1) := by decide +kernel
theorem dX8_type_15 : decode cX8_type 15 = .ok (.getfield 43, 3) := by decide +kernel
theorem dX8_type_18 : decode cX8_type 18 = .ok (.getfield 242, 3) := by decide +kernel
theorem dX8_type_21 : decode cX8_type 21 = .ok (.bipush 60, 2) := by decide +kernel
theorem dX8_type_23 : decode cX8_type 23 = .ok (.if_icmp .lt 6, 3) := by decide +kernel
theorem dX8_type_26 : decode cX8_type 26 = .ok (.bipush (-3), 2) := by decide +kernel
theorem dX8_type_28 : decode cX8_type 28 = .ok (.ireturn, 1) := by decide +kernel
theorem dX8_type_29 : decode cX8_type 29 = .ok (.aload_n 0, 1) := by decide +kernel
theorem dX8_type_30 : decode cX8_type 30 = .ok (.getfield 43, 3) := by decide +kernel
theorem dX8_type_33 : decode cX8_type 33 = .ok (.iload_n 1, 1) := by decide +kernel
theorem dX8_type_34 : decode cX8_type 34 = .ok (.invokevirtual 245, 3) := by decide +kernel
theorem dX8_type_37 : decode cX8_type 37 = .ok (.aload_n 0, 1) := by decide +kernel
theorem dX8_type_38 : decode cX8_type 38 = .ok (.getfield 43, 3) := by decide +kernel
theorem dX8_type_41 : decode cX8_type 41 = .ok (.getfield 242, 3) := by decide +kernel
theorem dX8_type_44 : decode cX8_type 44 = .ok (.ireturn, 1) := by decide +kernel
theorem dX8_clearText_0 : decode cX8_clearText 0 = .ok (.aload_n 0, 1) := by decide +kernel
theorem dX8_clearText_1 : decode cX8_clearText 1 = .ok (.getfield 43, 3) := by decide +kernel
theorem dX8_clearText_4 : decode cX8_clearText 4 = .ok (.getfield 242, 3) := by decide +kernel
theorem dX8_clearText_7 : decode cX8_clearText 7 = .ok (.istore_n 1, 1) := by decide +kernel
theorem dX8_clearText_8 : decode cX8_clearText 8 = .ok (.aload_n 0, 1) := by decide +kernel
theorem dX8_clearText_9 : decode cX8_clearText 9 = .ok (.getfield 43, 3) := by decide +kernel
theorem dX8_clearText_12 : decode cX8_clearText 12 = .ok (.iconst 0, 1) := by decide +kernel
theorem dX8_clearText_13 : decode cX8_clearText 13 = .ok (.putfield 242, 3) := by decide +kernel
theorem dX8_clearText_16 : decode cX8_clearText 16 = .ok (.iload_n 1, 1) := by decide +kernel
theorem dX8_clearText_17 : decode cX8_clearText 17 = .ok (.ireturn, 1) := by decide +kernel
theorem dX8_fault_0 : decode cX8_fault 0 = .ok (.aload_n 0, 1) := by decide +kernel
theorem dX8_fault_1 : decode cX8_fault 1 = .ok (.getfield 43, 3) := by decide +kernel
theorem dX8_fault_4 : decode cX8_fault 4 = .ok (.invokevirtual 179, 3) := by decide +kernel
theorem dX8_fault_7 : decode cX8_fault 7 = .ok (.ireturn, 1) := by decide +kernel
theorem dX8_isTick_0 : decode cX8_isTick 0 = .ok (.iload_n 1, 1) := by decide +kernel
theorem dX8_isTick_1 : decode cX8_isTick 1 = .ok (.ifCond .lt 15, 3) := by decide +kernel
theorem dX8_isTick_4 : decode cX8_isTick 4 = .ok (.iload_n 1, 1) := by decide +kernel
theorem dX8_isTick_5 : decode cX8_isTick 5 = .ok (.aload_n 0, 1) := by decide +kernel
theorem dX8_isTick_6 : decode cX8_isTick 6 = .ok (.getfield 47, 3) := by decide +kernel
theorem dX8_isTick_9 : decode cX8_isTick 9 = .ok (.if_icmp .gt 7, 3) := by decide +kernel
theorem dX8_isTick_12 : decode cX8_isTick 12 = .ok (.iconst 1, 1) := by decide +kernel
theorem dX8_isTick_13 : decode cX8_isTick 13 = .ok (.goto 4, 3) := by decide +kernel
theorem dX8_isTick_16 : decode cX8_isTick 16 = .ok (.iconst 0, 1) := by decide +kernel
theorem dX8_isTick_17 : decode cX8_isTick 17 = .ok (.ireturn, 1) := by decide +kernel
theorem dX8_isView_0 : decode cX8_isView 0 = .ok (.iload_n 0, 1) := by decide +kernel
theorem dX8_isView_1 : decode cX8_isView 1 = .ok (.ifCond .lt 12, 3) := by decide +kernel
theorem dX8_isView_4 : decode cX8_isView 4 = .ok (.iload_n 0, 1) := by decide +kernel
theorem dX8_isView_5 : decode cX8_isView 5 = .ok (.iconst 3, 1) := by decide +kernel
theorem dX8_isView_6 : decode cX8_isView 6 = .ok (.if_icmp .gt 7, 3) := by decide +kernel
theorem dX8_isView_9 : decode cX8_isView 9 = .ok (.iconst 1, 1) := by decide +kernel
theorem dX8_isView_10 : decode cX8_isView 10 = .ok (.goto 4, 3) := by decide +kernel
theorem dX8_isView_13 : decode cX8_isView 13 = .ok (.iconst 0, 1) := by decide +kernel
theorem dX8_isView_14 : decode cX8_isView 14 = .ok (.ireturn, 1) := by decide +kernel
theorem dX8_isAddress_0 : decode cX8_isAddress 0 = .ok (.iload_n 0, 1) := by decide +kernel
theorem dX8_isAddress_1 : decode cX8_isAddress 1 = .ok (.ifCond .lt 14, 3) := by decide +kernel
theorem dX8_isAddress_4 : decode cX8_isAddress 4 = .ok (.iload_n 0, 1) := by decide +kernel
theorem dX8_isAddress_5 : decode cX8_isAddress 5 = .ok (.sipush 255, 3) := by decide +kernel
theorem dX8_isAddress_8 : decode cX8_isAddress 8 = .ok (.if_icmp .gt 7, 3) := by decide +kernel
theorem dX8_isAddress_11 : decode cX8_isAddress 11 = .ok (.iconst 1, 1) := by decide +kernel
theorem dX8_isAddress_12 : decode cX8_isAddress 12 = .ok (.goto 4, 3) := by decide +kernel
theorem dX8_isAddress_15 : decode cX8_isAddress 15 = .ok (.iconst 0, 1) := by decide +kernel
theorem dX8_isAddress_16 : decode cX8_isAddress 16 = .ok (.ireturn, 1) := by decide +kernel
theorem dX8_isType_0 : decode cX8_isType 0 = .ok (.iload_n 0, 1) := by decide +kernel
theorem dX8_isType_1 : decode cX8_isType 1 = .ok (.ifCond .lt 12, 3) := by decide +kernel
theorem dX8_isType_4 : decode cX8_isType 4 = .ok (.iload_n 0, 1) := by decide +kernel
theorem dX8_isType_5 : decode cX8_isType 5 = .ok (.iconst 2, 1) := by decide +kernel
theorem dX8_isType_6 : decode cX8_isType 6 = .ok (.if_icmp .gt 7, 3) := by decide +kernel
theorem dX8_isType_9 : decode cX8_isType 9 = .ok (.iconst 1, 1) := by decide +kernel
theorem dX8_isType_10 : decode cX8_isType 10 = .ok (.goto 4, 3) := by decide +kernel
theorem dX8_isType_13 : decode cX8_isType 13 = .ok (.iconst 0, 1) := by decide +kernel
theorem dX8_isType_14 : decode cX8_isType 14 = .ok (.ireturn, 1) := by decide +kernel
theorem dX8_isQuestion_0 : decode cX8_isQuestion 0 = .ok (.iload_n 0, 1) := by decide +kernel
theorem dX8_isQuestion_1 : decode cX8_isQuestion 1 = .ok (.invokestatic 97, 3) := by decide +kernel
theorem dX8_isQuestion_4 : decode cX8_isQuestion 4 = .ok (.ifCond .eq 14, 3) := by decide +kernel
theorem dX8_isQuestion_7 : decode cX8_isQuestion 7 = .ok (.iload_n 1, 1) := by decide +kernel
theorem dX8_isQuestion_8 : decode cX8_isQuestion 8 = .ok (.invokestatic 156, 3) := by decide +kernel
theorem dX8_isQuestion_11 : decode cX8_isQuestion 11 = .ok (.ifCond .eq 7, 3) := by decide +kernel
theorem dX8_isQuestion_14 : decode cX8_isQuestion 14 = .ok (.iconst 1, 1) := by decide +kernel
theorem dX8_isQuestion_15 : decode cX8_isQuestion 15 = .ok (.goto 4, 3) := by decide +kernel
theorem dX8_isQuestion_18 : decode cX8_isQuestion 18 = .ok (.iconst 0, 1) := by decide +kernel
theorem dX8_isQuestion_19 : decode cX8_isQuestion 19 = .ok (.ireturn, 1) := by decide +kernel
theorem dX8_isValue_0 : decode cX8_isValue 0 = .ok (.iload_n 0, 1) := by decide +kernel
theorem dX8_isValue_1 : decode cX8_isValue 1 = .ok (.invokestatic 156, 3) := by decide +kernel
theorem dX8_isValue_4 : decode cX8_isValue 4 = .ok (.ifCond .ne 5, 3) := by decide +kernel
theorem dX8_isValue_7 : decode cX8_isValue 7 = .ok (.iconst 0, 1) := by decide +kernel
theorem dX8_isValue_8 : decode cX8_isValue 8 = .ok (.ireturn, 1) := by decide +kernel
theorem dX8_isValue_9 : decode cX8_isValue 9 = .ok (.iload_n 0, 1) := by decide +kernel
theorem dX8_isValue_10 : decode cX8_isValue 10 = .ok (.iconst 1, 1) := by decide +kernel
theorem dX8_isValue_11 : decode cX8_isValue 11 = .ok (.if_icmp .ne 8, 3) := by decide +kernel
theorem dX8_isValue_14 : decode cX8_isValue 14 = .ok (.iload_n 1, 1) := by decide +kernel
theorem dX8_isValue_15 : decode cX8_isValue 15 = .ok (.invokestatic 97, 3) := by decide +kernel
theorem dX8_isValue_18 : decode cX8_isValue 18 = .ok (.ireturn, 1) := by decide +kernel
theorem dX8_isValue_19 : decode cX8_isValue 19 = .ok (.iload_n 1, 1) := by decide +kernel
theorem dX8_isValue_20 : decode cX8_isValue 20 = .ok (.ifCond .lt 24, 3) := by decide +kernel
theorem dX8_isValue_23 : decode cX8_isValue 23 = .ok (.iload_n 1, 1) := by decide +kernel
theorem dX8_isValue_24 : decode cX8_isValue 24 = .ok (.iload_n 0, 1) := by decide +kernel
theorem dX8_isValue_25 : decode cX8_isValue 25 = .ok (.ifCond .ne 9, 3) := by decide +kernel
theorem dX8_isValue_28 : decode cX8_isValue 28 = .ok (.sipush 255, 3) := by decide +kernel
theorem dX8_isValue_31 : decode cX8_isValue 31 = .ok (.goto 6, 3) := by decide +kernel
theorem dX8_isValue_34 : decode cX8_isValue 34 = .ok (.sipush 999, 3) := by decide +kernel
theorem dX8_isValue_37 : decode cX8_isValue 37 = .ok (.if_icmp .gt 7, 3) := by decide +kernel
theorem dX8_isValue_40 : decode cX8_isValue 40 = .ok (.iconst 1, 1) := by decide +kernel
theorem dX8_isValue_41 : decode cX8_isValue 41 = .ok (.goto 4, 3) := by decide +kernel
theorem dX8_isValue_44 : decode cX8_isValue 44 = .ok (.iconst 0, 1) := by decide +kernel
theorem dX8_isValue_45 : decode cX8_isValue 45 = .ok (.ireturn, 1) := by decide +kernel
end
section
theorem dX9_init_0 : decode cX9_init 0 = .ok (.aload_n 0, 1) := by decide +kernel
theorem dX9_init_1 : decode cX9_init 1 = .ok (.invokespecial 1, 3) := by decide +kernel
theorem dX9_init_4 : decode cX9_init 4 = .ok (.aload_n 0, 1) := by decide +kernel
theorem dX9_init_5 : decode cX9_init 5 = .ok (.bipush 50, 2) := by decide +kernel
theorem dX9_init_7 : decode cX9_init 7 = .ok (.newarray .int, 2) := by decide +kernel
theorem dX9_init_9 : decode cX9_init 9 = .ok (.putfield 7, 3) := by decide +kernel
theorem dX9_init_12 : decode cX9_init 12 = .ok (.aload_n 0, 1) := by decide +kernel
theorem dX9_init_13 : decode cX9_init 13 = .ok (.bipush 40, 2) := by decide +kernel
theorem dX9_init_15 : decode cX9_init 15 = .ok (.newarray .int, 2) := by decide +kernel
theorem dX9_init_17 : decode cX9_init 17 = .ok (.putfield 13, 3) := by decide +kernel
theorem dX9_init_20 : decode cX9_init 20 = .ok (.aload_n 0, 1) := by decide +kernel
theorem dX9_init_21 : decode cX9_init 21 = .ok (.sipush 350, 3) := by decide +kernel
theorem dX9_init_24 : decode cX9_init 24 = .ok (.newarray .int, 2) := by decide +kernel
theorem dX9_init_26 : decode cX9_init 26 = .ok (.putfield 16, 3) := by decide +kernel
theorem dX9_init_29 : decode cX9_init 29 = .ok (.aload_n 0, 1) := by decide +kernel
theorem dX9_init_30 : decode cX9_init 30 = .ok (.bipush 30, 2) := by decide +kernel
theorem dX9_init_32 : decode cX9_init 32 = .ok (.newarray .int, 2) := by decide +kernel
theorem dX9_init_34 : decode cX9_init 34 = .ok (.putfield 19, 3) := by decide +kernel
theorem dX9_init_37 : decode cX9_init 37 = .ok (.aload_n 0, 1) := by decide +kernel
theorem dX9_init_38 : decode cX9_init 38 = .ok (.iconst 3, 1) := by decide +kernel
theorem dX9_init_39 : decode cX9_init 39 = .ok (.putfield 22, 3) := by decide +kernel
theorem dX9_init_42 : decode cX9_init 42 = .ok (.aload_n 0, 1) := by decide +kernel
theorem dX9_init_43 : decode cX9_init 43 = .ok (.bipush 60, 2) := by decide +kernel
theorem dX9_init_45 : decode cX9_init 45 = .ok (.newarray .int, 2) := by decide +kernel
theorem dX9_init_47 : decode cX9_init 47 = .ok (.putfield 26, 3) := by decide +kernel
theorem dX9_init_50 : decode cX9_init 50 = .ok (.aload_n 0, 1) := by decide +kernel
theorem dX9_init_51 : decode cX9_init 51 = .ok (.iconst 3, 1) := by decide +kernel
theorem dX9_init_52 : decode cX9_init 52 = .ok (.newarray .int, 2) := by decide +kernel
theorem dX9_init_54 : decode cX9_init 54 = .ok (.putfield 29, 3) := by decide +kernel
theorem dX9_init_57 : decode cX9_init 57 = .ok (.aload_n 0, 1) := by decide +kernel
theorem dX9_init_58 : decode cX9_init 58 = .ok (.iconst 0, 1) := by decide +kernel
theorem dX9_init_59 : decode cX9_init 59 = .ok (.putfield 32, 3) := by decide +kernel
theorem dX9_init_62 : decode cX9_init 62 = .ok (.return_, 1) := by decide +kernel
theorem dX9_in_0 : decode cX9_in 0 = .ok (.iload_n 0, 1) := by decide +kernel
theorem dX9_in_1 : decode cX9_in 1 = .ok (.iload_n 1, 1) := by decide +kernel
theorem dX9_in_2 : decode cX9_in 2 = .ok (.if_icmp .lt 12, 3) := by decide +kernel
theorem dX9_in_5 : decode cX9_in 5 = .ok (.iload_n 0, 1) := by decide +kernel
theorem dX9_in_6 : decode cX9_in 6 = .ok (.iload_n 2, 1) := by decide +kernel
theorem dX9_in_7 : decode cX9_in 7 = .ok (.if_icmp .gt 7, 3) := by decide +kernel
theorem dX9_in_10 : decode cX9_in 10 = .ok (.iconst 1, 1) := by decide +kernel
theorem dX9_in_11 : decode cX9_in 11 = .ok (.goto 4, 3) := by decide +kernel
theorem dX9_in_14 : decode cX9_in 14 = .ok (.iconst 0, 1) := by decide +kernel
theorem dX9_in_15 : decode cX9_in 15 = .ok (.ireturn, 1) := by decide +kernel
theorem dX9_isName_0 : decode cX9_isName 0 = .ok (.iload_n 0, 1) := by decide +kernel
theorem dX9_isName_1 : decode cX9_isName 1 = .ok (.iconst 5, 1) := by decide +kernel
theorem dX9_isName_2 : decode cX9_isName 2 = .ok (.irem, 1) := by decide +kernel
theorem dX9_isName_3 : decode cX9_isName 3 = .ok (.istore_n 1, 1) := by decide +kernel
theorem dX9_isName_4 : decode cX9_isName 4 = .ok (.iload_n 0, 1) := by decide +kernel
theorem dX9_isName_5 : decode cX9_isName 5 = .ok (.iconst 5, 1) := by decide +kernel
theorem dX9_isName_6 : decode cX9_isName 6 = .ok (.idiv, 1) := by decide +kernel
theorem dX9_isName_7 : decode cX9_isName 7 = .ok (.iconst 5, 1) := by decide +kernel
theorem dX9_isName_8 : decode cX9_isName 8 = .ok (.irem, 1) := by decide +kernel
theorem dX9_isName_9 : decode cX9_isName 9 = .ok (.istore_n 2, 1) := by decide +kernel
theorem dX9_isName_10 : decode cX9_isName 10 = .ok (.iload_n 0, 1) := by decide +kernel
theorem dX9_isName_11 : decode cX9_isName 11 = .ok (.bipush 25, 2) := by decide +kernel
theorem dX9_isName_13 : decode cX9_isName 13 = .ok (.idiv, 1) := by decide +kernel
theorem dX9_isName_14 : decode cX9_isName 14 = .ok (.istore_n 3, 1) := by decide +kernel
theorem dX9_isName_15 : decode cX9_isName 15 = .ok (.iload_n 0, 1) := by decide +kernel
theorem dX9_isName_16 : decode cX9_isName 16 = .ok (.iconst 1, 1) := by decide +kernel
theorem dX9_isName_17 : decode cX9_isName 17 = .ok (.bipush 124, 2) := by decide +kernel
theorem dX9_isName_19 : decode cX9_isName 19 = .ok (.invokestatic 35, 3) := by decide +kernel
theorem dX9_isName_22 : decode cX9_isName 22 = .ok (.ifCond .eq 19, 3) := by decide +kernel
theorem dX9_isName_25 : decode cX9_isName 25 = .ok (.iload_n 1, 1) := by decide +kernel
theorem dX9_isName_26 : decode cX9_isName 26 = .ok (.ifCond .le 15, 3) := by decide +kernel
theorem dX9_isName_29 : decode cX9_isName 29 = .ok (.iload_n 2, 1) := by decide +kernel
theorem dX9_isName_30 : decode cX9_isName 30 = .ok (.ifCond .gt 7, 3) := by decide +kernel
theorem dX9_isName_33 : decode cX9_isName 33 = .ok (.iload_n 3, 1) := by decide +kernel
theorem dX9_isName_34 : decode cX9_isName 34 = .ok (.ifCond .ne 7, 3) := by decide +kernel
theorem dX9_isName_37 : decode cX9_isName 37 = .ok (.iconst 1, 1) := by decide +kernel
theorem dX9_isName_38 : decode cX9_isName 38 = .ok (.goto 4, 3) := by decide +kernel
theorem dX9_isName_41 : decode cX9_isName 41 = .ok (.iconst 0, 1) := by decide +kernel
theorem dX9_isName_42 : decode cX9_isName 42 = .ok (.ireturn, 1) := by decide +kernel
theorem dX9_labels_0 : decode cX9_labels 0 = .ok (.iload_n 0, 1) := by decide +kernel
theorem dX9_labels_1 : decode cX9_labels 1 = .ok (.bipush 25, 2) := by decide +kernel
theorem dX9_labels_3 : decode cX9_labels 3 = .ok (.if_icmp .lt 7, 3) := by decide +kernel
theorem dX9_labels_6 : decode cX9_labels 6 = .ok (.iconst 3, 1) := by decide +kernel
theorem dX9_labels_7 : decode cX9_labels 7 = .ok (.goto 13, 3) := by decide +kernel
theorem dX9_labels_10 : decode cX9_labels 10 = .ok (.iload_n 0, 1) := by decide +kernel
theorem dX9_labels_11 : decode cX9_labels 11 = .ok (.iconst 5, 1) := by decide +kernel
theorem dX9_labels_12 : decode cX9_labels 12 = .ok (.if_icmp .lt 7, 3) := by decide +kernel
theorem dX9_labels_15 : decode cX9_labels 15 = .ok (.iconst 2, 1) := by decide +kernel
theorem dX9_labels_16 : decode cX9_labels 16 = .ok (.goto 4, 3) := by decide +kernel
theorem dX9_labels_19 : decode cX9_labels 19 = .ok (.iconst 1, 1) := by decide +kernel
theorem dX9_labels_20 : decode cX9_labels 20 = .ok (.ireturn, 1) := by decide +kernel
theorem dX9_lastLabel_0 : decode cX9_lastLabel 0 = .ok (.iload_n 0, 1) := by decide +kernel
theorem dX9_lastLabel_1 : decode cX9_lastLabel 1 = .ok (.bipush 25, 2) := by decide +kernel
theorem dX9_lastLabel_3 : decode cX9_lastLabel 3 = .ok (.if_icmp .lt 10, 3) := by decide +kernel
theorem dX9_lastLabel_6 : decode cX9_lastLabel 6 = .ok (.iload_n 0, 1) := by decide +kernel
theorem dX9_lastLabel_7 : decode cX9_lastLabel 7 = .ok (.bipush 25, 2) := by decide +kernel
theorem dX9_lastLabel_9 : decode cX9_lastLabel 9 = .ok (.idiv, 1) := by decide +kernel
theorem dX9_lastLabel_10 : decode cX9_lastLabel 10 = .ok (.goto 15, 3) := by decide +kernel
theorem dX9_lastLabel_13 : decode cX9_lastLabel 13 = .ok (.iload_n 0, 1) := by decide +kernel
theorem dX9_lastLabel_14 : decode cX9_lastLabel 14 = .ok (.iconst 5, 1) := by decide +kernel
theorem dX9_lastLabel_15 : decode cX9_lastLabel 15 = .ok (.if_icmp .lt 9, 3) := by decide +kernel
theorem dX9_lastLabel_18 : decode cX9_lastLabel 18 = .ok (.iload_n 0, 1) := by decide +kernel
theorem dX9_lastLabel_19 : decode cX9_lastLabel 19 = .ok (.iconst 5, 1) := by decide +kernel
theorem dX9_lastLabel_20 : decode cX9_lastLabel 20 = .ok (.idiv, 1) := by decide +kernel
theorem dX9_lastLabel_21 : decode cX9_lastLabel 21 = .ok (.goto 4, 3) := by decide +kernel
theorem dX9_lastLabel_24 : decode cX9_lastLabel 24 = .ok (.iload_n 0, 1) := by decide +kernel
theorem dX9_lastLabel_25 : decode cX9_lastLabel 25 = .ok (.ireturn, 1) := by decide +kernel
theorem dX9_isPattern_0 : decode cX9_isPattern 0 = .ok (.iload_n 0, 1) := by decide +kernel
theorem dX9_isPattern_1 : decode cX9_isPattern 1 = .ok (.invokestatic 39, 3) := by decide +kernel
theorem dX9_isPattern_4 : decode cX9_isPattern 4 = .ok (.iconst 4, 1) := by decide +kernel
theorem dX9_isPattern_5 : decode cX9_isPattern 5 = .ok (.if_icmp .ne 7, 3) := by decide +kernel
theorem dX9_isPattern_8 : decode cX9_isPattern 8 = .ok (.iconst 1, 1) := by decide +kernel
theorem dX9_isPattern_9 : decode cX9_isPattern 9 = .ok (.goto 4, 3) := by decide +kernel
theorem dX9_isPattern_12 : decode cX9_isPattern 12 = .ok (.iconst 0, 1) := by decide +kernel
theorem dX9_isPattern_13 : decode cX9_isPattern 13 = .ok (.ireturn, 1) := by decide +kernel
theorem dX9_first_0 : decode cX9_first 0 = .ok (.iload_n 1, 1) := by decide +kernel
theorem dX9_first_1 : decode cX9_first 1 = .ok (.iconst 1, 1) := by decide +kernel
theorem dX9_first_2 : decode cX9_first 2 = .ok (.if_icmp .ne 9, 3) := by decide +kernel
theorem dX9_first_5 : decode cX9_first 5 = .ok (.iload_n 0, 1) := by decide +kernel
theorem dX9_first_6 : decode cX9_first 6 = .ok (.iconst 5, 1) := by decide +kernel
theorem dX9_first_7 : decode cX9_first 7 = .ok (.irem, 1) := by decide +kernel
theorem dX9_first_8 : decode cX9_first 8 = .ok (.goto 16, 3) := by decide +kernel
theorem dX9_first_11 : decode cX9_first 11 = .ok (.iload_n 1, 1) := by decide +kernel
theorem dX9_first_12 : decode cX9_first 12 = .ok (.iconst 2, 1) := by decide +kernel
theorem dX9_first_13 : decode cX9_first 13 = .ok (.if_icmp .ne 10, 3) := by decide +kernel
theorem dX9_first_16 : decode cX9_first 16 = .ok (.iload_n 0, 1) := by decide +kernel
theorem dX9_first_17 : decode cX9_first 17 = .ok (.bipush 25, 2) := by decide +kernel
theorem dX9_first_19 : decode cX9_first 19 = .ok (.irem, 1) := by decide +kernel
theorem dX9_first_20 : decode cX9_first 20 = .ok (.goto 4, 3) := by decide +kernel
theorem dX9_first_23 : decode cX9_first 23 = .ok (.iload_n 0, 1) := by decide +kernel
theorem dX9_first_24 : decode cX9_first 24 = .ok (.ireturn, 1) := by decide +kernel
theorem dX9_isAt_0 : decode cX9_isAt 0 = .ok (.iload_n 0, 1) := by decide +kernel
theorem dX9_isAt_1 : decode cX9_isAt 1 = .ok (.invokestatic 43, 3) := by decide +kernel
theorem dX9_isAt_4 : decode cX9_isAt 4 = .ok (.iload_n 1, 1) := by decide +kernel
theorem dX9_isAt_5 : decode cX9_isAt 5 = .ok (.invokestatic 43, 3) := by decide +kernel
theorem dX9_isAt_8 : decode cX9_isAt 8 = .ok (.if_icmp .lt 19, 3) := by decide +kernel
theorem dX9_isAt_11 : decode cX9_isAt 11 = .ok (.iload_n 0, 1) := by decide +kernel
theorem dX9_isAt_12 : decode cX9_isAt 12 = .ok (.iload_n 1, 1) := by decide +kernel
theorem dX9_isAt_13 : decode cX9_isAt 13 = .ok (.invokestatic 43, 3) := by decide +kernel
theorem dX9_isAt_16 : decode cX9_isAt 16 = .ok (.invokestatic 46, 3) := by decide +kernel
theorem dX9_isAt_19 : decode cX9_isAt 19 = .ok (.iload_n 1, 1) := by decide +kernel
theorem dX9_isAt_20 : decode cX9_isAt 20 = .ok (.if_icmp .ne 7, 3) := by decide +kernel
theorem dX9_isAt_23 : decode cX9_isAt 23 = .ok (.iconst 1, 1) := by decide +kernel
theorem dX9_isAt_24 : decode cX9_isAt 24 = .ok (.goto 4, 3) := by decide +kernel
theorem dX9_isAt_27 : decode cX9_isAt 27 = .ok (.iconst 0, 1) := by decide +kernel
theorem dX9_isAt_28 : decode cX9_isAt 28 = .ok (.ireturn, 1) := by decide +kernel
theorem dX9_isBelow_0 : decode cX9_isBelow 0 = .ok (.iload_n 0, 1) := by decide +kernel
theorem dX9_isBelow_1 : decode cX9_isBelow 1 = .ok (.invokestatic 43, 3) := by decide +kernel
theorem dX9_isBelow_4 : decode cX9_isBelow 4 = .ok (.iload_n 1, 1) := by decide +kernel
theorem dX9_isBelow_5 : decode cX9_isBelow 5 = .ok (.invokestatic 43, 3) := by decide +kernel
theorem dX9_isBelow_8 : decode cX9_isBelow 8 = .ok (.if_icmp .le 15, 3) := by decide +kernel
theorem dX9_isBelow_11 : decode cX9_isBelow 11 = .ok (.iload_n 0, 1) := by decide +kernel
theorem dX9_isBelow_12 : decode cX9_isBelow 12 = .ok (.iload_n 1, 1) := by decide +kernel
theorem dX9_isBelow_13 : decode cX9_isBelow 13 = .ok (.invokestatic 50, 3) := by decide +kernel
theorem dX9_isBelow_16 : decode cX9_isBelow 16 = .ok (.ifCond .eq 7, 3) := by decide +kernel
theorem dX9_isBelow_19 : decode cX9_isBelow 19 = .ok (.iconst 1, 1) := by decide +kernel
theorem dX9_isBelow_20 : decode cX9_isBelow 20 = .ok (.goto 4, 3) := by decide +kernel
theorem dX9_isBelow_23 : decode cX9_isBelow 23 = .ok (.iconst 0, 1) := by decide +kernel
theorem dX9_isBelow_24 : decode cX9_isBelow 24 = .ok (.ireturn, 1) := by decide +kernel
theorem dX9_patternFor_0 : decode cX9_patternFor 0 = .ok (.iload_n 0, 1) := by decide +kernel
theorem dX9_patternFor_1 : decode cX9_patternFor 1 = .ok (.invokestatic 43, 3) := by decide +kernel
theorem dX9_patternFor_4 : decode cX9_patternFor 4 = .ok (.iconst 3, 1) := by decide +kernel
theorem dX9_patternFor_5 : decode cX9_patternFor 5 = .ok (.if_icmp .ne 13, 3) := by decide +kernel
theorem dX9_patternFor_8 : decode cX9_patternFor 8 = .ok (.iload_n 0, 1) := by decide +kernel
theorem dX9_patternFor_9 : decode cX9_patternFor 9 = .ok (.bipush 25, 2) := by decide +kernel
theorem dX9_patternFor_11 : decode cX9_patternFor 11 = .ok (.irem, 1) := by decide +kernel
theorem dX9_patternFor_12 : decode cX9_patternFor 12 = .ok (.bipush 100, 2) := by decide +kernel
theorem dX9_patternFor_14 : decode cX9_patternFor 14 = .ok (.iadd, 1) := by decide +kernel
theorem dX9_patternFor_15 : decode cX9_patternFor 15 = .ok (.goto 21, 3) := by decide +kernel
theorem dX9_patternFor_18 : decode cX9_patternFor 18 = .ok (.iload_n 0, 1) := by decide +kernel
theorem dX9_patternFor_19 : decode cX9_patternFor 19 = .ok (.invokestatic 43, 3) := by decide +kernel
theorem dX9_patternFor_22 : decode cX9_patternFor 22 = .ok (.iconst 2, 1) := by decide +kernel
theorem dX9_patternFor_23 : decode cX9_patternFor 23 = .ok (.if_icmp .ne 12, 3) := by decide +kernel
theorem dX9_patternFor_26 : decode cX9_patternFor 26 = .ok (.iload_n 0, 1) := by decide +kernel
theorem dX9_patternFor_27 : decode cX9_patternFor 27 = .ok (.iconst 5, 1) := by decide +kernel
theorem dX9_patternFor_28 : decode cX9_patternFor 28 = .ok (.irem, 1) := by decide +kernel
theorem dX9_patternFor_29 : decode cX9_patternFor 29 = .ok (.bipush 20, 2) := by decide +kernel
theorem dX9_patternFor_31 : decode cX9_patternFor 31 = .ok (.iadd, 1) := by decide +kernel
theorem dX9_patternFor_32 : decode cX9_patternFor 32 = .ok (.goto 4, 3) := by decide +kernel
theorem dX9_patternFor_35 : decode cX9_patternFor 35 = .ok (.iconst 4, 1) := by decide +kernel
theorem dX9_patternFor_36 : decode cX9_patternFor 36 = .ok (.ireturn, 1) := by decide +kernel
theorem dX9_isTick_0 : decode cX9_isTick 0 = .ok (.iload_n 1, 1) := by decide +kernel
theorem dX9_isTick_1 : decode cX9_isTick 1 = .ok (.iconst 0, 1) := by decide +kernel
theorem dX9_isTick_2 : decode cX9_isTick 2 = .ok (.aload_n 0, 1) := by decide +kernel
theorem dX9_isTick_3 : decode cX9_isTick 3 = .ok (.getfield 32, 3) := by decide +kernel
theorem dX9_isTick_6 : decode cX9_isTick 6 = .ok (.invokestatic 35, 3) := by decide +kernel
theorem dX9_isTick_9 : decode cX9_isTick 9 = .ok (.ireturn, 1) := by decide +kernel
theorem dX9_pass_0 : decode cX9_pass 0 = .ok (.iload_n 1, 1) := by decide +kernel
theorem dX9_pass_1 : decode cX9_pass 1 = .ok (.iconst 1, 1) := by decide +kernel
theorem dX9_pass_2 : decode cX9_pass 2 = .ok (.sipush 1000, 3) := by decide +kernel
theorem dX9_pass_5 : decode cX9_pass 5 = .ok (.invokestatic 35, 3) := by decide +kernel
theorem dX9_pass_8 : decode cX9_pass 8 = .ok (.ifCond .ne 5, 3) := by decide +kernel
theorem dX9_pass_11 : decode cX9_pass 11 = .ok (.iconst (-1), 1) := by decide +kernel
theorem dX9_pass_12 : decode cX9_pass 12 = .ok (.ireturn, 1) := by decide +kernel
theorem dX9_pass_13 : decode cX9_pass 13 = .ok (.aload_n 0, 1) := by decide +kernel
theorem dX9_pass_14 : decode cX9_pass 14 = .ok (.getfield 32, 3) := by decide +kernel
theorem dX9_pass_17 : decode cX9_pass 17 = .ok (.iload_n 1, 1) := by decide +kernel
theorem dX9_pass_18 : decode cX9_pass 18 = .ok (.iadd, 1) := by decide +kernel
theorem dX9_pass_19 : decode cX9_pass 19 = .ok (.sipush 9999, 3) := by decide +kernel
theorem dX9_pass_22 : decode cX9_pass 22 = .ok (.if_icmp .le 6, 3) := by decide +kernel
theorem dX9_pass_25 : decode cX9_pass 25 = .ok (.bipush (-3), 2) := by decide +kernel
theorem dX9_pass_27 : decode cX9_pass 27 = .ok (.ireturn, 1) := by decide +kernel
theorem dX9_pass_28 : decode cX9_pass 28 = .ok (.aload_n 0, 1) := by decide +kernel
theorem dX9_pass_29 : decode cX9_pass 29 = .ok (.dup, 1) := by decide +kernel
theorem dX9_pass_30 : decode cX9_pass 30 = .ok (.getfield 32, 3) := by decide +kernel
theorem dX9_pass_33 : decode cX9_pass 33 = .ok (.iload_n 1, 1) := by decide +kernel
theorem dX9_pass_34 : decode cX9_pass 34 = .ok (.iadd, 1) := by decide +kernel
theorem dX9_pass_35 : decode cX9_pass 35 = .ok (.putfield 32, 3) := by decide +kernel
theorem dX9_pass_38 : decode cX9_pass 38 = .ok (.aload_n 0, 1) := by decide +kernel
theorem dX9_pass_39 : decode cX9_pass 39 = .ok (.getfield 32, 3) := by decide +kernel
theorem dX9_pass_42 : decode cX9_pass 42 = .ok (.ireturn, 1) := by decide +kernel
theorem dX9_time_0 : decode cX9_time 0 = .ok (.aload_n 0, 1) := by decide +kernel
theorem dX9_time_1 : decode cX9_time 1 = .ok (.getfield 32, 3) := by decide +kernel
theorem dX9_time_4 : decode cX9_time 4 = .ok (.ireturn, 1) := by decide +kernel
theorem dX9_isAddress_0 : decode cX9_isAddress 0 = .ok (.iload_n 0, 1) := by decide +kernel
theorem dX9_isAddress_1 : decode cX9_isAddress 1 = .ok (.iconst 0, 1) := by decide +kernel
theorem dX9_isAddress_2 : decode cX9_isAddress 2 = .ok (.sipush 255, 3) := by decide +kernel
theorem dX9_isAddress_5 : decode cX9_isAddress 5 = .ok (.invokestatic 35, 3) := by decide +kernel
theorem dX9_isAddress_8 : decode cX9_isAddress 8 = .ok (.ireturn, 1) := by decide +kernel
theorem dX9_addNet_0 : decode cX9_addNet 0 = .ok (.iload_n 1, 1) := by decide +kernel
theorem dX9_addNet_1 : decode cX9_addNet 1 = .ok (.iconst 1, 1) := by decide +kernel
theorem dX9_addNet_2 : decode cX9_addNet 2 = .ok (.iconst 3, 1) := by decide +kernel
theorem dX9_addNet_3 : decode cX9_addNet 3 = .ok (.invokestatic 35, 3) := by decide +kernel
theorem dX9_addNet_6 : decode cX9_addNet 6 = .ok (.ifCond .eq 20, 3) := by decide +kernel
theorem dX9_addNet_9 : decode cX9_addNet 9 = .ok (.iload_n 2, 1) := by decide +kernel
theorem dX9_addNet_10 : decode cX9_addNet 10 = .ok (.invokestatic 54, 3) := by decide +kernel
theorem dX9_addNet_13 : decode cX9_addNet 13 = .ok (.ifCond .eq 13, 3) := by decide +kernel
theorem dX9_addNet_16 : decode cX9_addNet 16 = .ok (.iload_n 3, 1) := by decide +kernel
theorem dX9_addNet_17 : decode cX9_addNet 17 = .ok (.iconst 1, 1) := by decide +kernel
theorem dX9_addNet_18 : decode cX9_addNet 18 = .ok (.bipush 8, 2) := by decide +kernel
theorem dX9_addNet_20 : decode cX9_addNet 20 = .ok (.invokestatic 35, 3) := by decide +kernel
theorem dX9_addNet_23 : decode cX9_addNet 23 = .ok (.ifCond .ne 5, 3) := by decide +kernel
theorem dX9_addNet_26 : decode cX9_addNet 26 = .ok (.iconst (-1), 1) := by decide +kernel
theorem dX9_addNet_27 : decode cX9_addNet 27 = .ok (.ireturn, 1) := by decide +kernel
theorem dX9_addNet_28 : decode cX9_addNet 28 = .ok (.aload_n 0, 1) := by decide +kernel
theorem dX9_addNet_29 : decode cX9_addNet 29 = .ok (.getfield 58, 3) := by decide +kernel
theorem dX9_addNet_32 : decode cX9_addNet 32 = .ok (.bipush 10, 2) := by decide +kernel
theorem dX9_addNet_34 : decode cX9_addNet 34 = .ok (.if_icmp .ne 6, 3) := by decide +kernel
theorem dX9_addNet_37 : decode cX9_addNet 37 = .ok (.bipush (-3), 2) := by decide +kernel
theorem dX9_addNet_39 : decode cX9_addNet 39 = .ok (.ireturn, 1) := by decide +kernel
theorem dX9_addNet_40 : decode cX9_addNet 40 = .ok (.iconst 5, 1) := by decide +kernel
theorem dX9_addNet_41 : decode cX9_addNet 41 = .ok (.aload_n 0, 1) := by decide +kernel
theorem dX9_addNet_42 : decode cX9_addNet 42 = .ok (.getfield 58, 3) := by decide +kernel
theorem dX9_addNet_45 : decode cX9_addNet 45 = .ok (.imul, 1) := by decide +kernel
theorem dX9_addNet_46 : decode cX9_addNet 46 = .ok (.istore 4, 2) := by decide +kernel
theorem dX9_addNet_48 : decode cX9_addNet 48 = .ok (.aload_n 0, 1) := by decide +kernel
theorem dX9_addNet_49 : decode cX9_addNet 49 = .ok (.getfield 7, 3) := by decide +kernel
theorem dX9_addNet_52 : decode cX9_addNet 52 = .ok (.iload 4, 2) := by decide +kernel
theorem dX9_addNet_54 : decode cX9_addNet 54 = .ok (.iload_n 1, 1) := by decide +kernel
theorem dX9_addNet_55 : decode cX9_addNet 55 = .ok (.iastore, 1) := by decide +kernel
theorem dX9_addNet_56 : decode cX9_addNet 56 = .ok (.aload_n 0, 1) := by decide +kernel
theorem dX9_addNet_57 : decode cX9_addNet 57 = .ok (.getfield 7, 3) := by decide +kernel
theorem dX9_addNet_60 : decode cX9_addNet 60 = .ok (.iload 4, 2) := by decide +kernel
theorem dX9_addNet_62 : decode cX9_addNet 62 = .ok (.iconst 1, 1) := by decide +kernel
theorem dX9_addNet_63 : decode cX9_addNet 63 = .ok (.iadd, 1) := by decide +kernel
theorem dX9_addNet_64 : decode cX9_addNet 64 = .ok (.iload_n 2, 1) := by decide +kernel
theorem dX9_addNet_65 : decode cX9_addNet 65 = .ok (.iastore, 1) := by decide +kernel
theorem dX9_addNet_66 : decode cX9_addNet 66 = .ok (.aload_n 0, 1) := by decide +kernel
theorem dX9_addNet_67 : decode cX9_addNet 67 = .ok (.getfield 7, 3) := by decide +kernel
theorem dX9_addNet_70 : decode cX9_addNet 70 = .ok (.iload 4, 2) := by decide +kernel
theorem dX9_addNet_72 : decode cX9_addNet 72 = .ok (.iconst 2, 1) := by decide +kernel
theorem dX9_addNet_73 : decode cX9_addNet 73 = .ok (.iadd, 1) := by decide +kernel
theorem dX9_addNet_74 : decode cX9_addNet 74 = .ok (.iload_n 3, 1) := by decide +kernel
theorem dX9_addNet_75 : decode cX9_addNet 75 = .ok (.iastore, 1) := by decide +kernel
theorem dX9_addNet_76 : decode cX9_addNet 76 = .ok (.aload_n 0, 1) := by decide +kernel
theorem dX9_addNet_77 : decode cX9_addNet 77 = .ok (.getfield 7, 3) := by decide +kernel
theorem dX9_addNet_80 : decode cX9_addNet 80 = .ok (.iload 4, 2) := by decide +kernel
theorem dX9_addNet_82 : decode cX9_addNet 82 = .ok (.iconst 3, 1) := by decide +kernel
theorem dX9_addNet_83 : decode cX9_addNet 83 = .ok (.iadd, 1) := by decide +kernel
theorem dX9_addNet_84 : decode cX9_addNet 84 = .ok (.aload_n 0, 1) := by decide +kernel
theorem dX9_addNet_85 : decode cX9_addNet 85 = .ok (.getfield 32, 3) := by decide +kernel
theorem dX9_addNet_88 : decode cX9_addNet 88 = .ok (.iastore, 1) := by decide +kernel
theorem dX9_addNet_89 : decode cX9_addNet 89 = .ok (.aload_n 0, 1) := by decide +kernel
theorem dX9_addNet_90 : decode cX9_addNet 90 = .ok (.getfield 7, 3) := by decide +kernel
theorem dX9_addNet_93 : decode cX9_addNet 93 = .ok (.iload 4, 2) := by decide +kernel
theorem dX9_addNet_95 : decode cX9_addNet 95 = .ok (.iconst 4, 1) := by decide +kernel
theorem dX9_addNet_96 : decode cX9_addNet 96 = .ok (.iadd, 1) := by decide +kernel
theorem dX9_addNet_97 : decode cX9_addNet 97 = .ok (.iconst (-1), 1) := by decide +kernel
theorem dX9_addNet_98 : decode cX9_addNet 98 = .ok (.iastore, 1) := by decide +kernel
theorem dX9_addNet_99 : decode cX9_addNet 99 = .ok (.aload_n 0, 1) := by decide +kernel
theorem dX9_addNet_100 : decode cX9_addNet 100 = .ok (.dup, 1) := by decide +kernel
theorem dX9_addNet_101 : decode cX9_addNet 101 = .ok (.getfield 58, 3) := by decide +kernel
theorem dX9_addNet_104 : decode cX9_addNet 104 = .ok (.iconst 1, 1) := by decide +kernel
theorem dX9_addNet_105 : decode cX9_addNet 105 = .ok (.iadd, 1) := by decide +kernel
theorem dX9_addNet_106 : decode cX9_addNet 106 = .ok (.putfield 58, 3) := by decide +kernel
theorem dX9_addNet_109 : decode cX9_addNet 109 = .ok (.aload_n 0, 1) := by decide +kernel
theorem dX9_addNet_110 : decode cX9_addNet 110 = .ok (.getfield 58, 3) := by decide +kernel
theorem dX9_addNet_113 : decode cX9_addNet 113 = .ok (.iconst 1, 1) := by decide +kernel
theorem dX9_addNet_114 : decode cX9_addNet 114 = .ok (.isub, 1) := by decide +kernel
theorem dX9_addNet_115 : decode cX9_addNet 115 = .ok (.ireturn, 1) := by decide +kernel
theorem dX9_isNetThere_0 : decode cX9_isNetThere 0 = .ok (.aload_n 0, 1) := by decide +kernel
theorem dX9_isNetThere_1 : decode cX9_isNetThere 1 = .ok (.getfield 7, 3) := by decide +kernel
theorem dX9_isNetThere_4 : decode cX9_isNetThere 4 = .ok (.iconst 5, 1) := by decide +kernel
theorem dX9_isNetThere_5 : decode cX9_isNetThere 5 = .ok (.iload_n 1, 1) := by decide +kernel
theorem dX9_isNetThere_6 : decode cX9_isNetThere 6 = .ok (.imul, 1) := by decide +kernel
theorem dX9_isNetThere_7 : decode cX9_isNetThere 7 = .ok (.iconst 4, 1) := by decide +kernel
theorem dX9_isNetThere_8 : decode cX9_isNetThere 8 = .ok (.iadd, 1) := by decide +kernel
theorem dX9_isNetThere_9 : decode cX9_isNetThere 9 = .ok (.iaload, 1) := by decide +kernel
theorem dX9_isNetThere_10 : decode cX9_isNetThere 10 = .ok (.istore_n 3, 1) := by decide +kernel
theorem dX9_isNetThere_11 : decode cX9_isNetThere 11 = .ok (.aload_n 0, 1) := by decide +kernel
theorem dX9_isNetThere_12 : decode cX9_isNetThere 12 = .ok (.getfield 7, 3) := by decide +kernel
theorem dX9_isNetThere_15 : decode cX9_isNetThere 15 = .ok (.iconst 5, 1) := by decide +kernel
theorem dX9_isNetThere_16 : decode cX9_isNetThere 16 = .ok (.iload_n 1, 1) := by decide +kernel
theorem dX9_isNetThere_17 : decode cX9_isNetThere 17 = .ok (.imul, 1) := by decide +kernel
theorem dX9_isNetThere_18 : decode cX9_isNetThere 18 = .ok (.iconst 3, 1) := by decide +kernel
theorem dX9_isNetThere_19 : decode cX9_isNetThere 19 = .ok (.iadd, 1) := by decide +kernel
theorem dX9_isNetThere_20 : decode cX9_isNetThere 20 = .ok (.iaload, 1) := by decide +kernel
theorem dX9_isNetThere_21 : decode cX9_isNetThere 21 = .ok (.iload_n 2, 1) := by decide +kernel
theorem dX9_isNetThere_22 : decode cX9_isNetThere 22 = .ok (.if_icmp .gt 16, 3) := by decide +kernel
theorem dX9_isNetThere_25 : decode cX9_isNetThere 25 = .ok (.iload_n 3, 1) := by decide +kernel
theorem dX9_isNetThere_26 : decode cX9_isNetThere 26 = .ok (.ifCond .lt 8, 3) := by decide +kernel
theorem dX9_isNetThere_29 : decode cX9_isNetThere 29 = .ok (.iload_n 2, 1) := by decide +kernel
theorem dX9_isNetThere_30 : decode cX9_isNetThere 30 = .ok (.iload_n 3, 1) := by decide +kernel
theorem dX9_isNetThere_31 : decode cX9_isNetThere 31 = .ok (.if_icmp .ge 7, 3) := by decide +kernel
theorem dX9_isNetThere_34 : decode cX9_isNetThere 34 = .ok (.iconst 1, 1) := by decide +kernel
theorem dX9_isNetThere_35 : decode cX9_isNetThere 35 = .ok (.goto 4, 3) := by decide +kernel
theorem dX9_isNetThere_38 : decode cX9_isNetThere 38 = .ok (.iconst 0, 1) := by decide +kernel
theorem dX9_isNetThere_39 : decode cX9_isNetThere 39 = .ok (.ireturn, 1) := by decide +kernel
theorem dX9_removeNet_0 : decode cX9_removeNet 0 = .ok (.iload_n 1, 1) := by decide +kernel
theorem dX9_removeNet_1 : decode cX9_removeNet 1 = .ok (.iconst 0, 1) := by decide +kernel
theorem dX9_removeNet_2 : decode cX9_removeNet 2 = .ok (.aload_n 0, 1) := by decide +kernel
theorem dX9_removeNet_3 : decode cX9_removeNet 3 = .ok (.getfield 58, 3) := by decide +kernel
theorem dX9_removeNet_6 : decode cX9_removeNet 6 = .ok (.iconst 1, 1) := by decide +kernel
theorem dX9_removeNet_7 : decode cX9_removeNet 7 = .ok (.isub, 1) := by decide +kernel
theorem dX9_removeNet_8 : decode cX9_removeNet 8 = .ok (.invokestatic 35, 3) := by decide +kernel
theorem dX9_removeNet_11 : decode cX9_removeNet 11 = .ok (.ifCond .ne 5, 3) := by decide +kernel
theorem dX9_removeNet_14 : decode cX9_removeNet 14 = .ok (.iconst (-1), 1) := by decide +kernel
theorem dX9_removeNet_15 : decode cX9_removeNet 15 = .ok (.ireturn, 1) := by decide +kernel
theorem dX9_removeNet_16 : decode cX9_removeNet 16 = .ok (.aload_n 0, 1) := by decide +kernel
theorem dX9_removeNet_17 : decode cX9_removeNet 17 = .ok (.getfield 7, 3) := by decide +kernel
theorem dX9_removeNet_20 : decode cX9_removeNet 20 = .ok (.iconst 5, 1) := by decide +kernel
theorem dX9_removeNet_21 : decode cX9_removeNet 21 = .ok (.iload_n 1, 1) := by decide +kernel
theorem dX9_removeNet_22 : decode cX9_removeNet 22 = .ok (.imul, 1) := by decide +kernel
theorem dX9_removeNet_23 : decode cX9_removeNet 23 = .ok (.iconst 4, 1) := by decide +kernel
theorem dX9_removeNet_24 : decode cX9_removeNet 24 = .ok (.iadd, 1) := by decide +kernel
theorem dX9_removeNet_25 : decode cX9_removeNet 25 = .ok (.iaload, 1) := by decide +kernel
theorem dX9_removeNet_26 : decode cX9_removeNet 26 = .ok (.ifCond .lt 6, 3) := by decide +kernel
theorem dX9_removeNet_29 : decode cX9_removeNet 29 = .ok (.bipush (-2), 2) := by decide +kernel
theorem dX9_removeNet_31 : decode cX9_removeNet 31 = .ok (.ireturn, 1) := by decide +kernel
theorem dX9_removeNet_32 : decode cX9_removeNet 32 = .ok (.aload_n 0, 1) := by decide +kernel
theorem dX9_removeNet_33 : decode cX9_removeNet 33 = .ok (.getfield 7, 3) := by decide +kernel
theorem dX9_removeNet_36 : decode cX9_removeNet 36 = .ok (.iconst 5, 1) := by decide +kernel
theorem dX9_removeNet_37 : decode cX9_removeNet 37 = .ok (.iload_n 1, 1) := by decide +kernel
theorem dX9_removeNet_38 : decode cX9_removeNet 38 = .ok (.imul, 1) := by decide +kernel
theorem dX9_removeNet_39 : decode cX9_removeNet 39 = .ok (.iconst 4, 1) := by decide +kernel
theorem dX9_removeNet_40 : decode cX9_removeNet 40 = .ok (.iadd, 1) := by decide +kernel
theorem dX9_removeNet_41 : decode cX9_removeNet 41 = .ok (.aload_n 0, 1) := by decide +kernel
theorem dX9_removeNet_42 : decode cX9_removeNet 42 = .ok (.getfield 32, 3) := by decide +kernel
theorem dX9_removeNet_45 : decode cX9_removeNet 45 = .ok (.iastore, 1) := by decide +kernel
theorem dX9_removeNet_46 : decode cX9_removeNet 46 = .ok (.aload_n 0, 1) := by decide +kernel
theorem dX9_removeNet_47 : decode cX9_removeNet 47 = .ok (.getfield 7, 3) := by decide +kernel
theorem dX9_removeNet_50 : decode cX9_removeNet 50 = .ok (.iconst 5, 1) := by decide +kernel
theorem dX9_removeNet_51 : decode cX9_removeNet 51 = .ok (.iload_n 1, 1) := by decide +kernel
theorem dX9_removeNet_52 : decode cX9_removeNet 52 = .ok (.imul, 1) := by decide +kernel
theorem dX9_removeNet_53 : decode cX9_removeNet 53 = .ok (.iaload, 1) := by decide +kernel
theorem dX9_removeNet_54 : decode cX9_removeNet 54 = .ok (.ireturn, 1) := by decide +kernel
theorem dX9_viewAt_0 : decode cX9_viewAt 0 = .ok (.iconst 0, 1) := by decide +kernel
theorem dX9_viewAt_1 : decode cX9_viewAt 1 = .ok (.istore_n 3, 1) := by decide +kernel
theorem dX9_viewAt_2 : decode cX9_viewAt 2 = .ok (.iconst 0, 1) := by decide +kernel
theorem dX9_viewAt_3 : decode cX9_viewAt 3 = .ok (.istore 4, 2) := by decide +kernel
theorem dX9_viewAt_5 : decode cX9_viewAt 5 = .ok (.iconst 0, 1) := by decide +kernel
theorem dX9_viewAt_6 : decode cX9_viewAt 6 = .ok (.istore 5, 2) := by decide +kernel
theorem dX9_viewAt_8 : decode cX9_viewAt 8 = .ok (.iload 5, 2) := by decide +kernel
theorem dX9_viewAt_10 : decode cX9_viewAt 10 = .ok (.aload_n 0, 1) := by decide +kernel
theorem dX9_viewAt_11 : decode cX9_viewAt 11 = .ok (.getfield 58, 3) := by decide +kernel
theorem dX9_viewAt_14 : decode cX9_viewAt 14 = .ok (.if_icmp .ge 87, 3) := by decide +kernel
theorem dX9_viewAt_17 : decode cX9_viewAt 17 = .ok (.aload_n 0, 1) := by decide +kernel
theorem dX9_viewAt_18 : decode cX9_viewAt 18 = .ok (.getfield 7, 3) := by decide +kernel
theorem dX9_viewAt_21 : decode cX9_viewAt 21 = .ok (.iconst 5, 1) := by decide +kernel
theorem dX9_viewAt_22 : decode cX9_viewAt 22 = .ok (.iload 5, 2) := by decide +kernel
theorem dX9_viewAt_24 : decode cX9_viewAt 24 = .ok (.imul, 1) := by decide +kernel
theorem dX9_viewAt_25 : decode cX9_viewAt 25 = .ok (.iconst 2, 1) := by decide +kernel
theorem dX9_viewAt_26 : decode cX9_viewAt 26 = .ok (.iadd, 1) := by decide +kernel
theorem dX9_viewAt_27 : decode cX9_viewAt 27 = .ok (.iaload, 1) := by decide +kernel
theorem dX9_viewAt_28 : decode cX9_viewAt 28 = .ok (.istore 6, 2) := by decide +kernel
theorem dX9_viewAt_30 : decode cX9_viewAt 30 = .ok (.iload_n 1, 1) := by decide +kernel
theorem dX9_viewAt_31 : decode cX9_viewAt 31 = .ok (.aload_n 0, 1) := by decide +kernel
theorem dX9_viewAt_32 : decode cX9_viewAt 32 = .ok (.getfield 7, 3) := by decide +kernel
theorem dX9_viewAt_35 : decode cX9_viewAt 35 = .ok (.iconst 5, 1) := by decide +kernel
theorem dX9_viewAt_36 : decode cX9_viewAt 36 = .ok (.iload 5, 2) := by decide +kernel
theorem dX9_viewAt_38 : decode cX9_viewAt 38 = .ok (.imul, 1) := by decide +kernel
theorem dX9_viewAt_39 : decode cX9_viewAt 39 = .ok (.iconst 1, 1) := by decide +kernel
theorem dX9_viewAt_40 : decode cX9_viewAt 40 = .ok (.iadd, 1) := by decide +kernel
theorem dX9_viewAt_41 : decode cX9_viewAt 41 = .ok (.iaload, 1) := by decide +kernel
theorem dX9_viewAt_42 : decode cX9_viewAt 42 = .ok (.ixor, 1) := by decide +kernel
theorem dX9_viewAt_43 : decode cX9_viewAt 43 = .ok (.bipush 8, 2) := by decide +kernel
theorem dX9_viewAt_45 : decode cX9_viewAt 45 = .ok (.iload 6, 2) := by decide +kernel
theorem dX9_viewAt_47 : decode cX9_viewAt 47 = .ok (.isub, 1) := by decide +kernel
theorem dX9_viewAt_48 : decode cX9_viewAt 48 = .ok (.ishr, 1) := by decide +kernel
theorem dX9_viewAt_49 : decode cX9_viewAt 49 = .ok (.ifCond .ne 7, 3) := by decide +kernel
theorem dX9_viewAt_52 : decode cX9_viewAt 52 = .ok (.iconst 1, 1) := by decide +kernel
theorem dX9_viewAt_53 : decode cX9_viewAt 53 = .ok (.goto 4, 3) := by decide +kernel
theorem dX9_viewAt_56 : decode cX9_viewAt 56 = .ok (.iconst 0, 1) := by decide +kernel
theorem dX9_viewAt_57 : decode cX9_viewAt 57 = .ok (.istore 7, 2) := by decide +kernel
theorem dX9_viewAt_59 : decode cX9_viewAt 59 = .ok (.iload 7, 2) := by decide +kernel
theorem dX9_viewAt_61 : decode cX9_viewAt 61 = .ok (.ifCond .eq 34, 3) := by decide +kernel
theorem dX9_viewAt_64 : decode cX9_viewAt 64 = .ok (.aload_n 0, 1) := by decide +kernel
theorem dX9_viewAt_65 : decode cX9_viewAt 65 = .ok (.iload 5, 2) := by decide +kernel
theorem dX9_viewAt_67 : decode cX9_viewAt 67 = .ok (.iload_n 2, 1) := by decide +kernel
theorem dX9_viewAt_68 : decode cX9_viewAt 68 = .ok (.invokevirtual 61, 3) := by decide +kernel
theorem dX9_viewAt_71 : decode cX9_viewAt 71 = .ok (.ifCond .eq 24, 3) := by decide +kernel
theorem dX9_viewAt_74 : decode cX9_viewAt 74 = .ok (.iload 6, 2) := by decide +kernel
theorem dX9_viewAt_76 : decode cX9_viewAt 76 = .ok (.iload 4, 2) := by decide +kernel
theorem dX9_viewAt_78 : decode cX9_viewAt 78 = .ok (.if_icmp .le 17, 3) := by decide +kernel
theorem dX9_viewAt_81 : decode cX9_viewAt 81 = .ok (.aload_n 0, 1) := by decide +kernel
theorem dX9_viewAt_82 : decode cX9_viewAt 82 = .ok (.getfield 7, 3) := by decide +kernel
theorem dX9_viewAt_85 : decode cX9_viewAt 85 = .ok (.iconst 5, 1) := by decide +kernel
theorem dX9_viewAt_86 : decode cX9_viewAt 86 = .ok (.iload 5, 2) := by decide +kernel
theorem dX9_viewAt_88 : decode cX9_viewAt 88 = .ok (.imul, 1) := by decide +kernel
theorem dX9_viewAt_89 : decode cX9_viewAt 89 = .ok (.iaload, 1) := by decide +kernel
theorem dX9_viewAt_90 : decode cX9_viewAt 90 = .ok (.istore_n 3, 1) := by decide +kernel
theorem dX9_viewAt_91 : decode cX9_viewAt 91 = .ok (.iload 6, 2) := by decide +kernel
theorem dX9_viewAt_93 : decode cX9_viewAt 93 = .ok (.istore 4, 2) := by decide +kernel
theorem dX9_viewAt_95 : decode cX9_viewAt 95 = .ok (.iinc 5 1, 3) := by decide +kernel
theorem dX9_viewAt_98 : decode cX9_viewAt 98 = .ok (.goto (-90), 3) := by decide +kernel
theorem dX9_viewAt_101 : decode cX9_viewAt 101 = .ok (.iload_n 3, 1) := by decide +kernel
theorem dX9_viewAt_102 : decode cX9_viewAt 102 = .ok (.ireturn, 1) := by decide +kernel
theorem dX9_viewOf_0 : decode cX9_viewOf 0 = .ok (.iload_n 1, 1) := by decide +kernel
theorem dX9_viewOf_1 : decode cX9_viewOf 1 = .ok (.invokestatic 54, 3) := by decide +kernel
theorem dX9_viewOf_4 : decode cX9_viewOf 4 = .ok (.ifCond .eq 20, 3) := by decide +kernel
theorem dX9_viewOf_7 : decode cX9_viewOf 7 = .ok (.aload_n 0, 1) := by decide +kernel
theorem dX9_viewOf_8 : decode cX9_viewOf 8 = .ok (.iload_n 2, 1) := by decide +kernel
theorem dX9_viewOf_9 : decode cX9_viewOf 9 = .ok (.invokevirtual 64, 3) := by decide +kernel
theorem dX9_viewOf_12 : decode cX9_viewOf 12 = .ok (.ifCond .eq 12, 3) := by decide +kernel
theorem dX9_viewOf_15 : decode cX9_viewOf 15 = .ok (.aload_n 0, 1) := by decide +kernel
theorem dX9_viewOf_16 : decode cX9_viewOf 16 = .ok (.iload_n 1, 1) := by decide +kernel
theorem dX9_viewOf_17 : decode cX9_viewOf 17 = .ok (.iload_n 2, 1) := by decide +kernel
theorem dX9_viewOf_18 : decode cX9_viewOf 18 = .ok (.invokevirtual 67, 3) := by decide +kernel
theorem dX9_viewOf_21 : decode cX9_viewOf 21 = .ok (.goto 4, 3) := by decide +kernel
theorem dX9_viewOf_24 : decode cX9_viewOf 24 = .ok (.iconst (-1), 1) := by decide +kernel
theorem dX9_viewOf_25 : decode cX9_viewOf 25 = .ok (.ireturn, 1) := by decide +kernel
theorem dX9_isZone_0 : decode cX9_isZone 0 = .ok (.iload_n 1, 1) := by decide +kernel
theorem dX9_isZone_1 : decode cX9_isZone 1 = .ok (.iconst 0, 1) := by decide +kernel
theorem dX9_isZone_2 : decode cX9_isZone 2 = .ok (.aload_n 0, 1) := by decide +kernel
theorem dX9_isZone_3 : decode cX9_isZone 3 = .ok (.getfield 70, 3) := by decide +kernel
theorem dX9_isZone_6 : decode cX9_isZone 6 = .ok (.iconst 1, 1) := by decide +kernel
theorem dX9_isZone_7 : decode cX9_isZone 7 = .ok (.isub, 1) := by decide +kernel
theorem dX9_isZone_8 : decode cX9_isZone 8 = .ok (.invokestatic 35, 3) := by decide +kernel
theorem dX9_isZone_11 : decode cX9_isZone 11 = .ok (.ireturn, 1) := by decide +kernel
theorem dX9_isThere_0 : decode cX9_isThere 0 = .ok (.aload_n 0, 1) := by decide +kernel
theorem dX9_isThere_1 : decode cX9_isThere 1 = .ok (.getfield 13, 3) := by decide +kernel
theorem dX9_isThere_4 : decode cX9_isThere 4 = .ok (.iconst 4, 1) := by decide +kernel
theorem dX9_isThere_5 : decode cX9_isThere 5 = .ok (.iload_n 1, 1) := by decide +kernel
theorem dX9_isThere_6 : decode cX9_isThere 6 = .ok (.imul, 1) := by decide +kernel
theorem dX9_isThere_7 : decode cX9_isThere 7 = .ok (.iconst 3, 1) := by decide +kernel
theorem dX9_isThere_8 : decode cX9_isThere 8 = .ok (.iadd, 1) := by decide +kernel
theorem dX9_isThere_9 : decode cX9_isThere 9 = .ok (.iaload, 1) := by decide +kernel
theorem dX9_isThere_10 : decode cX9_isThere 10 = .ok (.istore_n 3, 1) := by decide +kernel
theorem dX9_isThere_11 : decode cX9_isThere 11 = .ok (.aload_n 0, 1) := by decide +kernel
theorem dX9_isThere_12 : decode cX9_isThere 12 = .ok (.getfield 13, 3) := by decide +kernel
theorem dX9_isThere_15 : decode cX9_isThere 15 = .ok (.iconst 4, 1) := by decide +kernel
theorem dX9_isThere_16 : decode cX9_isThere 16 = .ok (.iload_n 1, 1) := by decide +kernel
theorem dX9_isThere_17 : decode cX9_isThere 17 = .ok (.imul, 1) := by decide +kernel
theorem dX9_isThere_18 : decode cX9_isThere 18 = .ok (.iconst 2, 1) := by decide +kernel
theorem dX9_isThere_19 : decode cX9_isThere 19 = .ok (.iadd, 1) := by decide +kernel
theorem dX9_isThere_20 : decode cX9_isThere 20 = .ok (.iaload, 1) := by decide +kernel
theorem dX9_isThere_21 : decode cX9_isThere 21 = .ok (.iload_n 2, 1) := by decide +kernel
theorem dX9_isThere_22 : decode cX9_isThere 22 = .ok (.if_icmp .gt 16, 3) := by decide +kernel
theorem dX9_isThere_25 : decode cX9_isThere 25 = .ok (.iload_n 3, 1) := by decide +kernel
theorem dX9_isThere_26 : decode cX9_isThere 26 = .ok (.ifCond .lt 8, 3) := by decide +kernel
theorem dX9_isThere_29 : decode cX9_isThere 29 = .ok (.iload_n 2, 1) := by decide +kernel
theorem dX9_isThere_30 : decode cX9_isThere 30 = .ok (.iload_n 3, 1) := by decide +kernel
theorem dX9_isThere_31 : decode cX9_isThere 31 = .ok (.if_icmp .ge 7, 3) := by decide +kernel
theorem dX9_isThere_34 : decode cX9_isThere 34 = .ok (.iconst 1, 1) := by decide +kernel
theorem dX9_isThere_35 : decode cX9_isThere 35 = .ok (.goto 4, 3) := by decide +kernel
theorem dX9_isThere_38 : decode cX9_isThere 38 = .ok (.iconst 0, 1) := by decide +kernel
theorem dX9_isThere_39 : decode cX9_isThere 39 = .ok (.ireturn, 1) := by decide +kernel
theorem dX9_isGone_0 : decode cX9_isGone 0 = .ok (.aload_n 0, 1) := by decide +kernel
theorem dX9_isGone_1 : decode cX9_isGone 1 = .ok (.getfield 13, 3) := by decide +kernel
theorem dX9_isGone_4 : decode cX9_isGone 4 = .ok (.iconst 4, 1) := by decide +kernel
theorem dX9_isGone_5 : decode cX9_isGone 5 = .ok (.iload_n 1, 1) := by decide +kernel
theorem dX9_isGone_6 : decode cX9_isGone 6 = .ok (.imul, 1) := by decide +kernel
theorem dX9_isGone_7 : decode cX9_isGone 7 = .ok (.iconst 3, 1) := by decide +kernel
theorem dX9_isGone_8 : decode cX9_isGone 8 = .ok (.iadd, 1) := by decide +kernel
theorem dX9_isGone_9 : decode cX9_isGone 9 = .ok (.iaload, 1) := by decide +kernel
theorem dX9_isGone_10 : decode cX9_isGone 10 = .ok (.ifCond .lt 7, 3) := by decide +kernel
theorem dX9_isGone_13 : decode cX9_isGone 13 = .ok (.iconst 1, 1) := by decide +kernel
theorem dX9_isGone_14 : decode cX9_isGone 14 = .ok (.goto 4, 3) := by decide +kernel
theorem dX9_isGone_17 : decode cX9_isGone 17 = .ok (.iconst 0, 1) := by decide +kernel
theorem dX9_isGone_18 : decode cX9_isGone 18 = .ok (.ireturn, 1) := by decide +kernel
theorem dX9_isView_0 : decode cX9_isView 0 = .ok (.iload_n 0, 1) := by decide +kernel
theorem dX9_isView_1 : decode cX9_isView 1 = .ok (.iconst 0, 1) := by decide +kernel
theorem dX9_isView_2 : decode cX9_isView 2 = .ok (.iconst 3, 1) := by decide +kernel
theorem dX9_isView_3 : decode cX9_isView 3 = .ok (.invokestatic 35, 3) := by decide +kernel
theorem dX9_isView_6 : decode cX9_isView 6 = .ok (.ireturn, 1) := by decide +kernel
theorem dX9_addZone_0 : decode cX9_addZone 0 = .ok (.iload_n 1, 1) := by decide +kernel
theorem dX9_addZone_1 : decode cX9_addZone 1 = .ok (.invokestatic 73, 3) := by decide +kernel
theorem dX9_addZone_4 : decode cX9_addZone 4 = .ok (.ifCond .eq 17, 3) := by decide +kernel
theorem dX9_addZone_7 : decode cX9_addZone 7 = .ok (.iload_n 2, 1) := by decide +kernel
theorem dX9_addZone_8 : decode cX9_addZone 8 = .ok (.invokestatic 76, 3) := by decide +kernel
theorem dX9_addZone_11 : decode cX9_addZone 11 = .ok (.ifCond .eq 10, 3) := by decide +kernel
theorem dX9_addZone_14 : decode cX9_addZone 14 = .ok (.iload_n 2, 1) := by decide +kernel
theorem dX9_addZone_15 : decode cX9_addZone 15 = .ok (.invokestatic 79, 3) := by decide +kernel
theorem dX9_addZone_18 : decode cX9_addZone 18 = .ok (.ifCond .eq 5, 3) := by decide +kernel
theorem dX9_addZone_21 : decode cX9_addZone 21 = .ok (.iconst (-1), 1) := by decide +kernel
theorem dX9_addZone_22 : decode cX9_addZone 22 = .ok (.ireturn, 1) := by decide +kernel
theorem dX9_addZone_23 : decode cX9_addZone 23 = .ok (.iconst 0, 1) := by decide +kernel
theorem dX9_addZone_24 : decode cX9_addZone 24 = .ok (.istore_n 3, 1) := by decide +kernel
theorem dX9_addZone_25 : decode cX9_addZone 25 = .ok (.iload_n 3, 1) := by decide +kernel
theorem dX9_addZone_26 : decode cX9_addZone 26 = .ok (.aload_n 0, 1) := by decide +kernel
theorem dX9_addZone_27 : decode cX9_addZone 27 = .ok (.getfield 70, 3) := by decide +kernel
theorem dX9_addZone_30 : decode cX9_addZone 30 = .ok (.if_icmp .ge 46, 3) := by decide +kernel
theorem dX9_addZone_33 : decode cX9_addZone 33 = .ok (.aload_n 0, 1) := by decide +kernel
theorem dX9_addZone_34 : decode cX9_addZone 34 = .ok (.iload_n 3, 1) := by decide +kernel
theorem dX9_addZone_35 : decode cX9_addZone 35 = .ok (.invokevirtual 82, 3) := by decide +kernel
theorem dX9_addZone_38 : decode cX9_addZone 38 = .ok (.ifCond .ne 32, 3) := by decide +kernel
theorem dX9_addZone_41 : decode cX9_addZone 41 = .ok (.aload_n 0, 1) := by decide +kernel
theorem dX9_addZone_42 : decode cX9_addZone 42 = .ok (.getfield 13, 3) := by decide +kernel
theorem dX9_addZone_45 : decode cX9_addZone 45 = .ok (.iconst 4, 1) := by decide +kernel
theorem dX9_addZone_46 : decode cX9_addZone 46 = .ok (.iload_n 3, 1) := by decide +kernel
theorem dX9_addZone_47 : decode cX9_addZone 47 = .ok (.imul, 1) := by decide +kernel
theorem dX9_addZone_48 : decode cX9_addZone 48 = .ok (.iaload, 1) := by decide +kernel
theorem dX9_addZone_49 : decode cX9_addZone 49 = .ok (.iload_n 1, 1) := by decide +kernel
theorem dX9_addZone_50 : decode cX9_addZone 50 = .ok (.if_icmp .ne 20, 3) := by decide +kernel
theorem dX9_addZone_53 : decode cX9_addZone 53 = .ok (.aload_n 0, 1) := by decide +kernel
theorem dX9_addZone_54 : decode cX9_addZone 54 = .ok (.getfield 13, 3) := by decide +kernel
theorem dX9_addZone_57 : decode cX9_addZone 57 = .ok (.iconst 4, 1) := by decide +kernel
theorem dX9_addZone_58 : decode cX9_addZone 58 = .ok (.iload_n 3, 1) := by decide +kernel
theorem dX9_addZone_59 : decode cX9_addZone 59 = .ok (.imul, 1) := by decide +kernel
theorem dX9_addZone_60 : decode cX9_addZone 60 = .ok (.iconst 1, 1) := by decide +kernel
theorem dX9_addZone_61 : decode cX9_addZone 61 = .ok (.iadd, 1) := by decide +kernel
theorem dX9_addZone_62 : decode cX9_addZone 62 = .ok (.iaload, 1) := by decide +kernel
theorem dX9_addZone_63 : decode cX9_addZone 63 = .ok (.iload_n 2, 1) := by decide +kernel
theorem dX9_addZone_64 : decode cX9_addZone 64 = .ok (.if_icmp .ne 6, 3) := by decide +kernel
theorem dX9_addZone_67 : decode cX9_addZone 67 = .ok (.bipush (-2), 2) := by decide +kernel
theorem dX9_addZone_69 : decode cX9_addZone 69 = .ok (.ireturn, 1) := by decide +kernel
theorem dX9_addZone_70 : decode cX9_addZone 70 = .ok (.iinc 3 1, 3) := by decide +kernel
theorem dX9_addZone_73 : decode cX9_addZone 73 = .ok (.goto (-48), 3) := by decide +kernel
theorem dX9_addZone_76 : decode cX9_addZone 76 = .ok (.aload_n 0, 1) := by decide +kernel
theorem dX9_addZone_77 : decode cX9_addZone 77 = .ok (.getfield 70, 3) := by decide +kernel
theorem dX9_addZone_80 : decode cX9_addZone 80 = .ok (.bipush 10, 2) := by decide +kernel
theorem dX9_addZone_82 : decode cX9_addZone 82 = .ok (.if_icmp .ne 6, 3) := by decide +kernel
theorem dX9_addZone_85 : decode cX9_addZone 85 = .ok (.bipush (-3), 2) := by decide +kernel
theorem dX9_addZone_87 : decode cX9_addZone 87 = .ok (.ireturn, 1) := by decide +kernel
theorem dX9_addZone_88 : decode cX9_addZone 88 = .ok (.aload_n 0, 1) := by decide +kernel
theorem dX9_addZone_89 : decode cX9_addZone 89 = .ok (.getfield 13, 3) := by decide +kernel
theorem dX9_addZone_92 : decode cX9_addZone 92 = .ok (.iconst 4, 1) := by decide +kernel
theorem dX9_addZone_93 : decode cX9_addZone 93 = .ok (.aload_n 0, 1) := by decide +kernel
theorem dX9_addZone_94 : decode cX9_addZone 94 = .ok (.getfield 70, 3) := by decide +kernel
theorem dX9_addZone_97 : decode cX9_addZone 97 = .ok (.imul, 1) := by decide +kernel
theorem dX9_addZone_98 : decode cX9_addZone 98 = .ok (.iload_n 1, 1) := by decide +kernel
theorem dX9_addZone_99 : decode cX9_addZone 99 = .ok (.iastore, 1) := by decide +kernel
theorem dX9_addZone_100 : decode cX9_addZone 100 = .ok (.aload_n 0, 1) := by decide +kernel
theorem dX9_addZone_101 : decode cX9_addZone 101 = .ok (.getfield 13, 3) := by decide +kernel
theorem dX9_addZone_104 : decode cX9_addZone 104 = .ok (.iconst 4, 1) := by decide +kernel
theorem dX9_addZone_105 : decode cX9_addZone 105 = .ok (.aload_n 0, 1) := by decide +kernel
theorem dX9_addZone_106 : decode cX9_addZone 106 = .ok (.getfield 70, 3) := by decide +kernel
theorem dX9_addZone_109 : decode cX9_addZone 109 = .ok (.imul, 1) := by decide +kernel
theorem dX9_addZone_110 : decode cX9_addZone 110 = .ok (.iconst 1, 1) := by decide +kernel
theorem dX9_addZone_111 : decode cX9_addZone 111 = .ok (.iadd, 1) := by decide +kernel
theorem dX9_addZone_112 : decode cX9_addZone 112 = .ok (.iload_n 2, 1) := by decide +kernel
theorem dX9_addZone_113 : decode cX9_addZone 113 = .ok (.iastore, 1) := by decide +kernel
theorem dX9_addZone_114 : decode cX9_addZone 114 = .ok (.aload_n 0, 1) := by decide +kernel
theorem dX9_addZone_115 : decode cX9_addZone 115 = .ok (.getfield 13, 3) := by decide +kernel
theorem dX9_addZone_118 : decode cX9_addZone 118 = .ok (.iconst 4, 1) := by decide +kernel
theorem dX9_addZone_119 : decode cX9_addZone 119 = .ok (.aload_n 0, 1) := by decide +kernel
theorem dX9_addZone_120 : decode cX9_addZone 120 = .ok (.getfield 70, 3) := by decide +kernel
theorem dX9_addZone_123 : decode cX9_addZone 123 = .ok (.imul, 1) := by decide +kernel
theorem dX9_addZone_124 : decode cX9_addZone 124 = .ok (.iconst 2, 1) := by decide +kernel
theorem dX9_addZone_125 : decode cX9_addZone 125 = .ok (.iadd, 1) := by decide +kernel
theorem dX9_addZone_126 : decode cX9_addZone 126 = .ok (.aload_n 0, 1) := by decide +kernel
theorem dX9_addZone_127 : decode cX9_addZone 127 = .ok (.getfield 32, 3) := by decide +kernel
theorem dX9_addZone_130 : decode cX9_addZone 130 = .ok (.iastore, 1) := by decide +kernel
theorem dX9_addZone_131 : decode cX9_addZone 131 = .ok (.aload_n 0, 1) := by decide +kernel
theorem dX9_addZone_132 : decode cX9_addZone 132 = .ok (.getfield 13, 3) := by decide +kernel
theorem dX9_addZone_135 : decode cX9_addZone 135 = .ok (.iconst 4, 1) := by decide +kernel
theorem dX9_addZone_136 : decode cX9_addZone 136 = .ok (.aload_n 0, 1) := by decide +kernel
theorem dX9_addZone_137 : decode cX9_addZone 137 = .ok (.getfield 70, 3) := by decide +kernel
theorem dX9_addZone_140 : decode cX9_addZone 140 = .ok (.imul, 1) := by decide +kernel
theorem dX9_addZone_141 : decode cX9_addZone 141 = .ok (.iconst 3, 1) := by decide +kernel
theorem dX9_addZone_142 : decode cX9_addZone 142 = .ok (.iadd, 1) := by decide +kernel
theorem dX9_addZone_143 : decode cX9_addZone 143 = .ok (.iconst (-1), 1) := by decide +kernel
theorem dX9_addZone_144 : decode cX9_addZone 144 = .ok (.iastore, 1) := by decide +kernel
theorem dX9_addZone_145 : decode cX9_addZone 145 = .ok (.aload_n 0, 1) := by decide +kernel
theorem dX9_addZone_146 : decode cX9_addZone 146 = .ok (.dup, 1) := by decide +kernel
theorem dX9_addZone_147 : decode cX9_addZone 147 = .ok (.getfield 70, 3) := by decide +kernel
theorem dX9_addZone_150 : decode cX9_addZone 150 = .ok (.iconst 1, 1) := by decide +kernel
theorem dX9_addZone_151 : decode cX9_addZone 151 = .ok (.iadd, 1) := by decide +kernel
theorem dX9_addZone_152 : decode cX9_addZone 152 = .ok (.putfield 70, 3) := by decide +kernel
theorem dX9_addZone_155 : decode cX9_addZone 155 = .ok (.aload_n 0, 1) := by decide +kernel
theorem dX9_addZone_156 : decode cX9_addZone 156 = .ok (.getfield 70, 3) := by decide +kernel
theorem dX9_addZone_159 : decode cX9_addZone 159 = .ok (.iconst 1, 1) := by decide +kernel
theorem dX9_addZone_160 : decode cX9_addZone 160 = .ok (.isub, 1) := by decide +kernel
theorem dX9_addZone_161 : decode cX9_addZone 161 = .ok (.ireturn, 1) := by decide +kernel
theorem dX9_removeZone_0 : decode cX9_removeZone 0 = .ok (.aload_n 0, 1) := by decide +kernel
theorem dX9_removeZone_1 : decode cX9_removeZone 1 = .ok (.iload_n 1, 1) := by decide +kernel
theorem dX9_removeZone_2 : decode cX9_removeZone 2 = .ok (.invokevirtual 85, 3) := by decide +kernel
theorem dX9_removeZone_5 : decode cX9_removeZone 5 = .ok (.ifCond .ne 5, 3) := by decide +kernel
theorem dX9_removeZone_8 : decode cX9_removeZone 8 = .ok (.iconst (-1), 1) := by decide +kernel
theorem dX9_removeZone_9 : decode cX9_removeZone 9 = .ok (.ireturn, 1) := by decide +kernel
theorem dX9_removeZone_10 : decode cX9_removeZone 10 = .ok (.aload_n 0, 1) := by decide +kernel
theorem dX9_removeZone_11 : decode cX9_removeZone 11 = .ok (.iload_n 1, 1) := by decide +kernel
theorem dX9_removeZone_12 : decode cX9_removeZone 12 = .ok (.invokevirtual 82, 3) := by decide +kernel
theorem dX9_removeZone_15 : decode cX9_removeZone 15 = .ok (.ifCond .eq 6, 3) := by decide +kernel
theorem dX9_removeZone_18 : decode cX9_removeZone 18 = .ok (.bipush (-2), 2) := by decide +kernel
theorem dX9_removeZone_20 : decode cX9_removeZone 20 = .ok (.ireturn, 1) := by decide +kernel
theorem dX9_removeZone_21 : decode cX9_removeZone 21 = .ok (.aload_n 0, 1) := by decide +kernel
theorem dX9_removeZone_22 : decode cX9_removeZone 22 = .ok (.iload_n 1, 1) := by decide +kernel
theorem dX9_removeZone_23 : decode cX9_removeZone 23 = .ok (.invokevirtual 88, 3) := by decide +kernel
theorem dX9_removeZone_26 : decode cX9_removeZone 26 = .ok (.istore_n 2, 1) := by decide +kernel
theorem dX9_removeZone_27 : decode cX9_removeZone 27 = .ok (.aload_n 0, 1) := by decide +kernel
theorem dX9_removeZone_28 : decode cX9_removeZone 28 = .ok (.getfield 13, 3) := by decide +kernel
theorem dX9_removeZone_31 : decode cX9_removeZone 31 = .ok (.iconst 4, 1) := by decide +kernel
theorem dX9_removeZone_32 : decode cX9_removeZone 32 = .ok (.iload_n 1, 1) := by decide +kernel
theorem dX9_removeZone_33 : decode cX9_removeZone 33 = .ok (.imul, 1) := by decide +kernel
theorem dX9_removeZone_34 : decode cX9_removeZone 34 = .ok (.iconst 3, 1) := by decide +kernel
theorem dX9_removeZone_35 : decode cX9_removeZone 35 = .ok (.iadd, 1) := by decide +kernel
theorem dX9_removeZone_36 : decode cX9_removeZone 36 = .ok (.aload_n 0, 1) := by decide +kernel
theorem dX9_removeZone_37 : decode cX9_removeZone 37 = .ok (.getfield 32, 3) := by decide +kernel
theorem dX9_removeZone_40 : decode cX9_removeZone 40 = .ok (.iastore, 1) := by decide +kernel
theorem dX9_removeZone_41 : decode cX9_removeZone 41 = .ok (.iload_n 2, 1) := by decide +kernel
theorem dX9_removeZone_42 : decode cX9_removeZone 42 = .ok (.ireturn, 1) := by decide +kernel
theorem dX9_zoneInfo_0 : decode cX9_zoneInfo 0 = .ok (.aload_n 0, 1) := by decide +kernel
theorem dX9_zoneInfo_1 : decode cX9_zoneInfo 1 = .ok (.iload_n 1, 1) := by decide +kernel
theorem dX9_zoneInfo_2 : decode cX9_zoneInfo 2 = .ok (.invokevirtual 85, 3) := by decide +kernel
theorem dX9_zoneInfo_5 : decode cX9_zoneInfo 5 = .ok (.ifCond .eq 12, 3) := by decide +kernel
theorem dX9_zoneInfo_8 : decode cX9_zoneInfo 8 = .ok (.iload_n 2, 1) := by decide +kernel
theorem dX9_zoneInfo_9 : decode cX9_zoneInfo 9 = .ok (.iconst 0, 1) := by decide +kernel
theorem dX9_zoneInfo_10 : decode cX9_zoneInfo 10 = .ok (.iconst 3, 1) := by decide +kernel
theorem dX9_zoneInfo_11 : decode cX9_zoneInfo 11 = .ok (.invokestatic 35, 3) := by decide +kernel
theorem dX9_zoneInfo_14 : decode cX9_zoneInfo 14 = .ok (.ifCond .ne 5, 3) := by decide +kernel
theorem dX9_zoneInfo_17 : decode cX9_zoneInfo 17 = .ok (.iconst (-1), 1) := by decide +kernel
theorem dX9_zoneInfo_18 : decode cX9_zoneInfo 18 = .ok (.ireturn, 1) := by decide +kernel
theorem dX9_zoneInfo_19 : decode cX9_zoneInfo 19 = .ok (.iload_n 2, 1) := by decide +kernel
theorem dX9_zoneInfo_20 : decode cX9_zoneInfo 20 = .ok (.iconst 3, 1) := by decide +kernel
theorem dX9_zoneInfo_21 : decode cX9_zoneInfo 21 = .ok (.if_icmp .ne 16, 3) := by decide +kernel
theorem dX9_zoneInfo_24 : decode cX9_zoneInfo 24 = .ok (.aload_n 0, 1) := by decide +kernel
theorem dX9_zoneInfo_25 : decode cX9_zoneInfo 25 = .ok (.iload_n 1, 1) := by decide +kernel
theorem dX9_zoneInfo_26 : decode cX9_zoneInfo 26 = .ok (.invokevirtual 82, 3) := by decide +kernel
theorem dX9_zoneInfo_29 : decode cX9_zoneInfo 29 = .ok (.ifCond .ne 8, 3) := by decide +kernel
theorem dX9_zoneInfo_32 : decode cX9_zoneInfo 32 = .ok (.bipush (-4), 2) := by decide +kernel
theorem dX9_zoneInfo_34 : decode cX9_zoneInfo 34 = .ok (.goto 13, 3) := by decide +kernel
theorem dX9_zoneInfo_37 : decode cX9_zoneInfo 37 = .ok (.aload_n 0, 1) := by decide +kernel
theorem dX9_zoneInfo_38 : decode cX9_zoneInfo 38 = .ok (.getfield 13, 3) := by decide +kernel
theorem dX9_zoneInfo_41 : decode cX9_zoneInfo 41 = .ok (.iconst 4, 1) := by decide +kernel
theorem dX9_zoneInfo_42 : decode cX9_zoneInfo 42 = .ok (.iload_n 1, 1) := by decide +kernel
theorem dX9_zoneInfo_43 : decode cX9_zoneInfo 43 = .ok (.imul, 1) := by decide +kernel
theorem dX9_zoneInfo_44 : decode cX9_zoneInfo 44 = .ok (.iload_n 2, 1) := by decide +kernel
theorem dX9_zoneInfo_45 : decode cX9_zoneInfo 45 = .ok (.iadd, 1) := by decide +kernel
theorem dX9_zoneInfo_46 : decode cX9_zoneInfo 46 = .ok (.iaload, 1) := by decide +kernel
theorem dX9_zoneInfo_47 : decode cX9_zoneInfo 47 = .ok (.ireturn, 1) := by decide +kernel
theorem dX9_count_0 : decode cX9_count 0 = .ok (.iconst 0, 1) := by decide +kernel
theorem dX9_count_1 : decode cX9_count 1 = .ok (.istore_n 2, 1) := by decide +kernel
theorem dX9_count_2 : decode cX9_count 2 = .ok (.iload_n 1, 1) := by decide +kernel
theorem dX9_count_3 : decode cX9_count 3 = .ok (.tableswitch 163 0 5 #[37, 76, 110, 148, 153, 158], 37) := by decide +kernel
theorem dX9_count_40 : decode cX9_count 40 = .ok (.iconst 0, 1) := by decide +kernel
theorem dX9_count_41 : decode cX9_count 41 = .ok (.istore_n 3, 1) := by decide +kernel
theorem dX9_count_42 : decode cX9_count 42 = .ok (.iload_n 3, 1) := by decide +kernel
theorem dX9_count_43 : decode cX9_count 43 = .ok (.aload_n 0, 1) := by decide +kernel
theorem dX9_count_44 : decode cX9_count 44 = .ok (.getfield 58, 3) := by decide +kernel
theorem dX9_count_47 : decode cX9_count 47 = .ok (.if_icmp .ge 30, 3) := by decide +kernel
theorem dX9_count_50 : decode cX9_count 50 = .ok (.iload_n 2, 1) := by decide +kernel
theorem dX9_count_51 : decode cX9_count 51 = .ok (.aload_n 0, 1) := by decide +kernel
theorem dX9_count_52 : decode cX9_count 52 = .ok (.getfield 7, 3) := by decide +kernel
theorem dX9_count_55 : decode cX9_count 55 = .ok (.iconst 5, 1) := by decide +kernel
theorem dX9_count_56 : decode cX9_count 56 = .ok (.iload_n 3, 1) := by decide +kernel
theorem dX9_count_57 : decode cX9_count 57 = .ok (.imul, 1) := by decide +kernel
theorem dX9_count_58 : decode cX9_count 58 = .ok (.iconst 4, 1) := by decide +kernel
theorem dX9_count_59 : decode cX9_count 59 = .ok (.iadd, 1) := by decide +kernel
theorem dX9_count_60 : decode cX9_count 60 = .ok (.iaload, 1) := by decide +kernel
theorem dX9_count_61 : decode cX9_count 61 = .ok (.ifCond .ge 7, 3) := by decide +kernel
theorem dX9_count_64 : decode cX9_count 64 = .ok (.iconst 1, 1) := by decide +kernel
theorem dX9_count_65 : decode cX9_count 65 = .ok (.goto 4, 3) := by decide +kernel
theorem dX9_count_68 : decode cX9_count 68 = .ok (.iconst 0, 1) := by decide +kernel
theorem dX9_count_69 : decode cX9_count 69 = .ok (.iadd, 1) := by decide +kernel
theorem dX9_count_70 : decode cX9_count 70 = .ok (.istore_n 2, 1) := by decide +kernel
theorem dX9_count_71 : decode cX9_count 71 = .ok (.iinc 3 1, 3) := by decide +kernel
theorem dX9_count_74 : decode cX9_count 74 = .ok (.goto (-32), 3) := by decide +kernel
theorem dX9_count_77 : decode cX9_count 77 = .ok (.iload_n 2, 1) := by decide +kernel
theorem dX9_count_78 : decode cX9_count 78 = .ok (.ireturn, 1) := by decide +kernel
theorem dX9_count_79 : decode cX9_count 79 = .ok (.iconst 0, 1) := by decide +kernel
theorem dX9_count_80 : decode cX9_count 80 = .ok (.istore_n 3, 1) := by decide +kernel
theorem dX9_count_81 : decode cX9_count 81 = .ok (.iload_n 3, 1) := by decide +kernel
theorem dX9_count_82 : decode cX9_count 82 = .ok (.aload_n 0, 1) := by decide +kernel
theorem dX9_count_83 : decode cX9_count 83 = .ok (.getfield 70, 3) := by decide +kernel
theorem dX9_count_86 : decode cX9_count 86 = .ok (.if_icmp .ge 25, 3) := by decide +kernel
theorem dX9_count_89 : decode cX9_count 89 = .ok (.iload_n 2, 1) := by decide +kernel
theorem dX9_count_90 : decode cX9_count 90 = .ok (.aload_n 0, 1) := by decide +kernel
theorem dX9_count_91 : decode cX9_count 91 = .ok (.iload_n 3, 1) := by decide +kernel
theorem dX9_count_92 : decode cX9_count 92 = .ok (.invokevirtual 82, 3) := by decide +kernel
theorem dX9_count_95 : decode cX9_count 95 = .ok (.ifCond .eq 7, 3) := by decide +kernel
theorem dX9_count_98 : decode cX9_count 98 = .ok (.iconst 0, 1) := by decide +kernel
theorem dX9_count_99 : decode cX9_count 99 = .ok (.goto 4, 3) := by decide +kernel
theorem dX9_count_102 : decode cX9_count 102 = .ok (.iconst 1, 1) := by decide +kernel
theorem dX9_count_103 : decode cX9_count 103 = .ok (.iadd, 1) := by decide +kernel
theorem dX9_count_104 : decode cX9_count 104 = .ok (.istore_n 2, 1) := by decide +kernel
theorem dX9_count_105 : decode cX9_count 105 = .ok (.iinc 3 1, 3) := by decide +kernel
theorem dX9_count_108 : decode cX9_count 108 = .ok (.goto (-27), 3) := by decide +kernel
theorem dX9_count_111 : decode cX9_count 111 = .ok (.iload_n 2, 1) := by decide +kernel
theorem dX9_count_112 : decode cX9_count 112 = .ok (.ireturn, 1) := by decide +kernel
theorem dX9_count_113 : decode cX9_count 113 = .ok (.iconst 0, 1) := by decide +kernel
theorem dX9_count_114 : decode cX9_count 114 = .ok (.istore_n 3, 1) := by decide +kernel
theorem dX9_count_115 : decode cX9_count 115 = .ok (.iload_n 3, 1) := by decide +kernel
theorem dX9_count_116 : decode cX9_count 116 = .ok (.aload_n 0, 1) := by decide +kernel
theorem dX9_count_117 : decode cX9_count 117 = .ok (.getfield 70, 3) := by decide +kernel
theorem dX9_count_120 : decode cX9_count 120 = .ok (.if_icmp .ge 29, 3) := by decide +kernel
theorem dX9_count_123 : decode cX9_count 123 = .ok (.iload_n 2, 1) := by decide +kernel
theorem dX9_count_124 : decode cX9_count 124 = .ok (.aload_n 0, 1) := by decide +kernel
theorem dX9_count_125 : decode cX9_count 125 = .ok (.iload_n 3, 1) := by decide +kernel
theorem dX9_count_126 : decode cX9_count 126 = .ok (.invokevirtual 82, 3) := by decide +kernel
theorem dX9_count_129 : decode cX9_count 129 = .ok (.ifCond .eq 7, 3) := by decide +kernel
theorem dX9_count_132 : decode cX9_count 132 = .ok (.iconst 0, 1) := by decide +kernel
theorem dX9_count_133 : decode cX9_count 133 = .ok (.goto 8, 3) := by decide +kernel
theorem dX9_count_136 : decode cX9_count 136 = .ok (.aload_n 0, 1) := by decide +kernel
theorem dX9_count_137 : decode cX9_count 137 = .ok (.iload_n 3, 1) := by decide +kernel
theorem dX9_count_138 : decode cX9_count 138 = .ok (.invokevirtual 88, 3) := by decide +kernel
theorem dX9_count_141 : decode cX9_count 141 = .ok (.iadd, 1) := by decide +kernel
end
section
theorem dX9_count_142 : decode cX9_count 142 = .ok (.istore_n 2, 1) := by decide +kernel
theorem dX9_count_143 : decode cX9_count 143 = .ok (.iinc 3 1, 3) := by decide +kernel
theorem dX9_count_146 : decode cX9_count 146 = .ok (.goto (-31), 3) := by decide +kernel
theorem dX9_count_149 : decode cX9_count 149 = .ok (.iload_n 2, 1) := by decide +kernel
theorem dX9_count_150 : decode cX9_count 150 = .ok (.ireturn, 1) := by decide +kernel
theorem dX9_count_151 : decode cX9_count 151 = .ok (.aload_n 0, 1) := by decide +kernel
theorem dX9_count_152 : decode cX9_count 152 = .ok (.getfield 91, 3) := by decide +kernel
theorem dX9_count_155 : decode cX9_count 155 = .ok (.ireturn, 1) := by decide +kernel
theorem dX9_count_156 : decode cX9_count 156 = .ok (.aload_n 0, 1) := by decide +kernel
theorem dX9_count_157 : decode cX9_count 157 = .ok (.getfield 94, 3) := by decide +kernel
theorem dX9_count_160 : decode cX9_count 160 = .ok (.ireturn, 1) := by decide +kernel
theorem dX9_count_161 : decode cX9_count 161 = .ok (.aload_n 0, 1) := by decide +kernel
theorem dX9_count_162 : decode cX9_count 162 = .ok (.getfield 97, 3) := by decide +kernel
theorem dX9_count_165 : decode cX9_count 165 = .ok (.ireturn, 1) := by decide +kernel
theorem dX9_count_166 : decode cX9_count 166 = .ok (.iconst (-1), 1) := by decide +kernel
theorem dX9_count_167 : decode cX9_count 167 = .ok (.ireturn, 1) := by decide +kernel
theorem dX9_part_0 : decode cX9_part 0 = .ok (.aload_n 0, 1) := by decide +kernel
theorem dX9_part_1 : decode cX9_part 1 = .ok (.getfield 16, 3) := by decide +kernel
theorem dX9_part_4 : decode cX9_part 4 = .ok (.iconst 5, 1) := by decide +kernel
theorem dX9_part_5 : decode cX9_part 5 = .ok (.iload_n 1, 1) := by decide +kernel
theorem dX9_part_6 : decode cX9_part 6 = .ok (.imul, 1) := by decide +kernel
theorem dX9_part_7 : decode cX9_part 7 = .ok (.iload_n 2, 1) := by decide +kernel
theorem dX9_part_8 : decode cX9_part 8 = .ok (.iadd, 1) := by decide +kernel
theorem dX9_part_9 : decode cX9_part 9 = .ok (.iaload, 1) := by decide +kernel
theorem dX9_part_10 : decode cX9_part 10 = .ok (.ireturn, 1) := by decide +kernel
theorem dX9_valueAt_0 : decode cX9_valueAt 0 = .ok (.iconst (-1), 1) := by decide +kernel
theorem dX9_valueAt_1 : decode cX9_valueAt 1 = .ok (.istore 5, 2) := by decide +kernel
theorem dX9_valueAt_3 : decode cX9_valueAt 3 = .ok (.iconst 0, 1) := by decide +kernel
theorem dX9_valueAt_4 : decode cX9_valueAt 4 = .ok (.istore 6, 2) := by decide +kernel
theorem dX9_valueAt_6 : decode cX9_valueAt 6 = .ok (.iload 6, 2) := by decide +kernel
theorem dX9_valueAt_8 : decode cX9_valueAt 8 = .ok (.aload_n 0, 1) := by decide +kernel
theorem dX9_valueAt_9 : decode cX9_valueAt 9 = .ok (.getfield 91, 3) := by decide +kernel
theorem dX9_valueAt_12 : decode cX9_valueAt 12 = .ok (.if_icmp .ge 80, 3) := by decide +kernel
theorem dX9_valueAt_15 : decode cX9_valueAt 15 = .ok (.aload_n 0, 1) := by decide +kernel
theorem dX9_valueAt_16 : decode cX9_valueAt 16 = .ok (.iload 6, 2) := by decide +kernel
theorem dX9_valueAt_18 : decode cX9_valueAt 18 = .ok (.iconst 0, 1) := by decide +kernel
theorem dX9_valueAt_19 : decode cX9_valueAt 19 = .ok (.invokevirtual 100, 3) := by decide +kernel
theorem dX9_valueAt_22 : decode cX9_valueAt 22 = .ok (.iload_n 1, 1) := by decide +kernel
theorem dX9_valueAt_23 : decode cX9_valueAt 23 = .ok (.if_icmp .ne 41, 3) := by decide +kernel
theorem dX9_valueAt_26 : decode cX9_valueAt 26 = .ok (.aload_n 0, 1) := by decide +kernel
theorem dX9_valueAt_27 : decode cX9_valueAt 27 = .ok (.iload 6, 2) := by decide +kernel
theorem dX9_valueAt_29 : decode cX9_valueAt 29 = .ok (.iconst 1, 1) := by decide +kernel
theorem dX9_valueAt_30 : decode cX9_valueAt 30 = .ok (.invokevirtual 100, 3) := by decide +kernel
theorem dX9_valueAt_33 : decode cX9_valueAt 33 = .ok (.iload 4, 2) := by decide +kernel
theorem dX9_valueAt_35 : decode cX9_valueAt 35 = .ok (.if_icmp .gt 29, 3) := by decide +kernel
theorem dX9_valueAt_38 : decode cX9_valueAt 38 = .ok (.aload_n 0, 1) := by decide +kernel
theorem dX9_valueAt_39 : decode cX9_valueAt 39 = .ok (.iload 6, 2) := by decide +kernel
theorem dX9_valueAt_41 : decode cX9_valueAt 41 = .ok (.iconst 2, 1) := by decide +kernel
theorem dX9_valueAt_42 : decode cX9_valueAt 42 = .ok (.invokevirtual 100, 3) := by decide +kernel
theorem dX9_valueAt_45 : decode cX9_valueAt 45 = .ok (.iload_n 2, 1) := by decide +kernel
theorem dX9_valueAt_46 : decode cX9_valueAt 46 = .ok (.if_icmp .ne 18, 3) := by decide +kernel
theorem dX9_valueAt_49 : decode cX9_valueAt 49 = .ok (.aload_n 0, 1) := by decide +kernel
theorem dX9_valueAt_50 : decode cX9_valueAt 50 = .ok (.iload 6, 2) := by decide +kernel
theorem dX9_valueAt_52 : decode cX9_valueAt 52 = .ok (.iconst 3, 1) := by decide +kernel
theorem dX9_valueAt_53 : decode cX9_valueAt 53 = .ok (.invokevirtual 100, 3) := by decide +kernel
theorem dX9_valueAt_56 : decode cX9_valueAt 56 = .ok (.iload_n 3, 1) := by decide +kernel
theorem dX9_valueAt_57 : decode cX9_valueAt 57 = .ok (.if_icmp .ne 7, 3) := by decide +kernel
theorem dX9_valueAt_60 : decode cX9_valueAt 60 = .ok (.iconst 1, 1) := by decide +kernel
theorem dX9_valueAt_61 : decode cX9_valueAt 61 = .ok (.goto 4, 3) := by decide +kernel
theorem dX9_valueAt_64 : decode cX9_valueAt 64 = .ok (.iconst 0, 1) := by decide +kernel
theorem dX9_valueAt_65 : decode cX9_valueAt 65 = .ok (.istore 7, 2) := by decide +kernel
theorem dX9_valueAt_67 : decode cX9_valueAt 67 = .ok (.iload 7, 2) := by decide +kernel
theorem dX9_valueAt_69 : decode cX9_valueAt 69 = .ok (.ifCond .eq 13, 3) := by decide +kernel
theorem dX9_valueAt_72 : decode cX9_valueAt 72 = .ok (.aload_n 0, 1) := by decide +kernel
theorem dX9_valueAt_73 : decode cX9_valueAt 73 = .ok (.iload 6, 2) := by decide +kernel
theorem dX9_valueAt_75 : decode cX9_valueAt 75 = .ok (.iconst 4, 1) := by decide +kernel
theorem dX9_valueAt_76 : decode cX9_valueAt 76 = .ok (.invokevirtual 100, 3) := by decide +kernel
theorem dX9_valueAt_79 : decode cX9_valueAt 79 = .ok (.goto 5, 3) := by decide +kernel
theorem dX9_valueAt_82 : decode cX9_valueAt 82 = .ok (.iload 5, 2) := by decide +kernel
theorem dX9_valueAt_84 : decode cX9_valueAt 84 = .ok (.istore 5, 2) := by decide +kernel
theorem dX9_valueAt_86 : decode cX9_valueAt 86 = .ok (.iinc 6 1, 3) := by decide +kernel
theorem dX9_valueAt_89 : decode cX9_valueAt 89 = .ok (.goto (-83), 3) := by decide +kernel
theorem dX9_valueAt_92 : decode cX9_valueAt 92 = .ok (.iload 5, 2) := by decide +kernel
theorem dX9_valueAt_94 : decode cX9_valueAt 94 = .ok (.ireturn, 1) := by decide +kernel
theorem dX9_records_0 : decode cX9_records 0 = .ok (.iconst 0, 1) := by decide +kernel
theorem dX9_records_1 : decode cX9_records 1 = .ok (.istore_n 2, 1) := by decide +kernel
theorem dX9_records_2 : decode cX9_records 2 = .ok (.iconst 1, 1) := by decide +kernel
theorem dX9_records_3 : decode cX9_records 3 = .ok (.istore_n 3, 1) := by decide +kernel
theorem dX9_records_4 : decode cX9_records 4 = .ok (.iload_n 3, 1) := by decide +kernel
theorem dX9_records_5 : decode cX9_records 5 = .ok (.bipush 124, 2) := by decide +kernel
theorem dX9_records_7 : decode cX9_records 7 = .ok (.if_icmp .gt 47, 3) := by decide +kernel
theorem dX9_records_10 : decode cX9_records 10 = .ok (.iconst 0, 1) := by decide +kernel
theorem dX9_records_11 : decode cX9_records 11 = .ok (.istore 4, 2) := by decide +kernel
theorem dX9_records_13 : decode cX9_records 13 = .ok (.iload 4, 2) := by decide +kernel
theorem dX9_records_15 : decode cX9_records 15 = .ok (.iconst 3, 1) := by decide +kernel
theorem dX9_records_16 : decode cX9_records 16 = .ok (.if_icmp .ge 32, 3) := by decide +kernel
theorem dX9_records_19 : decode cX9_records 19 = .ok (.iload_n 2, 1) := by decide +kernel
theorem dX9_records_20 : decode cX9_records 20 = .ok (.aload_n 0, 1) := by decide +kernel
theorem dX9_records_21 : decode cX9_records 21 = .ok (.iload_n 1, 1) := by decide +kernel
theorem dX9_records_22 : decode cX9_records 22 = .ok (.iload_n 3, 1) := by decide +kernel
theorem dX9_records_23 : decode cX9_records 23 = .ok (.iload 4, 2) := by decide +kernel
theorem dX9_records_25 : decode cX9_records 25 = .ok (.aload_n 0, 1) := by decide +kernel
theorem dX9_records_26 : decode cX9_records 26 = .ok (.getfield 32, 3) := by decide +kernel
theorem dX9_records_29 : decode cX9_records 29 = .ok (.invokevirtual 103, 3) := by decide +kernel
theorem dX9_records_32 : decode cX9_records 32 = .ok (.ifCond .lt 7, 3) := by decide +kernel
theorem dX9_records_35 : decode cX9_records 35 = .ok (.iconst 1, 1) := by decide +kernel
theorem dX9_records_36 : decode cX9_records 36 = .ok (.goto 4, 3) := by decide +kernel
theorem dX9_records_39 : decode cX9_records 39 = .ok (.iconst 0, 1) := by decide +kernel
theorem dX9_records_40 : decode cX9_records 40 = .ok (.iadd, 1) := by decide +kernel
theorem dX9_records_41 : decode cX9_records 41 = .ok (.istore_n 2, 1) := by decide +kernel
theorem dX9_records_42 : decode cX9_records 42 = .ok (.iinc 4 1, 3) := by decide +kernel
theorem dX9_records_45 : decode cX9_records 45 = .ok (.goto (-32), 3) := by decide +kernel
theorem dX9_records_48 : decode cX9_records 48 = .ok (.iinc 3 1, 3) := by decide +kernel
theorem dX9_records_51 : decode cX9_records 51 = .ok (.goto (-47), 3) := by decide +kernel
theorem dX9_records_54 : decode cX9_records 54 = .ok (.iload_n 2, 1) := by decide +kernel
theorem dX9_records_55 : decode cX9_records 55 = .ok (.ireturn, 1) := by decide +kernel
theorem dX9_hasType_0 : decode cX9_hasType 0 = .ok (.aload_n 0, 1) := by decide +kernel
theorem dX9_hasType_1 : decode cX9_hasType 1 = .ok (.iload_n 1, 1) := by decide +kernel
theorem dX9_hasType_2 : decode cX9_hasType 2 = .ok (.iload_n 2, 1) := by decide +kernel
theorem dX9_hasType_3 : decode cX9_hasType 3 = .ok (.iconst 0, 1) := by decide +kernel
theorem dX9_hasType_4 : decode cX9_hasType 4 = .ok (.iload_n 3, 1) := by decide +kernel
theorem dX9_hasType_5 : decode cX9_hasType 5 = .ok (.invokevirtual 103, 3) := by decide +kernel
theorem dX9_hasType_8 : decode cX9_hasType 8 = .ok (.ifCond .ge 25, 3) := by decide +kernel
theorem dX9_hasType_11 : decode cX9_hasType 11 = .ok (.aload_n 0, 1) := by decide +kernel
theorem dX9_hasType_12 : decode cX9_hasType 12 = .ok (.iload_n 1, 1) := by decide +kernel
theorem dX9_hasType_13 : decode cX9_hasType 13 = .ok (.iload_n 2, 1) := by decide +kernel
theorem dX9_hasType_14 : decode cX9_hasType 14 = .ok (.iconst 1, 1) := by decide +kernel
theorem dX9_hasType_15 : decode cX9_hasType 15 = .ok (.iload_n 3, 1) := by decide +kernel
theorem dX9_hasType_16 : decode cX9_hasType 16 = .ok (.invokevirtual 103, 3) := by decide +kernel
theorem dX9_hasType_19 : decode cX9_hasType 19 = .ok (.ifCond .ge 14, 3) := by decide +kernel
theorem dX9_hasType_22 : decode cX9_hasType 22 = .ok (.aload_n 0, 1) := by decide +kernel
theorem dX9_hasType_23 : decode cX9_hasType 23 = .ok (.iload_n 1, 1) := by decide +kernel
theorem dX9_hasType_24 : decode cX9_hasType 24 = .ok (.iload_n 2, 1) := by decide +kernel
theorem dX9_hasType_25 : decode cX9_hasType 25 = .ok (.iconst 2, 1) := by decide +kernel
theorem dX9_hasType_26 : decode cX9_hasType 26 = .ok (.iload_n 3, 1) := by decide +kernel
theorem dX9_hasType_27 : decode cX9_hasType 27 = .ok (.invokevirtual 103, 3) := by decide +kernel
theorem dX9_hasType_30 : decode cX9_hasType 30 = .ok (.ifCond .lt 7, 3) := by decide +kernel
theorem dX9_hasType_33 : decode cX9_hasType 33 = .ok (.iconst 1, 1) := by decide +kernel
theorem dX9_hasType_34 : decode cX9_hasType 34 = .ok (.goto 4, 3) := by decide +kernel
theorem dX9_hasType_37 : decode cX9_hasType 37 = .ok (.iconst 0, 1) := by decide +kernel
theorem dX9_hasType_38 : decode cX9_hasType 38 = .ok (.ireturn, 1) := by decide +kernel
theorem dX9_exists_0 : decode cX9_exists 0 = .ok (.aload_n 0, 1) := by decide +kernel
theorem dX9_exists_1 : decode cX9_exists 1 = .ok (.iload_n 1, 1) := by decide +kernel
theorem dX9_exists_2 : decode cX9_exists 2 = .ok (.iload_n 2, 1) := by decide +kernel
theorem dX9_exists_3 : decode cX9_exists 3 = .ok (.iload_n 3, 1) := by decide +kernel
theorem dX9_exists_4 : decode cX9_exists 4 = .ok (.invokevirtual 107, 3) := by decide +kernel
theorem dX9_exists_7 : decode cX9_exists 7 = .ok (.istore 4, 2) := by decide +kernel
theorem dX9_exists_9 : decode cX9_exists 9 = .ok (.iconst 0, 1) := by decide +kernel
theorem dX9_exists_10 : decode cX9_exists 10 = .ok (.istore 5, 2) := by decide +kernel
theorem dX9_exists_12 : decode cX9_exists 12 = .ok (.iload 5, 2) := by decide +kernel
theorem dX9_exists_14 : decode cX9_exists 14 = .ok (.aload_n 0, 1) := by decide +kernel
theorem dX9_exists_15 : decode cX9_exists 15 = .ok (.getfield 91, 3) := by decide +kernel
theorem dX9_exists_18 : decode cX9_exists 18 = .ok (.if_icmp .ge 62, 3) := by decide +kernel
theorem dX9_exists_21 : decode cX9_exists 21 = .ok (.iload 4, 2) := by decide +kernel
theorem dX9_exists_23 : decode cX9_exists 23 = .ok (.ifCond .ne 57, 3) := by decide +kernel
theorem dX9_exists_26 : decode cX9_exists 26 = .ok (.aload_n 0, 1) := by decide +kernel
theorem dX9_exists_27 : decode cX9_exists 27 = .ok (.iload 5, 2) := by decide +kernel
theorem dX9_exists_29 : decode cX9_exists 29 = .ok (.iconst 0, 1) := by decide +kernel
theorem dX9_exists_30 : decode cX9_exists 30 = .ok (.invokevirtual 100, 3) := by decide +kernel
theorem dX9_exists_33 : decode cX9_exists 33 = .ok (.iload_n 1, 1) := by decide +kernel
theorem dX9_exists_34 : decode cX9_exists 34 = .ok (.if_icmp .ne 37, 3) := by decide +kernel
theorem dX9_exists_37 : decode cX9_exists 37 = .ok (.aload_n 0, 1) := by decide +kernel
theorem dX9_exists_38 : decode cX9_exists 38 = .ok (.iload 5, 2) := by decide +kernel
theorem dX9_exists_40 : decode cX9_exists 40 = .ok (.iconst 2, 1) := by decide +kernel
theorem dX9_exists_41 : decode cX9_exists 41 = .ok (.invokevirtual 100, 3) := by decide +kernel
theorem dX9_exists_44 : decode cX9_exists 44 = .ok (.iload_n 2, 1) := by decide +kernel
theorem dX9_exists_45 : decode cX9_exists 45 = .ok (.invokestatic 110, 3) := by decide +kernel
theorem dX9_exists_48 : decode cX9_exists 48 = .ok (.ifCond .eq 23, 3) := by decide +kernel
theorem dX9_exists_51 : decode cX9_exists 51 = .ok (.aload_n 0, 1) := by decide +kernel
theorem dX9_exists_52 : decode cX9_exists 52 = .ok (.iload_n 1, 1) := by decide +kernel
theorem dX9_exists_53 : decode cX9_exists 53 = .ok (.aload_n 0, 1) := by decide +kernel
theorem dX9_exists_54 : decode cX9_exists 54 = .ok (.iload 5, 2) := by decide +kernel
theorem dX9_exists_56 : decode cX9_exists 56 = .ok (.iconst 2, 1) := by decide +kernel
theorem dX9_exists_57 : decode cX9_exists 57 = .ok (.invokevirtual 100, 3) := by decide +kernel
theorem dX9_exists_60 : decode cX9_exists 60 = .ok (.iload_n 3, 1) := by decide +kernel
theorem dX9_exists_61 : decode cX9_exists 61 = .ok (.invokevirtual 107, 3) := by decide +kernel
theorem dX9_exists_64 : decode cX9_exists 64 = .ok (.ifCond .eq 7, 3) := by decide +kernel
theorem dX9_exists_67 : decode cX9_exists 67 = .ok (.iconst 1, 1) := by decide +kernel
theorem dX9_exists_68 : decode cX9_exists 68 = .ok (.goto 4, 3) := by decide +kernel
theorem dX9_exists_71 : decode cX9_exists 71 = .ok (.iconst 0, 1) := by decide +kernel
theorem dX9_exists_72 : decode cX9_exists 72 = .ok (.istore 4, 2) := by decide +kernel
theorem dX9_exists_74 : decode cX9_exists 74 = .ok (.iinc 5 1, 3) := by decide +kernel
theorem dX9_exists_77 : decode cX9_exists 77 = .ok (.goto (-65), 3) := by decide +kernel
theorem dX9_exists_80 : decode cX9_exists 80 = .ok (.iload 4, 2) := by decide +kernel
theorem dX9_exists_82 : decode cX9_exists 82 = .ok (.ireturn, 1) := by decide +kernel
theorem dX9_isType_0 : decode cX9_isType 0 = .ok (.iload_n 0, 1) := by decide +kernel
theorem dX9_isType_1 : decode cX9_isType 1 = .ok (.iconst 0, 1) := by decide +kernel
theorem dX9_isType_2 : decode cX9_isType 2 = .ok (.iconst 2, 1) := by decide +kernel
theorem dX9_isType_3 : decode cX9_isType 3 = .ok (.invokestatic 35, 3) := by decide +kernel
theorem dX9_isType_6 : decode cX9_isType 6 = .ok (.ireturn, 1) := by decide +kernel
theorem dX9_isValue_0 : decode cX9_isValue 0 = .ok (.iload_n 0, 1) := by decide +kernel
theorem dX9_isValue_1 : decode cX9_isValue 1 = .ok (.ifCond .ne 10, 3) := by decide +kernel
theorem dX9_isValue_4 : decode cX9_isValue 4 = .ok (.iload_n 1, 1) := by decide +kernel
theorem dX9_isValue_5 : decode cX9_isValue 5 = .ok (.invokestatic 54, 3) := by decide +kernel
theorem dX9_isValue_8 : decode cX9_isValue 8 = .ok (.goto 23, 3) := by decide +kernel
theorem dX9_isValue_11 : decode cX9_isValue 11 = .ok (.iload_n 0, 1) := by decide +kernel
theorem dX9_isValue_12 : decode cX9_isValue 12 = .ok (.iconst 1, 1) := by decide +kernel
theorem dX9_isValue_13 : decode cX9_isValue 13 = .ok (.if_icmp .ne 10, 3) := by decide +kernel
theorem dX9_isValue_16 : decode cX9_isValue 16 = .ok (.iload_n 1, 1) := by decide +kernel
theorem dX9_isValue_17 : decode cX9_isValue 17 = .ok (.invokestatic 76, 3) := by decide +kernel
theorem dX9_isValue_20 : decode cX9_isValue 20 = .ok (.goto 11, 3) := by decide +kernel
theorem dX9_isValue_23 : decode cX9_isValue 23 = .ok (.iload_n 1, 1) := by decide +kernel
theorem dX9_isValue_24 : decode cX9_isValue 24 = .ok (.iconst 0, 1) := by decide +kernel
theorem dX9_isValue_25 : decode cX9_isValue 25 = .ok (.sipush 999, 3) := by decide +kernel
theorem dX9_isValue_28 : decode cX9_isValue 28 = .ok (.invokestatic 35, 3) := by decide +kernel
theorem dX9_isValue_31 : decode cX9_isValue 31 = .ok (.ireturn, 1) := by decide +kernel
theorem dX9_makes_0 : decode cX9_makes 0 = .ok (.aload_n 0, 1) := by decide +kernel
theorem dX9_makes_1 : decode cX9_makes 1 = .ok (.getfield 16, 3) := by decide +kernel
theorem dX9_makes_4 : decode cX9_makes 4 = .ok (.iconst 5, 1) := by decide +kernel
theorem dX9_makes_5 : decode cX9_makes 5 = .ok (.aload_n 0, 1) := by decide +kernel
theorem dX9_makes_6 : decode cX9_makes 6 = .ok (.getfield 91, 3) := by decide +kernel
theorem dX9_makes_9 : decode cX9_makes 9 = .ok (.imul, 1) := by decide +kernel
theorem dX9_makes_10 : decode cX9_makes 10 = .ok (.iload_n 1, 1) := by decide +kernel
theorem dX9_makes_11 : decode cX9_makes 11 = .ok (.iastore, 1) := by decide +kernel
theorem dX9_makes_12 : decode cX9_makes 12 = .ok (.aload_n 0, 1) := by decide +kernel
theorem dX9_makes_13 : decode cX9_makes 13 = .ok (.getfield 16, 3) := by decide +kernel
theorem dX9_makes_16 : decode cX9_makes 16 = .ok (.iconst 5, 1) := by decide +kernel
theorem dX9_makes_17 : decode cX9_makes 17 = .ok (.aload_n 0, 1) := by decide +kernel
theorem dX9_makes_18 : decode cX9_makes 18 = .ok (.getfield 91, 3) := by decide +kernel
theorem dX9_makes_21 : decode cX9_makes 21 = .ok (.imul, 1) := by decide +kernel
theorem dX9_makes_22 : decode cX9_makes 22 = .ok (.iconst 1, 1) := by decide +kernel
theorem dX9_makes_23 : decode cX9_makes 23 = .ok (.iadd, 1) := by decide +kernel
theorem dX9_makes_24 : decode cX9_makes 24 = .ok (.aload_n 0, 1) := by decide +kernel
theorem dX9_makes_25 : decode cX9_makes 25 = .ok (.getfield 32, 3) := by decide +kernel
theorem dX9_makes_28 : decode cX9_makes 28 = .ok (.iastore, 1) := by decide +kernel
theorem dX9_makes_29 : decode cX9_makes 29 = .ok (.aload_n 0, 1) := by decide +kernel
theorem dX9_makes_30 : decode cX9_makes 30 = .ok (.getfield 16, 3) := by decide +kernel
theorem dX9_makes_33 : decode cX9_makes 33 = .ok (.iconst 5, 1) := by decide +kernel
theorem dX9_makes_34 : decode cX9_makes 34 = .ok (.aload_n 0, 1) := by decide +kernel
theorem dX9_makes_35 : decode cX9_makes 35 = .ok (.getfield 91, 3) := by decide +kernel
theorem dX9_makes_38 : decode cX9_makes 38 = .ok (.imul, 1) := by decide +kernel
theorem dX9_makes_39 : decode cX9_makes 39 = .ok (.iconst 2, 1) := by decide +kernel
theorem dX9_makes_40 : decode cX9_makes 40 = .ok (.iadd, 1) := by decide +kernel
theorem dX9_makes_41 : decode cX9_makes 41 = .ok (.iload_n 2, 1) := by decide +kernel
theorem dX9_makes_42 : decode cX9_makes 42 = .ok (.iastore, 1) := by decide +kernel
theorem dX9_makes_43 : decode cX9_makes 43 = .ok (.aload_n 0, 1) := by decide +kernel
theorem dX9_makes_44 : decode cX9_makes 44 = .ok (.getfield 16, 3) := by decide +kernel
theorem dX9_makes_47 : decode cX9_makes 47 = .ok (.iconst 5, 1) := by decide +kernel
theorem dX9_makes_48 : decode cX9_makes 48 = .ok (.aload_n 0, 1) := by decide +kernel
theorem dX9_makes_49 : decode cX9_makes 49 = .ok (.getfield 91, 3) := by decide +kernel
theorem dX9_makes_52 : decode cX9_makes 52 = .ok (.imul, 1) := by decide +kernel
theorem dX9_makes_53 : decode cX9_makes 53 = .ok (.iconst 3, 1) := by decide +kernel
theorem dX9_makes_54 : decode cX9_makes 54 = .ok (.iadd, 1) := by decide +kernel
theorem dX9_makes_55 : decode cX9_makes 55 = .ok (.iload_n 3, 1) := by decide +kernel
theorem dX9_makes_56 : decode cX9_makes 56 = .ok (.iastore, 1) := by decide +kernel
theorem dX9_makes_57 : decode cX9_makes 57 = .ok (.aload_n 0, 1) := by decide +kernel
theorem dX9_makes_58 : decode cX9_makes 58 = .ok (.getfield 16, 3) := by decide +kernel
theorem dX9_makes_61 : decode cX9_makes 61 = .ok (.iconst 5, 1) := by decide +kernel
theorem dX9_makes_62 : decode cX9_makes 62 = .ok (.aload_n 0, 1) := by decide +kernel
theorem dX9_makes_63 : decode cX9_makes 63 = .ok (.getfield 91, 3) := by decide +kernel
theorem dX9_makes_66 : decode cX9_makes 66 = .ok (.imul, 1) := by decide +kernel
theorem dX9_makes_67 : decode cX9_makes 67 = .ok (.iconst 4, 1) := by decide +kernel
theorem dX9_makes_68 : decode cX9_makes 68 = .ok (.iadd, 1) := by decide +kernel
theorem dX9_makes_69 : decode cX9_makes 69 = .ok (.iload 4, 2) := by decide +kernel
theorem dX9_makes_71 : decode cX9_makes 71 = .ok (.iastore, 1) := by decide +kernel
theorem dX9_makes_72 : decode cX9_makes 72 = .ok (.aload_n 0, 1) := by decide +kernel
theorem dX9_makes_73 : decode cX9_makes 73 = .ok (.dup, 1) := by decide +kernel
theorem dX9_makes_74 : decode cX9_makes 74 = .ok (.getfield 91, 3) := by decide +kernel
theorem dX9_makes_77 : decode cX9_makes 77 = .ok (.iconst 1, 1) := by decide +kernel
theorem dX9_makes_78 : decode cX9_makes 78 = .ok (.iadd, 1) := by decide +kernel
theorem dX9_makes_79 : decode cX9_makes 79 = .ok (.putfield 91, 3) := by decide +kernel
theorem dX9_makes_82 : decode cX9_makes 82 = .ok (.return_, 1) := by decide +kernel
theorem dX9_set_0 : decode cX9_set 0 = .ok (.aload_n 0, 1) := by decide +kernel
theorem dX9_set_1 : decode cX9_set 1 = .ok (.iload_n 1, 1) := by decide +kernel
theorem dX9_set_2 : decode cX9_set 2 = .ok (.invokevirtual 85, 3) := by decide +kernel
theorem dX9_set_5 : decode cX9_set 5 = .ok (.ifCond .eq 43, 3) := by decide +kernel
theorem dX9_set_8 : decode cX9_set 8 = .ok (.iload_n 2, 1) := by decide +kernel
theorem dX9_set_9 : decode cX9_set 9 = .ok (.invokestatic 76, 3) := by decide +kernel
theorem dX9_set_12 : decode cX9_set 12 = .ok (.ifCond .eq 36, 3) := by decide +kernel
theorem dX9_set_15 : decode cX9_set 15 = .ok (.iload_n 2, 1) := by decide +kernel
theorem dX9_set_16 : decode cX9_set 16 = .ok (.aload_n 0, 1) := by decide +kernel
theorem dX9_set_17 : decode cX9_set 17 = .ok (.getfield 13, 3) := by decide +kernel
theorem dX9_set_20 : decode cX9_set 20 = .ok (.iconst 4, 1) := by decide +kernel
theorem dX9_set_21 : decode cX9_set 21 = .ok (.iload_n 1, 1) := by decide +kernel
theorem dX9_set_22 : decode cX9_set 22 = .ok (.imul, 1) := by decide +kernel
theorem dX9_set_23 : decode cX9_set 23 = .ok (.iconst 1, 1) := by decide +kernel
theorem dX9_set_24 : decode cX9_set 24 = .ok (.iadd, 1) := by decide +kernel
theorem dX9_set_25 : decode cX9_set 25 = .ok (.iaload, 1) := by decide +kernel
theorem dX9_set_26 : decode cX9_set 26 = .ok (.invokestatic 50, 3) := by decide +kernel
theorem dX9_set_29 : decode cX9_set 29 = .ok (.ifCond .eq 19, 3) := by decide +kernel
theorem dX9_set_32 : decode cX9_set 32 = .ok (.iload_n 3, 1) := by decide +kernel
theorem dX9_set_33 : decode cX9_set 33 = .ok (.invokestatic 113, 3) := by decide +kernel
theorem dX9_set_36 : decode cX9_set 36 = .ok (.ifCond .eq 12, 3) := by decide +kernel
theorem dX9_set_39 : decode cX9_set 39 = .ok (.iload_n 3, 1) := by decide +kernel
theorem dX9_set_40 : decode cX9_set 40 = .ok (.iload 4, 2) := by decide +kernel
theorem dX9_set_42 : decode cX9_set 42 = .ok (.invokestatic 116, 3) := by decide +kernel
theorem dX9_set_45 : decode cX9_set 45 = .ok (.ifCond .ne 5, 3) := by decide +kernel
theorem dX9_set_48 : decode cX9_set 48 = .ok (.iconst (-1), 1) := by decide +kernel
theorem dX9_set_49 : decode cX9_set 49 = .ok (.ireturn, 1) := by decide +kernel
theorem dX9_set_50 : decode cX9_set 50 = .ok (.aload_n 0, 1) := by decide +kernel
theorem dX9_set_51 : decode cX9_set 51 = .ok (.iload_n 1, 1) := by decide +kernel
theorem dX9_set_52 : decode cX9_set 52 = .ok (.invokevirtual 82, 3) := by decide +kernel
theorem dX9_set_55 : decode cX9_set 55 = .ok (.ifCond .eq 6, 3) := by decide +kernel
theorem dX9_set_58 : decode cX9_set 58 = .ok (.bipush (-2), 2) := by decide +kernel
theorem dX9_set_60 : decode cX9_set 60 = .ok (.ireturn, 1) := by decide +kernel
theorem dX9_set_61 : decode cX9_set 61 = .ok (.aload_n 0, 1) := by decide +kernel
theorem dX9_set_62 : decode cX9_set 62 = .ok (.getfield 91, 3) := by decide +kernel
theorem dX9_set_65 : decode cX9_set 65 = .ok (.bipush 70, 2) := by decide +kernel
theorem dX9_set_67 : decode cX9_set 67 = .ok (.if_icmp .ne 6, 3) := by decide +kernel
theorem dX9_set_70 : decode cX9_set 70 = .ok (.bipush (-3), 2) := by decide +kernel
theorem dX9_set_72 : decode cX9_set 72 = .ok (.ireturn, 1) := by decide +kernel
theorem dX9_set_73 : decode cX9_set 73 = .ok (.aload_n 0, 1) := by decide +kernel
theorem dX9_set_74 : decode cX9_set 74 = .ok (.iload_n 1, 1) := by decide +kernel
theorem dX9_set_75 : decode cX9_set 75 = .ok (.iload_n 2, 1) := by decide +kernel
theorem dX9_set_76 : decode cX9_set 76 = .ok (.iload_n 3, 1) := by decide +kernel
theorem dX9_set_77 : decode cX9_set 77 = .ok (.iload 4, 2) := by decide +kernel
theorem dX9_set_79 : decode cX9_set 79 = .ok (.invokevirtual 119, 3) := by decide +kernel
theorem dX9_set_82 : decode cX9_set 82 = .ok (.aload_n 0, 1) := by decide +kernel
theorem dX9_set_83 : decode cX9_set 83 = .ok (.iload_n 1, 1) := by decide +kernel
theorem dX9_set_84 : decode cX9_set 84 = .ok (.invokevirtual 88, 3) := by decide +kernel
theorem dX9_set_87 : decode cX9_set 87 = .ok (.ireturn, 1) := by decide +kernel
theorem dX9_clear_0 : decode cX9_clear 0 = .ok (.aload_n 0, 1) := by decide +kernel
theorem dX9_clear_1 : decode cX9_clear 1 = .ok (.iload_n 1, 1) := by decide +kernel
theorem dX9_clear_2 : decode cX9_clear 2 = .ok (.invokevirtual 85, 3) := by decide +kernel
theorem dX9_clear_5 : decode cX9_clear 5 = .ok (.ifCond .eq 17, 3) := by decide +kernel
theorem dX9_clear_8 : decode cX9_clear 8 = .ok (.iload_n 2, 1) := by decide +kernel
theorem dX9_clear_9 : decode cX9_clear 9 = .ok (.invokestatic 76, 3) := by decide +kernel
theorem dX9_clear_12 : decode cX9_clear 12 = .ok (.ifCond .eq 10, 3) := by decide +kernel
theorem dX9_clear_15 : decode cX9_clear 15 = .ok (.iload_n 3, 1) := by decide +kernel
theorem dX9_clear_16 : decode cX9_clear 16 = .ok (.invokestatic 113, 3) := by decide +kernel
theorem dX9_clear_19 : decode cX9_clear 19 = .ok (.ifCond .ne 5, 3) := by decide +kernel
theorem dX9_clear_22 : decode cX9_clear 22 = .ok (.iconst (-1), 1) := by decide +kernel
theorem dX9_clear_23 : decode cX9_clear 23 = .ok (.ireturn, 1) := by decide +kernel
theorem dX9_clear_24 : decode cX9_clear 24 = .ok (.aload_n 0, 1) := by decide +kernel
theorem dX9_clear_25 : decode cX9_clear 25 = .ok (.iload_n 1, 1) := by decide +kernel
theorem dX9_clear_26 : decode cX9_clear 26 = .ok (.invokevirtual 82, 3) := by decide +kernel
theorem dX9_clear_29 : decode cX9_clear 29 = .ok (.ifCond .eq 6, 3) := by decide +kernel
theorem dX9_clear_32 : decode cX9_clear 32 = .ok (.bipush (-2), 2) := by decide +kernel
theorem dX9_clear_34 : decode cX9_clear 34 = .ok (.ireturn, 1) := by decide +kernel
theorem dX9_clear_35 : decode cX9_clear 35 = .ok (.aload_n 0, 1) := by decide +kernel
theorem dX9_clear_36 : decode cX9_clear 36 = .ok (.getfield 91, 3) := by decide +kernel
theorem dX9_clear_39 : decode cX9_clear 39 = .ok (.bipush 70, 2) := by decide +kernel
theorem dX9_clear_41 : decode cX9_clear 41 = .ok (.if_icmp .ne 6, 3) := by decide +kernel
theorem dX9_clear_44 : decode cX9_clear 44 = .ok (.bipush (-3), 2) := by decide +kernel
theorem dX9_clear_46 : decode cX9_clear 46 = .ok (.ireturn, 1) := by decide +kernel
theorem dX9_clear_47 : decode cX9_clear 47 = .ok (.aload_n 0, 1) := by decide +kernel
theorem dX9_clear_48 : decode cX9_clear 48 = .ok (.iload_n 1, 1) := by decide +kernel
theorem dX9_clear_49 : decode cX9_clear 49 = .ok (.iload_n 2, 1) := by decide +kernel
theorem dX9_clear_50 : decode cX9_clear 50 = .ok (.iload_n 3, 1) := by decide +kernel
theorem dX9_clear_51 : decode cX9_clear 51 = .ok (.aload_n 0, 1) := by decide +kernel
theorem dX9_clear_52 : decode cX9_clear 52 = .ok (.getfield 32, 3) := by decide +kernel
theorem dX9_clear_55 : decode cX9_clear 55 = .ok (.invokevirtual 103, 3) := by decide +kernel
theorem dX9_clear_58 : decode cX9_clear 58 = .ok (.istore 4, 2) := by decide +kernel
theorem dX9_clear_60 : decode cX9_clear 60 = .ok (.iload 4, 2) := by decide +kernel
theorem dX9_clear_62 : decode cX9_clear 62 = .ok (.ifCond .ge 6, 3) := by decide +kernel
theorem dX9_clear_65 : decode cX9_clear 65 = .ok (.bipush (-4), 2) := by decide +kernel
theorem dX9_clear_67 : decode cX9_clear 67 = .ok (.ireturn, 1) := by decide +kernel
theorem dX9_clear_68 : decode cX9_clear 68 = .ok (.aload_n 0, 1) := by decide +kernel
theorem dX9_clear_69 : decode cX9_clear 69 = .ok (.iload_n 1, 1) := by decide +kernel
theorem dX9_clear_70 : decode cX9_clear 70 = .ok (.iload_n 2, 1) := by decide +kernel
theorem dX9_clear_71 : decode cX9_clear 71 = .ok (.iload_n 3, 1) := by decide +kernel
theorem dX9_clear_72 : decode cX9_clear 72 = .ok (.iconst (-1), 1) := by decide +kernel
theorem dX9_clear_73 : decode cX9_clear 73 = .ok (.invokevirtual 119, 3) := by decide +kernel
theorem dX9_clear_76 : decode cX9_clear 76 = .ok (.iload 4, 2) := by decide +kernel
theorem dX9_clear_78 : decode cX9_clear 78 = .ok (.ireturn, 1) := by decide +kernel
theorem dX9_record_0 : decode cX9_record 0 = .ok (.aload_n 0, 1) := by decide +kernel
theorem dX9_record_1 : decode cX9_record 1 = .ok (.iload_n 1, 1) := by decide +kernel
theorem dX9_record_2 : decode cX9_record 2 = .ok (.invokevirtual 85, 3) := by decide +kernel
theorem dX9_record_5 : decode cX9_record 5 = .ok (.ifCond .eq 26, 3) := by decide +kernel
theorem dX9_record_8 : decode cX9_record 8 = .ok (.iload_n 2, 1) := by decide +kernel
theorem dX9_record_9 : decode cX9_record 9 = .ok (.invokestatic 76, 3) := by decide +kernel
theorem dX9_record_12 : decode cX9_record 12 = .ok (.ifCond .eq 19, 3) := by decide +kernel
theorem dX9_record_15 : decode cX9_record 15 = .ok (.iload_n 3, 1) := by decide +kernel
theorem dX9_record_16 : decode cX9_record 16 = .ok (.invokestatic 113, 3) := by decide +kernel
theorem dX9_record_19 : decode cX9_record 19 = .ok (.ifCond .eq 12, 3) := by decide +kernel
theorem dX9_record_22 : decode cX9_record 22 = .ok (.aload_n 0, 1) := by decide +kernel
theorem dX9_record_23 : decode cX9_record 23 = .ok (.iload 4, 2) := by decide +kernel
theorem dX9_record_25 : decode cX9_record 25 = .ok (.invokevirtual 64, 3) := by decide +kernel
theorem dX9_record_28 : decode cX9_record 28 = .ok (.ifCond .ne 5, 3) := by decide +kernel
theorem dX9_record_31 : decode cX9_record 31 = .ok (.iconst (-1), 1) := by decide +kernel
theorem dX9_record_32 : decode cX9_record 32 = .ok (.ireturn, 1) := by decide +kernel
theorem dX9_record_33 : decode cX9_record 33 = .ok (.aload_n 0, 1) := by decide +kernel
theorem dX9_record_34 : decode cX9_record 34 = .ok (.iload_n 1, 1) := by decide +kernel
theorem dX9_record_35 : decode cX9_record 35 = .ok (.iload 4, 2) := by decide +kernel
theorem dX9_record_37 : decode cX9_record 37 = .ok (.invokevirtual 123, 3) := by decide +kernel
theorem dX9_record_40 : decode cX9_record 40 = .ok (.ifCond .ne 6, 3) := by decide +kernel
theorem dX9_record_43 : decode cX9_record 43 = .ok (.bipush (-2), 2) := by decide +kernel
theorem dX9_record_45 : decode cX9_record 45 = .ok (.ireturn, 1) := by decide +kernel
theorem dX9_record_46 : decode cX9_record 46 = .ok (.aload_n 0, 1) := by decide +kernel
theorem dX9_record_47 : decode cX9_record 47 = .ok (.iload_n 1, 1) := by decide +kernel
theorem dX9_record_48 : decode cX9_record 48 = .ok (.iload_n 2, 1) := by decide +kernel
theorem dX9_record_49 : decode cX9_record 49 = .ok (.iload_n 3, 1) := by decide +kernel
theorem dX9_record_50 : decode cX9_record 50 = .ok (.iload 4, 2) := by decide +kernel
theorem dX9_record_52 : decode cX9_record 52 = .ok (.invokevirtual 103, 3) := by decide +kernel
theorem dX9_record_55 : decode cX9_record 55 = .ok (.istore 5, 2) := by decide +kernel
theorem dX9_record_57 : decode cX9_record 57 = .ok (.iload 5, 2) := by decide +kernel
theorem dX9_record_59 : decode cX9_record 59 = .ok (.ifCond .ge 8, 3) := by decide +kernel
theorem dX9_record_62 : decode cX9_record 62 = .ok (.bipush (-4), 2) := by decide +kernel
theorem dX9_record_64 : decode cX9_record 64 = .ok (.goto 5, 3) := by decide +kernel
theorem dX9_record_67 : decode cX9_record 67 = .ok (.iload 5, 2) := by decide +kernel
theorem dX9_record_69 : decode cX9_record 69 = .ok (.ireturn, 1) := by decide +kernel
theorem dX9_serial_0 : decode cX9_serial 0 = .ok (.aload_n 0, 1) := by decide +kernel
theorem dX9_serial_1 : decode cX9_serial 1 = .ok (.iload_n 1, 1) := by decide +kernel
theorem dX9_serial_2 : decode cX9_serial 2 = .ok (.invokevirtual 85, 3) := by decide +kernel
theorem dX9_serial_5 : decode cX9_serial 5 = .ok (.ifCond .eq 11, 3) := by decide +kernel
theorem dX9_serial_8 : decode cX9_serial 8 = .ok (.aload_n 0, 1) := by decide +kernel
theorem dX9_serial_9 : decode cX9_serial 9 = .ok (.iload_n 2, 1) := by decide +kernel
theorem dX9_serial_10 : decode cX9_serial 10 = .ok (.invokevirtual 64, 3) := by decide +kernel
theorem dX9_serial_13 : decode cX9_serial 13 = .ok (.ifCond .ne 5, 3) := by decide +kernel
theorem dX9_serial_16 : decode cX9_serial 16 = .ok (.iconst (-1), 1) := by decide +kernel
theorem dX9_serial_17 : decode cX9_serial 17 = .ok (.ireturn, 1) := by decide +kernel
theorem dX9_serial_18 : decode cX9_serial 18 = .ok (.iconst 0, 1) := by decide +kernel
theorem dX9_serial_19 : decode cX9_serial 19 = .ok (.istore_n 3, 1) := by decide +kernel
theorem dX9_serial_20 : decode cX9_serial 20 = .ok (.iconst 0, 1) := by decide +kernel
theorem dX9_serial_21 : decode cX9_serial 21 = .ok (.istore 4, 2) := by decide +kernel
theorem dX9_serial_23 : decode cX9_serial 23 = .ok (.iload 4, 2) := by decide +kernel
theorem dX9_serial_25 : decode cX9_serial 25 = .ok (.aload_n 0, 1) := by decide +kernel
theorem dX9_serial_26 : decode cX9_serial 26 = .ok (.getfield 91, 3) := by decide +kernel
theorem dX9_serial_29 : decode cX9_serial 29 = .ok (.if_icmp .ge 39, 3) := by decide +kernel
theorem dX9_serial_32 : decode cX9_serial 32 = .ok (.iload_n 3, 1) := by decide +kernel
theorem dX9_serial_33 : decode cX9_serial 33 = .ok (.aload_n 0, 1) := by decide +kernel
theorem dX9_serial_34 : decode cX9_serial 34 = .ok (.iload 4, 2) := by decide +kernel
theorem dX9_serial_36 : decode cX9_serial 36 = .ok (.iconst 0, 1) := by decide +kernel
theorem dX9_serial_37 : decode cX9_serial 37 = .ok (.invokevirtual 100, 3) := by decide +kernel
theorem dX9_serial_40 : decode cX9_serial 40 = .ok (.iload_n 1, 1) := by decide +kernel
theorem dX9_serial_41 : decode cX9_serial 41 = .ok (.if_icmp .ne 18, 3) := by decide +kernel
theorem dX9_serial_44 : decode cX9_serial 44 = .ok (.aload_n 0, 1) := by decide +kernel
theorem dX9_serial_45 : decode cX9_serial 45 = .ok (.iload 4, 2) := by decide +kernel
theorem dX9_serial_47 : decode cX9_serial 47 = .ok (.iconst 1, 1) := by decide +kernel
theorem dX9_serial_48 : decode cX9_serial 48 = .ok (.invokevirtual 100, 3) := by decide +kernel
theorem dX9_serial_51 : decode cX9_serial 51 = .ok (.iload_n 2, 1) := by decide +kernel
theorem dX9_serial_52 : decode cX9_serial 52 = .ok (.if_icmp .gt 7, 3) := by decide +kernel
theorem dX9_serial_55 : decode cX9_serial 55 = .ok (.iconst 1, 1) := by decide +kernel
theorem dX9_serial_56 : decode cX9_serial 56 = .ok (.goto 4, 3) := by decide +kernel
theorem dX9_serial_59 : decode cX9_serial 59 = .ok (.iconst 0, 1) := by decide +kernel
theorem dX9_serial_60 : decode cX9_serial 60 = .ok (.iadd, 1) := by decide +kernel
theorem dX9_serial_61 : decode cX9_serial 61 = .ok (.istore_n 3, 1) := by decide +kernel
theorem dX9_serial_62 : decode cX9_serial 62 = .ok (.iinc 4 1, 3) := by decide +kernel
theorem dX9_serial_65 : decode cX9_serial 65 = .ok (.goto (-42), 3) := by decide +kernel
theorem dX9_serial_68 : decode cX9_serial 68 = .ok (.iload_n 3, 1) := by decide +kernel
theorem dX9_serial_69 : decode cX9_serial 69 = .ok (.ireturn, 1) := by decide +kernel
theorem dX9_change_0 : decode cX9_change 0 = .ok (.aload_n 0, 1) := by decide +kernel
theorem dX9_change_1 : decode cX9_change 1 = .ok (.iload_n 1, 1) := by decide +kernel
theorem dX9_change_2 : decode cX9_change 2 = .ok (.invokevirtual 85, 3) := by decide +kernel
theorem dX9_change_5 : decode cX9_change 5 = .ok (.ifCond .eq 16, 3) := by decide +kernel
theorem dX9_change_8 : decode cX9_change 8 = .ok (.iload_n 2, 1) := by decide +kernel
theorem dX9_change_9 : decode cX9_change 9 = .ok (.ifCond .lt 12, 3) := by decide +kernel
theorem dX9_change_12 : decode cX9_change 12 = .ok (.iload_n 3, 1) := by decide +kernel
theorem dX9_change_13 : decode cX9_change 13 = .ok (.iconst 0, 1) := by decide +kernel
theorem dX9_change_14 : decode cX9_change 14 = .ok (.iconst 3, 1) := by decide +kernel
theorem dX9_change_15 : decode cX9_change 15 = .ok (.invokestatic 35, 3) := by decide +kernel
theorem dX9_change_18 : decode cX9_change 18 = .ok (.ifCond .ne 5, 3) := by decide +kernel
theorem dX9_change_21 : decode cX9_change 21 = .ok (.iconst (-1), 1) := by decide +kernel
theorem dX9_change_22 : decode cX9_change 22 = .ok (.ireturn, 1) := by decide +kernel
theorem dX9_change_23 : decode cX9_change 23 = .ok (.iload_n 2, 1) := by decide +kernel
theorem dX9_change_24 : decode cX9_change 24 = .ok (.istore 4, 2) := by decide +kernel
theorem dX9_change_26 : decode cX9_change 26 = .ok (.iconst 0, 1) := by decide +kernel
theorem dX9_change_27 : decode cX9_change 27 = .ok (.istore 5, 2) := by decide +kernel
theorem dX9_change_29 : decode cX9_change 29 = .ok (.iload 5, 2) := by decide +kernel
theorem dX9_change_31 : decode cX9_change 31 = .ok (.aload_n 0, 1) := by decide +kernel
theorem dX9_change_32 : decode cX9_change 32 = .ok (.getfield 91, 3) := by decide +kernel
theorem dX9_change_35 : decode cX9_change 35 = .ok (.if_icmp .ge 38, 3) := by decide +kernel
theorem dX9_change_38 : decode cX9_change 38 = .ok (.aload_n 0, 1) := by decide +kernel
theorem dX9_change_39 : decode cX9_change 39 = .ok (.iload 5, 2) := by decide +kernel
theorem dX9_change_41 : decode cX9_change 41 = .ok (.iconst 0, 1) := by decide +kernel
theorem dX9_change_42 : decode cX9_change 42 = .ok (.invokevirtual 100, 3) := by decide +kernel
theorem dX9_change_45 : decode cX9_change 45 = .ok (.iload_n 1, 1) := by decide +kernel
theorem dX9_change_46 : decode cX9_change 46 = .ok (.if_icmp .ne 21, 3) := by decide +kernel
theorem dX9_change_49 : decode cX9_change 49 = .ok (.iload 4, 2) := by decide +kernel
theorem dX9_change_51 : decode cX9_change 51 = .ok (.ifCond .ne 13, 3) := by decide +kernel
theorem dX9_change_54 : decode cX9_change 54 = .ok (.aload_n 0, 1) := by decide +kernel
theorem dX9_change_55 : decode cX9_change 55 = .ok (.iload 5, 2) := by decide +kernel
theorem dX9_change_57 : decode cX9_change 57 = .ok (.iconst 1, 1) := by decide +kernel
theorem dX9_change_58 : decode cX9_change 58 = .ok (.iload_n 3, 1) := by decide +kernel
theorem dX9_change_59 : decode cX9_change 59 = .ok (.iadd, 1) := by decide +kernel
theorem dX9_change_60 : decode cX9_change 60 = .ok (.invokevirtual 100, 3) := by decide +kernel
theorem dX9_change_63 : decode cX9_change 63 = .ok (.ireturn, 1) := by decide +kernel
theorem dX9_change_64 : decode cX9_change 64 = .ok (.iinc 4 (-1), 3) := by decide +kernel
theorem dX9_change_67 : decode cX9_change 67 = .ok (.iinc 5 1, 3) := by decide +kernel
theorem dX9_change_70 : decode cX9_change 70 = .ok (.goto (-41), 3) := by decide +kernel
theorem dX9_change_73 : decode cX9_change 73 = .ok (.bipush (-4), 2) := by decide +kernel
theorem dX9_change_75 : decode cX9_change 75 = .ok (.ireturn, 1) := by decide +kernel
theorem dX9_responsible_0 : decode cX9_responsible 0 = .ok (.bipush (-4), 2) := by decide +kernel
theorem dX9_responsible_2 : decode cX9_responsible 2 = .ok (.istore 4, 2) := by decide +kernel
theorem dX9_responsible_4 : decode cX9_responsible 4 = .ok (.iconst 0, 1) := by decide +kernel
theorem dX9_responsible_5 : decode cX9_responsible 5 = .ok (.istore 5, 2) := by decide +kernel
theorem dX9_responsible_7 : decode cX9_responsible 7 = .ok (.iconst 0, 1) := by decide +kernel
theorem dX9_responsible_8 : decode cX9_responsible 8 = .ok (.istore 6, 2) := by decide +kernel
theorem dX9_responsible_10 : decode cX9_responsible 10 = .ok (.iload 6, 2) := by decide +kernel
theorem dX9_responsible_12 : decode cX9_responsible 12 = .ok (.aload_n 0, 1) := by decide +kernel
theorem dX9_responsible_13 : decode cX9_responsible 13 = .ok (.getfield 70, 3) := by decide +kernel
theorem dX9_responsible_16 : decode cX9_responsible 16 = .ok (.if_icmp .ge 116, 3) := by decide +kernel
theorem dX9_responsible_19 : decode cX9_responsible 19 = .ok (.aload_n 0, 1) := by decide +kernel
theorem dX9_responsible_20 : decode cX9_responsible 20 = .ok (.getfield 13, 3) := by decide +kernel
theorem dX9_responsible_23 : decode cX9_responsible 23 = .ok (.iconst 4, 1) := by decide +kernel
theorem dX9_responsible_24 : decode cX9_responsible 24 = .ok (.iload 6, 2) := by decide +kernel
theorem dX9_responsible_26 : decode cX9_responsible 26 = .ok (.imul, 1) := by decide +kernel
theorem dX9_responsible_27 : decode cX9_responsible 27 = .ok (.iaload, 1) := by decide +kernel
theorem dX9_responsible_28 : decode cX9_responsible 28 = .ok (.istore 7, 2) := by decide +kernel
theorem dX9_responsible_30 : decode cX9_responsible 30 = .ok (.aload_n 0, 1) := by decide +kernel
theorem dX9_responsible_31 : decode cX9_responsible 31 = .ok (.getfield 13, 3) := by decide +kernel
theorem dX9_responsible_34 : decode cX9_responsible 34 = .ok (.iconst 4, 1) := by decide +kernel
theorem dX9_responsible_35 : decode cX9_responsible 35 = .ok (.iload 6, 2) := by decide +kernel
theorem dX9_responsible_37 : decode cX9_responsible 37 = .ok (.imul, 1) := by decide +kernel
theorem dX9_responsible_38 : decode cX9_responsible 38 = .ok (.iconst 1, 1) := by decide +kernel
theorem dX9_responsible_39 : decode cX9_responsible 39 = .ok (.iadd, 1) := by decide +kernel
theorem dX9_responsible_40 : decode cX9_responsible 40 = .ok (.iaload, 1) := by decide +kernel
theorem dX9_responsible_41 : decode cX9_responsible 41 = .ok (.istore 8, 2) := by decide +kernel
theorem dX9_responsible_43 : decode cX9_responsible 43 = .ok (.iload 7, 2) := by decide +kernel
theorem dX9_responsible_45 : decode cX9_responsible 45 = .ok (.iload_n 1, 1) := by decide +kernel
theorem dX9_responsible_46 : decode cX9_responsible 46 = .ok (.if_icmp .eq 8, 3) := by decide +kernel
theorem dX9_responsible_49 : decode cX9_responsible 49 = .ok (.iload 7, 2) := by decide +kernel
theorem dX9_responsible_51 : decode cX9_responsible 51 = .ok (.ifCond .ne 75, 3) := by decide +kernel
theorem dX9_responsible_54 : decode cX9_responsible 54 = .ok (.aload_n 0, 1) := by decide +kernel
theorem dX9_responsible_55 : decode cX9_responsible 55 = .ok (.iload 6, 2) := by decide +kernel
theorem dX9_responsible_57 : decode cX9_responsible 57 = .ok (.iload_n 3, 1) := by decide +kernel
theorem dX9_responsible_58 : decode cX9_responsible 58 = .ok (.invokevirtual 123, 3) := by decide +kernel
theorem dX9_responsible_61 : decode cX9_responsible 61 = .ok (.ifCond .eq 65, 3) := by decide +kernel
theorem dX9_responsible_64 : decode cX9_responsible 64 = .ok (.iload_n 2, 1) := by decide +kernel
theorem dX9_responsible_65 : decode cX9_responsible 65 = .ok (.iload 8, 2) := by decide +kernel
theorem dX9_responsible_67 : decode cX9_responsible 67 = .ok (.invokestatic 50, 3) := by decide +kernel
theorem dX9_responsible_70 : decode cX9_responsible 70 = .ok (.ifCond .eq 56, 3) := by decide +kernel
theorem dX9_responsible_73 : decode cX9_responsible 73 = .ok (.iconst 2, 1) := by decide +kernel
theorem dX9_responsible_74 : decode cX9_responsible 74 = .ok (.iload 8, 2) := by decide +kernel
theorem dX9_responsible_76 : decode cX9_responsible 76 = .ok (.invokestatic 43, 3) := by decide +kernel
theorem dX9_responsible_79 : decode cX9_responsible 79 = .ok (.imul, 1) := by decide +kernel
theorem dX9_responsible_80 : decode cX9_responsible 80 = .ok (.iload 7, 2) := by decide +kernel
theorem dX9_responsible_82 : decode cX9_responsible 82 = .ok (.iload_n 1, 1) := by decide +kernel
theorem dX9_responsible_83 : decode cX9_responsible 83 = .ok (.if_icmp .ne 7, 3) := by decide +kernel
theorem dX9_responsible_86 : decode cX9_responsible 86 = .ok (.iconst 1, 1) := by decide +kernel
theorem dX9_responsible_87 : decode cX9_responsible 87 = .ok (.goto 4, 3) := by decide +kernel
theorem dX9_responsible_90 : decode cX9_responsible 90 = .ok (.iconst 0, 1) := by decide +kernel
theorem dX9_responsible_91 : decode cX9_responsible 91 = .ok (.iadd, 1) := by decide +kernel
theorem dX9_responsible_92 : decode cX9_responsible 92 = .ok (.istore 9, 2) := by decide +kernel
theorem dX9_responsible_94 : decode cX9_responsible 94 = .ok (.iload 9, 2) := by decide +kernel
theorem dX9_responsible_96 : decode cX9_responsible 96 = .ok (.iload 5, 2) := by decide +kernel
theorem dX9_responsible_98 : decode cX9_responsible 98 = .ok (.if_icmp .le 8, 3) := by decide +kernel
theorem dX9_responsible_101 : decode cX9_responsible 101 = .ok (.iload 6, 2) := by decide +kernel
theorem dX9_responsible_103 : decode cX9_responsible 103 = .ok (.goto 5, 3) := by decide +kernel
theorem dX9_responsible_106 : decode cX9_responsible 106 = .ok (.iload 4, 2) := by decide +kernel
theorem dX9_responsible_108 : decode cX9_responsible 108 = .ok (.istore 4, 2) := by decide +kernel
theorem dX9_responsible_110 : decode cX9_responsible 110 = .ok (.iload 9, 2) := by decide +kernel
theorem dX9_responsible_112 : decode cX9_responsible 112 = .ok (.iload 5, 2) := by decide +kernel
theorem dX9_responsible_114 : decode cX9_responsible 114 = .ok (.if_icmp .le 8, 3) := by decide +kernel
theorem dX9_responsible_117 : decode cX9_responsible 117 = .ok (.iload 9, 2) := by decide +kernel
theorem dX9_responsible_119 : decode cX9_responsible 119 = .ok (.goto 5, 3) := by decide +kernel
theorem dX9_responsible_122 : decode cX9_responsible 122 = .ok (.iload 5, 2) := by decide +kernel
theorem dX9_responsible_124 : decode cX9_responsible 124 = .ok (.istore 5, 2) := by decide +kernel
theorem dX9_responsible_126 : decode cX9_responsible 126 = .ok (.iinc 6 1, 3) := by decide +kernel
theorem dX9_responsible_129 : decode cX9_responsible 129 = .ok (.goto (-119), 3) := by decide +kernel
theorem dX9_responsible_132 : decode cX9_responsible 132 = .ok (.iload 4, 2) := by decide +kernel
theorem dX9_responsible_134 : decode cX9_responsible 134 = .ok (.ireturn, 1) := by decide +kernel
theorem dX9_finds_0 : decode cX9_finds 0 = .ok (.iload_n 2, 1) := by decide +kernel
theorem dX9_finds_1 : decode cX9_finds 1 = .ok (.istore 5, 2) := by decide +kernel
theorem dX9_finds_3 : decode cX9_finds 3 = .ok (.iconst 0, 1) := by decide +kernel
theorem dX9_finds_4 : decode cX9_finds 4 = .ok (.istore 6, 2) := by decide +kernel
theorem dX9_finds_6 : decode cX9_finds 6 = .ok (.iload 6, 2) := by decide +kernel
theorem dX9_finds_8 : decode cX9_finds 8 = .ok (.iconst 5, 1) := by decide +kernel
theorem dX9_finds_9 : decode cX9_finds 9 = .ok (.if_icmp .ge 149, 3) := by decide +kernel
theorem dX9_finds_12 : decode cX9_finds 12 = .ok (.aload_n 0, 1) := by decide +kernel
theorem dX9_finds_13 : decode cX9_finds 13 = .ok (.iload_n 1, 1) := by decide +kernel
theorem dX9_finds_14 : decode cX9_finds 14 = .ok (.iload 5, 2) := by decide +kernel
theorem dX9_finds_16 : decode cX9_finds 16 = .ok (.iload 4, 2) := by decide +kernel
theorem dX9_finds_18 : decode cX9_finds 18 = .ok (.invokevirtual 126, 3) := by decide +kernel
theorem dX9_finds_21 : decode cX9_finds 21 = .ok (.istore 7, 2) := by decide +kernel
theorem dX9_finds_23 : decode cX9_finds 23 = .ok (.iload 7, 2) := by decide +kernel
theorem dX9_finds_25 : decode cX9_finds 25 = .ok (.ifCond .ge 6, 3) := by decide +kernel
theorem dX9_finds_28 : decode cX9_finds 28 = .ok (.bipush (-11), 2) := by decide +kernel
theorem dX9_finds_30 : decode cX9_finds 30 = .ok (.ireturn, 1) := by decide +kernel
theorem dX9_finds_31 : decode cX9_finds 31 = .ok (.aload_n 0, 1) := by decide +kernel
theorem dX9_finds_32 : decode cX9_finds 32 = .ok (.iload 5, 2) := by decide +kernel
theorem dX9_finds_34 : decode cX9_finds 34 = .ok (.putfield 130, 3) := by decide +kernel
theorem dX9_finds_37 : decode cX9_finds 37 = .ok (.aload_n 0, 1) := by decide +kernel
theorem dX9_finds_38 : decode cX9_finds 38 = .ok (.iload 7, 2) := by decide +kernel
theorem dX9_finds_40 : decode cX9_finds 40 = .ok (.iload 5, 2) := by decide +kernel
theorem dX9_finds_42 : decode cX9_finds 42 = .ok (.iload 4, 2) := by decide +kernel
theorem dX9_finds_44 : decode cX9_finds 44 = .ok (.invokevirtual 133, 3) := by decide +kernel
theorem dX9_finds_47 : decode cX9_finds 47 = .ok (.ifCond .ne 59, 3) := by decide +kernel
theorem dX9_finds_50 : decode cX9_finds 50 = .ok (.aload_n 0, 1) := by decide +kernel
theorem dX9_finds_51 : decode cX9_finds 51 = .ok (.iload 5, 2) := by decide +kernel
theorem dX9_finds_53 : decode cX9_finds 53 = .ok (.invokestatic 136, 3) := by decide +kernel
theorem dX9_finds_56 : decode cX9_finds 56 = .ok (.putfield 130, 3) := by decide +kernel
theorem dX9_finds_59 : decode cX9_finds 59 = .ok (.iload 5, 2) := by decide +kernel
theorem dX9_finds_61 : decode cX9_finds 61 = .ok (.invokestatic 79, 3) := by decide +kernel
theorem dX9_finds_64 : decode cX9_finds 64 = .ok (.ifCond .ne 39, 3) := by decide +kernel
theorem dX9_finds_67 : decode cX9_finds 67 = .ok (.aload_n 0, 1) := by decide +kernel
theorem dX9_finds_68 : decode cX9_finds 68 = .ok (.getfield 130, 3) := by decide +kernel
theorem dX9_finds_71 : decode cX9_finds 71 = .ok (.aload_n 0, 1) := by decide +kernel
theorem dX9_finds_72 : decode cX9_finds 72 = .ok (.getfield 13, 3) := by decide +kernel
theorem dX9_finds_75 : decode cX9_finds 75 = .ok (.iconst 4, 1) := by decide +kernel
theorem dX9_finds_76 : decode cX9_finds 76 = .ok (.iload 7, 2) := by decide +kernel
theorem dX9_finds_78 : decode cX9_finds 78 = .ok (.imul, 1) := by decide +kernel
theorem dX9_finds_79 : decode cX9_finds 79 = .ok (.iconst 1, 1) := by decide +kernel
theorem dX9_finds_80 : decode cX9_finds 80 = .ok (.iadd, 1) := by decide +kernel
theorem dX9_finds_81 : decode cX9_finds 81 = .ok (.iaload, 1) := by decide +kernel
theorem dX9_finds_82 : decode cX9_finds 82 = .ok (.invokestatic 110, 3) := by decide +kernel
theorem dX9_finds_85 : decode cX9_finds 85 = .ok (.ifCond .eq 18, 3) := by decide +kernel
theorem dX9_finds_88 : decode cX9_finds 88 = .ok (.aload_n 0, 1) := by decide +kernel
theorem dX9_finds_89 : decode cX9_finds 89 = .ok (.iload 7, 2) := by decide +kernel
theorem dX9_finds_91 : decode cX9_finds 91 = .ok (.aload_n 0, 1) := by decide +kernel
theorem dX9_finds_92 : decode cX9_finds 92 = .ok (.getfield 130, 3) := by decide +kernel
theorem dX9_finds_95 : decode cX9_finds 95 = .ok (.iload 4, 2) := by decide +kernel
theorem dX9_finds_97 : decode cX9_finds 97 = .ok (.invokevirtual 133, 3) := by decide +kernel
theorem dX9_finds_100 : decode cX9_finds 100 = .ok (.ifCond .ne 6, 3) := by decide +kernel
theorem dX9_finds_103 : decode cX9_finds 103 = .ok (.bipush (-12), 2) := by decide +kernel
theorem dX9_finds_105 : decode cX9_finds 105 = .ok (.ireturn, 1) := by decide +kernel
theorem dX9_finds_106 : decode cX9_finds 106 = .ok (.aload_n 0, 1) := by decide +kernel
theorem dX9_finds_107 : decode cX9_finds 107 = .ok (.iload 7, 2) := by decide +kernel
theorem dX9_finds_109 : decode cX9_finds 109 = .ok (.aload_n 0, 1) := by decide +kernel
theorem dX9_finds_110 : decode cX9_finds 110 = .ok (.getfield 130, 3) := by decide +kernel
theorem dX9_finds_113 : decode cX9_finds 113 = .ok (.iload_n 3, 1) := by decide +kernel
theorem dX9_finds_114 : decode cX9_finds 114 = .ok (.iload 4, 2) := by decide +kernel
theorem dX9_finds_116 : decode cX9_finds 116 = .ok (.invokevirtual 103, 3) := by decide +kernel
theorem dX9_finds_119 : decode cX9_finds 119 = .ok (.istore 8, 2) := by decide +kernel
theorem dX9_finds_121 : decode cX9_finds 121 = .ok (.iload 8, 2) := by decide +kernel
theorem dX9_finds_123 : decode cX9_finds 123 = .ok (.ifCond .lt 6, 3) := by decide +kernel
theorem dX9_finds_126 : decode cX9_finds 126 = .ok (.iload 8, 2) := by decide +kernel
theorem dX9_finds_128 : decode cX9_finds 128 = .ok (.ireturn, 1) := by decide +kernel
theorem dX9_finds_129 : decode cX9_finds 129 = .ok (.aload_n 0, 1) := by decide +kernel
theorem dX9_finds_130 : decode cX9_finds 130 = .ok (.iload 7, 2) := by decide +kernel
theorem dX9_finds_132 : decode cX9_finds 132 = .ok (.aload_n 0, 1) := by decide +kernel
theorem dX9_finds_133 : decode cX9_finds 133 = .ok (.getfield 130, 3) := by decide +kernel
theorem dX9_finds_136 : decode cX9_finds 136 = .ok (.iconst 1, 1) := by decide +kernel
theorem dX9_finds_137 : decode cX9_finds 137 = .ok (.iload 4, 2) := by decide +kernel
theorem dX9_finds_139 : decode cX9_finds 139 = .ok (.invokevirtual 103, 3) := by decide +kernel
theorem dX9_finds_142 : decode cX9_finds 142 = .ok (.istore 5, 2) := by decide +kernel
theorem dX9_finds_144 : decode cX9_finds 144 = .ok (.iload 5, 2) := by decide +kernel
theorem dX9_finds_146 : decode cX9_finds 146 = .ok (.ifCond .ge 6, 3) := by decide +kernel
theorem dX9_finds_149 : decode cX9_finds 149 = .ok (.bipush (-13), 2) := by decide +kernel
theorem dX9_finds_151 : decode cX9_finds 151 = .ok (.ireturn, 1) := by decide +kernel
theorem dX9_finds_152 : decode cX9_finds 152 = .ok (.iinc 6 1, 3) := by decide +kernel
theorem dX9_finds_155 : decode cX9_finds 155 = .ok (.goto (-149), 3) := by decide +kernel
theorem dX9_finds_158 : decode cX9_finds 158 = .ok (.bipush (-14), 2) := by decide +kernel
theorem dX9_finds_160 : decode cX9_finds 160 = .ok (.ireturn, 1) := by decide +kernel
theorem dX9_isQuestion_0 : decode cX9_isQuestion 0 = .ok (.iload_n 1, 1) := by decide +kernel
theorem dX9_isQuestion_1 : decode cX9_isQuestion 1 = .ok (.invokestatic 73, 3) := by decide +kernel
theorem dX9_isQuestion_4 : decode cX9_isQuestion 4 = .ok (.ifCond .eq 21, 3) := by decide +kernel
theorem dX9_isQuestion_7 : decode cX9_isQuestion 7 = .ok (.iload_n 2, 1) := by decide +kernel
theorem dX9_isQuestion_8 : decode cX9_isQuestion 8 = .ok (.invokestatic 76, 3) := by decide +kernel
theorem dX9_isQuestion_11 : decode cX9_isQuestion 11 = .ok (.ifCond .eq 14, 3) := by decide +kernel
theorem dX9_isQuestion_14 : decode cX9_isQuestion 14 = .ok (.iload_n 3, 1) := by decide +kernel
theorem dX9_isQuestion_15 : decode cX9_isQuestion 15 = .ok (.invokestatic 113, 3) := by decide +kernel
theorem dX9_isQuestion_18 : decode cX9_isQuestion 18 = .ok (.ifCond .eq 7, 3) := by decide +kernel
theorem dX9_isQuestion_21 : decode cX9_isQuestion 21 = .ok (.iconst 1, 1) := by decide +kernel
theorem dX9_isQuestion_22 : decode cX9_isQuestion 22 = .ok (.goto 4, 3) := by decide +kernel
theorem dX9_isQuestion_25 : decode cX9_isQuestion 25 = .ok (.iconst 0, 1) := by decide +kernel
theorem dX9_isQuestion_26 : decode cX9_isQuestion 26 = .ok (.ireturn, 1) := by decide +kernel
theorem dX9_answer_0 : decode cX9_answer 0 = .ok (.iload_n 1, 1) := by decide +kernel
theorem dX9_answer_1 : decode cX9_answer 1 = .ok (.invokestatic 54, 3) := by decide +kernel
theorem dX9_answer_4 : decode cX9_answer 4 = .ok (.ifCond .eq 22, 3) := by decide +kernel
theorem dX9_answer_7 : decode cX9_answer 7 = .ok (.aload_n 0, 1) := by decide +kernel
theorem dX9_answer_8 : decode cX9_answer 8 = .ok (.iconst 0, 1) := by decide +kernel
theorem dX9_answer_9 : decode cX9_answer 9 = .ok (.iload_n 2, 1) := by decide +kernel
theorem dX9_answer_10 : decode cX9_answer 10 = .ok (.iload_n 3, 1) := by decide +kernel
theorem dX9_answer_11 : decode cX9_answer 11 = .ok (.invokevirtual 139, 3) := by decide +kernel
theorem dX9_answer_14 : decode cX9_answer 14 = .ok (.ifCond .eq 12, 3) := by decide +kernel
theorem dX9_answer_17 : decode cX9_answer 17 = .ok (.aload_n 0, 1) := by decide +kernel
theorem dX9_answer_18 : decode cX9_answer 18 = .ok (.iload 4, 2) := by decide +kernel
theorem dX9_answer_20 : decode cX9_answer 20 = .ok (.invokevirtual 64, 3) := by decide +kernel
theorem dX9_answer_23 : decode cX9_answer 23 = .ok (.ifCond .ne 5, 3) := by decide +kernel
theorem dX9_answer_26 : decode cX9_answer 26 = .ok (.iconst (-1), 1) := by decide +kernel
theorem dX9_answer_27 : decode cX9_answer 27 = .ok (.ireturn, 1) := by decide +kernel
theorem dX9_answer_28 : decode cX9_answer 28 = .ok (.aload_n 0, 1) := by decide +kernel
theorem dX9_answer_29 : decode cX9_answer 29 = .ok (.aload_n 0, 1) := by decide +kernel
theorem dX9_answer_30 : decode cX9_answer 30 = .ok (.iload_n 1, 1) := by decide +kernel
theorem dX9_answer_31 : decode cX9_answer 31 = .ok (.iload 4, 2) := by decide +kernel
theorem dX9_answer_33 : decode cX9_answer 33 = .ok (.invokevirtual 67, 3) := by decide +kernel
theorem dX9_answer_36 : decode cX9_answer 36 = .ok (.iload_n 2, 1) := by decide +kernel
theorem dX9_answer_37 : decode cX9_answer 37 = .ok (.iload_n 3, 1) := by decide +kernel
theorem dX9_answer_38 : decode cX9_answer 38 = .ok (.iload 4, 2) := by decide +kernel
theorem dX9_answer_40 : decode cX9_answer 40 = .ok (.invokevirtual 142, 3) := by decide +kernel
theorem dX9_answer_43 : decode cX9_answer 43 = .ok (.ireturn, 1) := by decide +kernel
theorem dX9_viewAnswer_0 : decode cX9_viewAnswer 0 = .ok (.aload_n 0, 1) := by decide +kernel
theorem dX9_viewAnswer_1 : decode cX9_viewAnswer 1 = .ok (.iload_n 1, 1) := by decide +kernel
theorem dX9_viewAnswer_2 : decode cX9_viewAnswer 2 = .ok (.iload_n 2, 1) := by decide +kernel
theorem dX9_viewAnswer_3 : decode cX9_viewAnswer 3 = .ok (.iload_n 3, 1) := by decide +kernel
theorem dX9_viewAnswer_4 : decode cX9_viewAnswer 4 = .ok (.invokevirtual 139, 3) := by decide +kernel
theorem dX9_viewAnswer_7 : decode cX9_viewAnswer 7 = .ok (.ifCond .eq 24, 3) := by decide +kernel
theorem dX9_viewAnswer_10 : decode cX9_viewAnswer 10 = .ok (.aload_n 0, 1) := by decide +kernel
theorem dX9_viewAnswer_11 : decode cX9_viewAnswer 11 = .ok (.iload 4, 2) := by decide +kernel
theorem dX9_viewAnswer_13 : decode cX9_viewAnswer 13 = .ok (.invokevirtual 64, 3) := by decide +kernel
theorem dX9_viewAnswer_16 : decode cX9_viewAnswer 16 = .ok (.ifCond .eq 15, 3) := by decide +kernel
theorem dX9_viewAnswer_19 : decode cX9_viewAnswer 19 = .ok (.aload_n 0, 1) := by decide +kernel
theorem dX9_viewAnswer_20 : decode cX9_viewAnswer 20 = .ok (.iload_n 1, 1) := by decide +kernel
theorem dX9_viewAnswer_21 : decode cX9_viewAnswer 21 = .ok (.iload_n 2, 1) := by decide +kernel
theorem dX9_viewAnswer_22 : decode cX9_viewAnswer 22 = .ok (.iload_n 3, 1) := by decide +kernel
theorem dX9_viewAnswer_23 : decode cX9_viewAnswer 23 = .ok (.iload 4, 2) := by decide +kernel
theorem dX9_viewAnswer_25 : decode cX9_viewAnswer 25 = .ok (.invokevirtual 142, 3) := by decide +kernel
theorem dX9_viewAnswer_28 : decode cX9_viewAnswer 28 = .ok (.goto 4, 3) := by decide +kernel
theorem dX9_viewAnswer_31 : decode cX9_viewAnswer 31 = .ok (.iconst (-1), 1) := by decide +kernel
theorem dX9_viewAnswer_32 : decode cX9_viewAnswer 32 = .ok (.ireturn, 1) := by decide +kernel
theorem dX9_zoneFor_0 : decode cX9_zoneFor 0 = .ok (.aload_n 0, 1) := by decide +kernel
theorem dX9_zoneFor_1 : decode cX9_zoneFor 1 = .ok (.iload_n 1, 1) := by decide +kernel
theorem dX9_zoneFor_2 : decode cX9_zoneFor 2 = .ok (.iload_n 2, 1) := by decide +kernel
theorem dX9_zoneFor_3 : decode cX9_zoneFor 3 = .ok (.iconst 0, 1) := by decide +kernel
theorem dX9_zoneFor_4 : decode cX9_zoneFor 4 = .ok (.invokevirtual 139, 3) := by decide +kernel
theorem dX9_zoneFor_7 : decode cX9_zoneFor 7 = .ok (.ifCond .eq 21, 3) := by decide +kernel
theorem dX9_zoneFor_10 : decode cX9_zoneFor 10 = .ok (.aload_n 0, 1) := by decide +kernel
theorem dX9_zoneFor_11 : decode cX9_zoneFor 11 = .ok (.iload_n 3, 1) := by decide +kernel
theorem dX9_zoneFor_12 : decode cX9_zoneFor 12 = .ok (.invokevirtual 64, 3) := by decide +kernel
theorem dX9_zoneFor_15 : decode cX9_zoneFor 15 = .ok (.ifCond .eq 13, 3) := by decide +kernel
theorem dX9_zoneFor_18 : decode cX9_zoneFor 18 = .ok (.aload_n 0, 1) := by decide +kernel
theorem dX9_zoneFor_19 : decode cX9_zoneFor 19 = .ok (.iload_n 1, 1) := by decide +kernel
theorem dX9_zoneFor_20 : decode cX9_zoneFor 20 = .ok (.iload_n 2, 1) := by decide +kernel
theorem dX9_zoneFor_21 : decode cX9_zoneFor 21 = .ok (.iload_n 3, 1) := by decide +kernel
theorem dX9_zoneFor_22 : decode cX9_zoneFor 22 = .ok (.invokevirtual 126, 3) := by decide +kernel
theorem dX9_zoneFor_25 : decode cX9_zoneFor 25 = .ok (.goto 4, 3) := by decide +kernel
theorem dX9_zoneFor_28 : decode cX9_zoneFor 28 = .ok (.iconst (-1), 1) := by decide +kernel
theorem dX9_zoneFor_29 : decode cX9_zoneFor 29 = .ok (.ireturn, 1) := by decide +kernel
theorem dX9_source_0 : decode cX9_source 0 = .ok (.aload_n 0, 1) := by decide +kernel
theorem dX9_source_1 : decode cX9_source 1 = .ok (.iload_n 1, 1) := by decide +kernel
theorem dX9_source_2 : decode cX9_source 2 = .ok (.iload_n 2, 1) := by decide +kernel
theorem dX9_source_3 : decode cX9_source 3 = .ok (.iload_n 3, 1) := by decide +kernel
theorem dX9_source_4 : decode cX9_source 4 = .ok (.invokevirtual 139, 3) := by decide +kernel
theorem dX9_source_7 : decode cX9_source 7 = .ok (.ifCond .eq 12, 3) := by decide +kernel
theorem dX9_source_10 : decode cX9_source 10 = .ok (.aload_n 0, 1) := by decide +kernel
theorem dX9_source_11 : decode cX9_source 11 = .ok (.iload 4, 2) := by decide +kernel
theorem dX9_source_13 : decode cX9_source 13 = .ok (.invokevirtual 64, 3) := by decide +kernel
theorem dX9_source_16 : decode cX9_source 16 = .ok (.ifCond .ne 5, 3) := by decide +kernel
theorem dX9_source_19 : decode cX9_source 19 = .ok (.iconst (-1), 1) := by decide +kernel
end
section
theorem dX9_source_20 : decode cX9_source 20 = .ok (.ireturn, 1) := by decide +kernel
theorem dX9_source_21 : decode cX9_source 21 = .ok (.aload_n 0, 1) := by decide +kernel
theorem dX9_source_22 : decode cX9_source 22 = .ok (.iload_n 1, 1) := by decide +kernel
theorem dX9_source_23 : decode cX9_source 23 = .ok (.iload_n 2, 1) := by decide +kernel
theorem dX9_source_24 : decode cX9_source 24 = .ok (.iload_n 3, 1) := by decide +kernel
theorem dX9_source_25 : decode cX9_source 25 = .ok (.iload 4, 2) := by decide +kernel
theorem dX9_source_27 : decode cX9_source 27 = .ok (.invokevirtual 142, 3) := by decide +kernel
theorem dX9_source_30 : decode cX9_source 30 = .ok (.ifCond .ge 8, 3) := by decide +kernel
theorem dX9_source_33 : decode cX9_source 33 = .ok (.bipush (-4), 2) := by decide +kernel
theorem dX9_source_35 : decode cX9_source 35 = .ok (.goto 7, 3) := by decide +kernel
theorem dX9_source_38 : decode cX9_source 38 = .ok (.aload_n 0, 1) := by decide +kernel
theorem dX9_source_39 : decode cX9_source 39 = .ok (.getfield 130, 3) := by decide +kernel
theorem dX9_source_42 : decode cX9_source 42 = .ok (.ireturn, 1) := by decide +kernel
theorem dX9_parts_0 : decode cX9_parts 0 = .ok (.iconst 0, 1) := by decide +kernel
theorem dX9_parts_1 : decode cX9_parts 1 = .ok (.istore 7, 2) := by decide +kernel
theorem dX9_parts_3 : decode cX9_parts 3 = .ok (.iconst 1, 1) := by decide +kernel
theorem dX9_parts_4 : decode cX9_parts 4 = .ok (.istore 8, 2) := by decide +kernel
theorem dX9_parts_6 : decode cX9_parts 6 = .ok (.iload 8, 2) := by decide +kernel
theorem dX9_parts_8 : decode cX9_parts 8 = .ok (.bipush 124, 2) := by decide +kernel
theorem dX9_parts_10 : decode cX9_parts 10 = .ok (.if_icmp .gt 53, 3) := by decide +kernel
theorem dX9_parts_13 : decode cX9_parts 13 = .ok (.iload 8, 2) := by decide +kernel
theorem dX9_parts_15 : decode cX9_parts 15 = .ok (.invokestatic 76, 3) := by decide +kernel
theorem dX9_parts_18 : decode cX9_parts 18 = .ok (.ifCond .eq 39, 3) := by decide +kernel
theorem dX9_parts_21 : decode cX9_parts 21 = .ok (.aload_n 0, 1) := by decide +kernel
theorem dX9_parts_22 : decode cX9_parts 22 = .ok (.iload_n 1, 1) := by decide +kernel
theorem dX9_parts_23 : decode cX9_parts 23 = .ok (.iload 8, 2) := by decide +kernel
theorem dX9_parts_25 : decode cX9_parts 25 = .ok (.iload_n 3, 1) := by decide +kernel
theorem dX9_parts_26 : decode cX9_parts 26 = .ok (.iload 4, 2) := by decide +kernel
theorem dX9_parts_28 : decode cX9_parts 28 = .ok (.invokevirtual 142, 3) := by decide +kernel
theorem dX9_parts_31 : decode cX9_parts 31 = .ok (.aload_n 0, 1) := by decide +kernel
theorem dX9_parts_32 : decode cX9_parts 32 = .ok (.iload_n 2, 1) := by decide +kernel
theorem dX9_parts_33 : decode cX9_parts 33 = .ok (.iload 8, 2) := by decide +kernel
theorem dX9_parts_35 : decode cX9_parts 35 = .ok (.iload_n 3, 1) := by decide +kernel
theorem dX9_parts_36 : decode cX9_parts 36 = .ok (.iload 5, 2) := by decide +kernel
theorem dX9_parts_38 : decode cX9_parts 38 = .ok (.invokevirtual 142, 3) := by decide +kernel
theorem dX9_parts_41 : decode cX9_parts 41 = .ok (.if_icmp .eq 16, 3) := by decide +kernel
theorem dX9_parts_44 : decode cX9_parts 44 = .ok (.iload 7, 2) := by decide +kernel
theorem dX9_parts_46 : decode cX9_parts 46 = .ok (.iload 6, 2) := by decide +kernel
theorem dX9_parts_48 : decode cX9_parts 48 = .ok (.if_icmp .ne 6, 3) := by decide +kernel
theorem dX9_parts_51 : decode cX9_parts 51 = .ok (.iload 8, 2) := by decide +kernel
theorem dX9_parts_53 : decode cX9_parts 53 = .ok (.ireturn, 1) := by decide +kernel
theorem dX9_parts_54 : decode cX9_parts 54 = .ok (.iinc 7 1, 3) := by decide +kernel
theorem dX9_parts_57 : decode cX9_parts 57 = .ok (.iinc 8 1, 3) := by decide +kernel
theorem dX9_parts_60 : decode cX9_parts 60 = .ok (.goto (-54), 3) := by decide +kernel
theorem dX9_parts_63 : decode cX9_parts 63 = .ok (.iload 6, 2) := by decide +kernel
theorem dX9_parts_65 : decode cX9_parts 65 = .ok (.ifCond .ge 8, 3) := by decide +kernel
theorem dX9_parts_68 : decode cX9_parts 68 = .ok (.iload 7, 2) := by decide +kernel
theorem dX9_parts_70 : decode cX9_parts 70 = .ok (.goto 5, 3) := by decide +kernel
theorem dX9_parts_73 : decode cX9_parts 73 = .ok (.bipush (-4), 2) := by decide +kernel
theorem dX9_parts_75 : decode cX9_parts 75 = .ok (.ireturn, 1) := by decide +kernel
theorem dX9_differences_0 : decode cX9_differences 0 = .ok (.iload_n 1, 1) := by decide +kernel
theorem dX9_differences_1 : decode cX9_differences 1 = .ok (.invokestatic 73, 3) := by decide +kernel
theorem dX9_differences_4 : decode cX9_differences 4 = .ok (.ifCond .eq 27, 3) := by decide +kernel
theorem dX9_differences_7 : decode cX9_differences 7 = .ok (.iload_n 2, 1) := by decide +kernel
theorem dX9_differences_8 : decode cX9_differences 8 = .ok (.invokestatic 113, 3) := by decide +kernel
theorem dX9_differences_11 : decode cX9_differences 11 = .ok (.ifCond .eq 20, 3) := by decide +kernel
theorem dX9_differences_14 : decode cX9_differences 14 = .ok (.aload_n 0, 1) := by decide +kernel
theorem dX9_differences_15 : decode cX9_differences 15 = .ok (.iload_n 3, 1) := by decide +kernel
theorem dX9_differences_16 : decode cX9_differences 16 = .ok (.invokevirtual 64, 3) := by decide +kernel
theorem dX9_differences_19 : decode cX9_differences 19 = .ok (.ifCond .eq 12, 3) := by decide +kernel
theorem dX9_differences_22 : decode cX9_differences 22 = .ok (.aload_n 0, 1) := by decide +kernel
theorem dX9_differences_23 : decode cX9_differences 23 = .ok (.iload 4, 2) := by decide +kernel
theorem dX9_differences_25 : decode cX9_differences 25 = .ok (.invokevirtual 64, 3) := by decide +kernel
theorem dX9_differences_28 : decode cX9_differences 28 = .ok (.ifCond .ne 5, 3) := by decide +kernel
theorem dX9_differences_31 : decode cX9_differences 31 = .ok (.iconst (-1), 1) := by decide +kernel
theorem dX9_differences_32 : decode cX9_differences 32 = .ok (.ireturn, 1) := by decide +kernel
theorem dX9_differences_33 : decode cX9_differences 33 = .ok (.aload_n 0, 1) := by decide +kernel
theorem dX9_differences_34 : decode cX9_differences 34 = .ok (.iload_n 1, 1) := by decide +kernel
theorem dX9_differences_35 : decode cX9_differences 35 = .ok (.iload_n 1, 1) := by decide +kernel
theorem dX9_differences_36 : decode cX9_differences 36 = .ok (.iload_n 2, 1) := by decide +kernel
theorem dX9_differences_37 : decode cX9_differences 37 = .ok (.iload_n 3, 1) := by decide +kernel
theorem dX9_differences_38 : decode cX9_differences 38 = .ok (.iload 4, 2) := by decide +kernel
theorem dX9_differences_40 : decode cX9_differences 40 = .ok (.iconst (-1), 1) := by decide +kernel
theorem dX9_differences_41 : decode cX9_differences 41 = .ok (.invokevirtual 145, 3) := by decide +kernel
theorem dX9_differences_44 : decode cX9_differences 44 = .ok (.ireturn, 1) := by decide +kernel
theorem dX9_difference_0 : decode cX9_difference 0 = .ok (.iload_n 1, 1) := by decide +kernel
theorem dX9_difference_1 : decode cX9_difference 1 = .ok (.invokestatic 73, 3) := by decide +kernel
theorem dX9_difference_4 : decode cX9_difference 4 = .ok (.ifCond .eq 32, 3) := by decide +kernel
theorem dX9_difference_7 : decode cX9_difference 7 = .ok (.iload_n 2, 1) := by decide +kernel
theorem dX9_difference_8 : decode cX9_difference 8 = .ok (.invokestatic 113, 3) := by decide +kernel
theorem dX9_difference_11 : decode cX9_difference 11 = .ok (.ifCond .eq 25, 3) := by decide +kernel
theorem dX9_difference_14 : decode cX9_difference 14 = .ok (.aload_n 0, 1) := by decide +kernel
theorem dX9_difference_15 : decode cX9_difference 15 = .ok (.iload_n 3, 1) := by decide +kernel
theorem dX9_difference_16 : decode cX9_difference 16 = .ok (.invokevirtual 64, 3) := by decide +kernel
theorem dX9_difference_19 : decode cX9_difference 19 = .ok (.ifCond .eq 17, 3) := by decide +kernel
theorem dX9_difference_22 : decode cX9_difference 22 = .ok (.aload_n 0, 1) := by decide +kernel
theorem dX9_difference_23 : decode cX9_difference 23 = .ok (.iload 4, 2) := by decide +kernel
theorem dX9_difference_25 : decode cX9_difference 25 = .ok (.invokevirtual 64, 3) := by decide +kernel
theorem dX9_difference_28 : decode cX9_difference 28 = .ok (.ifCond .eq 8, 3) := by decide +kernel
theorem dX9_difference_31 : decode cX9_difference 31 = .ok (.iload 5, 2) := by decide +kernel
theorem dX9_difference_33 : decode cX9_difference 33 = .ok (.ifCond .ge 5, 3) := by decide +kernel
theorem dX9_difference_36 : decode cX9_difference 36 = .ok (.iconst (-1), 1) := by decide +kernel
theorem dX9_difference_37 : decode cX9_difference 37 = .ok (.ireturn, 1) := by decide +kernel
theorem dX9_difference_38 : decode cX9_difference 38 = .ok (.aload_n 0, 1) := by decide +kernel
theorem dX9_difference_39 : decode cX9_difference 39 = .ok (.iload_n 1, 1) := by decide +kernel
theorem dX9_difference_40 : decode cX9_difference 40 = .ok (.iload_n 1, 1) := by decide +kernel
theorem dX9_difference_41 : decode cX9_difference 41 = .ok (.iload_n 2, 1) := by decide +kernel
theorem dX9_difference_42 : decode cX9_difference 42 = .ok (.iload_n 3, 1) := by decide +kernel
theorem dX9_difference_43 : decode cX9_difference 43 = .ok (.iload 4, 2) := by decide +kernel
theorem dX9_difference_45 : decode cX9_difference 45 = .ok (.iload 5, 2) := by decide +kernel
theorem dX9_difference_47 : decode cX9_difference 47 = .ok (.invokevirtual 145, 3) := by decide +kernel
theorem dX9_difference_50 : decode cX9_difference 50 = .ok (.ireturn, 1) := by decide +kernel
theorem dX9_split_0 : decode cX9_split 0 = .ok (.iload_n 1, 1) := by decide +kernel
theorem dX9_split_1 : decode cX9_split 1 = .ok (.invokestatic 73, 3) := by decide +kernel
theorem dX9_split_4 : decode cX9_split 4 = .ok (.ifCond .eq 26, 3) := by decide +kernel
theorem dX9_split_7 : decode cX9_split 7 = .ok (.iload_n 2, 1) := by decide +kernel
theorem dX9_split_8 : decode cX9_split 8 = .ok (.invokestatic 73, 3) := by decide +kernel
theorem dX9_split_11 : decode cX9_split 11 = .ok (.ifCond .eq 19, 3) := by decide +kernel
theorem dX9_split_14 : decode cX9_split 14 = .ok (.iload_n 3, 1) := by decide +kernel
theorem dX9_split_15 : decode cX9_split 15 = .ok (.invokestatic 113, 3) := by decide +kernel
theorem dX9_split_18 : decode cX9_split 18 = .ok (.ifCond .eq 12, 3) := by decide +kernel
theorem dX9_split_21 : decode cX9_split 21 = .ok (.aload_n 0, 1) := by decide +kernel
theorem dX9_split_22 : decode cX9_split 22 = .ok (.iload 4, 2) := by decide +kernel
theorem dX9_split_24 : decode cX9_split 24 = .ok (.invokevirtual 64, 3) := by decide +kernel
theorem dX9_split_27 : decode cX9_split 27 = .ok (.ifCond .ne 5, 3) := by decide +kernel
theorem dX9_split_30 : decode cX9_split 30 = .ok (.iconst (-1), 1) := by decide +kernel
theorem dX9_split_31 : decode cX9_split 31 = .ok (.ireturn, 1) := by decide +kernel
theorem dX9_split_32 : decode cX9_split 32 = .ok (.aload_n 0, 1) := by decide +kernel
theorem dX9_split_33 : decode cX9_split 33 = .ok (.iload_n 1, 1) := by decide +kernel
theorem dX9_split_34 : decode cX9_split 34 = .ok (.iload_n 2, 1) := by decide +kernel
theorem dX9_split_35 : decode cX9_split 35 = .ok (.iload_n 3, 1) := by decide +kernel
theorem dX9_split_36 : decode cX9_split 36 = .ok (.iload 4, 2) := by decide +kernel
theorem dX9_split_38 : decode cX9_split 38 = .ok (.iload 4, 2) := by decide +kernel
theorem dX9_split_40 : decode cX9_split 40 = .ok (.iconst (-1), 1) := by decide +kernel
theorem dX9_split_41 : decode cX9_split 41 = .ok (.invokevirtual 145, 3) := by decide +kernel
theorem dX9_split_44 : decode cX9_split 44 = .ok (.ireturn, 1) := by decide +kernel
theorem dX9_latestEvent_0 : decode cX9_latestEvent 0 = .ok (.iconst 0, 1) := by decide +kernel
theorem dX9_latestEvent_1 : decode cX9_latestEvent 1 = .ok (.istore_n 2, 1) := by decide +kernel
theorem dX9_latestEvent_2 : decode cX9_latestEvent 2 = .ok (.iconst 0, 1) := by decide +kernel
theorem dX9_latestEvent_3 : decode cX9_latestEvent 3 = .ok (.istore_n 3, 1) := by decide +kernel
theorem dX9_latestEvent_4 : decode cX9_latestEvent 4 = .ok (.iload_n 3, 1) := by decide +kernel
theorem dX9_latestEvent_5 : decode cX9_latestEvent 5 = .ok (.aload_n 0, 1) := by decide +kernel
theorem dX9_latestEvent_6 : decode cX9_latestEvent 6 = .ok (.getfield 70, 3) := by decide +kernel
theorem dX9_latestEvent_9 : decode cX9_latestEvent 9 = .ok (.if_icmp .ge 71, 3) := by decide +kernel
theorem dX9_latestEvent_12 : decode cX9_latestEvent 12 = .ok (.aload_n 0, 1) := by decide +kernel
theorem dX9_latestEvent_13 : decode cX9_latestEvent 13 = .ok (.getfield 13, 3) := by decide +kernel
theorem dX9_latestEvent_16 : decode cX9_latestEvent 16 = .ok (.iconst 4, 1) := by decide +kernel
theorem dX9_latestEvent_17 : decode cX9_latestEvent 17 = .ok (.iload_n 3, 1) := by decide +kernel
theorem dX9_latestEvent_18 : decode cX9_latestEvent 18 = .ok (.imul, 1) := by decide +kernel
theorem dX9_latestEvent_19 : decode cX9_latestEvent 19 = .ok (.iconst 2, 1) := by decide +kernel
theorem dX9_latestEvent_20 : decode cX9_latestEvent 20 = .ok (.iadd, 1) := by decide +kernel
theorem dX9_latestEvent_21 : decode cX9_latestEvent 21 = .ok (.iaload, 1) := by decide +kernel
theorem dX9_latestEvent_22 : decode cX9_latestEvent 22 = .ok (.istore 4, 2) := by decide +kernel
theorem dX9_latestEvent_24 : decode cX9_latestEvent 24 = .ok (.aload_n 0, 1) := by decide +kernel
theorem dX9_latestEvent_25 : decode cX9_latestEvent 25 = .ok (.getfield 13, 3) := by decide +kernel
theorem dX9_latestEvent_28 : decode cX9_latestEvent 28 = .ok (.iconst 4, 1) := by decide +kernel
theorem dX9_latestEvent_29 : decode cX9_latestEvent 29 = .ok (.iload_n 3, 1) := by decide +kernel
theorem dX9_latestEvent_30 : decode cX9_latestEvent 30 = .ok (.imul, 1) := by decide +kernel
theorem dX9_latestEvent_31 : decode cX9_latestEvent 31 = .ok (.iconst 3, 1) := by decide +kernel
theorem dX9_latestEvent_32 : decode cX9_latestEvent 32 = .ok (.iadd, 1) := by decide +kernel
theorem dX9_latestEvent_33 : decode cX9_latestEvent 33 = .ok (.iaload, 1) := by decide +kernel
theorem dX9_latestEvent_34 : decode cX9_latestEvent 34 = .ok (.istore 5, 2) := by decide +kernel
theorem dX9_latestEvent_36 : decode cX9_latestEvent 36 = .ok (.iload 4, 2) := by decide +kernel
theorem dX9_latestEvent_38 : decode cX9_latestEvent 38 = .ok (.iload_n 1, 1) := by decide +kernel
theorem dX9_latestEvent_39 : decode cX9_latestEvent 39 = .ok (.if_icmp .gt 14, 3) := by decide +kernel
theorem dX9_latestEvent_42 : decode cX9_latestEvent 42 = .ok (.iload 4, 2) := by decide +kernel
theorem dX9_latestEvent_44 : decode cX9_latestEvent 44 = .ok (.iload_n 2, 1) := by decide +kernel
theorem dX9_latestEvent_45 : decode cX9_latestEvent 45 = .ok (.if_icmp .le 8, 3) := by decide +kernel
theorem dX9_latestEvent_48 : decode cX9_latestEvent 48 = .ok (.iload 4, 2) := by decide +kernel
theorem dX9_latestEvent_50 : decode cX9_latestEvent 50 = .ok (.goto 4, 3) := by decide +kernel
theorem dX9_latestEvent_53 : decode cX9_latestEvent 53 = .ok (.iload_n 2, 1) := by decide +kernel
theorem dX9_latestEvent_54 : decode cX9_latestEvent 54 = .ok (.istore_n 2, 1) := by decide +kernel
theorem dX9_latestEvent_55 : decode cX9_latestEvent 55 = .ok (.iload 5, 2) := by decide +kernel
theorem dX9_latestEvent_57 : decode cX9_latestEvent 57 = .ok (.iload_n 1, 1) := by decide +kernel
theorem dX9_latestEvent_58 : decode cX9_latestEvent 58 = .ok (.if_icmp .gt 14, 3) := by decide +kernel
theorem dX9_latestEvent_61 : decode cX9_latestEvent 61 = .ok (.iload 5, 2) := by decide +kernel
theorem dX9_latestEvent_63 : decode cX9_latestEvent 63 = .ok (.iload_n 2, 1) := by decide +kernel
theorem dX9_latestEvent_64 : decode cX9_latestEvent 64 = .ok (.if_icmp .le 8, 3) := by decide +kernel
theorem dX9_latestEvent_67 : decode cX9_latestEvent 67 = .ok (.iload 5, 2) := by decide +kernel
theorem dX9_latestEvent_69 : decode cX9_latestEvent 69 = .ok (.goto 4, 3) := by decide +kernel
theorem dX9_latestEvent_72 : decode cX9_latestEvent 72 = .ok (.iload_n 2, 1) := by decide +kernel
theorem dX9_latestEvent_73 : decode cX9_latestEvent 73 = .ok (.istore_n 2, 1) := by decide +kernel
theorem dX9_latestEvent_74 : decode cX9_latestEvent 74 = .ok (.iinc 3 1, 3) := by decide +kernel
theorem dX9_latestEvent_77 : decode cX9_latestEvent 77 = .ok (.goto (-73), 3) := by decide +kernel
theorem dX9_latestEvent_80 : decode cX9_latestEvent 80 = .ok (.iconst 0, 1) := by decide +kernel
theorem dX9_latestEvent_81 : decode cX9_latestEvent 81 = .ok (.istore_n 3, 1) := by decide +kernel
theorem dX9_latestEvent_82 : decode cX9_latestEvent 82 = .ok (.iload_n 3, 1) := by decide +kernel
theorem dX9_latestEvent_83 : decode cX9_latestEvent 83 = .ok (.aload_n 0, 1) := by decide +kernel
theorem dX9_latestEvent_84 : decode cX9_latestEvent 84 = .ok (.getfield 91, 3) := by decide +kernel
theorem dX9_latestEvent_87 : decode cX9_latestEvent 87 = .ok (.if_icmp .ge 36, 3) := by decide +kernel
theorem dX9_latestEvent_90 : decode cX9_latestEvent 90 = .ok (.aload_n 0, 1) := by decide +kernel
theorem dX9_latestEvent_91 : decode cX9_latestEvent 91 = .ok (.iload_n 3, 1) := by decide +kernel
theorem dX9_latestEvent_92 : decode cX9_latestEvent 92 = .ok (.iconst 1, 1) := by decide +kernel
theorem dX9_latestEvent_93 : decode cX9_latestEvent 93 = .ok (.invokevirtual 100, 3) := by decide +kernel
theorem dX9_latestEvent_96 : decode cX9_latestEvent 96 = .ok (.istore 4, 2) := by decide +kernel
theorem dX9_latestEvent_98 : decode cX9_latestEvent 98 = .ok (.iload 4, 2) := by decide +kernel
theorem dX9_latestEvent_100 : decode cX9_latestEvent 100 = .ok (.iload_n 1, 1) := by decide +kernel
theorem dX9_latestEvent_101 : decode cX9_latestEvent 101 = .ok (.if_icmp .gt 14, 3) := by decide +kernel
theorem dX9_latestEvent_104 : decode cX9_latestEvent 104 = .ok (.iload 4, 2) := by decide +kernel
theorem dX9_latestEvent_106 : decode cX9_latestEvent 106 = .ok (.iload_n 2, 1) := by decide +kernel
theorem dX9_latestEvent_107 : decode cX9_latestEvent 107 = .ok (.if_icmp .le 8, 3) := by decide +kernel
theorem dX9_latestEvent_110 : decode cX9_latestEvent 110 = .ok (.iload 4, 2) := by decide +kernel
theorem dX9_latestEvent_112 : decode cX9_latestEvent 112 = .ok (.goto 4, 3) := by decide +kernel
theorem dX9_latestEvent_115 : decode cX9_latestEvent 115 = .ok (.iload_n 2, 1) := by decide +kernel
theorem dX9_latestEvent_116 : decode cX9_latestEvent 116 = .ok (.istore_n 2, 1) := by decide +kernel
theorem dX9_latestEvent_117 : decode cX9_latestEvent 117 = .ok (.iinc 3 1, 3) := by decide +kernel
theorem dX9_latestEvent_120 : decode cX9_latestEvent 120 = .ok (.goto (-38), 3) := by decide +kernel
theorem dX9_latestEvent_123 : decode cX9_latestEvent 123 = .ok (.iload_n 2, 1) := by decide +kernel
theorem dX9_latestEvent_124 : decode cX9_latestEvent 124 = .ok (.ireturn, 1) := by decide +kernel
theorem dX9_since_0 : decode cX9_since 0 = .ok (.aload_n 0, 1) := by decide +kernel
theorem dX9_since_1 : decode cX9_since 1 = .ok (.iload_n 1, 1) := by decide +kernel
theorem dX9_since_2 : decode cX9_since 2 = .ok (.iload_n 2, 1) := by decide +kernel
theorem dX9_since_3 : decode cX9_since 3 = .ok (.iload_n 3, 1) := by decide +kernel
theorem dX9_since_4 : decode cX9_since 4 = .ok (.invokevirtual 139, 3) := by decide +kernel
theorem dX9_since_7 : decode cX9_since 7 = .ok (.ifCond .ne 5, 3) := by decide +kernel
theorem dX9_since_10 : decode cX9_since 10 = .ok (.iconst (-1), 1) := by decide +kernel
theorem dX9_since_11 : decode cX9_since 11 = .ok (.ireturn, 1) := by decide +kernel
theorem dX9_since_12 : decode cX9_since 12 = .ok (.aload_n 0, 1) := by decide +kernel
theorem dX9_since_13 : decode cX9_since 13 = .ok (.iload_n 1, 1) := by decide +kernel
theorem dX9_since_14 : decode cX9_since 14 = .ok (.iload_n 2, 1) := by decide +kernel
theorem dX9_since_15 : decode cX9_since 15 = .ok (.iload_n 3, 1) := by decide +kernel
theorem dX9_since_16 : decode cX9_since 16 = .ok (.aload_n 0, 1) := by decide +kernel
theorem dX9_since_17 : decode cX9_since 17 = .ok (.getfield 32, 3) := by decide +kernel
theorem dX9_since_20 : decode cX9_since 20 = .ok (.invokevirtual 142, 3) := by decide +kernel
theorem dX9_since_23 : decode cX9_since 23 = .ok (.istore 4, 2) := by decide +kernel
theorem dX9_since_25 : decode cX9_since 25 = .ok (.aload_n 0, 1) := by decide +kernel
theorem dX9_since_26 : decode cX9_since 26 = .ok (.aload_n 0, 1) := by decide +kernel
theorem dX9_since_27 : decode cX9_since 27 = .ok (.getfield 32, 3) := by decide +kernel
theorem dX9_since_30 : decode cX9_since 30 = .ok (.invokevirtual 149, 3) := by decide +kernel
theorem dX9_since_33 : decode cX9_since 33 = .ok (.istore 5, 2) := by decide +kernel
theorem dX9_since_35 : decode cX9_since 35 = .ok (.iload 5, 2) := by decide +kernel
theorem dX9_since_37 : decode cX9_since 37 = .ok (.ifCond .le 32, 3) := by decide +kernel
theorem dX9_since_40 : decode cX9_since 40 = .ok (.aload_n 0, 1) := by decide +kernel
theorem dX9_since_41 : decode cX9_since 41 = .ok (.iload_n 1, 1) := by decide +kernel
theorem dX9_since_42 : decode cX9_since 42 = .ok (.iload_n 2, 1) := by decide +kernel
theorem dX9_since_43 : decode cX9_since 43 = .ok (.iload_n 3, 1) := by decide +kernel
theorem dX9_since_44 : decode cX9_since 44 = .ok (.iload 5, 2) := by decide +kernel
theorem dX9_since_46 : decode cX9_since 46 = .ok (.iconst 1, 1) := by decide +kernel
theorem dX9_since_47 : decode cX9_since 47 = .ok (.isub, 1) := by decide +kernel
theorem dX9_since_48 : decode cX9_since 48 = .ok (.invokevirtual 142, 3) := by decide +kernel
theorem dX9_since_51 : decode cX9_since 51 = .ok (.iload 4, 2) := by decide +kernel
theorem dX9_since_53 : decode cX9_since 53 = .ok (.if_icmp .ne 16, 3) := by decide +kernel
theorem dX9_since_56 : decode cX9_since 56 = .ok (.aload_n 0, 1) := by decide +kernel
theorem dX9_since_57 : decode cX9_since 57 = .ok (.iload 5, 2) := by decide +kernel
theorem dX9_since_59 : decode cX9_since 59 = .ok (.iconst 1, 1) := by decide +kernel
theorem dX9_since_60 : decode cX9_since 60 = .ok (.isub, 1) := by decide +kernel
theorem dX9_since_61 : decode cX9_since 61 = .ok (.invokevirtual 149, 3) := by decide +kernel
theorem dX9_since_64 : decode cX9_since 64 = .ok (.istore 5, 2) := by decide +kernel
theorem dX9_since_66 : decode cX9_since 66 = .ok (.goto (-31), 3) := by decide +kernel
theorem dX9_since_69 : decode cX9_since 69 = .ok (.iload 5, 2) := by decide +kernel
theorem dX9_since_71 : decode cX9_since 71 = .ok (.ireturn, 1) := by decide +kernel
theorem dX9_seenBy_0 : decode cX9_seenBy 0 = .ok (.aload_n 0, 1) := by decide +kernel
theorem dX9_seenBy_1 : decode cX9_seenBy 1 = .ok (.iconst 0, 1) := by decide +kernel
theorem dX9_seenBy_2 : decode cX9_seenBy 2 = .ok (.iload_n 1, 1) := by decide +kernel
theorem dX9_seenBy_3 : decode cX9_seenBy 3 = .ok (.iload_n 2, 1) := by decide +kernel
theorem dX9_seenBy_4 : decode cX9_seenBy 4 = .ok (.invokevirtual 139, 3) := by decide +kernel
theorem dX9_seenBy_7 : decode cX9_seenBy 7 = .ok (.ifCond .eq 12, 3) := by decide +kernel
theorem dX9_seenBy_10 : decode cX9_seenBy 10 = .ok (.aload_n 0, 1) := by decide +kernel
theorem dX9_seenBy_11 : decode cX9_seenBy 11 = .ok (.iload 4, 2) := by decide +kernel
theorem dX9_seenBy_13 : decode cX9_seenBy 13 = .ok (.invokevirtual 64, 3) := by decide +kernel
theorem dX9_seenBy_16 : decode cX9_seenBy 16 = .ok (.ifCond .ne 5, 3) := by decide +kernel
theorem dX9_seenBy_19 : decode cX9_seenBy 19 = .ok (.iconst (-1), 1) := by decide +kernel
theorem dX9_seenBy_20 : decode cX9_seenBy 20 = .ok (.ireturn, 1) := by decide +kernel
theorem dX9_seenBy_21 : decode cX9_seenBy 21 = .ok (.iconst 0, 1) := by decide +kernel
theorem dX9_seenBy_22 : decode cX9_seenBy 22 = .ok (.istore 5, 2) := by decide +kernel
theorem dX9_seenBy_24 : decode cX9_seenBy 24 = .ok (.iconst 0, 1) := by decide +kernel
theorem dX9_seenBy_25 : decode cX9_seenBy 25 = .ok (.istore 6, 2) := by decide +kernel
theorem dX9_seenBy_27 : decode cX9_seenBy 27 = .ok (.iload 6, 2) := by decide +kernel
theorem dX9_seenBy_29 : decode cX9_seenBy 29 = .ok (.iconst 4, 1) := by decide +kernel
theorem dX9_seenBy_30 : decode cX9_seenBy 30 = .ok (.if_icmp .ge 36, 3) := by decide +kernel
theorem dX9_seenBy_33 : decode cX9_seenBy 33 = .ok (.iload 5, 2) := by decide +kernel
theorem dX9_seenBy_35 : decode cX9_seenBy 35 = .ok (.aload_n 0, 1) := by decide +kernel
theorem dX9_seenBy_36 : decode cX9_seenBy 36 = .ok (.iload 6, 2) := by decide +kernel
theorem dX9_seenBy_38 : decode cX9_seenBy 38 = .ok (.iload_n 1, 1) := by decide +kernel
theorem dX9_seenBy_39 : decode cX9_seenBy 39 = .ok (.iload_n 2, 1) := by decide +kernel
theorem dX9_seenBy_40 : decode cX9_seenBy 40 = .ok (.iload 4, 2) := by decide +kernel
theorem dX9_seenBy_42 : decode cX9_seenBy 42 = .ok (.invokevirtual 142, 3) := by decide +kernel
theorem dX9_seenBy_45 : decode cX9_seenBy 45 = .ok (.iload_n 3, 1) := by decide +kernel
theorem dX9_seenBy_46 : decode cX9_seenBy 46 = .ok (.if_icmp .ne 10, 3) := by decide +kernel
theorem dX9_seenBy_49 : decode cX9_seenBy 49 = .ok (.iconst 1, 1) := by decide +kernel
theorem dX9_seenBy_50 : decode cX9_seenBy 50 = .ok (.iload 6, 2) := by decide +kernel
theorem dX9_seenBy_52 : decode cX9_seenBy 52 = .ok (.ishl, 1) := by decide +kernel
theorem dX9_seenBy_53 : decode cX9_seenBy 53 = .ok (.goto 4, 3) := by decide +kernel
theorem dX9_seenBy_56 : decode cX9_seenBy 56 = .ok (.iconst 0, 1) := by decide +kernel
theorem dX9_seenBy_57 : decode cX9_seenBy 57 = .ok (.ior, 1) := by decide +kernel
theorem dX9_seenBy_58 : decode cX9_seenBy 58 = .ok (.istore 5, 2) := by decide +kernel
theorem dX9_seenBy_60 : decode cX9_seenBy 60 = .ok (.iinc 6 1, 3) := by decide +kernel
theorem dX9_seenBy_63 : decode cX9_seenBy 63 = .ok (.goto (-36), 3) := by decide +kernel
theorem dX9_seenBy_66 : decode cX9_seenBy 66 = .ok (.iconst 0, 1) := by decide +kernel
theorem dX9_seenBy_67 : decode cX9_seenBy 67 = .ok (.istore 6, 2) := by decide +kernel
theorem dX9_seenBy_69 : decode cX9_seenBy 69 = .ok (.iconst 0, 1) := by decide +kernel
theorem dX9_seenBy_70 : decode cX9_seenBy 70 = .ok (.istore 7, 2) := by decide +kernel
theorem dX9_seenBy_72 : decode cX9_seenBy 72 = .ok (.iload 7, 2) := by decide +kernel
theorem dX9_seenBy_74 : decode cX9_seenBy 74 = .ok (.sipush 256, 3) := by decide +kernel
theorem dX9_seenBy_77 : decode cX9_seenBy 77 = .ok (.if_icmp .ge 27, 3) := by decide +kernel
theorem dX9_seenBy_80 : decode cX9_seenBy 80 = .ok (.iload 6, 2) := by decide +kernel
theorem dX9_seenBy_82 : decode cX9_seenBy 82 = .ok (.iload 5, 2) := by decide +kernel
theorem dX9_seenBy_84 : decode cX9_seenBy 84 = .ok (.aload_n 0, 1) := by decide +kernel
theorem dX9_seenBy_85 : decode cX9_seenBy 85 = .ok (.iload 7, 2) := by decide +kernel
theorem dX9_seenBy_87 : decode cX9_seenBy 87 = .ok (.iload 4, 2) := by decide +kernel
theorem dX9_seenBy_89 : decode cX9_seenBy 89 = .ok (.invokevirtual 67, 3) := by decide +kernel
theorem dX9_seenBy_92 : decode cX9_seenBy 92 = .ok (.ishr, 1) := by decide +kernel
theorem dX9_seenBy_93 : decode cX9_seenBy 93 = .ok (.iconst 1, 1) := by decide +kernel
theorem dX9_seenBy_94 : decode cX9_seenBy 94 = .ok (.iand, 1) := by decide +kernel
theorem dX9_seenBy_95 : decode cX9_seenBy 95 = .ok (.iadd, 1) := by decide +kernel
theorem dX9_seenBy_96 : decode cX9_seenBy 96 = .ok (.istore 6, 2) := by decide +kernel
theorem dX9_seenBy_98 : decode cX9_seenBy 98 = .ok (.iinc 7 1, 3) := by decide +kernel
theorem dX9_seenBy_101 : decode cX9_seenBy 101 = .ok (.goto (-29), 3) := by decide +kernel
theorem dX9_seenBy_104 : decode cX9_seenBy 104 = .ok (.iload 6, 2) := by decide +kernel
theorem dX9_seenBy_106 : decode cX9_seenBy 106 = .ok (.ireturn, 1) := by decide +kernel
theorem dX9_setKeeping_0 : decode cX9_setKeeping 0 = .ok (.iload_n 1, 1) := by decide +kernel
theorem dX9_setKeeping_1 : decode cX9_setKeeping 1 = .ok (.iconst 0, 1) := by decide +kernel
theorem dX9_setKeeping_2 : decode cX9_setKeeping 2 = .ok (.bipush 100, 2) := by decide +kernel
theorem dX9_setKeeping_4 : decode cX9_setKeeping 4 = .ok (.invokestatic 35, 3) := by decide +kernel
theorem dX9_setKeeping_7 : decode cX9_setKeeping 7 = .ok (.ifCond .ne 5, 3) := by decide +kernel
theorem dX9_setKeeping_10 : decode cX9_setKeeping 10 = .ok (.iconst (-1), 1) := by decide +kernel
theorem dX9_setKeeping_11 : decode cX9_setKeeping 11 = .ok (.ireturn, 1) := by decide +kernel
theorem dX9_setKeeping_12 : decode cX9_setKeeping 12 = .ok (.aload_n 0, 1) := by decide +kernel
theorem dX9_setKeeping_13 : decode cX9_setKeeping 13 = .ok (.getfield 22, 3) := by decide +kernel
theorem dX9_setKeeping_16 : decode cX9_setKeeping 16 = .ok (.istore_n 2, 1) := by decide +kernel
theorem dX9_setKeeping_17 : decode cX9_setKeeping 17 = .ok (.aload_n 0, 1) := by decide +kernel
theorem dX9_setKeeping_18 : decode cX9_setKeeping 18 = .ok (.iload_n 1, 1) := by decide +kernel
theorem dX9_setKeeping_19 : decode cX9_setKeeping 19 = .ok (.putfield 22, 3) := by decide +kernel
theorem dX9_setKeeping_22 : decode cX9_setKeeping 22 = .ok (.iload_n 2, 1) := by decide +kernel
theorem dX9_setKeeping_23 : decode cX9_setKeeping 23 = .ok (.ireturn, 1) := by decide +kernel
theorem dX9_isYoung_0 : decode cX9_isYoung 0 = .ok (.aload_n 0, 1) := by decide +kernel
theorem dX9_isYoung_1 : decode cX9_isYoung 1 = .ok (.getfield 32, 3) := by decide +kernel
theorem dX9_isYoung_4 : decode cX9_isYoung 4 = .ok (.aload_n 0, 1) := by decide +kernel
theorem dX9_isYoung_5 : decode cX9_isYoung 5 = .ok (.getfield 19, 3) := by decide +kernel
theorem dX9_isYoung_8 : decode cX9_isYoung 8 = .ok (.iconst 5, 1) := by decide +kernel
theorem dX9_isYoung_9 : decode cX9_isYoung 9 = .ok (.iload_n 1, 1) := by decide +kernel
theorem dX9_isYoung_10 : decode cX9_isYoung 10 = .ok (.imul, 1) := by decide +kernel
theorem dX9_isYoung_11 : decode cX9_isYoung 11 = .ok (.iconst 4, 1) := by decide +kernel
theorem dX9_isYoung_12 : decode cX9_isYoung 12 = .ok (.iadd, 1) := by decide +kernel
theorem dX9_isYoung_13 : decode cX9_isYoung 13 = .ok (.iaload, 1) := by decide +kernel
theorem dX9_isYoung_14 : decode cX9_isYoung 14 = .ok (.isub, 1) := by decide +kernel
theorem dX9_isYoung_15 : decode cX9_isYoung 15 = .ok (.aload_n 0, 1) := by decide +kernel
theorem dX9_isYoung_16 : decode cX9_isYoung 16 = .ok (.getfield 22, 3) := by decide +kernel
theorem dX9_isYoung_19 : decode cX9_isYoung 19 = .ok (.if_icmp .gt 7, 3) := by decide +kernel
theorem dX9_isYoung_22 : decode cX9_isYoung 22 = .ok (.iconst 1, 1) := by decide +kernel
theorem dX9_isYoung_23 : decode cX9_isYoung 23 = .ok (.goto 4, 3) := by decide +kernel
theorem dX9_isYoung_26 : decode cX9_isYoung 26 = .ok (.iconst 0, 1) := by decide +kernel
theorem dX9_isYoung_27 : decode cX9_isYoung 27 = .ok (.ireturn, 1) := by decide +kernel
theorem dX9_drops_0 : decode cX9_drops 0 = .ok (.aload_n 0, 1) := by decide +kernel
theorem dX9_drops_1 : decode cX9_drops 1 = .ok (.dup, 1) := by decide +kernel
theorem dX9_drops_2 : decode cX9_drops 2 = .ok (.getfield 94, 3) := by decide +kernel
theorem dX9_drops_5 : decode cX9_drops 5 = .ok (.iconst 1, 1) := by decide +kernel
theorem dX9_drops_6 : decode cX9_drops 6 = .ok (.isub, 1) := by decide +kernel
theorem dX9_drops_7 : decode cX9_drops 7 = .ok (.putfield 94, 3) := by decide +kernel
theorem dX9_drops_10 : decode cX9_drops 10 = .ok (.iconst 5, 1) := by decide +kernel
theorem dX9_drops_11 : decode cX9_drops 11 = .ok (.iload_n 1, 1) := by decide +kernel
theorem dX9_drops_12 : decode cX9_drops 12 = .ok (.imul, 1) := by decide +kernel
theorem dX9_drops_13 : decode cX9_drops 13 = .ok (.istore_n 2, 1) := by decide +kernel
theorem dX9_drops_14 : decode cX9_drops 14 = .ok (.iload_n 2, 1) := by decide +kernel
theorem dX9_drops_15 : decode cX9_drops 15 = .ok (.iconst 5, 1) := by decide +kernel
theorem dX9_drops_16 : decode cX9_drops 16 = .ok (.aload_n 0, 1) := by decide +kernel
theorem dX9_drops_17 : decode cX9_drops 17 = .ok (.getfield 94, 3) := by decide +kernel
theorem dX9_drops_20 : decode cX9_drops 20 = .ok (.imul, 1) := by decide +kernel
theorem dX9_drops_21 : decode cX9_drops 21 = .ok (.if_icmp .ge 23, 3) := by decide +kernel
theorem dX9_drops_24 : decode cX9_drops 24 = .ok (.aload_n 0, 1) := by decide +kernel
theorem dX9_drops_25 : decode cX9_drops 25 = .ok (.getfield 19, 3) := by decide +kernel
theorem dX9_drops_28 : decode cX9_drops 28 = .ok (.iload_n 2, 1) := by decide +kernel
theorem dX9_drops_29 : decode cX9_drops 29 = .ok (.aload_n 0, 1) := by decide +kernel
theorem dX9_drops_30 : decode cX9_drops 30 = .ok (.getfield 19, 3) := by decide +kernel
theorem dX9_drops_33 : decode cX9_drops 33 = .ok (.iload_n 2, 1) := by decide +kernel
theorem dX9_drops_34 : decode cX9_drops 34 = .ok (.iconst 5, 1) := by decide +kernel
theorem dX9_drops_35 : decode cX9_drops 35 = .ok (.iadd, 1) := by decide +kernel
theorem dX9_drops_36 : decode cX9_drops 36 = .ok (.iaload, 1) := by decide +kernel
theorem dX9_drops_37 : decode cX9_drops 37 = .ok (.iastore, 1) := by decide +kernel
theorem dX9_drops_38 : decode cX9_drops 38 = .ok (.iinc 2 1, 3) := by decide +kernel
theorem dX9_drops_41 : decode cX9_drops 41 = .ok (.goto (-27), 3) := by decide +kernel
theorem dX9_drops_44 : decode cX9_drops 44 = .ok (.return_, 1) := by decide +kernel
theorem dX9_ask_0 : decode cX9_ask 0 = .ok (.iload_n 1, 1) := by decide +kernel
theorem dX9_ask_1 : decode cX9_ask 1 = .ok (.invokestatic 54, 3) := by decide +kernel
theorem dX9_ask_4 : decode cX9_ask 4 = .ok (.ifCond .eq 13, 3) := by decide +kernel
theorem dX9_ask_7 : decode cX9_ask 7 = .ok (.aload_n 0, 1) := by decide +kernel
theorem dX9_ask_8 : decode cX9_ask 8 = .ok (.iconst 0, 1) := by decide +kernel
theorem dX9_ask_9 : decode cX9_ask 9 = .ok (.iload_n 2, 1) := by decide +kernel
theorem dX9_ask_10 : decode cX9_ask 10 = .ok (.iload_n 3, 1) := by decide +kernel
theorem dX9_ask_11 : decode cX9_ask 11 = .ok (.invokevirtual 139, 3) := by decide +kernel
theorem dX9_ask_14 : decode cX9_ask 14 = .ok (.ifCond .ne 5, 3) := by decide +kernel
theorem dX9_ask_17 : decode cX9_ask 17 = .ok (.iconst (-1), 1) := by decide +kernel
theorem dX9_ask_18 : decode cX9_ask 18 = .ok (.ireturn, 1) := by decide +kernel
theorem dX9_ask_19 : decode cX9_ask 19 = .ok (.iconst (-1), 1) := by decide +kernel
theorem dX9_ask_20 : decode cX9_ask 20 = .ok (.istore 4, 2) := by decide +kernel
theorem dX9_ask_22 : decode cX9_ask 22 = .ok (.iconst 0, 1) := by decide +kernel
theorem dX9_ask_23 : decode cX9_ask 23 = .ok (.istore 5, 2) := by decide +kernel
theorem dX9_ask_25 : decode cX9_ask 25 = .ok (.iload 5, 2) := by decide +kernel
theorem dX9_ask_27 : decode cX9_ask 27 = .ok (.aload_n 0, 1) := by decide +kernel
theorem dX9_ask_28 : decode cX9_ask 28 = .ok (.getfield 94, 3) := by decide +kernel
theorem dX9_ask_31 : decode cX9_ask 31 = .ok (.if_icmp .ge 61, 3) := by decide +kernel
theorem dX9_ask_34 : decode cX9_ask 34 = .ok (.aload_n 0, 1) := by decide +kernel
theorem dX9_ask_35 : decode cX9_ask 35 = .ok (.getfield 19, 3) := by decide +kernel
theorem dX9_ask_38 : decode cX9_ask 38 = .ok (.iconst 5, 1) := by decide +kernel
theorem dX9_ask_39 : decode cX9_ask 39 = .ok (.iload 5, 2) := by decide +kernel
theorem dX9_ask_41 : decode cX9_ask 41 = .ok (.imul, 1) := by decide +kernel
theorem dX9_ask_42 : decode cX9_ask 42 = .ok (.iaload, 1) := by decide +kernel
theorem dX9_ask_43 : decode cX9_ask 43 = .ok (.iload_n 1, 1) := by decide +kernel
theorem dX9_ask_44 : decode cX9_ask 44 = .ok (.if_icmp .ne 38, 3) := by decide +kernel
theorem dX9_ask_47 : decode cX9_ask 47 = .ok (.aload_n 0, 1) := by decide +kernel
theorem dX9_ask_48 : decode cX9_ask 48 = .ok (.getfield 19, 3) := by decide +kernel
theorem dX9_ask_51 : decode cX9_ask 51 = .ok (.iconst 5, 1) := by decide +kernel
theorem dX9_ask_52 : decode cX9_ask 52 = .ok (.iload 5, 2) := by decide +kernel
theorem dX9_ask_54 : decode cX9_ask 54 = .ok (.imul, 1) := by decide +kernel
theorem dX9_ask_55 : decode cX9_ask 55 = .ok (.iconst 1, 1) := by decide +kernel
theorem dX9_ask_56 : decode cX9_ask 56 = .ok (.iadd, 1) := by decide +kernel
theorem dX9_ask_57 : decode cX9_ask 57 = .ok (.iaload, 1) := by decide +kernel
theorem dX9_ask_58 : decode cX9_ask 58 = .ok (.iload_n 2, 1) := by decide +kernel
theorem dX9_ask_59 : decode cX9_ask 59 = .ok (.if_icmp .ne 23, 3) := by decide +kernel
theorem dX9_ask_62 : decode cX9_ask 62 = .ok (.aload_n 0, 1) := by decide +kernel
theorem dX9_ask_63 : decode cX9_ask 63 = .ok (.getfield 19, 3) := by decide +kernel
theorem dX9_ask_66 : decode cX9_ask 66 = .ok (.iconst 5, 1) := by decide +kernel
theorem dX9_ask_67 : decode cX9_ask 67 = .ok (.iload 5, 2) := by decide +kernel
theorem dX9_ask_69 : decode cX9_ask 69 = .ok (.imul, 1) := by decide +kernel
theorem dX9_ask_70 : decode cX9_ask 70 = .ok (.iconst 2, 1) := by decide +kernel
theorem dX9_ask_71 : decode cX9_ask 71 = .ok (.iadd, 1) := by decide +kernel
theorem dX9_ask_72 : decode cX9_ask 72 = .ok (.iaload, 1) := by decide +kernel
theorem dX9_ask_73 : decode cX9_ask 73 = .ok (.iload_n 3, 1) := by decide +kernel
theorem dX9_ask_74 : decode cX9_ask 74 = .ok (.if_icmp .ne 8, 3) := by decide +kernel
theorem dX9_ask_77 : decode cX9_ask 77 = .ok (.iload 5, 2) := by decide +kernel
theorem dX9_ask_79 : decode cX9_ask 79 = .ok (.goto 5, 3) := by decide +kernel
theorem dX9_ask_82 : decode cX9_ask 82 = .ok (.iload 4, 2) := by decide +kernel
theorem dX9_ask_84 : decode cX9_ask 84 = .ok (.istore 4, 2) := by decide +kernel
theorem dX9_ask_86 : decode cX9_ask 86 = .ok (.iinc 5 1, 3) := by decide +kernel
theorem dX9_ask_89 : decode cX9_ask 89 = .ok (.goto (-64), 3) := by decide +kernel
theorem dX9_ask_92 : decode cX9_ask 92 = .ok (.iload 4, 2) := by decide +kernel
theorem dX9_ask_94 : decode cX9_ask 94 = .ok (.ifCond .lt 34, 3) := by decide +kernel
theorem dX9_ask_97 : decode cX9_ask 97 = .ok (.aload_n 0, 1) := by decide +kernel
theorem dX9_ask_98 : decode cX9_ask 98 = .ok (.iload 4, 2) := by decide +kernel
theorem dX9_ask_100 : decode cX9_ask 100 = .ok (.invokevirtual 152, 3) := by decide +kernel
theorem dX9_ask_103 : decode cX9_ask 103 = .ok (.ifCond .eq 25, 3) := by decide +kernel
theorem dX9_ask_106 : decode cX9_ask 106 = .ok (.aload_n 0, 1) := by decide +kernel
theorem dX9_ask_107 : decode cX9_ask 107 = .ok (.dup, 1) := by decide +kernel
theorem dX9_ask_108 : decode cX9_ask 108 = .ok (.getfield 97, 3) := by decide +kernel
theorem dX9_ask_111 : decode cX9_ask 111 = .ok (.iconst 1, 1) := by decide +kernel
theorem dX9_ask_112 : decode cX9_ask 112 = .ok (.iadd, 1) := by decide +kernel
theorem dX9_ask_113 : decode cX9_ask 113 = .ok (.putfield 97, 3) := by decide +kernel
theorem dX9_ask_116 : decode cX9_ask 116 = .ok (.aload_n 0, 1) := by decide +kernel
theorem dX9_ask_117 : decode cX9_ask 117 = .ok (.getfield 19, 3) := by decide +kernel
theorem dX9_ask_120 : decode cX9_ask 120 = .ok (.iconst 5, 1) := by decide +kernel
theorem dX9_ask_121 : decode cX9_ask 121 = .ok (.iload 4, 2) := by decide +kernel
theorem dX9_ask_123 : decode cX9_ask 123 = .ok (.imul, 1) := by decide +kernel
theorem dX9_ask_124 : decode cX9_ask 124 = .ok (.iconst 3, 1) := by decide +kernel
theorem dX9_ask_125 : decode cX9_ask 125 = .ok (.iadd, 1) := by decide +kernel
theorem dX9_ask_126 : decode cX9_ask 126 = .ok (.iaload, 1) := by decide +kernel
theorem dX9_ask_127 : decode cX9_ask 127 = .ok (.ireturn, 1) := by decide +kernel
theorem dX9_ask_128 : decode cX9_ask 128 = .ok (.iload 4, 2) := by decide +kernel
theorem dX9_ask_130 : decode cX9_ask 130 = .ok (.ifCond .ge 12, 3) := by decide +kernel
theorem dX9_ask_133 : decode cX9_ask 133 = .ok (.aload_n 0, 1) := by decide +kernel
theorem dX9_ask_134 : decode cX9_ask 134 = .ok (.getfield 94, 3) := by decide +kernel
theorem dX9_ask_137 : decode cX9_ask 137 = .ok (.bipush 6, 2) := by decide +kernel
theorem dX9_ask_139 : decode cX9_ask 139 = .ok (.if_icmp .ne 18, 3) := by decide +kernel
theorem dX9_ask_142 : decode cX9_ask 142 = .ok (.aload_n 0, 1) := by decide +kernel
theorem dX9_ask_143 : decode cX9_ask 143 = .ok (.iload 4, 2) := by decide +kernel
theorem dX9_ask_145 : decode cX9_ask 145 = .ok (.ifCond .lt 8, 3) := by decide +kernel
theorem dX9_ask_148 : decode cX9_ask 148 = .ok (.iload 4, 2) := by decide +kernel
theorem dX9_ask_150 : decode cX9_ask 150 = .ok (.goto 4, 3) := by decide +kernel
theorem dX9_ask_153 : decode cX9_ask 153 = .ok (.iconst 0, 1) := by decide +kernel
theorem dX9_ask_154 : decode cX9_ask 154 = .ok (.invokevirtual 155, 3) := by decide +kernel
theorem dX9_ask_157 : decode cX9_ask 157 = .ok (.aload_n 0, 1) := by decide +kernel
theorem dX9_ask_158 : decode cX9_ask 158 = .ok (.aload_n 0, 1) := by decide +kernel
theorem dX9_ask_159 : decode cX9_ask 159 = .ok (.iload_n 1, 1) := by decide +kernel
theorem dX9_ask_160 : decode cX9_ask 160 = .ok (.aload_n 0, 1) := by decide +kernel
theorem dX9_ask_161 : decode cX9_ask 161 = .ok (.getfield 32, 3) := by decide +kernel
theorem dX9_ask_164 : decode cX9_ask 164 = .ok (.invokevirtual 67, 3) := by decide +kernel
theorem dX9_ask_167 : decode cX9_ask 167 = .ok (.iload_n 2, 1) := by decide +kernel
theorem dX9_ask_168 : decode cX9_ask 168 = .ok (.iload_n 3, 1) := by decide +kernel
theorem dX9_ask_169 : decode cX9_ask 169 = .ok (.aload_n 0, 1) := by decide +kernel
theorem dX9_ask_170 : decode cX9_ask 170 = .ok (.getfield 32, 3) := by decide +kernel
theorem dX9_ask_173 : decode cX9_ask 173 = .ok (.invokevirtual 142, 3) := by decide +kernel
theorem dX9_ask_176 : decode cX9_ask 176 = .ok (.istore 5, 2) := by decide +kernel
theorem dX9_ask_178 : decode cX9_ask 178 = .ok (.aload_n 0, 1) := by decide +kernel
theorem dX9_ask_179 : decode cX9_ask 179 = .ok (.getfield 19, 3) := by decide +kernel
theorem dX9_ask_182 : decode cX9_ask 182 = .ok (.iconst 5, 1) := by decide +kernel
theorem dX9_ask_183 : decode cX9_ask 183 = .ok (.aload_n 0, 1) := by decide +kernel
theorem dX9_ask_184 : decode cX9_ask 184 = .ok (.getfield 94, 3) := by decide +kernel
theorem dX9_ask_187 : decode cX9_ask 187 = .ok (.imul, 1) := by decide +kernel
theorem dX9_ask_188 : decode cX9_ask 188 = .ok (.iload_n 1, 1) := by decide +kernel
theorem dX9_ask_189 : decode cX9_ask 189 = .ok (.iastore, 1) := by decide +kernel
theorem dX9_ask_190 : decode cX9_ask 190 = .ok (.aload_n 0, 1) := by decide +kernel
theorem dX9_ask_191 : decode cX9_ask 191 = .ok (.getfield 19, 3) := by decide +kernel
theorem dX9_ask_194 : decode cX9_ask 194 = .ok (.iconst 5, 1) := by decide +kernel
theorem dX9_ask_195 : decode cX9_ask 195 = .ok (.aload_n 0, 1) := by decide +kernel
theorem dX9_ask_196 : decode cX9_ask 196 = .ok (.getfield 94, 3) := by decide +kernel
theorem dX9_ask_199 : decode cX9_ask 199 = .ok (.imul, 1) := by decide +kernel
theorem dX9_ask_200 : decode cX9_ask 200 = .ok (.iconst 1, 1) := by decide +kernel
theorem dX9_ask_201 : decode cX9_ask 201 = .ok (.iadd, 1) := by decide +kernel
theorem dX9_ask_202 : decode cX9_ask 202 = .ok (.iload_n 2, 1) := by decide +kernel
theorem dX9_ask_203 : decode cX9_ask 203 = .ok (.iastore, 1) := by decide +kernel
theorem dX9_ask_204 : decode cX9_ask 204 = .ok (.aload_n 0, 1) := by decide +kernel
theorem dX9_ask_205 : decode cX9_ask 205 = .ok (.getfield 19, 3) := by decide +kernel
theorem dX9_ask_208 : decode cX9_ask 208 = .ok (.iconst 5, 1) := by decide +kernel
theorem dX9_ask_209 : decode cX9_ask 209 = .ok (.aload_n 0, 1) := by decide +kernel
theorem dX9_ask_210 : decode cX9_ask 210 = .ok (.getfield 94, 3) := by decide +kernel
theorem dX9_ask_213 : decode cX9_ask 213 = .ok (.imul, 1) := by decide +kernel
theorem dX9_ask_214 : decode cX9_ask 214 = .ok (.iconst 2, 1) := by decide +kernel
theorem dX9_ask_215 : decode cX9_ask 215 = .ok (.iadd, 1) := by decide +kernel
theorem dX9_ask_216 : decode cX9_ask 216 = .ok (.iload_n 3, 1) := by decide +kernel
theorem dX9_ask_217 : decode cX9_ask 217 = .ok (.iastore, 1) := by decide +kernel
theorem dX9_ask_218 : decode cX9_ask 218 = .ok (.aload_n 0, 1) := by decide +kernel
theorem dX9_ask_219 : decode cX9_ask 219 = .ok (.getfield 19, 3) := by decide +kernel
theorem dX9_ask_222 : decode cX9_ask 222 = .ok (.iconst 5, 1) := by decide +kernel
theorem dX9_ask_223 : decode cX9_ask 223 = .ok (.aload_n 0, 1) := by decide +kernel
theorem dX9_ask_224 : decode cX9_ask 224 = .ok (.getfield 94, 3) := by decide +kernel
theorem dX9_ask_227 : decode cX9_ask 227 = .ok (.imul, 1) := by decide +kernel
theorem dX9_ask_228 : decode cX9_ask 228 = .ok (.iconst 3, 1) := by decide +kernel
theorem dX9_ask_229 : decode cX9_ask 229 = .ok (.iadd, 1) := by decide +kernel
theorem dX9_ask_230 : decode cX9_ask 230 = .ok (.iload 5, 2) := by decide +kernel
theorem dX9_ask_232 : decode cX9_ask 232 = .ok (.iastore, 1) := by decide +kernel
theorem dX9_ask_233 : decode cX9_ask 233 = .ok (.aload_n 0, 1) := by decide +kernel
theorem dX9_ask_234 : decode cX9_ask 234 = .ok (.getfield 19, 3) := by decide +kernel
theorem dX9_ask_237 : decode cX9_ask 237 = .ok (.iconst 5, 1) := by decide +kernel
theorem dX9_ask_238 : decode cX9_ask 238 = .ok (.aload_n 0, 1) := by decide +kernel
theorem dX9_ask_239 : decode cX9_ask 239 = .ok (.getfield 94, 3) := by decide +kernel
theorem dX9_ask_242 : decode cX9_ask 242 = .ok (.imul, 1) := by decide +kernel
theorem dX9_ask_243 : decode cX9_ask 243 = .ok (.iconst 4, 1) := by decide +kernel
theorem dX9_ask_244 : decode cX9_ask 244 = .ok (.iadd, 1) := by decide +kernel
theorem dX9_ask_245 : decode cX9_ask 245 = .ok (.aload_n 0, 1) := by decide +kernel
theorem dX9_ask_246 : decode cX9_ask 246 = .ok (.getfield 32, 3) := by decide +kernel
theorem dX9_ask_249 : decode cX9_ask 249 = .ok (.iastore, 1) := by decide +kernel
theorem dX9_ask_250 : decode cX9_ask 250 = .ok (.aload_n 0, 1) := by decide +kernel
theorem dX9_ask_251 : decode cX9_ask 251 = .ok (.dup, 1) := by decide +kernel
theorem dX9_ask_252 : decode cX9_ask 252 = .ok (.getfield 94, 3) := by decide +kernel
theorem dX9_ask_255 : decode cX9_ask 255 = .ok (.iconst 1, 1) := by decide +kernel
theorem dX9_ask_256 : decode cX9_ask 256 = .ok (.iadd, 1) := by decide +kernel
theorem dX9_ask_257 : decode cX9_ask 257 = .ok (.putfield 94, 3) := by decide +kernel
theorem dX9_ask_260 : decode cX9_ask 260 = .ok (.iload 5, 2) := by decide +kernel
theorem dX9_ask_262 : decode cX9_ask 262 = .ok (.ireturn, 1) := by decide +kernel
theorem dX9_stale_0 : decode cX9_stale 0 = .ok (.iconst 0, 1) := by decide +kernel
theorem dX9_stale_1 : decode cX9_stale 1 = .ok (.istore_n 1, 1) := by decide +kernel
theorem dX9_stale_2 : decode cX9_stale 2 = .ok (.iconst 0, 1) := by decide +kernel
theorem dX9_stale_3 : decode cX9_stale 3 = .ok (.istore_n 2, 1) := by decide +kernel
theorem dX9_stale_4 : decode cX9_stale 4 = .ok (.iload_n 2, 1) := by decide +kernel
theorem dX9_stale_5 : decode cX9_stale 5 = .ok (.aload_n 0, 1) := by decide +kernel
theorem dX9_stale_6 : decode cX9_stale 6 = .ok (.getfield 94, 3) := by decide +kernel
theorem dX9_stale_9 : decode cX9_stale 9 = .ok (.if_icmp .ge 92, 3) := by decide +kernel
theorem dX9_stale_12 : decode cX9_stale 12 = .ok (.aload_n 0, 1) := by decide +kernel
theorem dX9_stale_13 : decode cX9_stale 13 = .ok (.iload_n 2, 1) := by decide +kernel
theorem dX9_stale_14 : decode cX9_stale 14 = .ok (.invokevirtual 152, 3) := by decide +kernel
theorem dX9_stale_17 : decode cX9_stale 17 = .ok (.ifCond .eq 64, 3) := by decide +kernel
theorem dX9_stale_20 : decode cX9_stale 20 = .ok (.aload_n 0, 1) := by decide +kernel
theorem dX9_stale_21 : decode cX9_stale 21 = .ok (.aload_n 0, 1) := by decide +kernel
theorem dX9_stale_22 : decode cX9_stale 22 = .ok (.aload_n 0, 1) := by decide +kernel
theorem dX9_stale_23 : decode cX9_stale 23 = .ok (.getfield 19, 3) := by decide +kernel
theorem dX9_stale_26 : decode cX9_stale 26 = .ok (.iconst 5, 1) := by decide +kernel
theorem dX9_stale_27 : decode cX9_stale 27 = .ok (.iload_n 2, 1) := by decide +kernel
theorem dX9_stale_28 : decode cX9_stale 28 = .ok (.imul, 1) := by decide +kernel
theorem dX9_stale_29 : decode cX9_stale 29 = .ok (.iaload, 1) := by decide +kernel
theorem dX9_stale_30 : decode cX9_stale 30 = .ok (.aload_n 0, 1) := by decide +kernel
theorem dX9_stale_31 : decode cX9_stale 31 = .ok (.getfield 32, 3) := by decide +kernel
theorem dX9_stale_34 : decode cX9_stale 34 = .ok (.invokevirtual 67, 3) := by decide +kernel
theorem dX9_stale_37 : decode cX9_stale 37 = .ok (.aload_n 0, 1) := by decide +kernel
theorem dX9_stale_38 : decode cX9_stale 38 = .ok (.getfield 19, 3) := by decide +kernel
theorem dX9_stale_41 : decode cX9_stale 41 = .ok (.iconst 5, 1) := by decide +kernel
theorem dX9_stale_42 : decode cX9_stale 42 = .ok (.iload_n 2, 1) := by decide +kernel
theorem dX9_stale_43 : decode cX9_stale 43 = .ok (.imul, 1) := by decide +kernel
theorem dX9_stale_44 : decode cX9_stale 44 = .ok (.iconst 1, 1) := by decide +kernel
theorem dX9_stale_45 : decode cX9_stale 45 = .ok (.iadd, 1) := by decide +kernel
theorem dX9_stale_46 : decode cX9_stale 46 = .ok (.iaload, 1) := by decide +kernel
theorem dX9_stale_47 : decode cX9_stale 47 = .ok (.aload_n 0, 1) := by decide +kernel
theorem dX9_stale_48 : decode cX9_stale 48 = .ok (.getfield 19, 3) := by decide +kernel
theorem dX9_stale_51 : decode cX9_stale 51 = .ok (.iconst 5, 1) := by decide +kernel
theorem dX9_stale_52 : decode cX9_stale 52 = .ok (.iload_n 2, 1) := by decide +kernel
theorem dX9_stale_53 : decode cX9_stale 53 = .ok (.imul, 1) := by decide +kernel
theorem dX9_stale_54 : decode cX9_stale 54 = .ok (.iconst 2, 1) := by decide +kernel
theorem dX9_stale_55 : decode cX9_stale 55 = .ok (.iadd, 1) := by decide +kernel
theorem dX9_stale_56 : decode cX9_stale 56 = .ok (.iaload, 1) := by decide +kernel
theorem dX9_stale_57 : decode cX9_stale 57 = .ok (.aload_n 0, 1) := by decide +kernel
theorem dX9_stale_58 : decode cX9_stale 58 = .ok (.getfield 32, 3) := by decide +kernel
theorem dX9_stale_61 : decode cX9_stale 61 = .ok (.invokevirtual 142, 3) := by decide +kernel
theorem dX9_stale_64 : decode cX9_stale 64 = .ok (.aload_n 0, 1) := by decide +kernel
theorem dX9_stale_65 : decode cX9_stale 65 = .ok (.getfield 19, 3) := by decide +kernel
theorem dX9_stale_68 : decode cX9_stale 68 = .ok (.iconst 5, 1) := by decide +kernel
theorem dX9_stale_69 : decode cX9_stale 69 = .ok (.iload_n 2, 1) := by decide +kernel
theorem dX9_stale_70 : decode cX9_stale 70 = .ok (.imul, 1) := by decide +kernel
theorem dX9_stale_71 : decode cX9_stale 71 = .ok (.iconst 3, 1) := by decide +kernel
theorem dX9_stale_72 : decode cX9_stale 72 = .ok (.iadd, 1) := by decide +kernel
theorem dX9_stale_73 : decode cX9_stale 73 = .ok (.iaload, 1) := by decide +kernel
theorem dX9_stale_74 : decode cX9_stale 74 = .ok (.if_icmp .eq 7, 3) := by decide +kernel
theorem dX9_stale_77 : decode cX9_stale 77 = .ok (.iconst 1, 1) := by decide +kernel
theorem dX9_stale_78 : decode cX9_stale 78 = .ok (.goto 4, 3) := by decide +kernel
theorem dX9_stale_81 : decode cX9_stale 81 = .ok (.iconst 0, 1) := by decide +kernel
theorem dX9_stale_82 : decode cX9_stale 82 = .ok (.istore_n 3, 1) := by decide +kernel
theorem dX9_stale_83 : decode cX9_stale 83 = .ok (.iload_n 1, 1) := by decide +kernel
theorem dX9_stale_84 : decode cX9_stale 84 = .ok (.iload_n 3, 1) := by decide +kernel
theorem dX9_stale_85 : decode cX9_stale 85 = .ok (.ifCond .eq 7, 3) := by decide +kernel
theorem dX9_stale_88 : decode cX9_stale 88 = .ok (.iconst 1, 1) := by decide +kernel
theorem dX9_stale_89 : decode cX9_stale 89 = .ok (.goto 4, 3) := by decide +kernel
theorem dX9_stale_92 : decode cX9_stale 92 = .ok (.iconst 0, 1) := by decide +kernel
theorem dX9_stale_93 : decode cX9_stale 93 = .ok (.iadd, 1) := by decide +kernel
theorem dX9_stale_94 : decode cX9_stale 94 = .ok (.istore_n 1, 1) := by decide +kernel
theorem dX9_stale_95 : decode cX9_stale 95 = .ok (.iinc 2 1, 3) := by decide +kernel
theorem dX9_stale_98 : decode cX9_stale 98 = .ok (.goto (-94), 3) := by decide +kernel
theorem dX9_stale_101 : decode cX9_stale 101 = .ok (.iload_n 1, 1) := by decide +kernel
theorem dX9_stale_102 : decode cX9_stale 102 = .ok (.ireturn, 1) := by decide +kernel
theorem dX9_type_0 : decode cX9_type 0 = .ok (.iload_n 1, 1) := by decide +kernel
theorem dX9_type_1 : decode cX9_type 1 = .ok (.bipush 32, 2) := by decide +kernel
theorem dX9_type_3 : decode cX9_type 3 = .ok (.bipush 126, 2) := by decide +kernel
theorem dX9_type_5 : decode cX9_type 5 = .ok (.invokestatic 35, 3) := by decide +kernel
theorem dX9_type_8 : decode cX9_type 8 = .ok (.ifCond .ne 5, 3) := by decide +kernel
theorem dX9_type_11 : decode cX9_type 11 = .ok (.iconst (-1), 1) := by decide +kernel
theorem dX9_type_12 : decode cX9_type 12 = .ok (.ireturn, 1) := by decide +kernel
theorem dX9_type_13 : decode cX9_type 13 = .ok (.aload_n 0, 1) := by decide +kernel
theorem dX9_type_14 : decode cX9_type 14 = .ok (.getfield 159, 3) := by decide +kernel
theorem dX9_type_17 : decode cX9_type 17 = .ok (.bipush 60, 2) := by decide +kernel
theorem dX9_type_19 : decode cX9_type 19 = .ok (.if_icmp .ne 6, 3) := by decide +kernel
theorem dX9_type_22 : decode cX9_type 22 = .ok (.bipush (-3), 2) := by decide +kernel
theorem dX9_type_24 : decode cX9_type 24 = .ok (.ireturn, 1) := by decide +kernel
theorem dX9_type_25 : decode cX9_type 25 = .ok (.aload_n 0, 1) := by decide +kernel
theorem dX9_type_26 : decode cX9_type 26 = .ok (.getfield 26, 3) := by decide +kernel
theorem dX9_type_29 : decode cX9_type 29 = .ok (.aload_n 0, 1) := by decide +kernel
theorem dX9_type_30 : decode cX9_type 30 = .ok (.getfield 159, 3) := by decide +kernel
theorem dX9_type_33 : decode cX9_type 33 = .ok (.iload_n 1, 1) := by decide +kernel
theorem dX9_type_34 : decode cX9_type 34 = .ok (.iastore, 1) := by decide +kernel
theorem dX9_type_35 : decode cX9_type 35 = .ok (.aload_n 0, 1) := by decide +kernel
theorem dX9_type_36 : decode cX9_type 36 = .ok (.dup, 1) := by decide +kernel
theorem dX9_type_37 : decode cX9_type 37 = .ok (.getfield 159, 3) := by decide +kernel
theorem dX9_type_40 : decode cX9_type 40 = .ok (.iconst 1, 1) := by decide +kernel
theorem dX9_type_41 : decode cX9_type 41 = .ok (.iadd, 1) := by decide +kernel
theorem dX9_type_42 : decode cX9_type 42 = .ok (.putfield 159, 3) := by decide +kernel
theorem dX9_type_45 : decode cX9_type 45 = .ok (.aload_n 0, 1) := by decide +kernel
theorem dX9_type_46 : decode cX9_type 46 = .ok (.getfield 159, 3) := by decide +kernel
theorem dX9_type_49 : decode cX9_type 49 = .ok (.ireturn, 1) := by decide +kernel
theorem dX9_clearText_0 : decode cX9_clearText 0 = .ok (.aload_n 0, 1) := by decide +kernel
theorem dX9_clearText_1 : decode cX9_clearText 1 = .ok (.getfield 159, 3) := by decide +kernel
theorem dX9_clearText_4 : decode cX9_clearText 4 = .ok (.istore_n 1, 1) := by decide +kernel
theorem dX9_clearText_5 : decode cX9_clearText 5 = .ok (.aload_n 0, 1) := by decide +kernel
theorem dX9_clearText_6 : decode cX9_clearText 6 = .ok (.iconst 0, 1) := by decide +kernel
theorem dX9_clearText_7 : decode cX9_clearText 7 = .ok (.putfield 159, 3) := by decide +kernel
theorem dX9_clearText_10 : decode cX9_clearText 10 = .ok (.iload_n 1, 1) := by decide +kernel
theorem dX9_clearText_11 : decode cX9_clearText 11 = .ok (.ireturn, 1) := by decide +kernel
theorem dX9_isHere_0 : decode cX9_isHere 0 = .ok (.aload_n 0, 1) := by decide +kernel
theorem dX9_isHere_1 : decode cX9_isHere 1 = .ok (.getfield 162, 3) := by decide +kernel
theorem dX9_isHere_4 : decode cX9_isHere 4 = .ok (.aload_n 0, 1) := by decide +kernel
theorem dX9_isHere_5 : decode cX9_isHere 5 = .ok (.getfield 159, 3) := by decide +kernel
theorem dX9_isHere_8 : decode cX9_isHere 8 = .ok (.if_icmp .ge 24, 3) := by decide +kernel
theorem dX9_isHere_11 : decode cX9_isHere 11 = .ok (.aload_n 0, 1) := by decide +kernel
theorem dX9_isHere_12 : decode cX9_isHere 12 = .ok (.getfield 26, 3) := by decide +kernel
theorem dX9_isHere_15 : decode cX9_isHere 15 = .ok (.aload_n 0, 1) := by decide +kernel
theorem dX9_isHere_16 : decode cX9_isHere 16 = .ok (.getfield 162, 3) := by decide +kernel
theorem dX9_isHere_19 : decode cX9_isHere 19 = .ok (.iaload, 1) := by decide +kernel
theorem dX9_isHere_20 : decode cX9_isHere 20 = .ok (.iload_n 1, 1) := by decide +kernel
theorem dX9_isHere_21 : decode cX9_isHere 21 = .ok (.iload_n 2, 1) := by decide +kernel
theorem dX9_isHere_22 : decode cX9_isHere 22 = .ok (.invokestatic 35, 3) := by decide +kernel
theorem dX9_isHere_25 : decode cX9_isHere 25 = .ok (.ifCond .eq 7, 3) := by decide +kernel
theorem dX9_isHere_28 : decode cX9_isHere 28 = .ok (.iconst 1, 1) := by decide +kernel
theorem dX9_isHere_29 : decode cX9_isHere 29 = .ok (.goto 4, 3) := by decide +kernel
theorem dX9_isHere_32 : decode cX9_isHere 32 = .ok (.iconst 0, 1) := by decide +kernel
theorem dX9_isHere_33 : decode cX9_isHere 33 = .ok (.ireturn, 1) := by decide +kernel
theorem dX9_isLabels_0 : decode cX9_isLabels 0 = .ok (.aload_n 0, 1) := by decide +kernel
theorem dX9_isLabels_1 : decode cX9_isLabels 1 = .ok (.getfield 162, 3) := by decide +kernel
theorem dX9_isLabels_4 : decode cX9_isLabels 4 = .ok (.istore_n 1, 1) := by decide +kernel
theorem dX9_isLabels_5 : decode cX9_isLabels 5 = .ok (.iconst 1, 1) := by decide +kernel
theorem dX9_isLabels_6 : decode cX9_isLabels 6 = .ok (.istore_n 2, 1) := by decide +kernel
theorem dX9_isLabels_7 : decode cX9_isLabels 7 = .ok (.aload_n 0, 1) := by decide +kernel
theorem dX9_isLabels_8 : decode cX9_isLabels 8 = .ok (.iconst 0, 1) := by decide +kernel
theorem dX9_isLabels_9 : decode cX9_isLabels 9 = .ok (.putfield 165, 3) := by decide +kernel
theorem dX9_isLabels_12 : decode cX9_isLabels 12 = .ok (.aload_n 0, 1) := by decide +kernel
theorem dX9_isLabels_13 : decode cX9_isLabels 13 = .ok (.getfield 162, 3) := by decide +kernel
theorem dX9_isLabels_16 : decode cX9_isLabels 16 = .ok (.iload_n 1, 1) := by decide +kernel
theorem dX9_isLabels_17 : decode cX9_isLabels 17 = .ok (.isub, 1) := by decide +kernel
theorem dX9_isLabels_18 : decode cX9_isLabels 18 = .ok (.iconst 3, 1) := by decide +kernel
theorem dX9_isLabels_19 : decode cX9_isLabels 19 = .ok (.if_icmp .ge 54, 3) := by decide +kernel
theorem dX9_isLabels_22 : decode cX9_isLabels 22 = .ok (.aload_n 0, 1) := by decide +kernel
theorem dX9_isLabels_23 : decode cX9_isLabels 23 = .ok (.bipush 49, 2) := by decide +kernel
theorem dX9_isLabels_25 : decode cX9_isLabels 25 = .ok (.bipush 52, 2) := by decide +kernel
theorem dX9_isLabels_27 : decode cX9_isLabels 27 = .ok (.invokevirtual 168, 3) := by decide +kernel
theorem dX9_isLabels_30 : decode cX9_isLabels 30 = .ok (.ifCond .eq 43, 3) := by decide +kernel
theorem dX9_isLabels_33 : decode cX9_isLabels 33 = .ok (.aload_n 0, 1) := by decide +kernel
theorem dX9_isLabels_34 : decode cX9_isLabels 34 = .ok (.dup, 1) := by decide +kernel
theorem dX9_isLabels_35 : decode cX9_isLabels 35 = .ok (.getfield 165, 3) := by decide +kernel
theorem dX9_isLabels_38 : decode cX9_isLabels 38 = .ok (.iload_n 2, 1) := by decide +kernel
theorem dX9_isLabels_39 : decode cX9_isLabels 39 = .ok (.aload_n 0, 1) := by decide +kernel
theorem dX9_isLabels_40 : decode cX9_isLabels 40 = .ok (.getfield 26, 3) := by decide +kernel
theorem dX9_isLabels_43 : decode cX9_isLabels 43 = .ok (.aload_n 0, 1) := by decide +kernel
theorem dX9_isLabels_44 : decode cX9_isLabels 44 = .ok (.getfield 162, 3) := by decide +kernel
theorem dX9_isLabels_47 : decode cX9_isLabels 47 = .ok (.iaload, 1) := by decide +kernel
theorem dX9_isLabels_48 : decode cX9_isLabels 48 = .ok (.bipush 48, 2) := by decide +kernel
theorem dX9_isLabels_50 : decode cX9_isLabels 50 = .ok (.isub, 1) := by decide +kernel
theorem dX9_isLabels_51 : decode cX9_isLabels 51 = .ok (.imul, 1) := by decide +kernel
theorem dX9_isLabels_52 : decode cX9_isLabels 52 = .ok (.iadd, 1) := by decide +kernel
theorem dX9_isLabels_53 : decode cX9_isLabels 53 = .ok (.putfield 165, 3) := by decide +kernel
theorem dX9_isLabels_56 : decode cX9_isLabels 56 = .ok (.iload_n 2, 1) := by decide +kernel
theorem dX9_isLabels_57 : decode cX9_isLabels 57 = .ok (.iconst 5, 1) := by decide +kernel
theorem dX9_isLabels_58 : decode cX9_isLabels 58 = .ok (.imul, 1) := by decide +kernel
theorem dX9_isLabels_59 : decode cX9_isLabels 59 = .ok (.istore_n 2, 1) := by decide +kernel
theorem dX9_isLabels_60 : decode cX9_isLabels 60 = .ok (.aload_n 0, 1) := by decide +kernel
theorem dX9_isLabels_61 : decode cX9_isLabels 61 = .ok (.dup, 1) := by decide +kernel
theorem dX9_isLabels_62 : decode cX9_isLabels 62 = .ok (.getfield 162, 3) := by decide +kernel
theorem dX9_isLabels_65 : decode cX9_isLabels 65 = .ok (.iconst 1, 1) := by decide +kernel
theorem dX9_isLabels_66 : decode cX9_isLabels 66 = .ok (.iadd, 1) := by decide +kernel
theorem dX9_isLabels_67 : decode cX9_isLabels 67 = .ok (.putfield 162, 3) := by decide +kernel
theorem dX9_isLabels_70 : decode cX9_isLabels 70 = .ok (.goto (-58), 3) := by decide +kernel
theorem dX9_isLabels_73 : decode cX9_isLabels 73 = .ok (.aload_n 0, 1) := by decide +kernel
theorem dX9_isLabels_74 : decode cX9_isLabels 74 = .ok (.getfield 162, 3) := by decide +kernel
theorem dX9_isLabels_77 : decode cX9_isLabels 77 = .ok (.iload_n 1, 1) := by decide +kernel
theorem dX9_isLabels_78 : decode cX9_isLabels 78 = .ok (.if_icmp .le 7, 3) := by decide +kernel
theorem dX9_isLabels_81 : decode cX9_isLabels 81 = .ok (.iconst 1, 1) := by decide +kernel
theorem dX9_isLabels_82 : decode cX9_isLabels 82 = .ok (.goto 4, 3) := by decide +kernel
theorem dX9_isLabels_85 : decode cX9_isLabels 85 = .ok (.iconst 0, 1) := by decide +kernel
theorem dX9_isLabels_86 : decode cX9_isLabels 86 = .ok (.ireturn, 1) := by decide +kernel
theorem dX9_isDigits_0 : decode cX9_isDigits 0 = .ok (.aload_n 0, 1) := by decide +kernel
theorem dX9_isDigits_1 : decode cX9_isDigits 1 = .ok (.getfield 162, 3) := by decide +kernel
theorem dX9_isDigits_4 : decode cX9_isDigits 4 = .ok (.istore_n 1, 1) := by decide +kernel
theorem dX9_isDigits_5 : decode cX9_isDigits 5 = .ok (.aload_n 0, 1) := by decide +kernel
theorem dX9_isDigits_6 : decode cX9_isDigits 6 = .ok (.iconst 0, 1) := by decide +kernel
theorem dX9_isDigits_7 : decode cX9_isDigits 7 = .ok (.putfield 165, 3) := by decide +kernel
theorem dX9_isDigits_10 : decode cX9_isDigits 10 = .ok (.aload_n 0, 1) := by decide +kernel
theorem dX9_isDigits_11 : decode cX9_isDigits 11 = .ok (.getfield 162, 3) := by decide +kernel
theorem dX9_isDigits_14 : decode cX9_isDigits 14 = .ok (.iload_n 1, 1) := by decide +kernel
end
section
theorem dX9_isDigits_15 : decode cX9_isDigits 15 = .ok (.isub, 1) := by decide +kernel
theorem dX9_isDigits_16 : decode cX9_isDigits 16 = .ok (.iconst 3, 1) := by decide +kernel
theorem dX9_isDigits_17 : decode cX9_isDigits 17 = .ok (.if_icmp .ge 51, 3) := by decide +kernel
theorem dX9_isDigits_20 : decode cX9_isDigits 20 = .ok (.aload_n 0, 1) := by decide +kernel
theorem dX9_isDigits_21 : decode cX9_isDigits 21 = .ok (.bipush 48, 2) := by decide +kernel
theorem dX9_isDigits_23 : decode cX9_isDigits 23 = .ok (.bipush 57, 2) := by decide +kernel
theorem dX9_isDigits_25 : decode cX9_isDigits 25 = .ok (.invokevirtual 168, 3) := by decide +kernel
theorem dX9_isDigits_28 : decode cX9_isDigits 28 = .ok (.ifCond .eq 40, 3) := by decide +kernel
theorem dX9_isDigits_31 : decode cX9_isDigits 31 = .ok (.aload_n 0, 1) := by decide +kernel
theorem dX9_isDigits_32 : decode cX9_isDigits 32 = .ok (.bipush 10, 2) := by decide +kernel
theorem dX9_isDigits_34 : decode cX9_isDigits 34 = .ok (.aload_n 0, 1) := by decide +kernel
theorem dX9_isDigits_35 : decode cX9_isDigits 35 = .ok (.getfield 165, 3) := by decide +kernel
theorem dX9_isDigits_38 : decode cX9_isDigits 38 = .ok (.imul, 1) := by decide +kernel
theorem dX9_isDigits_39 : decode cX9_isDigits 39 = .ok (.aload_n 0, 1) := by decide +kernel
theorem dX9_isDigits_40 : decode cX9_isDigits 40 = .ok (.getfield 26, 3) := by decide +kernel
theorem dX9_isDigits_43 : decode cX9_isDigits 43 = .ok (.aload_n 0, 1) := by decide +kernel
theorem dX9_isDigits_44 : decode cX9_isDigits 44 = .ok (.getfield 162, 3) := by decide +kernel
theorem dX9_isDigits_47 : decode cX9_isDigits 47 = .ok (.iaload, 1) := by decide +kernel
theorem dX9_isDigits_48 : decode cX9_isDigits 48 = .ok (.iadd, 1) := by decide +kernel
theorem dX9_isDigits_49 : decode cX9_isDigits 49 = .ok (.bipush 48, 2) := by decide +kernel
theorem dX9_isDigits_51 : decode cX9_isDigits 51 = .ok (.isub, 1) := by decide +kernel
theorem dX9_isDigits_52 : decode cX9_isDigits 52 = .ok (.putfield 165, 3) := by decide +kernel
theorem dX9_isDigits_55 : decode cX9_isDigits 55 = .ok (.aload_n 0, 1) := by decide +kernel
theorem dX9_isDigits_56 : decode cX9_isDigits 56 = .ok (.dup, 1) := by decide +kernel
theorem dX9_isDigits_57 : decode cX9_isDigits 57 = .ok (.getfield 162, 3) := by decide +kernel
theorem dX9_isDigits_60 : decode cX9_isDigits 60 = .ok (.iconst 1, 1) := by decide +kernel
theorem dX9_isDigits_61 : decode cX9_isDigits 61 = .ok (.iadd, 1) := by decide +kernel
theorem dX9_isDigits_62 : decode cX9_isDigits 62 = .ok (.putfield 162, 3) := by decide +kernel
theorem dX9_isDigits_65 : decode cX9_isDigits 65 = .ok (.goto (-55), 3) := by decide +kernel
theorem dX9_isDigits_68 : decode cX9_isDigits 68 = .ok (.aload_n 0, 1) := by decide +kernel
theorem dX9_isDigits_69 : decode cX9_isDigits 69 = .ok (.getfield 162, 3) := by decide +kernel
theorem dX9_isDigits_72 : decode cX9_isDigits 72 = .ok (.iload_n 1, 1) := by decide +kernel
theorem dX9_isDigits_73 : decode cX9_isDigits 73 = .ok (.if_icmp .le 7, 3) := by decide +kernel
theorem dX9_isDigits_76 : decode cX9_isDigits 76 = .ok (.iconst 1, 1) := by decide +kernel
theorem dX9_isDigits_77 : decode cX9_isDigits 77 = .ok (.goto 4, 3) := by decide +kernel
theorem dX9_isDigits_80 : decode cX9_isDigits 80 = .ok (.iconst 0, 1) := by decide +kernel
theorem dX9_isDigits_81 : decode cX9_isDigits 81 = .ok (.ireturn, 1) := by decide +kernel
theorem dX9_takes_0 : decode cX9_takes 0 = .ok (.aload_n 0, 1) := by decide +kernel
theorem dX9_takes_1 : decode cX9_takes 1 = .ok (.iload_n 1, 1) := by decide +kernel
theorem dX9_takes_2 : decode cX9_takes 2 = .ok (.iload_n 1, 1) := by decide +kernel
theorem dX9_takes_3 : decode cX9_takes 3 = .ok (.invokevirtual 168, 3) := by decide +kernel
theorem dX9_takes_6 : decode cX9_takes 6 = .ok (.istore_n 2, 1) := by decide +kernel
theorem dX9_takes_7 : decode cX9_takes 7 = .ok (.aload_n 0, 1) := by decide +kernel
theorem dX9_takes_8 : decode cX9_takes 8 = .ok (.dup, 1) := by decide +kernel
theorem dX9_takes_9 : decode cX9_takes 9 = .ok (.getfield 162, 3) := by decide +kernel
theorem dX9_takes_12 : decode cX9_takes 12 = .ok (.iload_n 2, 1) := by decide +kernel
theorem dX9_takes_13 : decode cX9_takes 13 = .ok (.ifCond .eq 7, 3) := by decide +kernel
theorem dX9_takes_16 : decode cX9_takes 16 = .ok (.iconst 1, 1) := by decide +kernel
theorem dX9_takes_17 : decode cX9_takes 17 = .ok (.goto 4, 3) := by decide +kernel
theorem dX9_takes_20 : decode cX9_takes 20 = .ok (.iconst 0, 1) := by decide +kernel
theorem dX9_takes_21 : decode cX9_takes 21 = .ok (.iadd, 1) := by decide +kernel
theorem dX9_takes_22 : decode cX9_takes 22 = .ok (.putfield 162, 3) := by decide +kernel
theorem dX9_takes_25 : decode cX9_takes 25 = .ok (.iload_n 2, 1) := by decide +kernel
theorem dX9_takes_26 : decode cX9_takes 26 = .ok (.ireturn, 1) := by decide +kernel
theorem dX9_isChange_0 : decode cX9_isChange 0 = .ok (.aload_n 0, 1) := by decide +kernel
theorem dX9_isChange_1 : decode cX9_isChange 1 = .ok (.invokevirtual 171, 3) := by decide +kernel
theorem dX9_isChange_4 : decode cX9_isChange 4 = .ok (.ifCond .ne 5, 3) := by decide +kernel
theorem dX9_isChange_7 : decode cX9_isChange 7 = .ok (.iconst 0, 1) := by decide +kernel
theorem dX9_isChange_8 : decode cX9_isChange 8 = .ok (.ireturn, 1) := by decide +kernel
theorem dX9_isChange_9 : decode cX9_isChange 9 = .ok (.aload_n 0, 1) := by decide +kernel
theorem dX9_isChange_10 : decode cX9_isChange 10 = .ok (.getfield 29, 3) := by decide +kernel
theorem dX9_isChange_13 : decode cX9_isChange 13 = .ok (.iconst 0, 1) := by decide +kernel
theorem dX9_isChange_14 : decode cX9_isChange 14 = .ok (.aload_n 0, 1) := by decide +kernel
theorem dX9_isChange_15 : decode cX9_isChange 15 = .ok (.getfield 165, 3) := by decide +kernel
theorem dX9_isChange_18 : decode cX9_isChange 18 = .ok (.iastore, 1) := by decide +kernel
theorem dX9_isChange_19 : decode cX9_isChange 19 = .ok (.aload_n 0, 1) := by decide +kernel
theorem dX9_isChange_20 : decode cX9_isChange 20 = .ok (.bipush 58, 2) := by decide +kernel
theorem dX9_isChange_22 : decode cX9_isChange 22 = .ok (.invokevirtual 175, 3) := by decide +kernel
theorem dX9_isChange_25 : decode cX9_isChange 25 = .ok (.ifCond .eq 14, 3) := by decide +kernel
theorem dX9_isChange_28 : decode cX9_isChange 28 = .ok (.aload_n 0, 1) := by decide +kernel
theorem dX9_isChange_29 : decode cX9_isChange 29 = .ok (.bipush 48, 2) := by decide +kernel
theorem dX9_isChange_31 : decode cX9_isChange 31 = .ok (.bipush 50, 2) := by decide +kernel
theorem dX9_isChange_33 : decode cX9_isChange 33 = .ok (.invokevirtual 168, 3) := by decide +kernel
theorem dX9_isChange_36 : decode cX9_isChange 36 = .ok (.ifCond .ne 5, 3) := by decide +kernel
theorem dX9_isChange_39 : decode cX9_isChange 39 = .ok (.iconst 0, 1) := by decide +kernel
theorem dX9_isChange_40 : decode cX9_isChange 40 = .ok (.ireturn, 1) := by decide +kernel
theorem dX9_isChange_41 : decode cX9_isChange 41 = .ok (.aload_n 0, 1) := by decide +kernel
theorem dX9_isChange_42 : decode cX9_isChange 42 = .ok (.getfield 29, 3) := by decide +kernel
theorem dX9_isChange_45 : decode cX9_isChange 45 = .ok (.iconst 1, 1) := by decide +kernel
theorem dX9_isChange_46 : decode cX9_isChange 46 = .ok (.aload_n 0, 1) := by decide +kernel
theorem dX9_isChange_47 : decode cX9_isChange 47 = .ok (.getfield 26, 3) := by decide +kernel
theorem dX9_isChange_50 : decode cX9_isChange 50 = .ok (.aload_n 0, 1) := by decide +kernel
theorem dX9_isChange_51 : decode cX9_isChange 51 = .ok (.getfield 162, 3) := by decide +kernel
theorem dX9_isChange_54 : decode cX9_isChange 54 = .ok (.iaload, 1) := by decide +kernel
theorem dX9_isChange_55 : decode cX9_isChange 55 = .ok (.bipush 48, 2) := by decide +kernel
theorem dX9_isChange_57 : decode cX9_isChange 57 = .ok (.isub, 1) := by decide +kernel
theorem dX9_isChange_58 : decode cX9_isChange 58 = .ok (.iastore, 1) := by decide +kernel
theorem dX9_isChange_59 : decode cX9_isChange 59 = .ok (.aload_n 0, 1) := by decide +kernel
theorem dX9_isChange_60 : decode cX9_isChange 60 = .ok (.getfield 29, 3) := by decide +kernel
theorem dX9_isChange_63 : decode cX9_isChange 63 = .ok (.iconst 2, 1) := by decide +kernel
theorem dX9_isChange_64 : decode cX9_isChange 64 = .ok (.iconst (-1), 1) := by decide +kernel
theorem dX9_isChange_65 : decode cX9_isChange 65 = .ok (.iastore, 1) := by decide +kernel
theorem dX9_isChange_66 : decode cX9_isChange 66 = .ok (.aload_n 0, 1) := by decide +kernel
theorem dX9_isChange_67 : decode cX9_isChange 67 = .ok (.dup, 1) := by decide +kernel
theorem dX9_isChange_68 : decode cX9_isChange 68 = .ok (.getfield 162, 3) := by decide +kernel
theorem dX9_isChange_71 : decode cX9_isChange 71 = .ok (.iconst 1, 1) := by decide +kernel
theorem dX9_isChange_72 : decode cX9_isChange 72 = .ok (.iadd, 1) := by decide +kernel
theorem dX9_isChange_73 : decode cX9_isChange 73 = .ok (.putfield 162, 3) := by decide +kernel
theorem dX9_isChange_76 : decode cX9_isChange 76 = .ok (.aload_n 0, 1) := by decide +kernel
theorem dX9_isChange_77 : decode cX9_isChange 77 = .ok (.bipush 45, 2) := by decide +kernel
theorem dX9_isChange_79 : decode cX9_isChange 79 = .ok (.invokevirtual 175, 3) := by decide +kernel
theorem dX9_isChange_82 : decode cX9_isChange 82 = .ok (.ifCond .eq 10, 3) := by decide +kernel
theorem dX9_isChange_85 : decode cX9_isChange 85 = .ok (.aload_n 0, 1) := by decide +kernel
theorem dX9_isChange_86 : decode cX9_isChange 86 = .ok (.bipush 59, 2) := by decide +kernel
theorem dX9_isChange_88 : decode cX9_isChange 88 = .ok (.invokevirtual 175, 3) := by decide +kernel
theorem dX9_isChange_91 : decode cX9_isChange 91 = .ok (.ireturn, 1) := by decide +kernel
theorem dX9_isChange_92 : decode cX9_isChange 92 = .ok (.aload_n 0, 1) := by decide +kernel
theorem dX9_isChange_93 : decode cX9_isChange 93 = .ok (.bipush 61, 2) := by decide +kernel
theorem dX9_isChange_95 : decode cX9_isChange 95 = .ok (.invokevirtual 175, 3) := by decide +kernel
theorem dX9_isChange_98 : decode cX9_isChange 98 = .ok (.ifCond .eq 30, 3) := by decide +kernel
theorem dX9_isChange_101 : decode cX9_isChange 101 = .ok (.aload_n 0, 1) := by decide +kernel
theorem dX9_isChange_102 : decode cX9_isChange 102 = .ok (.getfield 29, 3) := by decide +kernel
theorem dX9_isChange_105 : decode cX9_isChange 105 = .ok (.iconst 1, 1) := by decide +kernel
theorem dX9_isChange_106 : decode cX9_isChange 106 = .ok (.iaload, 1) := by decide +kernel
theorem dX9_isChange_107 : decode cX9_isChange 107 = .ok (.iconst 1, 1) := by decide +kernel
theorem dX9_isChange_108 : decode cX9_isChange 108 = .ok (.if_icmp .ne 13, 3) := by decide +kernel
theorem dX9_isChange_111 : decode cX9_isChange 111 = .ok (.aload_n 0, 1) := by decide +kernel
theorem dX9_isChange_112 : decode cX9_isChange 112 = .ok (.invokevirtual 171, 3) := by decide +kernel
theorem dX9_isChange_115 : decode cX9_isChange 115 = .ok (.ifCond .eq 13, 3) := by decide +kernel
theorem dX9_isChange_118 : decode cX9_isChange 118 = .ok (.goto 12, 3) := by decide +kernel
theorem dX9_isChange_121 : decode cX9_isChange 121 = .ok (.aload_n 0, 1) := by decide +kernel
theorem dX9_isChange_122 : decode cX9_isChange 122 = .ok (.invokevirtual 178, 3) := by decide +kernel
theorem dX9_isChange_125 : decode cX9_isChange 125 = .ok (.ifCond .ne 5, 3) := by decide +kernel
theorem dX9_isChange_128 : decode cX9_isChange 128 = .ok (.iconst 0, 1) := by decide +kernel
theorem dX9_isChange_129 : decode cX9_isChange 129 = .ok (.ireturn, 1) := by decide +kernel
theorem dX9_isChange_130 : decode cX9_isChange 130 = .ok (.aload_n 0, 1) := by decide +kernel
theorem dX9_isChange_131 : decode cX9_isChange 131 = .ok (.getfield 29, 3) := by decide +kernel
theorem dX9_isChange_134 : decode cX9_isChange 134 = .ok (.iconst 2, 1) := by decide +kernel
theorem dX9_isChange_135 : decode cX9_isChange 135 = .ok (.aload_n 0, 1) := by decide +kernel
theorem dX9_isChange_136 : decode cX9_isChange 136 = .ok (.getfield 165, 3) := by decide +kernel
theorem dX9_isChange_139 : decode cX9_isChange 139 = .ok (.iastore, 1) := by decide +kernel
theorem dX9_isChange_140 : decode cX9_isChange 140 = .ok (.aload_n 0, 1) := by decide +kernel
theorem dX9_isChange_141 : decode cX9_isChange 141 = .ok (.getfield 29, 3) := by decide +kernel
theorem dX9_isChange_144 : decode cX9_isChange 144 = .ok (.iconst 1, 1) := by decide +kernel
theorem dX9_isChange_145 : decode cX9_isChange 145 = .ok (.iaload, 1) := by decide +kernel
theorem dX9_isChange_146 : decode cX9_isChange 146 = .ok (.aload_n 0, 1) := by decide +kernel
theorem dX9_isChange_147 : decode cX9_isChange 147 = .ok (.getfield 165, 3) := by decide +kernel
theorem dX9_isChange_150 : decode cX9_isChange 150 = .ok (.invokestatic 116, 3) := by decide +kernel
theorem dX9_isChange_153 : decode cX9_isChange 153 = .ok (.ifCond .eq 16, 3) := by decide +kernel
theorem dX9_isChange_156 : decode cX9_isChange 156 = .ok (.aload_n 0, 1) := by decide +kernel
theorem dX9_isChange_157 : decode cX9_isChange 157 = .ok (.bipush 59, 2) := by decide +kernel
theorem dX9_isChange_159 : decode cX9_isChange 159 = .ok (.invokevirtual 175, 3) := by decide +kernel
theorem dX9_isChange_162 : decode cX9_isChange 162 = .ok (.ifCond .eq 7, 3) := by decide +kernel
theorem dX9_isChange_165 : decode cX9_isChange 165 = .ok (.iconst 1, 1) := by decide +kernel
theorem dX9_isChange_166 : decode cX9_isChange 166 = .ok (.goto 4, 3) := by decide +kernel
theorem dX9_isChange_169 : decode cX9_isChange 169 = .ok (.iconst 0, 1) := by decide +kernel
theorem dX9_isChange_170 : decode cX9_isChange 170 = .ok (.ireturn, 1) := by decide +kernel
theorem dX9_faultAt_0 : decode cX9_faultAt 0 = .ok (.aload_n 0, 1) := by decide +kernel
theorem dX9_faultAt_1 : decode cX9_faultAt 1 = .ok (.iconst 0, 1) := by decide +kernel
theorem dX9_faultAt_2 : decode cX9_faultAt 2 = .ok (.putfield 162, 3) := by decide +kernel
theorem dX9_faultAt_5 : decode cX9_faultAt 5 = .ok (.aload_n 0, 1) := by decide +kernel
theorem dX9_faultAt_6 : decode cX9_faultAt 6 = .ok (.getfield 162, 3) := by decide +kernel
theorem dX9_faultAt_9 : decode cX9_faultAt 9 = .ok (.aload_n 0, 1) := by decide +kernel
theorem dX9_faultAt_10 : decode cX9_faultAt 10 = .ok (.getfield 159, 3) := by decide +kernel
theorem dX9_faultAt_13 : decode cX9_faultAt 13 = .ok (.if_icmp .ge 20, 3) := by decide +kernel
theorem dX9_faultAt_16 : decode cX9_faultAt 16 = .ok (.aload_n 0, 1) := by decide +kernel
theorem dX9_faultAt_17 : decode cX9_faultAt 17 = .ok (.getfield 162, 3) := by decide +kernel
theorem dX9_faultAt_20 : decode cX9_faultAt 20 = .ok (.istore_n 1, 1) := by decide +kernel
theorem dX9_faultAt_21 : decode cX9_faultAt 21 = .ok (.aload_n 0, 1) := by decide +kernel
theorem dX9_faultAt_22 : decode cX9_faultAt 22 = .ok (.invokevirtual 181, 3) := by decide +kernel
theorem dX9_faultAt_25 : decode cX9_faultAt 25 = .ok (.ifCond .ne 5, 3) := by decide +kernel
theorem dX9_faultAt_28 : decode cX9_faultAt 28 = .ok (.iload_n 1, 1) := by decide +kernel
theorem dX9_faultAt_29 : decode cX9_faultAt 29 = .ok (.ireturn, 1) := by decide +kernel
theorem dX9_faultAt_30 : decode cX9_faultAt 30 = .ok (.goto (-25), 3) := by decide +kernel
theorem dX9_faultAt_33 : decode cX9_faultAt 33 = .ok (.bipush (-4), 2) := by decide +kernel
theorem dX9_faultAt_35 : decode cX9_faultAt 35 = .ok (.ireturn, 1) := by decide +kernel
theorem dX9_fault_0 : decode cX9_fault 0 = .ok (.aload_n 0, 1) := by decide +kernel
theorem dX9_fault_1 : decode cX9_fault 1 = .ok (.invokevirtual 184, 3) := by decide +kernel
theorem dX9_fault_4 : decode cX9_fault 4 = .ok (.ireturn, 1) := by decide +kernel
theorem dX9_lay_0 : decode cX9_lay 0 = .ok (.aload_n 0, 1) := by decide +kernel
theorem dX9_lay_1 : decode cX9_lay 1 = .ok (.iload_n 1, 1) := by decide +kernel
theorem dX9_lay_2 : decode cX9_lay 2 = .ok (.invokevirtual 85, 3) := by decide +kernel
theorem dX9_lay_5 : decode cX9_lay 5 = .ok (.ifCond .ne 5, 3) := by decide +kernel
theorem dX9_lay_8 : decode cX9_lay 8 = .ok (.iconst (-1), 1) := by decide +kernel
theorem dX9_lay_9 : decode cX9_lay 9 = .ok (.ireturn, 1) := by decide +kernel
theorem dX9_lay_10 : decode cX9_lay 10 = .ok (.aload_n 0, 1) := by decide +kernel
theorem dX9_lay_11 : decode cX9_lay 11 = .ok (.iload_n 1, 1) := by decide +kernel
theorem dX9_lay_12 : decode cX9_lay 12 = .ok (.invokevirtual 82, 3) := by decide +kernel
theorem dX9_lay_15 : decode cX9_lay 15 = .ok (.ifCond .ne 10, 3) := by decide +kernel
theorem dX9_lay_18 : decode cX9_lay 18 = .ok (.aload_n 0, 1) := by decide +kernel
theorem dX9_lay_19 : decode cX9_lay 19 = .ok (.invokevirtual 184, 3) := by decide +kernel
theorem dX9_lay_22 : decode cX9_lay 22 = .ok (.ifCond .lt 6, 3) := by decide +kernel
theorem dX9_lay_25 : decode cX9_lay 25 = .ok (.bipush (-2), 2) := by decide +kernel
theorem dX9_lay_27 : decode cX9_lay 27 = .ok (.ireturn, 1) := by decide +kernel
theorem dX9_lay_28 : decode cX9_lay 28 = .ok (.iconst 0, 1) := by decide +kernel
theorem dX9_lay_29 : decode cX9_lay 29 = .ok (.istore_n 2, 1) := by decide +kernel
theorem dX9_lay_30 : decode cX9_lay 30 = .ok (.iconst 1, 1) := by decide +kernel
theorem dX9_lay_31 : decode cX9_lay 31 = .ok (.istore_n 3, 1) := by decide +kernel
theorem dX9_lay_32 : decode cX9_lay 32 = .ok (.aload_n 0, 1) := by decide +kernel
theorem dX9_lay_33 : decode cX9_lay 33 = .ok (.iconst 0, 1) := by decide +kernel
theorem dX9_lay_34 : decode cX9_lay 34 = .ok (.putfield 162, 3) := by decide +kernel
theorem dX9_lay_37 : decode cX9_lay 37 = .ok (.aload_n 0, 1) := by decide +kernel
theorem dX9_lay_38 : decode cX9_lay 38 = .ok (.getfield 162, 3) := by decide +kernel
theorem dX9_lay_41 : decode cX9_lay 41 = .ok (.aload_n 0, 1) := by decide +kernel
theorem dX9_lay_42 : decode cX9_lay 42 = .ok (.getfield 159, 3) := by decide +kernel
theorem dX9_lay_45 : decode cX9_lay 45 = .ok (.if_icmp .ge 48, 3) := by decide +kernel
theorem dX9_lay_48 : decode cX9_lay 48 = .ok (.aload_n 0, 1) := by decide +kernel
theorem dX9_lay_49 : decode cX9_lay 49 = .ok (.invokevirtual 181, 3) := by decide +kernel
theorem dX9_lay_52 : decode cX9_lay 52 = .ok (.ifCond .eq 33, 3) := by decide +kernel
theorem dX9_lay_55 : decode cX9_lay 55 = .ok (.aload_n 0, 1) := by decide +kernel
theorem dX9_lay_56 : decode cX9_lay 56 = .ok (.getfield 29, 3) := by decide +kernel
theorem dX9_lay_59 : decode cX9_lay 59 = .ok (.iconst 0, 1) := by decide +kernel
theorem dX9_lay_60 : decode cX9_lay 60 = .ok (.iaload, 1) := by decide +kernel
theorem dX9_lay_61 : decode cX9_lay 61 = .ok (.aload_n 0, 1) := by decide +kernel
theorem dX9_lay_62 : decode cX9_lay 62 = .ok (.getfield 13, 3) := by decide +kernel
theorem dX9_lay_65 : decode cX9_lay 65 = .ok (.iconst 4, 1) := by decide +kernel
theorem dX9_lay_66 : decode cX9_lay 66 = .ok (.iload_n 1, 1) := by decide +kernel
theorem dX9_lay_67 : decode cX9_lay 67 = .ok (.imul, 1) := by decide +kernel
theorem dX9_lay_68 : decode cX9_lay 68 = .ok (.iconst 1, 1) := by decide +kernel
theorem dX9_lay_69 : decode cX9_lay 69 = .ok (.iadd, 1) := by decide +kernel
theorem dX9_lay_70 : decode cX9_lay 70 = .ok (.iaload, 1) := by decide +kernel
theorem dX9_lay_71 : decode cX9_lay 71 = .ok (.invokestatic 50, 3) := by decide +kernel
theorem dX9_lay_74 : decode cX9_lay 74 = .ok (.ifCond .eq 11, 3) := by decide +kernel
theorem dX9_lay_77 : decode cX9_lay 77 = .ok (.iload_n 3, 1) := by decide +kernel
theorem dX9_lay_78 : decode cX9_lay 78 = .ok (.ifCond .eq 7, 3) := by decide +kernel
theorem dX9_lay_81 : decode cX9_lay 81 = .ok (.iconst 1, 1) := by decide +kernel
theorem dX9_lay_82 : decode cX9_lay 82 = .ok (.goto 4, 3) := by decide +kernel
theorem dX9_lay_85 : decode cX9_lay 85 = .ok (.iconst 0, 1) := by decide +kernel
theorem dX9_lay_86 : decode cX9_lay 86 = .ok (.istore_n 3, 1) := by decide +kernel
theorem dX9_lay_87 : decode cX9_lay 87 = .ok (.iinc 2 1, 3) := by decide +kernel
theorem dX9_lay_90 : decode cX9_lay 90 = .ok (.goto (-53), 3) := by decide +kernel
theorem dX9_lay_93 : decode cX9_lay 93 = .ok (.iload_n 3, 1) := by decide +kernel
theorem dX9_lay_94 : decode cX9_lay 94 = .ok (.ifCond .ne 6, 3) := by decide +kernel
theorem dX9_lay_97 : decode cX9_lay 97 = .ok (.bipush (-2), 2) := by decide +kernel
theorem dX9_lay_99 : decode cX9_lay 99 = .ok (.ireturn, 1) := by decide +kernel
theorem dX9_lay_100 : decode cX9_lay 100 = .ok (.aload_n 0, 1) := by decide +kernel
theorem dX9_lay_101 : decode cX9_lay 101 = .ok (.getfield 91, 3) := by decide +kernel
theorem dX9_lay_104 : decode cX9_lay 104 = .ok (.iload_n 2, 1) := by decide +kernel
theorem dX9_lay_105 : decode cX9_lay 105 = .ok (.iadd, 1) := by decide +kernel
theorem dX9_lay_106 : decode cX9_lay 106 = .ok (.bipush 70, 2) := by decide +kernel
theorem dX9_lay_108 : decode cX9_lay 108 = .ok (.if_icmp .le 6, 3) := by decide +kernel
theorem dX9_lay_111 : decode cX9_lay 111 = .ok (.bipush (-3), 2) := by decide +kernel
theorem dX9_lay_113 : decode cX9_lay 113 = .ok (.ireturn, 1) := by decide +kernel
theorem dX9_lay_114 : decode cX9_lay 114 = .ok (.aload_n 0, 1) := by decide +kernel
theorem dX9_lay_115 : decode cX9_lay 115 = .ok (.iconst 0, 1) := by decide +kernel
theorem dX9_lay_116 : decode cX9_lay 116 = .ok (.putfield 162, 3) := by decide +kernel
theorem dX9_lay_119 : decode cX9_lay 119 = .ok (.aload_n 0, 1) := by decide +kernel
theorem dX9_lay_120 : decode cX9_lay 120 = .ok (.getfield 162, 3) := by decide +kernel
theorem dX9_lay_123 : decode cX9_lay 123 = .ok (.aload_n 0, 1) := by decide +kernel
theorem dX9_lay_124 : decode cX9_lay 124 = .ok (.getfield 159, 3) := by decide +kernel
theorem dX9_lay_127 : decode cX9_lay 127 = .ok (.if_icmp .ge 73, 3) := by decide +kernel
theorem dX9_lay_130 : decode cX9_lay 130 = .ok (.aload_n 0, 1) := by decide +kernel
theorem dX9_lay_131 : decode cX9_lay 131 = .ok (.invokevirtual 181, 3) := by decide +kernel
theorem dX9_lay_134 : decode cX9_lay 134 = .ok (.istore 4, 2) := by decide +kernel
theorem dX9_lay_136 : decode cX9_lay 136 = .ok (.iload 4, 2) := by decide +kernel
theorem dX9_lay_138 : decode cX9_lay 138 = .ok (.ifCond .eq 59, 3) := by decide +kernel
theorem dX9_lay_141 : decode cX9_lay 141 = .ok (.aload_n 0, 1) := by decide +kernel
theorem dX9_lay_142 : decode cX9_lay 142 = .ok (.getfield 29, 3) := by decide +kernel
theorem dX9_lay_145 : decode cX9_lay 145 = .ok (.iconst 2, 1) := by decide +kernel
theorem dX9_lay_146 : decode cX9_lay 146 = .ok (.iaload, 1) := by decide +kernel
theorem dX9_lay_147 : decode cX9_lay 147 = .ok (.ifCond .ge 27, 3) := by decide +kernel
theorem dX9_lay_150 : decode cX9_lay 150 = .ok (.aload_n 0, 1) := by decide +kernel
theorem dX9_lay_151 : decode cX9_lay 151 = .ok (.iload_n 1, 1) := by decide +kernel
theorem dX9_lay_152 : decode cX9_lay 152 = .ok (.aload_n 0, 1) := by decide +kernel
theorem dX9_lay_153 : decode cX9_lay 153 = .ok (.getfield 29, 3) := by decide +kernel
theorem dX9_lay_156 : decode cX9_lay 156 = .ok (.iconst 0, 1) := by decide +kernel
theorem dX9_lay_157 : decode cX9_lay 157 = .ok (.iaload, 1) := by decide +kernel
theorem dX9_lay_158 : decode cX9_lay 158 = .ok (.aload_n 0, 1) := by decide +kernel
theorem dX9_lay_159 : decode cX9_lay 159 = .ok (.getfield 29, 3) := by decide +kernel
theorem dX9_lay_162 : decode cX9_lay 162 = .ok (.iconst 1, 1) := by decide +kernel
theorem dX9_lay_163 : decode cX9_lay 163 = .ok (.iaload, 1) := by decide +kernel
theorem dX9_lay_164 : decode cX9_lay 164 = .ok (.aload_n 0, 1) := by decide +kernel
theorem dX9_lay_165 : decode cX9_lay 165 = .ok (.getfield 32, 3) := by decide +kernel
theorem dX9_lay_168 : decode cX9_lay 168 = .ok (.invokevirtual 103, 3) := by decide +kernel
theorem dX9_lay_171 : decode cX9_lay 171 = .ok (.ifCond .lt 26, 3) := by decide +kernel
theorem dX9_lay_174 : decode cX9_lay 174 = .ok (.aload_n 0, 1) := by decide +kernel
theorem dX9_lay_175 : decode cX9_lay 175 = .ok (.iload_n 1, 1) := by decide +kernel
theorem dX9_lay_176 : decode cX9_lay 176 = .ok (.aload_n 0, 1) := by decide +kernel
theorem dX9_lay_177 : decode cX9_lay 177 = .ok (.getfield 29, 3) := by decide +kernel
theorem dX9_lay_180 : decode cX9_lay 180 = .ok (.iconst 0, 1) := by decide +kernel
theorem dX9_lay_181 : decode cX9_lay 181 = .ok (.iaload, 1) := by decide +kernel
theorem dX9_lay_182 : decode cX9_lay 182 = .ok (.aload_n 0, 1) := by decide +kernel
theorem dX9_lay_183 : decode cX9_lay 183 = .ok (.getfield 29, 3) := by decide +kernel
theorem dX9_lay_186 : decode cX9_lay 186 = .ok (.iconst 1, 1) := by decide +kernel
theorem dX9_lay_187 : decode cX9_lay 187 = .ok (.iaload, 1) := by decide +kernel
theorem dX9_lay_188 : decode cX9_lay 188 = .ok (.aload_n 0, 1) := by decide +kernel
theorem dX9_lay_189 : decode cX9_lay 189 = .ok (.getfield 29, 3) := by decide +kernel
theorem dX9_lay_192 : decode cX9_lay 192 = .ok (.iconst 2, 1) := by decide +kernel
theorem dX9_lay_193 : decode cX9_lay 193 = .ok (.iaload, 1) := by decide +kernel
theorem dX9_lay_194 : decode cX9_lay 194 = .ok (.invokevirtual 119, 3) := by decide +kernel
theorem dX9_lay_197 : decode cX9_lay 197 = .ok (.goto (-78), 3) := by decide +kernel
theorem dX9_lay_200 : decode cX9_lay 200 = .ok (.aload_n 0, 1) := by decide +kernel
theorem dX9_lay_201 : decode cX9_lay 201 = .ok (.iload_n 1, 1) := by decide +kernel
theorem dX9_lay_202 : decode cX9_lay 202 = .ok (.invokevirtual 88, 3) := by decide +kernel
theorem dX9_lay_205 : decode cX9_lay 205 = .ok (.ireturn, 1) := by decide +kernel
end
section
theorem dJ9_max_7cf53_0 : decode cJ9_max_7cf53 0 = .ok (.iload_n 0, 1) := by decide +kernel
theorem dJ9_max_7cf53_1 : decode cJ9_max_7cf53 1 = .ok (.iload_n 1, 1) := by decide +kernel
theorem dJ9_max_7cf53_2 : decode cJ9_max_7cf53 2 = .ok (.if_icmp .lt 7, 3) := by decide +kernel
theorem dJ9_max_7cf53_5 : decode cJ9_max_7cf53 5 = .ok (.iload_n 0, 1) := by decide +kernel
theorem dJ9_max_7cf53_6 : decode cJ9_max_7cf53 6 = .ok (.goto 4, 3) := by decide +kernel
theorem dJ9_max_7cf53_9 : decode cJ9_max_7cf53 9 = .ok (.iload_n 1, 1) := by decide +kernel
theorem dJ9_max_7cf53_10 : decode cJ9_max_7cf53 10 = .ok (.ireturn, 1) := by decide +kernel
end
section
theorem dL_law_0 : decode cL_law 0 = .ok (.new 7, 3) := by decide +kernel
theorem dL_law_3 : decode cL_law 3 = .ok (.dup, 1) := by decide +kernel
theorem dL_law_4 : decode cL_law 4 = .ok (.invokespecial 9, 3) := by decide +kernel
theorem dL_law_7 : decode cL_law 7 = .ok (.astore_n 1, 1) := by decide +kernel
theorem dL_law_8 : decode cL_law 8 = .ok (.new 10, 3) := by decide +kernel
theorem dL_law_11 : decode cL_law 11 = .ok (.dup, 1) := by decide +kernel
theorem dL_law_12 : decode cL_law 12 = .ok (.invokespecial 12, 3) := by decide +kernel
theorem dL_law_15 : decode cL_law 15 = .ok (.astore_n 2, 1) := by decide +kernel
theorem dL_law_16 : decode cL_law 16 = .ok (.iconst 0, 1) := by decide +kernel
theorem dL_law_17 : decode cL_law 17 = .ok (.istore_n 3, 1) := by decide +kernel
theorem dL_law_18 : decode cL_law 18 = .ok (.iload_n 3, 1) := by decide +kernel
theorem dL_law_19 : decode cL_law 19 = .ok (.aload_n 0, 1) := by decide +kernel
theorem dL_law_20 : decode cL_law 20 = .ok (.arraylength, 1) := by decide +kernel
theorem dL_law_21 : decode cL_law 21 = .ok (.bipush 6, 2) := by decide +kernel
theorem dL_law_23 : decode cL_law 23 = .ok (.isub, 1) := by decide +kernel
theorem dL_law_24 : decode cL_law 24 = .ok (.if_icmp .gt 1240, 3) := by decide +kernel
theorem dL_law_27 : decode cL_law 27 = .ok (.aload_n 0, 1) := by decide +kernel
theorem dL_law_28 : decode cL_law 28 = .ok (.iload_n 3, 1) := by decide +kernel
theorem dL_law_29 : decode cL_law 29 = .ok (.iaload, 1) := by decide +kernel
theorem dL_law_30 : decode cL_law 30 = .ok (.bipush 31, 2) := by decide +kernel
theorem dL_law_32 : decode cL_law 32 = .ok (.iand, 1) := by decide +kernel
theorem dL_law_33 : decode cL_law 33 = .ok (.tableswitch 1225 0 29 #[135, 158, 171, 214, 237, 270, 303, 326, 359, 382, 435, 478, 531, 564, 607, 630, 683, 736, 779, 832, 885, 948, 1001, 1044, 1097, 1120, 1163, 1176, 1199, 1212], 135) := by decide +kernel
theorem dL_law_168 : decode cL_law 168 = .ok (.aload_n 1, 1) := by decide +kernel
theorem dL_law_169 : decode cL_law 169 = .ok (.aload_n 0, 1) := by decide +kernel
theorem dL_law_170 : decode cL_law 170 = .ok (.iload_n 3, 1) := by decide +kernel
theorem dL_law_171 : decode cL_law 171 = .ok (.iconst 1, 1) := by decide +kernel
theorem dL_law_172 : decode cL_law 172 = .ok (.iadd, 1) := by decide +kernel
theorem dL_law_173 : decode cL_law 173 = .ok (.iaload, 1) := by decide +kernel
theorem dL_law_174 : decode cL_law 174 = .ok (.invokevirtual 13, 3) := by decide +kernel
theorem dL_law_177 : decode cL_law 177 = .ok (.aload_n 2, 1) := by decide +kernel
theorem dL_law_178 : decode cL_law 178 = .ok (.aload_n 0, 1) := by decide +kernel
theorem dL_law_179 : decode cL_law 179 = .ok (.iload_n 3, 1) := by decide +kernel
theorem dL_law_180 : decode cL_law 180 = .ok (.iconst 1, 1) := by decide +kernel
theorem dL_law_181 : decode cL_law 181 = .ok (.iadd, 1) := by decide +kernel
theorem dL_law_182 : decode cL_law 182 = .ok (.iaload, 1) := by decide +kernel
theorem dL_law_183 : decode cL_law 183 = .ok (.invokevirtual 17, 3) := by decide +kernel
theorem dL_law_186 : decode cL_law 186 = .ok (.if_icmp .eq 1072, 3) := by decide +kernel
theorem dL_law_189 : decode cL_law 189 = .ok (.iconst 0, 1) := by decide +kernel
theorem dL_law_190 : decode cL_law 190 = .ok (.ireturn, 1) := by decide +kernel
theorem dL_law_191 : decode cL_law 191 = .ok (.aload_n 1, 1) := by decide +kernel
theorem dL_law_192 : decode cL_law 192 = .ok (.invokevirtual 18, 3) := by decide +kernel
theorem dL_law_195 : decode cL_law 195 = .ok (.aload_n 2, 1) := by decide +kernel
theorem dL_law_196 : decode cL_law 196 = .ok (.invokevirtual 22, 3) := by decide +kernel
theorem dL_law_199 : decode cL_law 199 = .ok (.if_icmp .eq 1059, 3) := by decide +kernel
theorem dL_law_202 : decode cL_law 202 = .ok (.iconst 0, 1) := by decide +kernel
theorem dL_law_203 : decode cL_law 203 = .ok (.ireturn, 1) := by decide +kernel
theorem dL_law_204 : decode cL_law 204 = .ok (.aload_n 1, 1) := by decide +kernel
theorem dL_law_205 : decode cL_law 205 = .ok (.aload_n 0, 1) := by decide +kernel
theorem dL_law_206 : decode cL_law 206 = .ok (.iload_n 3, 1) := by decide +kernel
theorem dL_law_207 : decode cL_law 207 = .ok (.iconst 1, 1) := by decide +kernel
theorem dL_law_208 : decode cL_law 208 = .ok (.iadd, 1) := by decide +kernel
theorem dL_law_209 : decode cL_law 209 = .ok (.iaload, 1) := by decide +kernel
theorem dL_law_210 : decode cL_law 210 = .ok (.aload_n 0, 1) := by decide +kernel
theorem dL_law_211 : decode cL_law 211 = .ok (.iload_n 3, 1) := by decide +kernel
theorem dL_law_212 : decode cL_law 212 = .ok (.iconst 2, 1) := by decide +kernel
theorem dL_law_213 : decode cL_law 213 = .ok (.iadd, 1) := by decide +kernel
theorem dL_law_214 : decode cL_law 214 = .ok (.iaload, 1) := by decide +kernel
theorem dL_law_215 : decode cL_law 215 = .ok (.aload_n 0, 1) := by decide +kernel
theorem dL_law_216 : decode cL_law 216 = .ok (.iload_n 3, 1) := by decide +kernel
theorem dL_law_217 : decode cL_law 217 = .ok (.iconst 3, 1) := by decide +kernel
theorem dL_law_218 : decode cL_law 218 = .ok (.iadd, 1) := by decide +kernel
theorem dL_law_219 : decode cL_law 219 = .ok (.iaload, 1) := by decide +kernel
theorem dL_law_220 : decode cL_law 220 = .ok (.invokevirtual 23, 3) := by decide +kernel
theorem dL_law_223 : decode cL_law 223 = .ok (.aload_n 2, 1) := by decide +kernel
theorem dL_law_224 : decode cL_law 224 = .ok (.aload_n 0, 1) := by decide +kernel
theorem dL_law_225 : decode cL_law 225 = .ok (.iload_n 3, 1) := by decide +kernel
theorem dL_law_226 : decode cL_law 226 = .ok (.iconst 1, 1) := by decide +kernel
theorem dL_law_227 : decode cL_law 227 = .ok (.iadd, 1) := by decide +kernel
theorem dL_law_228 : decode cL_law 228 = .ok (.iaload, 1) := by decide +kernel
theorem dL_law_229 : decode cL_law 229 = .ok (.aload_n 0, 1) := by decide +kernel
theorem dL_law_230 : decode cL_law 230 = .ok (.iload_n 3, 1) := by decide +kernel
theorem dL_law_231 : decode cL_law 231 = .ok (.iconst 2, 1) := by decide +kernel
theorem dL_law_232 : decode cL_law 232 = .ok (.iadd, 1) := by decide +kernel
theorem dL_law_233 : decode cL_law 233 = .ok (.iaload, 1) := by decide +kernel
theorem dL_law_234 : decode cL_law 234 = .ok (.aload_n 0, 1) := by decide +kernel
theorem dL_law_235 : decode cL_law 235 = .ok (.iload_n 3, 1) := by decide +kernel
theorem dL_law_236 : decode cL_law 236 = .ok (.iconst 3, 1) := by decide +kernel
theorem dL_law_237 : decode cL_law 237 = .ok (.iadd, 1) := by decide +kernel
theorem dL_law_238 : decode cL_law 238 = .ok (.iaload, 1) := by decide +kernel
theorem dL_law_239 : decode cL_law 239 = .ok (.invokevirtual 27, 3) := by decide +kernel
theorem dL_law_242 : decode cL_law 242 = .ok (.if_icmp .eq 1016, 3) := by decide +kernel
theorem dL_law_245 : decode cL_law 245 = .ok (.iconst 0, 1) := by decide +kernel
theorem dL_law_246 : decode cL_law 246 = .ok (.ireturn, 1) := by decide +kernel
theorem dL_law_247 : decode cL_law 247 = .ok (.aload_n 1, 1) := by decide +kernel
theorem dL_law_248 : decode cL_law 248 = .ok (.aload_n 0, 1) := by decide +kernel
theorem dL_law_249 : decode cL_law 249 = .ok (.iload_n 3, 1) := by decide +kernel
theorem dL_law_250 : decode cL_law 250 = .ok (.iconst 1, 1) := by decide +kernel
theorem dL_law_251 : decode cL_law 251 = .ok (.iadd, 1) := by decide +kernel
theorem dL_law_252 : decode cL_law 252 = .ok (.iaload, 1) := by decide +kernel
theorem dL_law_253 : decode cL_law 253 = .ok (.invokevirtual 28, 3) := by decide +kernel
theorem dL_law_256 : decode cL_law 256 = .ok (.aload_n 2, 1) := by decide +kernel
theorem dL_law_257 : decode cL_law 257 = .ok (.aload_n 0, 1) := by decide +kernel
theorem dL_law_258 : decode cL_law 258 = .ok (.iload_n 3, 1) := by decide +kernel
theorem dL_law_259 : decode cL_law 259 = .ok (.iconst 1, 1) := by decide +kernel
theorem dL_law_260 : decode cL_law 260 = .ok (.iadd, 1) := by decide +kernel
theorem dL_law_261 : decode cL_law 261 = .ok (.iaload, 1) := by decide +kernel
theorem dL_law_262 : decode cL_law 262 = .ok (.invokevirtual 31, 3) := by decide +kernel
theorem dL_law_265 : decode cL_law 265 = .ok (.if_icmp .eq 993, 3) := by decide +kernel
theorem dL_law_268 : decode cL_law 268 = .ok (.iconst 0, 1) := by decide +kernel
theorem dL_law_269 : decode cL_law 269 = .ok (.ireturn, 1) := by decide +kernel
theorem dL_law_270 : decode cL_law 270 = .ok (.aload_n 1, 1) := by decide +kernel
theorem dL_law_271 : decode cL_law 271 = .ok (.aload_n 0, 1) := by decide +kernel
theorem dL_law_272 : decode cL_law 272 = .ok (.iload_n 3, 1) := by decide +kernel
theorem dL_law_273 : decode cL_law 273 = .ok (.iconst 1, 1) := by decide +kernel
theorem dL_law_274 : decode cL_law 274 = .ok (.iadd, 1) := by decide +kernel
theorem dL_law_275 : decode cL_law 275 = .ok (.iaload, 1) := by decide +kernel
theorem dL_law_276 : decode cL_law 276 = .ok (.aload_n 0, 1) := by decide +kernel
theorem dL_law_277 : decode cL_law 277 = .ok (.iload_n 3, 1) := by decide +kernel
theorem dL_law_278 : decode cL_law 278 = .ok (.iconst 2, 1) := by decide +kernel
theorem dL_law_279 : decode cL_law 279 = .ok (.iadd, 1) := by decide +kernel
theorem dL_law_280 : decode cL_law 280 = .ok (.iaload, 1) := by decide +kernel
theorem dL_law_281 : decode cL_law 281 = .ok (.invokevirtual 32, 3) := by decide +kernel
theorem dL_law_284 : decode cL_law 284 = .ok (.aload_n 2, 1) := by decide +kernel
theorem dL_law_285 : decode cL_law 285 = .ok (.aload_n 0, 1) := by decide +kernel
theorem dL_law_286 : decode cL_law 286 = .ok (.iload_n 3, 1) := by decide +kernel
theorem dL_law_287 : decode cL_law 287 = .ok (.iconst 1, 1) := by decide +kernel
theorem dL_law_288 : decode cL_law 288 = .ok (.iadd, 1) := by decide +kernel
theorem dL_law_289 : decode cL_law 289 = .ok (.iaload, 1) := by decide +kernel
theorem dL_law_290 : decode cL_law 290 = .ok (.aload_n 0, 1) := by decide +kernel
theorem dL_law_291 : decode cL_law 291 = .ok (.iload_n 3, 1) := by decide +kernel
theorem dL_law_292 : decode cL_law 292 = .ok (.iconst 2, 1) := by decide +kernel
theorem dL_law_293 : decode cL_law 293 = .ok (.iadd, 1) := by decide +kernel
theorem dL_law_294 : decode cL_law 294 = .ok (.iaload, 1) := by decide +kernel
theorem dL_law_295 : decode cL_law 295 = .ok (.invokevirtual 36, 3) := by decide +kernel
theorem dL_law_298 : decode cL_law 298 = .ok (.if_icmp .eq 960, 3) := by decide +kernel
theorem dL_law_301 : decode cL_law 301 = .ok (.iconst 0, 1) := by decide +kernel
theorem dL_law_302 : decode cL_law 302 = .ok (.ireturn, 1) := by decide +kernel
theorem dL_law_303 : decode cL_law 303 = .ok (.aload_n 1, 1) := by decide +kernel
theorem dL_law_304 : decode cL_law 304 = .ok (.aload_n 0, 1) := by decide +kernel
theorem dL_law_305 : decode cL_law 305 = .ok (.iload_n 3, 1) := by decide +kernel
theorem dL_law_306 : decode cL_law 306 = .ok (.iconst 1, 1) := by decide +kernel
theorem dL_law_307 : decode cL_law 307 = .ok (.iadd, 1) := by decide +kernel
theorem dL_law_308 : decode cL_law 308 = .ok (.iaload, 1) := by decide +kernel
theorem dL_law_309 : decode cL_law 309 = .ok (.aload_n 0, 1) := by decide +kernel
theorem dL_law_310 : decode cL_law 310 = .ok (.iload_n 3, 1) := by decide +kernel
theorem dL_law_311 : decode cL_law 311 = .ok (.iconst 2, 1) := by decide +kernel
theorem dL_law_312 : decode cL_law 312 = .ok (.iadd, 1) := by decide +kernel
theorem dL_law_313 : decode cL_law 313 = .ok (.iaload, 1) := by decide +kernel
theorem dL_law_314 : decode cL_law 314 = .ok (.invokevirtual 37, 3) := by decide +kernel
theorem dL_law_317 : decode cL_law 317 = .ok (.aload_n 2, 1) := by decide +kernel
theorem dL_law_318 : decode cL_law 318 = .ok (.aload_n 0, 1) := by decide +kernel
theorem dL_law_319 : decode cL_law 319 = .ok (.iload_n 3, 1) := by decide +kernel
theorem dL_law_320 : decode cL_law 320 = .ok (.iconst 1, 1) := by decide +kernel
theorem dL_law_321 : decode cL_law 321 = .ok (.iadd, 1) := by decide +kernel
theorem dL_law_322 : decode cL_law 322 = .ok (.iaload, 1) := by decide +kernel
theorem dL_law_323 : decode cL_law 323 = .ok (.aload_n 0, 1) := by decide +kernel
theorem dL_law_324 : decode cL_law 324 = .ok (.iload_n 3, 1) := by decide +kernel
theorem dL_law_325 : decode cL_law 325 = .ok (.iconst 2, 1) := by decide +kernel
theorem dL_law_326 : decode cL_law 326 = .ok (.iadd, 1) := by decide +kernel
theorem dL_law_327 : decode cL_law 327 = .ok (.iaload, 1) := by decide +kernel
theorem dL_law_328 : decode cL_law 328 = .ok (.invokevirtual 40, 3) := by decide +kernel
theorem dL_law_331 : decode cL_law 331 = .ok (.if_icmp .eq 927, 3) := by decide +kernel
theorem dL_law_334 : decode cL_law 334 = .ok (.iconst 0, 1) := by decide +kernel
theorem dL_law_335 : decode cL_law 335 = .ok (.ireturn, 1) := by decide +kernel
theorem dL_law_336 : decode cL_law 336 = .ok (.aload_n 1, 1) := by decide +kernel
theorem dL_law_337 : decode cL_law 337 = .ok (.aload_n 0, 1) := by decide +kernel
theorem dL_law_338 : decode cL_law 338 = .ok (.iload_n 3, 1) := by decide +kernel
theorem dL_law_339 : decode cL_law 339 = .ok (.iconst 1, 1) := by decide +kernel
theorem dL_law_340 : decode cL_law 340 = .ok (.iadd, 1) := by decide +kernel
theorem dL_law_341 : decode cL_law 341 = .ok (.iaload, 1) := by decide +kernel
theorem dL_law_342 : decode cL_law 342 = .ok (.invokevirtual 41, 3) := by decide +kernel
theorem dL_law_345 : decode cL_law 345 = .ok (.aload_n 2, 1) := by decide +kernel
theorem dL_law_346 : decode cL_law 346 = .ok (.aload_n 0, 1) := by decide +kernel
theorem dL_law_347 : decode cL_law 347 = .ok (.iload_n 3, 1) := by decide +kernel
theorem dL_law_348 : decode cL_law 348 = .ok (.iconst 1, 1) := by decide +kernel
theorem dL_law_349 : decode cL_law 349 = .ok (.iadd, 1) := by decide +kernel
theorem dL_law_350 : decode cL_law 350 = .ok (.iaload, 1) := by decide +kernel
theorem dL_law_351 : decode cL_law 351 = .ok (.invokevirtual 44, 3) := by decide +kernel
theorem dL_law_354 : decode cL_law 354 = .ok (.if_icmp .eq 904, 3) := by decide +kernel
theorem dL_law_357 : decode cL_law 357 = .ok (.iconst 0, 1) := by decide +kernel
theorem dL_law_358 : decode cL_law 358 = .ok (.ireturn, 1) := by decide +kernel
theorem dL_law_359 : decode cL_law 359 = .ok (.aload_n 1, 1) := by decide +kernel
theorem dL_law_360 : decode cL_law 360 = .ok (.aload_n 0, 1) := by decide +kernel
theorem dL_law_361 : decode cL_law 361 = .ok (.iload_n 3, 1) := by decide +kernel
theorem dL_law_362 : decode cL_law 362 = .ok (.iconst 1, 1) := by decide +kernel
theorem dL_law_363 : decode cL_law 363 = .ok (.iadd, 1) := by decide +kernel
theorem dL_law_364 : decode cL_law 364 = .ok (.iaload, 1) := by decide +kernel
theorem dL_law_365 : decode cL_law 365 = .ok (.aload_n 0, 1) := by decide +kernel
theorem dL_law_366 : decode cL_law 366 = .ok (.iload_n 3, 1) := by decide +kernel
theorem dL_law_367 : decode cL_law 367 = .ok (.iconst 2, 1) := by decide +kernel
theorem dL_law_368 : decode cL_law 368 = .ok (.iadd, 1) := by decide +kernel
theorem dL_law_369 : decode cL_law 369 = .ok (.iaload, 1) := by decide +kernel
theorem dL_law_370 : decode cL_law 370 = .ok (.invokevirtual 45, 3) := by decide +kernel
theorem dL_law_373 : decode cL_law 373 = .ok (.aload_n 2, 1) := by decide +kernel
theorem dL_law_374 : decode cL_law 374 = .ok (.aload_n 0, 1) := by decide +kernel
theorem dL_law_375 : decode cL_law 375 = .ok (.iload_n 3, 1) := by decide +kernel
theorem dL_law_376 : decode cL_law 376 = .ok (.iconst 1, 1) := by decide +kernel
theorem dL_law_377 : decode cL_law 377 = .ok (.iadd, 1) := by decide +kernel
theorem dL_law_378 : decode cL_law 378 = .ok (.iaload, 1) := by decide +kernel
theorem dL_law_379 : decode cL_law 379 = .ok (.aload_n 0, 1) := by decide +kernel
theorem dL_law_380 : decode cL_law 380 = .ok (.iload_n 3, 1) := by decide +kernel
theorem dL_law_381 : decode cL_law 381 = .ok (.iconst 2, 1) := by decide +kernel
theorem dL_law_382 : decode cL_law 382 = .ok (.iadd, 1) := by decide +kernel
theorem dL_law_383 : decode cL_law 383 = .ok (.iaload, 1) := by decide +kernel
theorem dL_law_384 : decode cL_law 384 = .ok (.invokevirtual 48, 3) := by decide +kernel
theorem dL_law_387 : decode cL_law 387 = .ok (.if_icmp .eq 871, 3) := by decide +kernel
theorem dL_law_390 : decode cL_law 390 = .ok (.iconst 0, 1) := by decide +kernel
theorem dL_law_391 : decode cL_law 391 = .ok (.ireturn, 1) := by decide +kernel
theorem dL_law_392 : decode cL_law 392 = .ok (.aload_n 1, 1) := by decide +kernel
theorem dL_law_393 : decode cL_law 393 = .ok (.aload_n 0, 1) := by decide +kernel
theorem dL_law_394 : decode cL_law 394 = .ok (.iload_n 3, 1) := by decide +kernel
theorem dL_law_395 : decode cL_law 395 = .ok (.iconst 1, 1) := by decide +kernel
theorem dL_law_396 : decode cL_law 396 = .ok (.iadd, 1) := by decide +kernel
theorem dL_law_397 : decode cL_law 397 = .ok (.iaload, 1) := by decide +kernel
theorem dL_law_398 : decode cL_law 398 = .ok (.invokevirtual 49, 3) := by decide +kernel
theorem dL_law_401 : decode cL_law 401 = .ok (.aload_n 2, 1) := by decide +kernel
theorem dL_law_402 : decode cL_law 402 = .ok (.aload_n 0, 1) := by decide +kernel
theorem dL_law_403 : decode cL_law 403 = .ok (.iload_n 3, 1) := by decide +kernel
theorem dL_law_404 : decode cL_law 404 = .ok (.iconst 1, 1) := by decide +kernel
theorem dL_law_405 : decode cL_law 405 = .ok (.iadd, 1) := by decide +kernel
theorem dL_law_406 : decode cL_law 406 = .ok (.iaload, 1) := by decide +kernel
theorem dL_law_407 : decode cL_law 407 = .ok (.invokevirtual 52, 3) := by decide +kernel
theorem dL_law_410 : decode cL_law 410 = .ok (.if_icmp .eq 848, 3) := by decide +kernel
theorem dL_law_413 : decode cL_law 413 = .ok (.iconst 0, 1) := by decide +kernel
theorem dL_law_414 : decode cL_law 414 = .ok (.ireturn, 1) := by decide +kernel
theorem dL_law_415 : decode cL_law 415 = .ok (.aload_n 1, 1) := by decide +kernel
theorem dL_law_416 : decode cL_law 416 = .ok (.aload_n 0, 1) := by decide +kernel
theorem dL_law_417 : decode cL_law 417 = .ok (.iload_n 3, 1) := by decide +kernel
theorem dL_law_418 : decode cL_law 418 = .ok (.iconst 1, 1) := by decide +kernel
theorem dL_law_419 : decode cL_law 419 = .ok (.iadd, 1) := by decide +kernel
theorem dL_law_420 : decode cL_law 420 = .ok (.iaload, 1) := by decide +kernel
theorem dL_law_421 : decode cL_law 421 = .ok (.aload_n 0, 1) := by decide +kernel
theorem dL_law_422 : decode cL_law 422 = .ok (.iload_n 3, 1) := by decide +kernel
theorem dL_law_423 : decode cL_law 423 = .ok (.iconst 2, 1) := by decide +kernel
theorem dL_law_424 : decode cL_law 424 = .ok (.iadd, 1) := by decide +kernel
theorem dL_law_425 : decode cL_law 425 = .ok (.iaload, 1) := by decide +kernel
theorem dL_law_426 : decode cL_law 426 = .ok (.aload_n 0, 1) := by decide +kernel
theorem dL_law_427 : decode cL_law 427 = .ok (.iload_n 3, 1) := by decide +kernel
theorem dL_law_428 : decode cL_law 428 = .ok (.iconst 3, 1) := by decide +kernel
theorem dL_law_429 : decode cL_law 429 = .ok (.iadd, 1) := by decide +kernel
theorem dL_law_430 : decode cL_law 430 = .ok (.iaload, 1) := by decide +kernel
theorem dL_law_431 : decode cL_law 431 = .ok (.aload_n 0, 1) := by decide +kernel
theorem dL_law_432 : decode cL_law 432 = .ok (.iload_n 3, 1) := by decide +kernel
theorem dL_law_433 : decode cL_law 433 = .ok (.iconst 4, 1) := by decide +kernel
theorem dL_law_434 : decode cL_law 434 = .ok (.iadd, 1) := by decide +kernel
theorem dL_law_435 : decode cL_law 435 = .ok (.iaload, 1) := by decide +kernel
theorem dL_law_436 : decode cL_law 436 = .ok (.invokevirtual 53, 3) := by decide +kernel
theorem dL_law_439 : decode cL_law 439 = .ok (.aload_n 2, 1) := by decide +kernel
theorem dL_law_440 : decode cL_law 440 = .ok (.aload_n 0, 1) := by decide +kernel
theorem dL_law_441 : decode cL_law 441 = .ok (.iload_n 3, 1) := by decide +kernel
theorem dL_law_442 : decode cL_law 442 = .ok (.iconst 1, 1) := by decide +kernel
theorem dL_law_443 : decode cL_law 443 = .ok (.iadd, 1) := by decide +kernel
theorem dL_law_444 : decode cL_law 444 = .ok (.iaload, 1) := by decide +kernel
theorem dL_law_445 : decode cL_law 445 = .ok (.aload_n 0, 1) := by decide +kernel
theorem dL_law_446 : decode cL_law 446 = .ok (.iload_n 3, 1) := by decide +kernel
theorem dL_law_447 : decode cL_law 447 = .ok (.iconst 2, 1) := by decide +kernel
theorem dL_law_448 : decode cL_law 448 = .ok (.iadd, 1) := by decide +kernel
theorem dL_law_449 : decode cL_law 449 = .ok (.iaload, 1) := by decide +kernel
theorem dL_law_450 : decode cL_law 450 = .ok (.aload_n 0, 1) := by decide +kernel
theorem dL_law_451 : decode cL_law 451 = .ok (.iload_n 3, 1) := by decide +kernel
theorem dL_law_452 : decode cL_law 452 = .ok (.iconst 3, 1) := by decide +kernel
theorem dL_law_453 : decode cL_law 453 = .ok (.iadd, 1) := by decide +kernel
theorem dL_law_454 : decode cL_law 454 = .ok (.iaload, 1) := by decide +kernel
theorem dL_law_455 : decode cL_law 455 = .ok (.aload_n 0, 1) := by decide +kernel
theorem dL_law_456 : decode cL_law 456 = .ok (.iload_n 3, 1) := by decide +kernel
theorem dL_law_457 : decode cL_law 457 = .ok (.iconst 4, 1) := by decide +kernel
theorem dL_law_458 : decode cL_law 458 = .ok (.iadd, 1) := by decide +kernel
theorem dL_law_459 : decode cL_law 459 = .ok (.iaload, 1) := by decide +kernel
theorem dL_law_460 : decode cL_law 460 = .ok (.invokevirtual 57, 3) := by decide +kernel
theorem dL_law_463 : decode cL_law 463 = .ok (.if_icmp .eq 795, 3) := by decide +kernel
theorem dL_law_466 : decode cL_law 466 = .ok (.iconst 0, 1) := by decide +kernel
theorem dL_law_467 : decode cL_law 467 = .ok (.ireturn, 1) := by decide +kernel
theorem dL_law_468 : decode cL_law 468 = .ok (.aload_n 1, 1) := by decide +kernel
theorem dL_law_469 : decode cL_law 469 = .ok (.aload_n 0, 1) := by decide +kernel
theorem dL_law_470 : decode cL_law 470 = .ok (.iload_n 3, 1) := by decide +kernel
theorem dL_law_471 : decode cL_law 471 = .ok (.iconst 1, 1) := by decide +kernel
theorem dL_law_472 : decode cL_law 472 = .ok (.iadd, 1) := by decide +kernel
theorem dL_law_473 : decode cL_law 473 = .ok (.iaload, 1) := by decide +kernel
theorem dL_law_474 : decode cL_law 474 = .ok (.aload_n 0, 1) := by decide +kernel
theorem dL_law_475 : decode cL_law 475 = .ok (.iload_n 3, 1) := by decide +kernel
theorem dL_law_476 : decode cL_law 476 = .ok (.iconst 2, 1) := by decide +kernel
theorem dL_law_477 : decode cL_law 477 = .ok (.iadd, 1) := by decide +kernel
theorem dL_law_478 : decode cL_law 478 = .ok (.iaload, 1) := by decide +kernel
theorem dL_law_479 : decode cL_law 479 = .ok (.aload_n 0, 1) := by decide +kernel
theorem dL_law_480 : decode cL_law 480 = .ok (.iload_n 3, 1) := by decide +kernel
theorem dL_law_481 : decode cL_law 481 = .ok (.iconst 3, 1) := by decide +kernel
theorem dL_law_482 : decode cL_law 482 = .ok (.iadd, 1) := by decide +kernel
theorem dL_law_483 : decode cL_law 483 = .ok (.iaload, 1) := by decide +kernel
theorem dL_law_484 : decode cL_law 484 = .ok (.invokevirtual 58, 3) := by decide +kernel
theorem dL_law_487 : decode cL_law 487 = .ok (.aload_n 2, 1) := by decide +kernel
theorem dL_law_488 : decode cL_law 488 = .ok (.aload_n 0, 1) := by decide +kernel
theorem dL_law_489 : decode cL_law 489 = .ok (.iload_n 3, 1) := by decide +kernel
theorem dL_law_490 : decode cL_law 490 = .ok (.iconst 1, 1) := by decide +kernel
theorem dL_law_491 : decode cL_law 491 = .ok (.iadd, 1) := by decide +kernel
theorem dL_law_492 : decode cL_law 492 = .ok (.iaload, 1) := by decide +kernel
theorem dL_law_493 : decode cL_law 493 = .ok (.aload_n 0, 1) := by decide +kernel
theorem dL_law_494 : decode cL_law 494 = .ok (.iload_n 3, 1) := by decide +kernel
theorem dL_law_495 : decode cL_law 495 = .ok (.iconst 2, 1) := by decide +kernel
theorem dL_law_496 : decode cL_law 496 = .ok (.iadd, 1) := by decide +kernel
theorem dL_law_497 : decode cL_law 497 = .ok (.iaload, 1) := by decide +kernel
theorem dL_law_498 : decode cL_law 498 = .ok (.aload_n 0, 1) := by decide +kernel
theorem dL_law_499 : decode cL_law 499 = .ok (.iload_n 3, 1) := by decide +kernel
theorem dL_law_500 : decode cL_law 500 = .ok (.iconst 3, 1) := by decide +kernel
theorem dL_law_501 : decode cL_law 501 = .ok (.iadd, 1) := by decide +kernel
theorem dL_law_502 : decode cL_law 502 = .ok (.iaload, 1) := by decide +kernel
theorem dL_law_503 : decode cL_law 503 = .ok (.invokevirtual 61, 3) := by decide +kernel
theorem dL_law_506 : decode cL_law 506 = .ok (.if_icmp .eq 752, 3) := by decide +kernel
theorem dL_law_509 : decode cL_law 509 = .ok (.iconst 0, 1) := by decide +kernel
theorem dL_law_510 : decode cL_law 510 = .ok (.ireturn, 1) := by decide +kernel
theorem dL_law_511 : decode cL_law 511 = .ok (.aload_n 1, 1) := by decide +kernel
theorem dL_law_512 : decode cL_law 512 = .ok (.aload_n 0, 1) := by decide +kernel
theorem dL_law_513 : decode cL_law 513 = .ok (.iload_n 3, 1) := by decide +kernel
theorem dL_law_514 : decode cL_law 514 = .ok (.iconst 1, 1) := by decide +kernel
theorem dL_law_515 : decode cL_law 515 = .ok (.iadd, 1) := by decide +kernel
theorem dL_law_516 : decode cL_law 516 = .ok (.iaload, 1) := by decide +kernel
theorem dL_law_517 : decode cL_law 517 = .ok (.aload_n 0, 1) := by decide +kernel
theorem dL_law_518 : decode cL_law 518 = .ok (.iload_n 3, 1) := by decide +kernel
theorem dL_law_519 : decode cL_law 519 = .ok (.iconst 2, 1) := by decide +kernel
theorem dL_law_520 : decode cL_law 520 = .ok (.iadd, 1) := by decide +kernel
theorem dL_law_521 : decode cL_law 521 = .ok (.iaload, 1) := by decide +kernel
theorem dL_law_522 : decode cL_law 522 = .ok (.aload_n 0, 1) := by decide +kernel
theorem dL_law_523 : decode cL_law 523 = .ok (.iload_n 3, 1) := by decide +kernel
theorem dL_law_524 : decode cL_law 524 = .ok (.iconst 3, 1) := by decide +kernel
theorem dL_law_525 : decode cL_law 525 = .ok (.iadd, 1) := by decide +kernel
theorem dL_law_526 : decode cL_law 526 = .ok (.iaload, 1) := by decide +kernel
theorem dL_law_527 : decode cL_law 527 = .ok (.aload_n 0, 1) := by decide +kernel
theorem dL_law_528 : decode cL_law 528 = .ok (.iload_n 3, 1) := by decide +kernel
theorem dL_law_529 : decode cL_law 529 = .ok (.iconst 4, 1) := by decide +kernel
theorem dL_law_530 : decode cL_law 530 = .ok (.iadd, 1) := by decide +kernel
theorem dL_law_531 : decode cL_law 531 = .ok (.iaload, 1) := by decide +kernel
theorem dL_law_532 : decode cL_law 532 = .ok (.invokevirtual 62, 3) := by decide +kernel
theorem dL_law_535 : decode cL_law 535 = .ok (.aload_n 2, 1) := by decide +kernel
theorem dL_law_536 : decode cL_law 536 = .ok (.aload_n 0, 1) := by decide +kernel
theorem dL_law_537 : decode cL_law 537 = .ok (.iload_n 3, 1) := by decide +kernel
theorem dL_law_538 : decode cL_law 538 = .ok (.iconst 1, 1) := by decide +kernel
theorem dL_law_539 : decode cL_law 539 = .ok (.iadd, 1) := by decide +kernel
theorem dL_law_540 : decode cL_law 540 = .ok (.iaload, 1) := by decide +kernel
theorem dL_law_541 : decode cL_law 541 = .ok (.aload_n 0, 1) := by decide +kernel
theorem dL_law_542 : decode cL_law 542 = .ok (.iload_n 3, 1) := by decide +kernel
theorem dL_law_543 : decode cL_law 543 = .ok (.iconst 2, 1) := by decide +kernel
theorem dL_law_544 : decode cL_law 544 = .ok (.iadd, 1) := by decide +kernel
theorem dL_law_545 : decode cL_law 545 = .ok (.iaload, 1) := by decide +kernel
theorem dL_law_546 : decode cL_law 546 = .ok (.aload_n 0, 1) := by decide +kernel
theorem dL_law_547 : decode cL_law 547 = .ok (.iload_n 3, 1) := by decide +kernel
theorem dL_law_548 : decode cL_law 548 = .ok (.iconst 3, 1) := by decide +kernel
theorem dL_law_549 : decode cL_law 549 = .ok (.iadd, 1) := by decide +kernel
theorem dL_law_550 : decode cL_law 550 = .ok (.iaload, 1) := by decide +kernel
theorem dL_law_551 : decode cL_law 551 = .ok (.aload_n 0, 1) := by decide +kernel
theorem dL_law_552 : decode cL_law 552 = .ok (.iload_n 3, 1) := by decide +kernel
theorem dL_law_553 : decode cL_law 553 = .ok (.iconst 4, 1) := by decide +kernel
theorem dL_law_554 : decode cL_law 554 = .ok (.iadd, 1) := by decide +kernel
theorem dL_law_555 : decode cL_law 555 = .ok (.iaload, 1) := by decide +kernel
theorem dL_law_556 : decode cL_law 556 = .ok (.invokevirtual 65, 3) := by decide +kernel
theorem dL_law_559 : decode cL_law 559 = .ok (.if_icmp .eq 699, 3) := by decide +kernel
theorem dL_law_562 : decode cL_law 562 = .ok (.iconst 0, 1) := by decide +kernel
theorem dL_law_563 : decode cL_law 563 = .ok (.ireturn, 1) := by decide +kernel
theorem dL_law_564 : decode cL_law 564 = .ok (.aload_n 1, 1) := by decide +kernel
theorem dL_law_565 : decode cL_law 565 = .ok (.aload_n 0, 1) := by decide +kernel
theorem dL_law_566 : decode cL_law 566 = .ok (.iload_n 3, 1) := by decide +kernel
theorem dL_law_567 : decode cL_law 567 = .ok (.iconst 1, 1) := by decide +kernel
theorem dL_law_568 : decode cL_law 568 = .ok (.iadd, 1) := by decide +kernel
theorem dL_law_569 : decode cL_law 569 = .ok (.iaload, 1) := by decide +kernel
theorem dL_law_570 : decode cL_law 570 = .ok (.aload_n 0, 1) := by decide +kernel
theorem dL_law_571 : decode cL_law 571 = .ok (.iload_n 3, 1) := by decide +kernel
theorem dL_law_572 : decode cL_law 572 = .ok (.iconst 2, 1) := by decide +kernel
theorem dL_law_573 : decode cL_law 573 = .ok (.iadd, 1) := by decide +kernel
theorem dL_law_574 : decode cL_law 574 = .ok (.iaload, 1) := by decide +kernel
theorem dL_law_575 : decode cL_law 575 = .ok (.invokevirtual 66, 3) := by decide +kernel
theorem dL_law_578 : decode cL_law 578 = .ok (.aload_n 2, 1) := by decide +kernel
theorem dL_law_579 : decode cL_law 579 = .ok (.aload_n 0, 1) := by decide +kernel
theorem dL_law_580 : decode cL_law 580 = .ok (.iload_n 3, 1) := by decide +kernel
theorem dL_law_581 : decode cL_law 581 = .ok (.iconst 1, 1) := by decide +kernel
theorem dL_law_582 : decode cL_law 582 = .ok (.iadd, 1) := by decide +kernel
theorem dL_law_583 : decode cL_law 583 = .ok (.iaload, 1) := by decide +kernel
theorem dL_law_584 : decode cL_law 584 = .ok (.aload_n 0, 1) := by decide +kernel
theorem dL_law_585 : decode cL_law 585 = .ok (.iload_n 3, 1) := by decide +kernel
theorem dL_law_586 : decode cL_law 586 = .ok (.iconst 2, 1) := by decide +kernel
theorem dL_law_587 : decode cL_law 587 = .ok (.iadd, 1) := by decide +kernel
theorem dL_law_588 : decode cL_law 588 = .ok (.iaload, 1) := by decide +kernel
theorem dL_law_589 : decode cL_law 589 = .ok (.invokevirtual 69, 3) := by decide +kernel
theorem dL_law_592 : decode cL_law 592 = .ok (.if_icmp .eq 666, 3) := by decide +kernel
theorem dL_law_595 : decode cL_law 595 = .ok (.iconst 0, 1) := by decide +kernel
theorem dL_law_596 : decode cL_law 596 = .ok (.ireturn, 1) := by decide +kernel
theorem dL_law_597 : decode cL_law 597 = .ok (.aload_n 1, 1) := by decide +kernel
theorem dL_law_598 : decode cL_law 598 = .ok (.aload_n 0, 1) := by decide +kernel
theorem dL_law_599 : decode cL_law 599 = .ok (.iload_n 3, 1) := by decide +kernel
theorem dL_law_600 : decode cL_law 600 = .ok (.iconst 1, 1) := by decide +kernel
theorem dL_law_601 : decode cL_law 601 = .ok (.iadd, 1) := by decide +kernel
theorem dL_law_602 : decode cL_law 602 = .ok (.iaload, 1) := by decide +kernel
theorem dL_law_603 : decode cL_law 603 = .ok (.aload_n 0, 1) := by decide +kernel
theorem dL_law_604 : decode cL_law 604 = .ok (.iload_n 3, 1) := by decide +kernel
theorem dL_law_605 : decode cL_law 605 = .ok (.iconst 2, 1) := by decide +kernel
theorem dL_law_606 : decode cL_law 606 = .ok (.iadd, 1) := by decide +kernel
theorem dL_law_607 : decode cL_law 607 = .ok (.iaload, 1) := by decide +kernel
theorem dL_law_608 : decode cL_law 608 = .ok (.aload_n 0, 1) := by decide +kernel
theorem dL_law_609 : decode cL_law 609 = .ok (.iload_n 3, 1) := by decide +kernel
theorem dL_law_610 : decode cL_law 610 = .ok (.iconst 3, 1) := by decide +kernel
theorem dL_law_611 : decode cL_law 611 = .ok (.iadd, 1) := by decide +kernel
theorem dL_law_612 : decode cL_law 612 = .ok (.iaload, 1) := by decide +kernel
theorem dL_law_613 : decode cL_law 613 = .ok (.invokevirtual 70, 3) := by decide +kernel
theorem dL_law_616 : decode cL_law 616 = .ok (.aload_n 2, 1) := by decide +kernel
theorem dL_law_617 : decode cL_law 617 = .ok (.aload_n 0, 1) := by decide +kernel
theorem dL_law_618 : decode cL_law 618 = .ok (.iload_n 3, 1) := by decide +kernel
theorem dL_law_619 : decode cL_law 619 = .ok (.iconst 1, 1) := by decide +kernel
theorem dL_law_620 : decode cL_law 620 = .ok (.iadd, 1) := by decide +kernel
theorem dL_law_621 : decode cL_law 621 = .ok (.iaload, 1) := by decide +kernel
theorem dL_law_622 : decode cL_law 622 = .ok (.aload_n 0, 1) := by decide +kernel
theorem dL_law_623 : decode cL_law 623 = .ok (.iload_n 3, 1) := by decide +kernel
theorem dL_law_624 : decode cL_law 624 = .ok (.iconst 2, 1) := by decide +kernel
theorem dL_law_625 : decode cL_law 625 = .ok (.iadd, 1) := by decide +kernel
theorem dL_law_626 : decode cL_law 626 = .ok (.iaload, 1) := by decide +kernel
theorem dL_law_627 : decode cL_law 627 = .ok (.aload_n 0, 1) := by decide +kernel
theorem dL_law_628 : decode cL_law 628 = .ok (.iload_n 3, 1) := by decide +kernel
theorem dL_law_629 : decode cL_law 629 = .ok (.iconst 3, 1) := by decide +kernel
theorem dL_law_630 : decode cL_law 630 = .ok (.iadd, 1) := by decide +kernel
theorem dL_law_631 : decode cL_law 631 = .ok (.iaload, 1) := by decide +kernel
theorem dL_law_632 : decode cL_law 632 = .ok (.invokevirtual 73, 3) := by decide +kernel
theorem dL_law_635 : decode cL_law 635 = .ok (.if_icmp .eq 623, 3) := by decide +kernel
theorem dL_law_638 : decode cL_law 638 = .ok (.iconst 0, 1) := by decide +kernel
theorem dL_law_639 : decode cL_law 639 = .ok (.ireturn, 1) := by decide +kernel
theorem dL_law_640 : decode cL_law 640 = .ok (.aload_n 1, 1) := by decide +kernel
theorem dL_law_641 : decode cL_law 641 = .ok (.aload_n 0, 1) := by decide +kernel
theorem dL_law_642 : decode cL_law 642 = .ok (.iload_n 3, 1) := by decide +kernel
theorem dL_law_643 : decode cL_law 643 = .ok (.iconst 1, 1) := by decide +kernel
theorem dL_law_644 : decode cL_law 644 = .ok (.iadd, 1) := by decide +kernel
theorem dL_law_645 : decode cL_law 645 = .ok (.iaload, 1) := by decide +kernel
theorem dL_law_646 : decode cL_law 646 = .ok (.invokevirtual 74, 3) := by decide +kernel
theorem dL_law_649 : decode cL_law 649 = .ok (.aload_n 2, 1) := by decide +kernel
theorem dL_law_650 : decode cL_law 650 = .ok (.aload_n 0, 1) := by decide +kernel
theorem dL_law_651 : decode cL_law 651 = .ok (.iload_n 3, 1) := by decide +kernel
theorem dL_law_652 : decode cL_law 652 = .ok (.iconst 1, 1) := by decide +kernel
theorem dL_law_653 : decode cL_law 653 = .ok (.iadd, 1) := by decide +kernel
theorem dL_law_654 : decode cL_law 654 = .ok (.iaload, 1) := by decide +kernel
theorem dL_law_655 : decode cL_law 655 = .ok (.invokevirtual 77, 3) := by decide +kernel
theorem dL_law_658 : decode cL_law 658 = .ok (.if_icmp .eq 600, 3) := by decide +kernel
theorem dL_law_661 : decode cL_law 661 = .ok (.iconst 0, 1) := by decide +kernel
theorem dL_law_662 : decode cL_law 662 = .ok (.ireturn, 1) := by decide +kernel
theorem dL_law_663 : decode cL_law 663 = .ok (.aload_n 1, 1) := by decide +kernel
theorem dL_law_664 : decode cL_law 664 = .ok (.aload_n 0, 1) := by decide +kernel
theorem dL_law_665 : decode cL_law 665 = .ok (.iload_n 3, 1) := by decide +kernel
theorem dL_law_666 : decode cL_law 666 = .ok (.iconst 1, 1) := by decide +kernel
theorem dL_law_667 : decode cL_law 667 = .ok (.iadd, 1) := by decide +kernel
theorem dL_law_668 : decode cL_law 668 = .ok (.iaload, 1) := by decide +kernel
theorem dL_law_669 : decode cL_law 669 = .ok (.aload_n 0, 1) := by decide +kernel
theorem dL_law_670 : decode cL_law 670 = .ok (.iload_n 3, 1) := by decide +kernel
theorem dL_law_671 : decode cL_law 671 = .ok (.iconst 2, 1) := by decide +kernel
theorem dL_law_672 : decode cL_law 672 = .ok (.iadd, 1) := by decide +kernel
theorem dL_law_673 : decode cL_law 673 = .ok (.iaload, 1) := by decide +kernel
theorem dL_law_674 : decode cL_law 674 = .ok (.aload_n 0, 1) := by decide +kernel
theorem dL_law_675 : decode cL_law 675 = .ok (.iload_n 3, 1) := by decide +kernel
theorem dL_law_676 : decode cL_law 676 = .ok (.iconst 3, 1) := by decide +kernel
theorem dL_law_677 : decode cL_law 677 = .ok (.iadd, 1) := by decide +kernel
theorem dL_law_678 : decode cL_law 678 = .ok (.iaload, 1) := by decide +kernel
theorem dL_law_679 : decode cL_law 679 = .ok (.aload_n 0, 1) := by decide +kernel
theorem dL_law_680 : decode cL_law 680 = .ok (.iload_n 3, 1) := by decide +kernel
theorem dL_law_681 : decode cL_law 681 = .ok (.iconst 4, 1) := by decide +kernel
theorem dL_law_682 : decode cL_law 682 = .ok (.iadd, 1) := by decide +kernel
theorem dL_law_683 : decode cL_law 683 = .ok (.iaload, 1) := by decide +kernel
theorem dL_law_684 : decode cL_law 684 = .ok (.invokevirtual 78, 3) := by decide +kernel
theorem dL_law_687 : decode cL_law 687 = .ok (.aload_n 2, 1) := by decide +kernel
theorem dL_law_688 : decode cL_law 688 = .ok (.aload_n 0, 1) := by decide +kernel
theorem dL_law_689 : decode cL_law 689 = .ok (.iload_n 3, 1) := by decide +kernel
theorem dL_law_690 : decode cL_law 690 = .ok (.iconst 1, 1) := by decide +kernel
theorem dL_law_691 : decode cL_law 691 = .ok (.iadd, 1) := by decide +kernel
theorem dL_law_692 : decode cL_law 692 = .ok (.iaload, 1) := by decide +kernel
theorem dL_law_693 : decode cL_law 693 = .ok (.aload_n 0, 1) := by decide +kernel
theorem dL_law_694 : decode cL_law 694 = .ok (.iload_n 3, 1) := by decide +kernel
theorem dL_law_695 : decode cL_law 695 = .ok (.iconst 2, 1) := by decide +kernel
theorem dL_law_696 : decode cL_law 696 = .ok (.iadd, 1) := by decide +kernel
theorem dL_law_697 : decode cL_law 697 = .ok (.iaload, 1) := by decide +kernel
theorem dL_law_698 : decode cL_law 698 = .ok (.aload_n 0, 1) := by decide +kernel
theorem dL_law_699 : decode cL_law 699 = .ok (.iload_n 3, 1) := by decide +kernel
theorem dL_law_700 : decode cL_law 700 = .ok (.iconst 3, 1) := by decide +kernel
theorem dL_law_701 : decode cL_law 701 = .ok (.iadd, 1) := by decide +kernel
theorem dL_law_702 : decode cL_law 702 = .ok (.iaload, 1) := by decide +kernel
theorem dL_law_703 : decode cL_law 703 = .ok (.aload_n 0, 1) := by decide +kernel
theorem dL_law_704 : decode cL_law 704 = .ok (.iload_n 3, 1) := by decide +kernel
theorem dL_law_705 : decode cL_law 705 = .ok (.iconst 4, 1) := by decide +kernel
theorem dL_law_706 : decode cL_law 706 = .ok (.iadd, 1) := by decide +kernel
theorem dL_law_707 : decode cL_law 707 = .ok (.iaload, 1) := by decide +kernel
theorem dL_law_708 : decode cL_law 708 = .ok (.invokevirtual 81, 3) := by decide +kernel
theorem dL_law_711 : decode cL_law 711 = .ok (.if_icmp .eq 547, 3) := by decide +kernel
theorem dL_law_714 : decode cL_law 714 = .ok (.iconst 0, 1) := by decide +kernel
theorem dL_law_715 : decode cL_law 715 = .ok (.ireturn, 1) := by decide +kernel
theorem dL_law_716 : decode cL_law 716 = .ok (.aload_n 1, 1) := by decide +kernel
theorem dL_law_717 : decode cL_law 717 = .ok (.aload_n 0, 1) := by decide +kernel
theorem dL_law_718 : decode cL_law 718 = .ok (.iload_n 3, 1) := by decide +kernel
theorem dL_law_719 : decode cL_law 719 = .ok (.iconst 1, 1) := by decide +kernel
theorem dL_law_720 : decode cL_law 720 = .ok (.iadd, 1) := by decide +kernel
theorem dL_law_721 : decode cL_law 721 = .ok (.iaload, 1) := by decide +kernel
theorem dL_law_722 : decode cL_law 722 = .ok (.aload_n 0, 1) := by decide +kernel
theorem dL_law_723 : decode cL_law 723 = .ok (.iload_n 3, 1) := by decide +kernel
theorem dL_law_724 : decode cL_law 724 = .ok (.iconst 2, 1) := by decide +kernel
theorem dL_law_725 : decode cL_law 725 = .ok (.iadd, 1) := by decide +kernel
theorem dL_law_726 : decode cL_law 726 = .ok (.iaload, 1) := by decide +kernel
theorem dL_law_727 : decode cL_law 727 = .ok (.aload_n 0, 1) := by decide +kernel
theorem dL_law_728 : decode cL_law 728 = .ok (.iload_n 3, 1) := by decide +kernel
theorem dL_law_729 : decode cL_law 729 = .ok (.iconst 3, 1) := by decide +kernel
theorem dL_law_730 : decode cL_law 730 = .ok (.iadd, 1) := by decide +kernel
theorem dL_law_731 : decode cL_law 731 = .ok (.iaload, 1) := by decide +kernel
theorem dL_law_732 : decode cL_law 732 = .ok (.aload_n 0, 1) := by decide +kernel
theorem dL_law_733 : decode cL_law 733 = .ok (.iload_n 3, 1) := by decide +kernel
theorem dL_law_734 : decode cL_law 734 = .ok (.iconst 4, 1) := by decide +kernel
theorem dL_law_735 : decode cL_law 735 = .ok (.iadd, 1) := by decide +kernel
theorem dL_law_736 : decode cL_law 736 = .ok (.iaload, 1) := by decide +kernel
theorem dL_law_737 : decode cL_law 737 = .ok (.invokevirtual 82, 3) := by decide +kernel
theorem dL_law_740 : decode cL_law 740 = .ok (.aload_n 2, 1) := by decide +kernel
theorem dL_law_741 : decode cL_law 741 = .ok (.aload_n 0, 1) := by decide +kernel
theorem dL_law_742 : decode cL_law 742 = .ok (.iload_n 3, 1) := by decide +kernel
theorem dL_law_743 : decode cL_law 743 = .ok (.iconst 1, 1) := by decide +kernel
theorem dL_law_744 : decode cL_law 744 = .ok (.iadd, 1) := by decide +kernel
theorem dL_law_745 : decode cL_law 745 = .ok (.iaload, 1) := by decide +kernel
theorem dL_law_746 : decode cL_law 746 = .ok (.aload_n 0, 1) := by decide +kernel
theorem dL_law_747 : decode cL_law 747 = .ok (.iload_n 3, 1) := by decide +kernel
theorem dL_law_748 : decode cL_law 748 = .ok (.iconst 2, 1) := by decide +kernel
theorem dL_law_749 : decode cL_law 749 = .ok (.iadd, 1) := by decide +kernel
theorem dL_law_750 : decode cL_law 750 = .ok (.iaload, 1) := by decide +kernel
theorem dL_law_751 : decode cL_law 751 = .ok (.aload_n 0, 1) := by decide +kernel
theorem dL_law_752 : decode cL_law 752 = .ok (.iload_n 3, 1) := by decide +kernel
theorem dL_law_753 : decode cL_law 753 = .ok (.iconst 3, 1) := by decide +kernel
theorem dL_law_754 : decode cL_law 754 = .ok (.iadd, 1) := by decide +kernel
theorem dL_law_755 : decode cL_law 755 = .ok (.iaload, 1) := by decide +kernel
theorem dL_law_756 : decode cL_law 756 = .ok (.aload_n 0, 1) := by decide +kernel
theorem dL_law_757 : decode cL_law 757 = .ok (.iload_n 3, 1) := by decide +kernel
theorem dL_law_758 : decode cL_law 758 = .ok (.iconst 4, 1) := by decide +kernel
theorem dL_law_759 : decode cL_law 759 = .ok (.iadd, 1) := by decide +kernel
theorem dL_law_760 : decode cL_law 760 = .ok (.iaload, 1) := by decide +kernel
theorem dL_law_761 : decode cL_law 761 = .ok (.invokevirtual 85, 3) := by decide +kernel
theorem dL_law_764 : decode cL_law 764 = .ok (.if_icmp .eq 494, 3) := by decide +kernel
theorem dL_law_767 : decode cL_law 767 = .ok (.iconst 0, 1) := by decide +kernel
theorem dL_law_768 : decode cL_law 768 = .ok (.ireturn, 1) := by decide +kernel
theorem dL_law_769 : decode cL_law 769 = .ok (.aload_n 1, 1) := by decide +kernel
theorem dL_law_770 : decode cL_law 770 = .ok (.aload_n 0, 1) := by decide +kernel
theorem dL_law_771 : decode cL_law 771 = .ok (.iload_n 3, 1) := by decide +kernel
theorem dL_law_772 : decode cL_law 772 = .ok (.iconst 1, 1) := by decide +kernel
theorem dL_law_773 : decode cL_law 773 = .ok (.iadd, 1) := by decide +kernel
theorem dL_law_774 : decode cL_law 774 = .ok (.iaload, 1) := by decide +kernel
theorem dL_law_775 : decode cL_law 775 = .ok (.aload_n 0, 1) := by decide +kernel
theorem dL_law_776 : decode cL_law 776 = .ok (.iload_n 3, 1) := by decide +kernel
theorem dL_law_777 : decode cL_law 777 = .ok (.iconst 2, 1) := by decide +kernel
theorem dL_law_778 : decode cL_law 778 = .ok (.iadd, 1) := by decide +kernel
theorem dL_law_779 : decode cL_law 779 = .ok (.iaload, 1) := by decide +kernel
theorem dL_law_780 : decode cL_law 780 = .ok (.aload_n 0, 1) := by decide +kernel
theorem dL_law_781 : decode cL_law 781 = .ok (.iload_n 3, 1) := by decide +kernel
theorem dL_law_782 : decode cL_law 782 = .ok (.iconst 3, 1) := by decide +kernel
theorem dL_law_783 : decode cL_law 783 = .ok (.iadd, 1) := by decide +kernel
theorem dL_law_784 : decode cL_law 784 = .ok (.iaload, 1) := by decide +kernel
theorem dL_law_785 : decode cL_law 785 = .ok (.invokevirtual 86, 3) := by decide +kernel
theorem dL_law_788 : decode cL_law 788 = .ok (.aload_n 2, 1) := by decide +kernel
theorem dL_law_789 : decode cL_law 789 = .ok (.aload_n 0, 1) := by decide +kernel
theorem dL_law_790 : decode cL_law 790 = .ok (.iload_n 3, 1) := by decide +kernel
theorem dL_law_791 : decode cL_law 791 = .ok (.iconst 1, 1) := by decide +kernel
theorem dL_law_792 : decode cL_law 792 = .ok (.iadd, 1) := by decide +kernel
theorem dL_law_793 : decode cL_law 793 = .ok (.iaload, 1) := by decide +kernel
theorem dL_law_794 : decode cL_law 794 = .ok (.aload_n 0, 1) := by decide +kernel
theorem dL_law_795 : decode cL_law 795 = .ok (.iload_n 3, 1) := by decide +kernel
theorem dL_law_796 : decode cL_law 796 = .ok (.iconst 2, 1) := by decide +kernel
theorem dL_law_797 : decode cL_law 797 = .ok (.iadd, 1) := by decide +kernel
theorem dL_law_798 : decode cL_law 798 = .ok (.iaload, 1) := by decide +kernel
theorem dL_law_799 : decode cL_law 799 = .ok (.aload_n 0, 1) := by decide +kernel
theorem dL_law_800 : decode cL_law 800 = .ok (.iload_n 3, 1) := by decide +kernel
theorem dL_law_801 : decode cL_law 801 = .ok (.iconst 3, 1) := by decide +kernel
theorem dL_law_802 : decode cL_law 802 = .ok (.iadd, 1) := by decide +kernel
theorem dL_law_803 : decode cL_law 803 = .ok (.iaload, 1) := by decide +kernel
theorem dL_law_804 : decode cL_law 804 = .ok (.invokevirtual 89, 3) := by decide +kernel
theorem dL_law_807 : decode cL_law 807 = .ok (.if_icmp .eq 451, 3) := by decide +kernel
theorem dL_law_810 : decode cL_law 810 = .ok (.iconst 0, 1) := by decide +kernel
theorem dL_law_811 : decode cL_law 811 = .ok (.ireturn, 1) := by decide +kernel
theorem dL_law_812 : decode cL_law 812 = .ok (.aload_n 1, 1) := by decide +kernel
theorem dL_law_813 : decode cL_law 813 = .ok (.aload_n 0, 1) := by decide +kernel
theorem dL_law_814 : decode cL_law 814 = .ok (.iload_n 3, 1) := by decide +kernel
theorem dL_law_815 : decode cL_law 815 = .ok (.iconst 1, 1) := by decide +kernel
theorem dL_law_816 : decode cL_law 816 = .ok (.iadd, 1) := by decide +kernel
theorem dL_law_817 : decode cL_law 817 = .ok (.iaload, 1) := by decide +kernel
theorem dL_law_818 : decode cL_law 818 = .ok (.aload_n 0, 1) := by decide +kernel
theorem dL_law_819 : decode cL_law 819 = .ok (.iload_n 3, 1) := by decide +kernel
theorem dL_law_820 : decode cL_law 820 = .ok (.iconst 2, 1) := by decide +kernel
theorem dL_law_821 : decode cL_law 821 = .ok (.iadd, 1) := by decide +kernel
theorem dL_law_822 : decode cL_law 822 = .ok (.iaload, 1) := by decide +kernel
theorem dL_law_823 : decode cL_law 823 = .ok (.aload_n 0, 1) := by decide +kernel
theorem dL_law_824 : decode cL_law 824 = .ok (.iload_n 3, 1) := by decide +kernel
theorem dL_law_825 : decode cL_law 825 = .ok (.iconst 3, 1) := by decide +kernel
theorem dL_law_826 : decode cL_law 826 = .ok (.iadd, 1) := by decide +kernel
theorem dL_law_827 : decode cL_law 827 = .ok (.iaload, 1) := by decide +kernel
theorem dL_law_828 : decode cL_law 828 = .ok (.aload_n 0, 1) := by decide +kernel
theorem dL_law_829 : decode cL_law 829 = .ok (.iload_n 3, 1) := by decide +kernel
theorem dL_law_830 : decode cL_law 830 = .ok (.iconst 4, 1) := by decide +kernel
theorem dL_law_831 : decode cL_law 831 = .ok (.iadd, 1) := by decide +kernel
theorem dL_law_832 : decode cL_law 832 = .ok (.iaload, 1) := by decide +kernel
theorem dL_law_833 : decode cL_law 833 = .ok (.invokevirtual 90, 3) := by decide +kernel
theorem dL_law_836 : decode cL_law 836 = .ok (.aload_n 2, 1) := by decide +kernel
theorem dL_law_837 : decode cL_law 837 = .ok (.aload_n 0, 1) := by decide +kernel
theorem dL_law_838 : decode cL_law 838 = .ok (.iload_n 3, 1) := by decide +kernel
theorem dL_law_839 : decode cL_law 839 = .ok (.iconst 1, 1) := by decide +kernel
theorem dL_law_840 : decode cL_law 840 = .ok (.iadd, 1) := by decide +kernel
theorem dL_law_841 : decode cL_law 841 = .ok (.iaload, 1) := by decide +kernel
theorem dL_law_842 : decode cL_law 842 = .ok (.aload_n 0, 1) := by decide +kernel
theorem dL_law_843 : decode cL_law 843 = .ok (.iload_n 3, 1) := by decide +kernel
theorem dL_law_844 : decode cL_law 844 = .ok (.iconst 2, 1) := by decide +kernel
theorem dL_law_845 : decode cL_law 845 = .ok (.iadd, 1) := by decide +kernel
theorem dL_law_846 : decode cL_law 846 = .ok (.iaload, 1) := by decide +kernel
theorem dL_law_847 : decode cL_law 847 = .ok (.aload_n 0, 1) := by decide +kernel
theorem dL_law_848 : decode cL_law 848 = .ok (.iload_n 3, 1) := by decide +kernel
theorem dL_law_849 : decode cL_law 849 = .ok (.iconst 3, 1) := by decide +kernel
theorem dL_law_850 : decode cL_law 850 = .ok (.iadd, 1) := by decide +kernel
theorem dL_law_851 : decode cL_law 851 = .ok (.iaload, 1) := by decide +kernel
theorem dL_law_852 : decode cL_law 852 = .ok (.aload_n 0, 1) := by decide +kernel
theorem dL_law_853 : decode cL_law 853 = .ok (.iload_n 3, 1) := by decide +kernel
theorem dL_law_854 : decode cL_law 854 = .ok (.iconst 4, 1) := by decide +kernel
theorem dL_law_855 : decode cL_law 855 = .ok (.iadd, 1) := by decide +kernel
theorem dL_law_856 : decode cL_law 856 = .ok (.iaload, 1) := by decide +kernel
theorem dL_law_857 : decode cL_law 857 = .ok (.invokevirtual 93, 3) := by decide +kernel
theorem dL_law_860 : decode cL_law 860 = .ok (.if_icmp .eq 398, 3) := by decide +kernel
theorem dL_law_863 : decode cL_law 863 = .ok (.iconst 0, 1) := by decide +kernel
theorem dL_law_864 : decode cL_law 864 = .ok (.ireturn, 1) := by decide +kernel
theorem dL_law_865 : decode cL_law 865 = .ok (.aload_n 1, 1) := by decide +kernel
theorem dL_law_866 : decode cL_law 866 = .ok (.aload_n 0, 1) := by decide +kernel
theorem dL_law_867 : decode cL_law 867 = .ok (.iload_n 3, 1) := by decide +kernel
theorem dL_law_868 : decode cL_law 868 = .ok (.iconst 1, 1) := by decide +kernel
theorem dL_law_869 : decode cL_law 869 = .ok (.iadd, 1) := by decide +kernel
theorem dL_law_870 : decode cL_law 870 = .ok (.iaload, 1) := by decide +kernel
theorem dL_law_871 : decode cL_law 871 = .ok (.aload_n 0, 1) := by decide +kernel
theorem dL_law_872 : decode cL_law 872 = .ok (.iload_n 3, 1) := by decide +kernel
theorem dL_law_873 : decode cL_law 873 = .ok (.iconst 2, 1) := by decide +kernel
theorem dL_law_874 : decode cL_law 874 = .ok (.iadd, 1) := by decide +kernel
theorem dL_law_875 : decode cL_law 875 = .ok (.iaload, 1) := by decide +kernel
theorem dL_law_876 : decode cL_law 876 = .ok (.aload_n 0, 1) := by decide +kernel
theorem dL_law_877 : decode cL_law 877 = .ok (.iload_n 3, 1) := by decide +kernel
theorem dL_law_878 : decode cL_law 878 = .ok (.iconst 3, 1) := by decide +kernel
theorem dL_law_879 : decode cL_law 879 = .ok (.iadd, 1) := by decide +kernel
theorem dL_law_880 : decode cL_law 880 = .ok (.iaload, 1) := by decide +kernel
theorem dL_law_881 : decode cL_law 881 = .ok (.aload_n 0, 1) := by decide +kernel
theorem dL_law_882 : decode cL_law 882 = .ok (.iload_n 3, 1) := by decide +kernel
theorem dL_law_883 : decode cL_law 883 = .ok (.iconst 4, 1) := by decide +kernel
theorem dL_law_884 : decode cL_law 884 = .ok (.iadd, 1) := by decide +kernel
theorem dL_law_885 : decode cL_law 885 = .ok (.iaload, 1) := by decide +kernel
theorem dL_law_886 : decode cL_law 886 = .ok (.invokevirtual 94, 3) := by decide +kernel
theorem dL_law_889 : decode cL_law 889 = .ok (.aload_n 2, 1) := by decide +kernel
theorem dL_law_890 : decode cL_law 890 = .ok (.aload_n 0, 1) := by decide +kernel
theorem dL_law_891 : decode cL_law 891 = .ok (.iload_n 3, 1) := by decide +kernel
theorem dL_law_892 : decode cL_law 892 = .ok (.iconst 1, 1) := by decide +kernel
theorem dL_law_893 : decode cL_law 893 = .ok (.iadd, 1) := by decide +kernel
theorem dL_law_894 : decode cL_law 894 = .ok (.iaload, 1) := by decide +kernel
theorem dL_law_895 : decode cL_law 895 = .ok (.aload_n 0, 1) := by decide +kernel
theorem dL_law_896 : decode cL_law 896 = .ok (.iload_n 3, 1) := by decide +kernel
theorem dL_law_897 : decode cL_law 897 = .ok (.iconst 2, 1) := by decide +kernel
theorem dL_law_898 : decode cL_law 898 = .ok (.iadd, 1) := by decide +kernel
theorem dL_law_899 : decode cL_law 899 = .ok (.iaload, 1) := by decide +kernel
theorem dL_law_900 : decode cL_law 900 = .ok (.aload_n 0, 1) := by decide +kernel
theorem dL_law_901 : decode cL_law 901 = .ok (.iload_n 3, 1) := by decide +kernel
theorem dL_law_902 : decode cL_law 902 = .ok (.iconst 3, 1) := by decide +kernel
theorem dL_law_903 : decode cL_law 903 = .ok (.iadd, 1) := by decide +kernel
theorem dL_law_904 : decode cL_law 904 = .ok (.iaload, 1) := by decide +kernel
theorem dL_law_905 : decode cL_law 905 = .ok (.aload_n 0, 1) := by decide +kernel
theorem dL_law_906 : decode cL_law 906 = .ok (.iload_n 3, 1) := by decide +kernel
theorem dL_law_907 : decode cL_law 907 = .ok (.iconst 4, 1) := by decide +kernel
theorem dL_law_908 : decode cL_law 908 = .ok (.iadd, 1) := by decide +kernel
theorem dL_law_909 : decode cL_law 909 = .ok (.iaload, 1) := by decide +kernel
theorem dL_law_910 : decode cL_law 910 = .ok (.invokevirtual 97, 3) := by decide +kernel
theorem dL_law_913 : decode cL_law 913 = .ok (.if_icmp .eq 345, 3) := by decide +kernel
theorem dL_law_916 : decode cL_law 916 = .ok (.iconst 0, 1) := by decide +kernel
theorem dL_law_917 : decode cL_law 917 = .ok (.ireturn, 1) := by decide +kernel
theorem dL_law_918 : decode cL_law 918 = .ok (.aload_n 1, 1) := by decide +kernel
theorem dL_law_919 : decode cL_law 919 = .ok (.aload_n 0, 1) := by decide +kernel
theorem dL_law_920 : decode cL_law 920 = .ok (.iload_n 3, 1) := by decide +kernel
theorem dL_law_921 : decode cL_law 921 = .ok (.iconst 1, 1) := by decide +kernel
theorem dL_law_922 : decode cL_law 922 = .ok (.iadd, 1) := by decide +kernel
theorem dL_law_923 : decode cL_law 923 = .ok (.iaload, 1) := by decide +kernel
theorem dL_law_924 : decode cL_law 924 = .ok (.aload_n 0, 1) := by decide +kernel
theorem dL_law_925 : decode cL_law 925 = .ok (.iload_n 3, 1) := by decide +kernel
theorem dL_law_926 : decode cL_law 926 = .ok (.iconst 2, 1) := by decide +kernel
theorem dL_law_927 : decode cL_law 927 = .ok (.iadd, 1) := by decide +kernel
theorem dL_law_928 : decode cL_law 928 = .ok (.iaload, 1) := by decide +kernel
theorem dL_law_929 : decode cL_law 929 = .ok (.aload_n 0, 1) := by decide +kernel
theorem dL_law_930 : decode cL_law 930 = .ok (.iload_n 3, 1) := by decide +kernel
theorem dL_law_931 : decode cL_law 931 = .ok (.iconst 3, 1) := by decide +kernel
theorem dL_law_932 : decode cL_law 932 = .ok (.iadd, 1) := by decide +kernel
theorem dL_law_933 : decode cL_law 933 = .ok (.iaload, 1) := by decide +kernel
theorem dL_law_934 : decode cL_law 934 = .ok (.aload_n 0, 1) := by decide +kernel
theorem dL_law_935 : decode cL_law 935 = .ok (.iload_n 3, 1) := by decide +kernel
theorem dL_law_936 : decode cL_law 936 = .ok (.iconst 4, 1) := by decide +kernel
theorem dL_law_937 : decode cL_law 937 = .ok (.iadd, 1) := by decide +kernel
theorem dL_law_938 : decode cL_law 938 = .ok (.iaload, 1) := by decide +kernel
theorem dL_law_939 : decode cL_law 939 = .ok (.aload_n 0, 1) := by decide +kernel
theorem dL_law_940 : decode cL_law 940 = .ok (.iload_n 3, 1) := by decide +kernel
theorem dL_law_941 : decode cL_law 941 = .ok (.iconst 5, 1) := by decide +kernel
theorem dL_law_942 : decode cL_law 942 = .ok (.iadd, 1) := by decide +kernel
theorem dL_law_943 : decode cL_law 943 = .ok (.iaload, 1) := by decide +kernel
theorem dL_law_944 : decode cL_law 944 = .ok (.invokevirtual 98, 3) := by decide +kernel
theorem dL_law_947 : decode cL_law 947 = .ok (.aload_n 2, 1) := by decide +kernel
theorem dL_law_948 : decode cL_law 948 = .ok (.aload_n 0, 1) := by decide +kernel
theorem dL_law_949 : decode cL_law 949 = .ok (.iload_n 3, 1) := by decide +kernel
theorem dL_law_950 : decode cL_law 950 = .ok (.iconst 1, 1) := by decide +kernel
theorem dL_law_951 : decode cL_law 951 = .ok (.iadd, 1) := by decide +kernel
theorem dL_law_952 : decode cL_law 952 = .ok (.iaload, 1) := by decide +kernel
theorem dL_law_953 : decode cL_law 953 = .ok (.aload_n 0, 1) := by decide +kernel
theorem dL_law_954 : decode cL_law 954 = .ok (.iload_n 3, 1) := by decide +kernel
theorem dL_law_955 : decode cL_law 955 = .ok (.iconst 2, 1) := by decide +kernel
theorem dL_law_956 : decode cL_law 956 = .ok (.iadd, 1) := by decide +kernel
theorem dL_law_957 : decode cL_law 957 = .ok (.iaload, 1) := by decide +kernel
theorem dL_law_958 : decode cL_law 958 = .ok (.aload_n 0, 1) := by decide +kernel
theorem dL_law_959 : decode cL_law 959 = .ok (.iload_n 3, 1) := by decide +kernel
theorem dL_law_960 : decode cL_law 960 = .ok (.iconst 3, 1) := by decide +kernel
theorem dL_law_961 : decode cL_law 961 = .ok (.iadd, 1) := by decide +kernel
theorem dL_law_962 : decode cL_law 962 = .ok (.iaload, 1) := by decide +kernel
theorem dL_law_963 : decode cL_law 963 = .ok (.aload_n 0, 1) := by decide +kernel
theorem dL_law_964 : decode cL_law 964 = .ok (.iload_n 3, 1) := by decide +kernel
theorem dL_law_965 : decode cL_law 965 = .ok (.iconst 4, 1) := by decide +kernel
theorem dL_law_966 : decode cL_law 966 = .ok (.iadd, 1) := by decide +kernel
theorem dL_law_967 : decode cL_law 967 = .ok (.iaload, 1) := by decide +kernel
end
section
theorem dL_law_968 : decode cL_law 968 = .ok (.aload_n 0, 1) := by decide +kernel
theorem dL_law_969 : decode cL_law 969 = .ok (.iload_n 3, 1) := by decide +kernel
theorem dL_law_970 : decode cL_law 970 = .ok (.iconst 5, 1) := by decide +kernel
theorem dL_law_971 : decode cL_law 971 = .ok (.iadd, 1) := by decide +kernel
theorem dL_law_972 : decode cL_law 972 = .ok (.iaload, 1) := by decide +kernel
theorem dL_law_973 : decode cL_law 973 = .ok (.invokevirtual 102, 3) := by decide +kernel
theorem dL_law_976 : decode cL_law 976 = .ok (.if_icmp .eq 282, 3) := by decide +kernel
theorem dL_law_979 : decode cL_law 979 = .ok (.iconst 0, 1) := by decide +kernel
theorem dL_law_980 : decode cL_law 980 = .ok (.ireturn, 1) := by decide +kernel
theorem dL_law_981 : decode cL_law 981 = .ok (.aload_n 1, 1) := by decide +kernel
theorem dL_law_982 : decode cL_law 982 = .ok (.aload_n 0, 1) := by decide +kernel
theorem dL_law_983 : decode cL_law 983 = .ok (.iload_n 3, 1) := by decide +kernel
theorem dL_law_984 : decode cL_law 984 = .ok (.iconst 1, 1) := by decide +kernel
theorem dL_law_985 : decode cL_law 985 = .ok (.iadd, 1) := by decide +kernel
theorem dL_law_986 : decode cL_law 986 = .ok (.iaload, 1) := by decide +kernel
theorem dL_law_987 : decode cL_law 987 = .ok (.aload_n 0, 1) := by decide +kernel
theorem dL_law_988 : decode cL_law 988 = .ok (.iload_n 3, 1) := by decide +kernel
theorem dL_law_989 : decode cL_law 989 = .ok (.iconst 2, 1) := by decide +kernel
theorem dL_law_990 : decode cL_law 990 = .ok (.iadd, 1) := by decide +kernel
theorem dL_law_991 : decode cL_law 991 = .ok (.iaload, 1) := by decide +kernel
theorem dL_law_992 : decode cL_law 992 = .ok (.aload_n 0, 1) := by decide +kernel
theorem dL_law_993 : decode cL_law 993 = .ok (.iload_n 3, 1) := by decide +kernel
theorem dL_law_994 : decode cL_law 994 = .ok (.iconst 3, 1) := by decide +kernel
theorem dL_law_995 : decode cL_law 995 = .ok (.iadd, 1) := by decide +kernel
theorem dL_law_996 : decode cL_law 996 = .ok (.iaload, 1) := by decide +kernel
theorem dL_law_997 : decode cL_law 997 = .ok (.aload_n 0, 1) := by decide +kernel
theorem dL_law_998 : decode cL_law 998 = .ok (.iload_n 3, 1) := by decide +kernel
theorem dL_law_999 : decode cL_law 999 = .ok (.iconst 4, 1) := by decide +kernel
theorem dL_law_1000 : decode cL_law 1000 = .ok (.iadd, 1) := by decide +kernel
theorem dL_law_1001 : decode cL_law 1001 = .ok (.iaload, 1) := by decide +kernel
theorem dL_law_1002 : decode cL_law 1002 = .ok (.invokevirtual 103, 3) := by decide +kernel
theorem dL_law_1005 : decode cL_law 1005 = .ok (.aload_n 2, 1) := by decide +kernel
theorem dL_law_1006 : decode cL_law 1006 = .ok (.aload_n 0, 1) := by decide +kernel
theorem dL_law_1007 : decode cL_law 1007 = .ok (.iload_n 3, 1) := by decide +kernel
theorem dL_law_1008 : decode cL_law 1008 = .ok (.iconst 1, 1) := by decide +kernel
theorem dL_law_1009 : decode cL_law 1009 = .ok (.iadd, 1) := by decide +kernel
theorem dL_law_1010 : decode cL_law 1010 = .ok (.iaload, 1) := by decide +kernel
theorem dL_law_1011 : decode cL_law 1011 = .ok (.aload_n 0, 1) := by decide +kernel
theorem dL_law_1012 : decode cL_law 1012 = .ok (.iload_n 3, 1) := by decide +kernel
theorem dL_law_1013 : decode cL_law 1013 = .ok (.iconst 2, 1) := by decide +kernel
theorem dL_law_1014 : decode cL_law 1014 = .ok (.iadd, 1) := by decide +kernel
theorem dL_law_1015 : decode cL_law 1015 = .ok (.iaload, 1) := by decide +kernel
theorem dL_law_1016 : decode cL_law 1016 = .ok (.aload_n 0, 1) := by decide +kernel
theorem dL_law_1017 : decode cL_law 1017 = .ok (.iload_n 3, 1) := by decide +kernel
theorem dL_law_1018 : decode cL_law 1018 = .ok (.iconst 3, 1) := by decide +kernel
theorem dL_law_1019 : decode cL_law 1019 = .ok (.iadd, 1) := by decide +kernel
theorem dL_law_1020 : decode cL_law 1020 = .ok (.iaload, 1) := by decide +kernel
theorem dL_law_1021 : decode cL_law 1021 = .ok (.aload_n 0, 1) := by decide +kernel
theorem dL_law_1022 : decode cL_law 1022 = .ok (.iload_n 3, 1) := by decide +kernel
theorem dL_law_1023 : decode cL_law 1023 = .ok (.iconst 4, 1) := by decide +kernel
theorem dL_law_1024 : decode cL_law 1024 = .ok (.iadd, 1) := by decide +kernel
theorem dL_law_1025 : decode cL_law 1025 = .ok (.iaload, 1) := by decide +kernel
theorem dL_law_1026 : decode cL_law 1026 = .ok (.invokevirtual 106, 3) := by decide +kernel
theorem dL_law_1029 : decode cL_law 1029 = .ok (.if_icmp .eq 229, 3) := by decide +kernel
theorem dL_law_1032 : decode cL_law 1032 = .ok (.iconst 0, 1) := by decide +kernel
theorem dL_law_1033 : decode cL_law 1033 = .ok (.ireturn, 1) := by decide +kernel
theorem dL_law_1034 : decode cL_law 1034 = .ok (.aload_n 1, 1) := by decide +kernel
theorem dL_law_1035 : decode cL_law 1035 = .ok (.aload_n 0, 1) := by decide +kernel
theorem dL_law_1036 : decode cL_law 1036 = .ok (.iload_n 3, 1) := by decide +kernel
theorem dL_law_1037 : decode cL_law 1037 = .ok (.iconst 1, 1) := by decide +kernel
theorem dL_law_1038 : decode cL_law 1038 = .ok (.iadd, 1) := by decide +kernel
theorem dL_law_1039 : decode cL_law 1039 = .ok (.iaload, 1) := by decide +kernel
theorem dL_law_1040 : decode cL_law 1040 = .ok (.aload_n 0, 1) := by decide +kernel
theorem dL_law_1041 : decode cL_law 1041 = .ok (.iload_n 3, 1) := by decide +kernel
theorem dL_law_1042 : decode cL_law 1042 = .ok (.iconst 2, 1) := by decide +kernel
theorem dL_law_1043 : decode cL_law 1043 = .ok (.iadd, 1) := by decide +kernel
theorem dL_law_1044 : decode cL_law 1044 = .ok (.iaload, 1) := by decide +kernel
theorem dL_law_1045 : decode cL_law 1045 = .ok (.aload_n 0, 1) := by decide +kernel
theorem dL_law_1046 : decode cL_law 1046 = .ok (.iload_n 3, 1) := by decide +kernel
theorem dL_law_1047 : decode cL_law 1047 = .ok (.iconst 3, 1) := by decide +kernel
theorem dL_law_1048 : decode cL_law 1048 = .ok (.iadd, 1) := by decide +kernel
theorem dL_law_1049 : decode cL_law 1049 = .ok (.iaload, 1) := by decide +kernel
theorem dL_law_1050 : decode cL_law 1050 = .ok (.invokevirtual 107, 3) := by decide +kernel
theorem dL_law_1053 : decode cL_law 1053 = .ok (.aload_n 2, 1) := by decide +kernel
theorem dL_law_1054 : decode cL_law 1054 = .ok (.aload_n 0, 1) := by decide +kernel
theorem dL_law_1055 : decode cL_law 1055 = .ok (.iload_n 3, 1) := by decide +kernel
theorem dL_law_1056 : decode cL_law 1056 = .ok (.iconst 1, 1) := by decide +kernel
theorem dL_law_1057 : decode cL_law 1057 = .ok (.iadd, 1) := by decide +kernel
theorem dL_law_1058 : decode cL_law 1058 = .ok (.iaload, 1) := by decide +kernel
theorem dL_law_1059 : decode cL_law 1059 = .ok (.aload_n 0, 1) := by decide +kernel
theorem dL_law_1060 : decode cL_law 1060 = .ok (.iload_n 3, 1) := by decide +kernel
theorem dL_law_1061 : decode cL_law 1061 = .ok (.iconst 2, 1) := by decide +kernel
theorem dL_law_1062 : decode cL_law 1062 = .ok (.iadd, 1) := by decide +kernel
theorem dL_law_1063 : decode cL_law 1063 = .ok (.iaload, 1) := by decide +kernel
theorem dL_law_1064 : decode cL_law 1064 = .ok (.aload_n 0, 1) := by decide +kernel
theorem dL_law_1065 : decode cL_law 1065 = .ok (.iload_n 3, 1) := by decide +kernel
theorem dL_law_1066 : decode cL_law 1066 = .ok (.iconst 3, 1) := by decide +kernel
theorem dL_law_1067 : decode cL_law 1067 = .ok (.iadd, 1) := by decide +kernel
theorem dL_law_1068 : decode cL_law 1068 = .ok (.iaload, 1) := by decide +kernel
theorem dL_law_1069 : decode cL_law 1069 = .ok (.invokevirtual 110, 3) := by decide +kernel
theorem dL_law_1072 : decode cL_law 1072 = .ok (.if_icmp .eq 186, 3) := by decide +kernel
theorem dL_law_1075 : decode cL_law 1075 = .ok (.iconst 0, 1) := by decide +kernel
theorem dL_law_1076 : decode cL_law 1076 = .ok (.ireturn, 1) := by decide +kernel
theorem dL_law_1077 : decode cL_law 1077 = .ok (.aload_n 1, 1) := by decide +kernel
theorem dL_law_1078 : decode cL_law 1078 = .ok (.aload_n 0, 1) := by decide +kernel
theorem dL_law_1079 : decode cL_law 1079 = .ok (.iload_n 3, 1) := by decide +kernel
theorem dL_law_1080 : decode cL_law 1080 = .ok (.iconst 1, 1) := by decide +kernel
theorem dL_law_1081 : decode cL_law 1081 = .ok (.iadd, 1) := by decide +kernel
theorem dL_law_1082 : decode cL_law 1082 = .ok (.iaload, 1) := by decide +kernel
theorem dL_law_1083 : decode cL_law 1083 = .ok (.aload_n 0, 1) := by decide +kernel
theorem dL_law_1084 : decode cL_law 1084 = .ok (.iload_n 3, 1) := by decide +kernel
theorem dL_law_1085 : decode cL_law 1085 = .ok (.iconst 2, 1) := by decide +kernel
theorem dL_law_1086 : decode cL_law 1086 = .ok (.iadd, 1) := by decide +kernel
theorem dL_law_1087 : decode cL_law 1087 = .ok (.iaload, 1) := by decide +kernel
theorem dL_law_1088 : decode cL_law 1088 = .ok (.aload_n 0, 1) := by decide +kernel
theorem dL_law_1089 : decode cL_law 1089 = .ok (.iload_n 3, 1) := by decide +kernel
theorem dL_law_1090 : decode cL_law 1090 = .ok (.iconst 3, 1) := by decide +kernel
theorem dL_law_1091 : decode cL_law 1091 = .ok (.iadd, 1) := by decide +kernel
theorem dL_law_1092 : decode cL_law 1092 = .ok (.iaload, 1) := by decide +kernel
theorem dL_law_1093 : decode cL_law 1093 = .ok (.aload_n 0, 1) := by decide +kernel
theorem dL_law_1094 : decode cL_law 1094 = .ok (.iload_n 3, 1) := by decide +kernel
theorem dL_law_1095 : decode cL_law 1095 = .ok (.iconst 4, 1) := by decide +kernel
theorem dL_law_1096 : decode cL_law 1096 = .ok (.iadd, 1) := by decide +kernel
theorem dL_law_1097 : decode cL_law 1097 = .ok (.iaload, 1) := by decide +kernel
theorem dL_law_1098 : decode cL_law 1098 = .ok (.invokevirtual 111, 3) := by decide +kernel
theorem dL_law_1101 : decode cL_law 1101 = .ok (.aload_n 2, 1) := by decide +kernel
theorem dL_law_1102 : decode cL_law 1102 = .ok (.aload_n 0, 1) := by decide +kernel
theorem dL_law_1103 : decode cL_law 1103 = .ok (.iload_n 3, 1) := by decide +kernel
theorem dL_law_1104 : decode cL_law 1104 = .ok (.iconst 1, 1) := by decide +kernel
theorem dL_law_1105 : decode cL_law 1105 = .ok (.iadd, 1) := by decide +kernel
theorem dL_law_1106 : decode cL_law 1106 = .ok (.iaload, 1) := by decide +kernel
theorem dL_law_1107 : decode cL_law 1107 = .ok (.aload_n 0, 1) := by decide +kernel
theorem dL_law_1108 : decode cL_law 1108 = .ok (.iload_n 3, 1) := by decide +kernel
theorem dL_law_1109 : decode cL_law 1109 = .ok (.iconst 2, 1) := by decide +kernel
theorem dL_law_1110 : decode cL_law 1110 = .ok (.iadd, 1) := by decide +kernel
theorem dL_law_1111 : decode cL_law 1111 = .ok (.iaload, 1) := by decide +kernel
theorem dL_law_1112 : decode cL_law 1112 = .ok (.aload_n 0, 1) := by decide +kernel
theorem dL_law_1113 : decode cL_law 1113 = .ok (.iload_n 3, 1) := by decide +kernel
theorem dL_law_1114 : decode cL_law 1114 = .ok (.iconst 3, 1) := by decide +kernel
theorem dL_law_1115 : decode cL_law 1115 = .ok (.iadd, 1) := by decide +kernel
theorem dL_law_1116 : decode cL_law 1116 = .ok (.iaload, 1) := by decide +kernel
theorem dL_law_1117 : decode cL_law 1117 = .ok (.aload_n 0, 1) := by decide +kernel
theorem dL_law_1118 : decode cL_law 1118 = .ok (.iload_n 3, 1) := by decide +kernel
theorem dL_law_1119 : decode cL_law 1119 = .ok (.iconst 4, 1) := by decide +kernel
theorem dL_law_1120 : decode cL_law 1120 = .ok (.iadd, 1) := by decide +kernel
theorem dL_law_1121 : decode cL_law 1121 = .ok (.iaload, 1) := by decide +kernel
theorem dL_law_1122 : decode cL_law 1122 = .ok (.invokevirtual 114, 3) := by decide +kernel
theorem dL_law_1125 : decode cL_law 1125 = .ok (.if_icmp .eq 133, 3) := by decide +kernel
theorem dL_law_1128 : decode cL_law 1128 = .ok (.iconst 0, 1) := by decide +kernel
theorem dL_law_1129 : decode cL_law 1129 = .ok (.ireturn, 1) := by decide +kernel
theorem dL_law_1130 : decode cL_law 1130 = .ok (.aload_n 1, 1) := by decide +kernel
theorem dL_law_1131 : decode cL_law 1131 = .ok (.aload_n 0, 1) := by decide +kernel
theorem dL_law_1132 : decode cL_law 1132 = .ok (.iload_n 3, 1) := by decide +kernel
theorem dL_law_1133 : decode cL_law 1133 = .ok (.iconst 1, 1) := by decide +kernel
theorem dL_law_1134 : decode cL_law 1134 = .ok (.iadd, 1) := by decide +kernel
theorem dL_law_1135 : decode cL_law 1135 = .ok (.iaload, 1) := by decide +kernel
theorem dL_law_1136 : decode cL_law 1136 = .ok (.invokevirtual 115, 3) := by decide +kernel
theorem dL_law_1139 : decode cL_law 1139 = .ok (.aload_n 2, 1) := by decide +kernel
theorem dL_law_1140 : decode cL_law 1140 = .ok (.aload_n 0, 1) := by decide +kernel
theorem dL_law_1141 : decode cL_law 1141 = .ok (.iload_n 3, 1) := by decide +kernel
theorem dL_law_1142 : decode cL_law 1142 = .ok (.iconst 1, 1) := by decide +kernel
theorem dL_law_1143 : decode cL_law 1143 = .ok (.iadd, 1) := by decide +kernel
theorem dL_law_1144 : decode cL_law 1144 = .ok (.iaload, 1) := by decide +kernel
theorem dL_law_1145 : decode cL_law 1145 = .ok (.invokevirtual 118, 3) := by decide +kernel
theorem dL_law_1148 : decode cL_law 1148 = .ok (.if_icmp .eq 110, 3) := by decide +kernel
theorem dL_law_1151 : decode cL_law 1151 = .ok (.iconst 0, 1) := by decide +kernel
theorem dL_law_1152 : decode cL_law 1152 = .ok (.ireturn, 1) := by decide +kernel
theorem dL_law_1153 : decode cL_law 1153 = .ok (.aload_n 1, 1) := by decide +kernel
theorem dL_law_1154 : decode cL_law 1154 = .ok (.aload_n 0, 1) := by decide +kernel
theorem dL_law_1155 : decode cL_law 1155 = .ok (.iload_n 3, 1) := by decide +kernel
theorem dL_law_1156 : decode cL_law 1156 = .ok (.iconst 1, 1) := by decide +kernel
theorem dL_law_1157 : decode cL_law 1157 = .ok (.iadd, 1) := by decide +kernel
theorem dL_law_1158 : decode cL_law 1158 = .ok (.iaload, 1) := by decide +kernel
theorem dL_law_1159 : decode cL_law 1159 = .ok (.aload_n 0, 1) := by decide +kernel
theorem dL_law_1160 : decode cL_law 1160 = .ok (.iload_n 3, 1) := by decide +kernel
theorem dL_law_1161 : decode cL_law 1161 = .ok (.iconst 2, 1) := by decide +kernel
theorem dL_law_1162 : decode cL_law 1162 = .ok (.iadd, 1) := by decide +kernel
theorem dL_law_1163 : decode cL_law 1163 = .ok (.iaload, 1) := by decide +kernel
theorem dL_law_1164 : decode cL_law 1164 = .ok (.aload_n 0, 1) := by decide +kernel
theorem dL_law_1165 : decode cL_law 1165 = .ok (.iload_n 3, 1) := by decide +kernel
theorem dL_law_1166 : decode cL_law 1166 = .ok (.iconst 3, 1) := by decide +kernel
theorem dL_law_1167 : decode cL_law 1167 = .ok (.iadd, 1) := by decide +kernel
theorem dL_law_1168 : decode cL_law 1168 = .ok (.iaload, 1) := by decide +kernel
theorem dL_law_1169 : decode cL_law 1169 = .ok (.invokevirtual 119, 3) := by decide +kernel
theorem dL_law_1172 : decode cL_law 1172 = .ok (.aload_n 2, 1) := by decide +kernel
theorem dL_law_1173 : decode cL_law 1173 = .ok (.aload_n 0, 1) := by decide +kernel
theorem dL_law_1174 : decode cL_law 1174 = .ok (.iload_n 3, 1) := by decide +kernel
theorem dL_law_1175 : decode cL_law 1175 = .ok (.iconst 1, 1) := by decide +kernel
theorem dL_law_1176 : decode cL_law 1176 = .ok (.iadd, 1) := by decide +kernel
theorem dL_law_1177 : decode cL_law 1177 = .ok (.iaload, 1) := by decide +kernel
theorem dL_law_1178 : decode cL_law 1178 = .ok (.aload_n 0, 1) := by decide +kernel
theorem dL_law_1179 : decode cL_law 1179 = .ok (.iload_n 3, 1) := by decide +kernel
theorem dL_law_1180 : decode cL_law 1180 = .ok (.iconst 2, 1) := by decide +kernel
theorem dL_law_1181 : decode cL_law 1181 = .ok (.iadd, 1) := by decide +kernel
theorem dL_law_1182 : decode cL_law 1182 = .ok (.iaload, 1) := by decide +kernel
theorem dL_law_1183 : decode cL_law 1183 = .ok (.aload_n 0, 1) := by decide +kernel
theorem dL_law_1184 : decode cL_law 1184 = .ok (.iload_n 3, 1) := by decide +kernel
theorem dL_law_1185 : decode cL_law 1185 = .ok (.iconst 3, 1) := by decide +kernel
theorem dL_law_1186 : decode cL_law 1186 = .ok (.iadd, 1) := by decide +kernel
theorem dL_law_1187 : decode cL_law 1187 = .ok (.iaload, 1) := by decide +kernel
theorem dL_law_1188 : decode cL_law 1188 = .ok (.invokevirtual 122, 3) := by decide +kernel
theorem dL_law_1191 : decode cL_law 1191 = .ok (.if_icmp .eq 67, 3) := by decide +kernel
theorem dL_law_1194 : decode cL_law 1194 = .ok (.iconst 0, 1) := by decide +kernel
theorem dL_law_1195 : decode cL_law 1195 = .ok (.ireturn, 1) := by decide +kernel
theorem dL_law_1196 : decode cL_law 1196 = .ok (.aload_n 1, 1) := by decide +kernel
theorem dL_law_1197 : decode cL_law 1197 = .ok (.invokevirtual 123, 3) := by decide +kernel
theorem dL_law_1200 : decode cL_law 1200 = .ok (.aload_n 2, 1) := by decide +kernel
theorem dL_law_1201 : decode cL_law 1201 = .ok (.invokevirtual 126, 3) := by decide +kernel
theorem dL_law_1204 : decode cL_law 1204 = .ok (.if_icmp .eq 54, 3) := by decide +kernel
theorem dL_law_1207 : decode cL_law 1207 = .ok (.iconst 0, 1) := by decide +kernel
theorem dL_law_1208 : decode cL_law 1208 = .ok (.ireturn, 1) := by decide +kernel
theorem dL_law_1209 : decode cL_law 1209 = .ok (.aload_n 1, 1) := by decide +kernel
theorem dL_law_1210 : decode cL_law 1210 = .ok (.aload_n 0, 1) := by decide +kernel
theorem dL_law_1211 : decode cL_law 1211 = .ok (.iload_n 3, 1) := by decide +kernel
theorem dL_law_1212 : decode cL_law 1212 = .ok (.iconst 1, 1) := by decide +kernel
theorem dL_law_1213 : decode cL_law 1213 = .ok (.iadd, 1) := by decide +kernel
theorem dL_law_1214 : decode cL_law 1214 = .ok (.iaload, 1) := by decide +kernel
theorem dL_law_1215 : decode cL_law 1215 = .ok (.invokevirtual 127, 3) := by decide +kernel
theorem dL_law_1218 : decode cL_law 1218 = .ok (.aload_n 2, 1) := by decide +kernel
theorem dL_law_1219 : decode cL_law 1219 = .ok (.aload_n 0, 1) := by decide +kernel
theorem dL_law_1220 : decode cL_law 1220 = .ok (.iload_n 3, 1) := by decide +kernel
theorem dL_law_1221 : decode cL_law 1221 = .ok (.iconst 1, 1) := by decide +kernel
theorem dL_law_1222 : decode cL_law 1222 = .ok (.iadd, 1) := by decide +kernel
theorem dL_law_1223 : decode cL_law 1223 = .ok (.iaload, 1) := by decide +kernel
theorem dL_law_1224 : decode cL_law 1224 = .ok (.invokevirtual 130, 3) := by decide +kernel
theorem dL_law_1227 : decode cL_law 1227 = .ok (.if_icmp .eq 31, 3) := by decide +kernel
theorem dL_law_1230 : decode cL_law 1230 = .ok (.iconst 0, 1) := by decide +kernel
theorem dL_law_1231 : decode cL_law 1231 = .ok (.ireturn, 1) := by decide +kernel
theorem dL_law_1232 : decode cL_law 1232 = .ok (.aload_n 1, 1) := by decide +kernel
theorem dL_law_1233 : decode cL_law 1233 = .ok (.invokevirtual 131, 3) := by decide +kernel
theorem dL_law_1236 : decode cL_law 1236 = .ok (.aload_n 2, 1) := by decide +kernel
theorem dL_law_1237 : decode cL_law 1237 = .ok (.invokevirtual 134, 3) := by decide +kernel
theorem dL_law_1240 : decode cL_law 1240 = .ok (.if_icmp .eq 18, 3) := by decide +kernel
theorem dL_law_1243 : decode cL_law 1243 = .ok (.iconst 0, 1) := by decide +kernel
theorem dL_law_1244 : decode cL_law 1244 = .ok (.ireturn, 1) := by decide +kernel
theorem dL_law_1245 : decode cL_law 1245 = .ok (.aload_n 1, 1) := by decide +kernel
theorem dL_law_1246 : decode cL_law 1246 = .ok (.invokevirtual 135, 3) := by decide +kernel
theorem dL_law_1249 : decode cL_law 1249 = .ok (.aload_n 2, 1) := by decide +kernel
theorem dL_law_1250 : decode cL_law 1250 = .ok (.invokevirtual 138, 3) := by decide +kernel
theorem dL_law_1253 : decode cL_law 1253 = .ok (.if_icmp .eq 5, 3) := by decide +kernel
theorem dL_law_1256 : decode cL_law 1256 = .ok (.iconst 0, 1) := by decide +kernel
theorem dL_law_1257 : decode cL_law 1257 = .ok (.ireturn, 1) := by decide +kernel
theorem dL_law_1258 : decode cL_law 1258 = .ok (.iinc 3 6, 3) := by decide +kernel
theorem dL_law_1261 : decode cL_law 1261 = .ok (.goto (-1243), 3) := by decide +kernel
theorem dL_law_1264 : decode cL_law 1264 = .ok (.iconst 1, 1) := by decide +kernel
theorem dL_law_1265 : decode cL_law 1265 = .ok (.ireturn, 1) := by decide +kernel
end
section
/-! THE FIXED WORLD: one object of the class with all that it holds (places 0 .. 33), one of the reference (places 34 .. 40). References never change after the constructors; what changes is ONE function: place, field or index, to an int. -/
abbrev qS : Type := Nat → Nat → Int32
abbrev qV : Type := Int32 ⊕ Nat
abbrev qL : Type := Nat ⊕ (Nat × List (Option Nat))
def q_v (ad : Nat → Nat) (v : qV) : Value := match v with
  | .inl x => .int x
  | .inr k => .ref (ad k)
def q_f (ad : Nat → Nat) (r : Nat → Int32) (j : Nat) (f : Option Nat) : Value := match f with
  | some k => .ref (ad k)
  | none => .int (r j)
def q_e (cA : ClassId) (ad : Nat → Nat) (r : Nat → Int32) (c : qL) : va_E := match c with
  | .inl n => .inl (cA, n, .inl r)
  | .inr o => .inr (o.1, o.2.mapIdx (fun j f => q_f ad r j f))
def q_lay : List qL := [
  .inr (7, [some 1, some 8, some 9, some 15, some 23, some 29, none]),
  .inr (2, [some 2, some 5, some 6, some 7]),
  .inr (4, [some 3, some 4, none, none]), .inl 10, .inl 10,
  .inl 10, .inl 10, .inl 10,
  .inr (0, [some 9, some 15]),
  .inr (6, [some 10, some 13, some 14]),
  .inr (4, [some 11, some 12, none, none]), .inl 10, .inl 10,
  .inl 10, .inl 10,
  .inr (3, [some 16, some 19, some 20, some 21, some 22]),
  .inr (4, [some 17, some 18, none, none]), .inl 70, .inl 70,
  .inl 70, .inl 70, .inl 70, .inl 70,
  .inr (1, [some 24, some 25, some 26, some 27, some 28, none, none, none]),
  .inl 6, .inl 6, .inl 6, .inl 6, .inl 6,
  .inr (5, [some 30, none, some 31, some 32, some 33, none]),
  .inl 60, .inl 12, .inl 12, .inl 12,
  .inr (8, [none, some 35, none, some 36, none, some 37, none, some 38, none, none, none, some 39, none, none, none, some 40, none]),
  .inl 50, .inl 40, .inl 350, .inl 30, .inl 60, .inl 3]
def q_w (cA : ClassId) (ad : Nat → Nat) (S : qS) : va_W := q_lay.mapIdx (fun k c => (ad k, q_e cA ad (S k) c))
def q_up (S : qS) (k j : Nat) (v : Int32) : qS := va_up S k (upd (S k) j v)
theorem q_up_s (S : qS) (k j : Nat) (v : Int32) : q_up S k j v k = upd (S k) j v := by simp [q_up, va_up]
theorem q_up_n (S : qS) (k j : Nat) (v : Int32) {i : Nat} (h : i ≠ k) : q_up S k j v i = S i := by simp [q_up, va_up, h]
theorem q_w_get {cA : ClassId} {ad : Nat → Nat} {S : qS} {k : Nat} {c : qL} (h : q_lay[k]? = some c) : (q_w cA ad S)[k]? = some (ad k, q_e cA ad (S k) c) := by
  simp only [q_w, List.getElem?_mapIdx, h, Option.map_some]
theorem q_w_set {cA : ClassId} {ad : Nat → Nat} {S : qS} {k j : Nat} {v : Int32} {c : qL} {E : va_E} (h : q_lay[k]? = some c) (hE : q_e cA ad (upd (S k) j v) c = E) : (q_w cA ad S).set k (ad k, E) = q_w cA ad (q_up S k j v) := by
  apply List.ext_getElem?
  intro i
  by_cases hi : i = k
  · subst hi
    have hl : i < (q_w cA ad S).length := by
      have := (List.getElem?_eq_some_iff.mp h).1
      simpa [q_w] using this
    rw [List.getElem?_set_self hl, q_w_get h, q_up_s, hE]
  · rw [List.getElem?_set_ne (fun e => hi e.symm)]
    simp only [q_w, List.getElem?_mapIdx, q_up_n S k j v hi]
theorem q_e_put {cA : ClassId} {ad : Nat → Nat} {r : Nat → Int32} {ci j : Nat} {fs : List (Option Nat)} {v : Int32} (h : fs[j]? = some none) : q_e cA ad (upd r j v) (.inr (ci, fs)) = .inr (ci, (fs.mapIdx (fun j f => q_f ad r j f)).set j (.int v)) := by
  show (Sum.inr (ci, fs.mapIdx (fun i f => q_f ad (upd r j v) i f)) : va_E) = _
  congr 2
  apply List.ext_getElem?
  intro i
  have hl := (List.getElem?_eq_some_iff.mp h).1
  by_cases hi : i = j
  · subst hi
    rw [List.getElem?_set_self (by simpa using hl), List.getElem?_mapIdx, h]
    simp [q_f, upd]
  · rw [List.getElem?_set_ne (fun e => hi e.symm), List.getElem?_mapIdx, List.getElem?_mapIdx]
    cases fs[i]? with
    | none => rfl
    | some f => cases f <;> simp [q_f, upd, hi]
/-- the locals -/
def q_has (lsa : Array Slot) (nL : Nat) (ad : Nat → Nat) (ls : List (Option qV)) : Prop := lsa.size = nL ∧ lv_wf lsa ∧ ∀ (i : Nat) (v : qV), ls[i]? = some (some v) → lsa[i]? = some (.val (q_v ad v))
def q_l (ad : Nat → Nat) (ls : List (Option qV)) : List (Nat × Value) := (List.range ls.length).filterMap (fun i => match ls[i]? with
  | some (some v) => some (i, q_v ad v)
  | _ => none)
theorem q_l_mem {ad : Nat → Nat} {ls : List (Option qV)} {i : Nat} {v : qV} (h : ls[i]? = some (some v)) : (i, q_v ad v) ∈ q_l ad ls := by
  refine List.mem_filterMap.mpr ⟨i, List.mem_range.mpr (List.getElem?_eq_some_iff.mp h).1, ?_⟩
  rw [h]
theorem q_has.l {lsa : Array Slot} {nL : Nat} {ad : Nat → Nat} {ls : List (Option qV)} (h : q_has lsa nL ad ls) : lv_has lsa nL (q_l ad ls) := by
  refine ⟨h.1, h.2.1, fun q hq => ?_⟩
  obtain ⟨i, -, hi⟩ := List.mem_filterMap.mp hq
  cases hc : ls[i]? with
  | none => rw [hc] at hi; cases hi
  | some o =>
    cases o with
    | none => rw [hc] at hi; cases hi
    | some v =>
      rw [hc] at hi
      have hq2 := Option.some.inj hi
      rw [← hq2]
      exact h.2.2 i v hc
theorem q_v_cat (ad : Nat → Nat) (v : qV) : (q_v ad v).category = 1 := by cases v <;> rfl
theorem q_has.of {lsa : Array Slot} {nL : Nat} {ad : Nat → Nat} {ls : List (Option qV)} {i : Nat} {v : qV} (h : lv_has lsa nL ((i, q_v ad v) :: (q_l ad ls).filter (fun q => !(q.1 == i) && !(q.1 + 1 == i && q.2.category == 2)))) : q_has lsa nL ad (ls.set i (some v)) := by
  refine ⟨h.1, h.2.1, fun j w hj => ?_⟩
  by_cases hi : j = i
  · subst hi
    have hl : j < ls.length := by
      have := (List.getElem?_eq_some_iff.mp hj).1
      simpa using this
    rw [List.getElem?_set_self hl] at hj
    have hw := Option.some.inj (Option.some.inj hj)
    rw [← hw]
    exact h.2.2 (j, q_v ad v) List.mem_cons_self
  · rw [List.getElem?_set_ne (fun e => hi e.symm)] at hj
    refine h.2.2 (j, q_v ad w) (List.mem_cons_of_mem _ (List.mem_filter.mpr ⟨q_l_mem hj, ?_⟩))
    have h1 : (j == i) = false := by simpa using hi
    simp [h1, q_v_cat]
theorem q_args_mem (ad : Nat → Nat) : ∀ (as : List qV) (k i : Nat) (v : qV), as[i]? = some v → (k + i, q_v ad v) ∈ lv_args k (as.map (q_v ad)) := by
  intro as
  induction as with
  | nil => intro k i v h; simp at h
  | cons a as ih =>
    intro k i v h
    have hc : (if (q_v ad a).category = 2 then k + 2 else k + 1) = k + 1 := by rw [q_v_cat]; rfl
    show (k + i, q_v ad v) ∈ (k, q_v ad a) :: lv_args (if (q_v ad a).category = 2 then k + 2 else k + 1) (as.map (q_v ad))
    rw [hc]
    cases i with
    | zero =>
      have : a = v := by simpa using h
      subst this
      exact List.mem_cons_self
    | succ i =>
      have h2 : as[i]? = some v := by simpa using h
      have := ih (k + 1) i v h2
      rw [show k + (i + 1) = k + 1 + i by omega]
      exact List.mem_cons_of_mem _ this
/-- the words -/
def q_tbl : List Cond := lw_tbl.filter goodWord
theorem q_tbl_in {w : Cond} (h : w ∈ lw_tbl) (g : goodWord w = true) : w ∈ q_tbl := List.mem_filter.mpr ⟨h, g⟩
theorem q_in0 {i : Nat} {w : Cond} (h : (k2_sels lw_privs)[i]? = some w) (g : goodWord w = true) : w ∈ q_tbl := q_tbl_in (List.mem_append_left _ (List.mem_of_getElem? h)) g
theorem q_in1 {i : Nat} {w : Cond} (h : tables_1_1[i]? = some w) (g : goodWord w = true) : w ∈ q_tbl := q_tbl_in (List.mem_append_right _ (List.mem_append_left _ (List.mem_of_getElem? h))) g
theorem q_in2 {i : Nat} {w : Cond} (h : tables_1_2[i]? = some w) (g : goodWord w = true) : w ∈ q_tbl := q_tbl_in (List.mem_append_right _ (List.mem_append_right _ (List.mem_append_left _ (List.mem_of_getElem? h)))) g
theorem q_in3 {i : Nat} {w : Cond} (h : tables_1_3[i]? = some w) (g : goodWord w = true) : w ∈ q_tbl := q_tbl_in (List.mem_append_right _ (List.mem_append_right _ (List.mem_append_right _ (List.mem_append_left _ (List.mem_of_getElem? h))))) g
theorem q_in4 {i : Nat} {w : Cond} (h : tables_1_4[i]? = some w) (g : goodWord w = true) : w ∈ q_tbl := q_tbl_in (List.mem_append_right _ (List.mem_append_right _ (List.mem_append_right _ (List.mem_append_right _ (List.mem_of_getElem? h))))) g
theorem q_good {w : Cond} (h : w ∈ q_tbl) : goodWord w = true := (List.mem_filter.mp h).2
theorem q_fields {C : String} {T : u_T} {N : Nat} (h : ∀ k, k < N → u_lay C T k ∈ q_tbl) : ∀ w ∈ u_ws C T N, w ∈ q_tbl := by
  intro w hw
  obtain ⟨k, hk, e⟩ := List.mem_map.mp hw
  rw [← e]
  exact h k (List.mem_range.mp hk)
def q_ws (y : MethodName) (cc : ByteArray) (nL : Nat) (ret : Option FieldType) : List Cond := Cond.code y cc nL ret :: q_tbl
theorem q_goodIn {y : MethodName} {cc : ByteArray} {nL : Nat} {ret : Option FieldType} (h : Cond.code y cc nL ret ∈ q_tbl) : GoodIn q_tbl (q_ws y cc nL ret) := by
  intro w hw
  have hm : w ∈ q_tbl := by
    rcases List.mem_cons.mp hw with e | e
    · rw [e]; exact h
    · exact e
  exact ⟨hm, good_of_word (q_good hm)⟩
def q_N (U : State) : Prop := va_Nw (.methodLinkNest RX6 48 yX8_isType RX8) U ∧ va_Nw (.methodLinkNest RX6 61 yX8_isValue RX8) U
def q_rm (d : Nat) : Room := { frames := d, cells := 0, slots := 0, locals := 30 * d }
def q_K (D : va_G) (cA : ClassId) (U : State) : Prop := va_K D vwCl [(cA, .int)] U
def q_Cx (cc : ByteArray) (nL : Nat) (ret : Option FieldType) (own : String) (d : Nat) (p : Program) (R : Room) (s : State) (m : MethodId) (args : Array Value) (meth : Method) (c : Code) (D : va_G) (cA : ClassId) (A0 : Nat → Prop) : Prop :=
  p.tables.exec = Jvm.exec ∧ c.code = cc ∧ c.maxLocals = nL ∧ meth.sig.returnType = ret ∧ s.vm.findClass own = some m.cls ∧ (∀ w ∈ q_tbl, w.before args s = true) ∧ va_K D vwCl [(cA, .int)] s ∧ meth.locks = false ∧ (d ≤ R.frames ∧ 30 * d ≤ R.locals) ∧ (∀ q : Nat, s.heap.size ≤ q → A0 q) ∧ q_N s
def q_Qc (D : va_G) (cA : ClassId) (ad : Nat → Nat) (A0 : Nat → Prop) (Q : Option Int32 → qS → Prop) : Array Value → State → Outcome → State → Prop := fun _ st oc t => (∃ (r : Option Int32) (S' : qS), oc = .returned (r.map Value.int) ∧ Q r S' ∧ va_P D vwCl (q_w cA ad S') t.heap ∧ va_D A0 (q_w cA ad S')) ∧ va_F A0 st t
/-- the machine, in a method's frame at pc with these locals, stack and world, comes to its return with Q -/
def q_E (l : Launch) (cc : ByteArray) (nL : Nat) (ret : Option FieldType) (own : String) (d : Nat) (S : qS) (pc : Nat) (ls : List (Option qV)) (st : List qV) (Q : Option Int32 → qS → Prop) : Prop :=
  ∀ (p : Program) (e : Env) (R : Room) (s : State) (m : MethodId) (args : Array Value) (below : List Frame) (meth : Method) (c : Code) (D : va_G) (cA : ClassId) (ad : Nat → Nat) (A0 : Nat → Prop) (H : Heap) (locs : List Loc) (lsa : Array Slot),
    q_Cx cc nL ret own d p R s m args meth c D cA A0 → va_P D vwCl (q_w cA ad S) H → va_D A0 (q_w cA ad S) → va_S A0 s.heap H locs → q_has lsa nL ad ls →
    W p l e R s m args below meth c H locs 0 0 (MQ below (q_Qc D cA ad A0 Q) args s 0 0 A0) (F0 m pc lsa (st.map (q_v ad)))
def q_Pc (D : va_G) (cA : ClassId) (ad : Nat → Nat) (sz : Nat) (as : List qV) (S : qS) : Array Value → State → Prop := va_Pc (as.map (q_v ad)) (fun U => U.heap.size = sz ∧ va_P D vwCl (q_w cA ad S) U.heap ∧ va_K D vwCl [(cA, .int)] U ∧ va_D (fun _ => True) (q_w cA ad S) ∧ q_N U)
def q_B (D : va_G) (cA : ClassId) (ad : Nat → Nat) (A : Nat → Prop) (S : qS) (t : State) : Prop := va_P D vwCl (q_w cA ad S) t.heap ∧ va_D A (q_w cA ad S)
/-- a method's contract: it answers v with the world S', and Q of them -/
def q_Mi (l : Launch) (d : Nat) (y : MethodName) (cc : ByteArray) (nL : Nat) (ret : Option FieldType) (as : List qV) (S : qS) (Q : Int32 → qS → Prop) : Prop :=
  ∀ (D : va_G) (cA : ClassId) (ad : Nat → Nat) (sz : Nat), Met l y (q_ws y cc nL ret) (q_rm d) (q_Pc D cA ad sz as S) (va_Qi Q (q_B D cA ad (va_A (q_w cA ad S) sz)) (va_A (q_w cA ad S) sz)) 0 0 (va_A (q_w cA ad S) sz)
def q_Mv (l : Launch) (d : Nat) (y : MethodName) (cc : ByteArray) (nL : Nat) (ret : Option FieldType) (as : List qV) (S : qS) (Q : qS → Prop) : Prop :=
  ∀ (D : va_G) (cA : ClassId) (ad : Nat → Nat) (sz : Nat), Met l y (q_ws y cc nL ret) (q_rm d) (q_Pc D cA ad sz as S) (va_Qv Q (q_B D cA ad (va_A (q_w cA ad S) sz)) (va_A (q_w cA ad S) sz)) 0 0 (va_A (q_w cA ad S) sz)
def q_Qi (Q : Int32 → qS → Prop) : Option Int32 → qS → Prop := fun r S => match r with
  | some v => Q v S
  | none => False
def q_Qv (Q : qS → Prop) : Option Int32 → qS → Prop := fun r S => match r with
  | some _ => False
  | none => Q S
theorem q_W_mono {p : Program} {l : Launch} {e : Env} {R : Room} {s : State} {m : MethodId} {args : Array Value} {below : List Frame} {meth : Method} {c : Code} {H : Heap} {locs : List Loc} {cells slots : Nat} {Q Q' : State → Prop} {g : JFrame} (h : W p l e R s m args below meth c H locs cells slots Q g) (hq : ∀ t, Q t → Q' t) : W p l e R s m args below meth c H locs cells slots Q' g := by
  intro T hT X
  obtain ⟨t, a, b⟩ := h T hT X
  exact ⟨t, a, hq t b⟩
theorem q_MQ_mono {below : List Frame} {Qc Qc' : Array Value → State → Outcome → State → Prop} {a : Array Value} {s : State} {mc ms : Nat} {free : Addr → Prop} (h : ∀ o t, Qc a s o t → Qc' a s o t) : ∀ t, MQ below Qc a s mc ms free t → MQ below Qc' a s mc ms free t := by
  intro t ⟨o, h1, h2, h3, h4⟩
  exact ⟨o, h1, h2, h o t h3, h4⟩
theorem q_entry {l : Launch} {d : Nat} {y : MethodName} {cc : ByteArray} {nL : Nat} {ret : Option FieldType} {as : List qV} {S : qS} {Q : Option Int32 → qS → Prop} {Qc : va_G → ClassId → (Nat → Nat) → Nat → Array Value → State → Outcome → State → Prop} {own : String}
    (hy : plainName y.cls = true) (ho : y.cls = own) (ls : List (Option qV)) (hls : as.map some ++ List.replicate (nL - as.length) none = ls) (hn : as.length ≤ nL)
    (hq : ∀ (D : va_G) (cA : ClassId) (ad : Nat → Nat) (a : Array Value) (s : State) (o : Outcome) (t : State), q_Qc D cA ad (va_A (q_w cA ad S) s.heap.size) Q a s o t → Qc D cA ad s.heap.size a s o t)
    (h : q_E l cc nL ret own d S 0 ls [] Q) (D : va_G) (cA : ClassId) (ad : Nat → Nat) (sz : Nat) : Met l y (q_ws y cc nL ret) (q_rm d) (q_Pc D cA ad sz as S) (Qc D cA ad sz) 0 0 (va_A (q_w cA ad S) sz) := by
  refine Met.ofW (cc := cc) (maxL := nL) (ret := ret) hy rfl ?_
  intro p e s m args below meth c s₁ B hml hv
  obtain ⟨rfl, hsz, hP, hK, hD0, hN⟩ := hv
  have hts := atoms_spec (ws := q_ws y cc nL ret) B.pre
  have hown : s.vm.findClass y.cls = some m.cls := findClass_of_methodNamed B.named
  subst hsz
  subst ho
  subst hls
  have hD := hD0.self (sz := s.heap.size)
  have hl := lv_entry (as.map (q_v ad)) (n := nL) (by
    have : (lg_sl (as.map (q_v ad))).length = as.length := by
      clear hD0 hD hP hN hn h B hts hK
      induction as with
      | nil => rfl
      | cons a as ih =>
        cases a <;> simpa [lg_sl, q_v, Value.category] using ih
    omega)
  rw [lg_entry_eq]
  generalize (lg_sl (as.map (q_v ad)) ++ List.replicate (nL - (lg_sl (as.map (q_v ad))).length) Slot.unset).toArray = lsa at hl ⊢
  have hl2 : q_has lsa nL ad (as.map some ++ List.replicate (nL - as.length) none) := by
    refine ⟨hl.1, hl.2.1, fun i v hi => ?_⟩
    by_cases hlt : i < (as.map some).length
    · rw [List.getElem?_append_left hlt, List.getElem?_map] at hi
      cases hc : as[i]? with
      | none => rw [hc] at hi; cases hi
      | some w =>
        rw [hc] at hi
        have hw : w = v := Option.some.inj (Option.some.inj hi)
        subst hw
        have := q_args_mem ad as 0 i w hc
        rw [Nat.zero_add] at this
        exact hl.2.2 _ this
    · rw [List.getElem?_append_right (Nat.le_of_not_lt hlt)] at hi
      have := List.eq_of_mem_replicate (List.mem_of_getElem? hi)
      cases this
  refine q_W_mono (h p e _ s m _ below meth c D cA ad _ s.heap [] lsa ⟨B.exec, B.bytes, hml, B.returns, hown, fun w hw => hts w (List.mem_cons_of_mem _ hw), hK, B.notSynchronized, ⟨Nat.le_refl _, Nat.le_refl _⟩, fun q hq => Or.inr hq, hN⟩ hP hD va_S.rf hl2) (q_MQ_mono (fun o t => hq D cA ad _ s o t))
theorem q_Mi_of {l : Launch} {d : Nat} {y : MethodName} {cc : ByteArray} {nL : Nat} {ret : Option FieldType} {as : List qV} {S : qS} {Q : Int32 → qS → Prop} {own : String}
    (hy : plainName y.cls = true) (ho : y.cls = own) (ls : List (Option qV)) (hls : as.map some ++ List.replicate (nL - as.length) none = ls) (hn : as.length ≤ nL)
    (h : q_E l cc nL ret own d S 0 ls [] (q_Qi Q)) : q_Mi l d y cc nL ret as S Q := by
  intro D cA ad sz
  refine q_entry (Qc := fun D cA ad sz => va_Qi Q (q_B D cA ad (va_A (q_w cA ad S) sz)) (va_A (q_w cA ad S) sz)) hy ho ls hls hn ?_ h D cA ad sz
  intro D cA ad a s o t ⟨⟨r, S', h1, h2, h3, h4⟩, h5⟩
  cases r with
  | none => exact h2.elim
  | some v => exact ⟨⟨v, S', h1, h2, h3, h4⟩, h5⟩
theorem q_Mv_of {l : Launch} {d : Nat} {y : MethodName} {cc : ByteArray} {nL : Nat} {ret : Option FieldType} {as : List qV} {S : qS} {Q : qS → Prop} {own : String}
    (hy : plainName y.cls = true) (ho : y.cls = own) (ls : List (Option qV)) (hls : as.map some ++ List.replicate (nL - as.length) none = ls) (hn : as.length ≤ nL)
    (h : q_E l cc nL ret own d S 0 ls [] (q_Qv Q)) : q_Mv l d y cc nL ret as S Q := by
  intro D cA ad sz
  refine q_entry (Qc := fun D cA ad sz => va_Qv Q (q_B D cA ad (va_A (q_w cA ad S) sz)) (va_A (q_w cA ad S) sz)) hy ho ls hls hn ?_ h D cA ad sz
  intro D cA ad a s o t ⟨⟨r, S', h1, h2, h3, h4⟩, h5⟩
  cases r with
  | none => exact ⟨⟨S', h1, h2, h3, h4⟩, h5⟩
  | some v => exact h2.elim
end
section
section QR
variable {l : Launch} {cc : ByteArray} {nL : Nat} {ret : Option FieldType} {own : String} {d : Nat} {S : qS} {pc : Nat} {ls : List (Option qV)} {st : List qV} {Q : Option Int32 → qS → Prop}
theorem q_cats {ad : Nat → Nat} {st : List qV} : ((st.map (q_v ad)).map fun v => v.category).sum = st.length := by
  induction st with
  | nil => rfl
  | cons a st ih => rw [List.map_cons, List.map_cons, List.sum_cons, ih, q_v_cat, List.length_cons, Nat.add_comm]
theorem q_mx1 : Cond.static Lib.Math.max.name ∈ q_tbl := q_in1 (i := 33) rfl rfl
theorem q_mx2 : Cond.initialized "java/lang/Math" ∈ q_tbl := q_in1 (i := 4) rfl rfl
theorem q_mx3 : Cond.code Lib.Math.max.name Lib.Math.max.code 2 (some .int) ∈ q_tbl := q_in1 (i := 34) (by decide +kernel) rfl
theorem q_iconst {n : Int} {v : Int32} (hd : decode cc pc = .ok (.iconst n, 1)) (hv : Int32.ofInt n = v) (k : q_E l cc nL ret own d S (pc + 1) ls (.inl v :: st) Q) : q_E l cc nL ret own d S pc ls st Q := by
  intro p e R s m args below meth c D cA ad A0 H locs lsa C hP hD hS hl
  exact lv_iconst C.1 C.2.1 hd hv (k p e R s m args below meth c D cA ad A0 H locs lsa C hP hD hS hl)
theorem q_bipush {n : Int} {v : Int32} (hd : decode cc pc = .ok (.bipush n, 2)) (hv : (Int8.ofInt n).toInt32 = v) (k : q_E l cc nL ret own d S (pc + 2) ls (.inl v :: st) Q) : q_E l cc nL ret own d S pc ls st Q := by
  intro p e R s m args below meth c D cA ad A0 H locs lsa C hP hD hS hl
  exact lv_bipush C.1 C.2.1 hd hv (k p e R s m args below meth c D cA ad A0 H locs lsa C hP hD hS hl)
theorem q_sipush {n : Int} {v : Int32} (hd : decode cc pc = .ok (.sipush n, 3)) (hv : (Int16.ofInt n).toInt32 = v) (k : q_E l cc nL ret own d S (pc + 3) ls (.inl v :: st) Q) : q_E l cc nL ret own d S pc ls st Q := by
  intro p e R s m args below meth c D cA ad A0 H locs lsa C hP hD hS hl
  exact lv_sipush C.1 C.2.1 hd hv (k p e R s m args below meth c D cA ad A0 H locs lsa C hP hD hS hl)
theorem q_iload {i : Nat} {x : Int32} (hd : decode cc pc = .ok (.iload i, 2)) (hx : ls[(i : Nat)]? = some (some (.inl x))) (k : q_E l cc nL ret own d S (pc + 2) ls (.inl x :: st) Q) : q_E l cc nL ret own d S pc ls st Q := by
  intro p e R s m args below meth c D cA ad A0 H locs lsa C hP hD hS hl
  exact lv_iload C.1 C.2.1 hd (hl.2.2 _ _ hx) (k p e R s m args below meth c D cA ad A0 H locs lsa C hP hD hS hl)
theorem q_iload_n {i : Fin 4} {x : Int32} (hd : decode cc pc = .ok (.iload_n i, 1)) (hx : ls[(i : Nat)]? = some (some (.inl x))) (k : q_E l cc nL ret own d S (pc + 1) ls (.inl x :: st) Q) : q_E l cc nL ret own d S pc ls st Q := by
  intro p e R s m args below meth c D cA ad A0 H locs lsa C hP hD hS hl
  exact lv_iload_n C.1 C.2.1 hd rfl (hl.2.2 _ _ hx) (k p e R s m args below meth c D cA ad A0 H locs lsa C hP hD hS hl)
theorem q_aload_n {i : Fin 4} {x : Nat} (hd : decode cc pc = .ok (.aload_n i, 1)) (hx : ls[(i : Nat)]? = some (some (.inr x))) (k : q_E l cc nL ret own d S (pc + 1) ls (.inr x :: st) Q) : q_E l cc nL ret own d S pc ls st Q := by
  intro p e R s m args below meth c D cA ad A0 H locs lsa C hP hD hS hl
  exact lv_aload_n C.1 C.2.1 hd rfl (hl.2.2 _ _ hx) (k p e R s m args below meth c D cA ad A0 H locs lsa C hP hD hS hl)
theorem q_aload {i : Nat} {x : Nat} (hd : decode cc pc = .ok (.aload i, 2)) (hx : ls[(i : Nat)]? = some (some (.inr x))) (k : q_E l cc nL ret own d S (pc + 2) ls (.inr x :: st) Q) : q_E l cc nL ret own d S pc ls st Q := by
  intro p e R s m args below meth c D cA ad A0 H locs lsa C hP hD hS hl
  exact lv_aload C.1 C.2.1 hd (hl.2.2 _ _ hx) (k p e R s m args below meth c D cA ad A0 H locs lsa C hP hD hS hl)
theorem q_istore {i : Nat} {x : Int32} (hd : decode cc pc = .ok (.istore i, 2)) (hn : i < nL) (k : q_E l cc nL ret own d S (pc + 2) (ls.set i (some (.inl x))) st Q) : q_E l cc nL ret own d S pc ls (.inl x :: st) Q := by
  intro p e R s m args below meth c D cA ad A0 H locs lsa C hP hD hS hl
  exact lv_istore C.1 C.2.1 hd hl.l hn rfl (fun lsa hl' => k p e R s m args below meth c D cA ad A0 H locs lsa C hP hD hS (q_has.of hl'))
theorem q_istore_n {i : Fin 4} {x : Int32} (hd : decode cc pc = .ok (.istore_n i, 1)) (hn : (i : Nat) < nL) (k : q_E l cc nL ret own d S (pc + 1) (ls.set (i : Nat) (some (.inl x))) st Q) : q_E l cc nL ret own d S pc ls (.inl x :: st) Q := by
  intro p e R s m args below meth c D cA ad A0 H locs lsa C hP hD hS hl
  exact lv_istore_n C.1 C.2.1 hd rfl hl.l hn rfl (fun lsa hl' => k p e R s m args below meth c D cA ad A0 H locs lsa C hP hD hS (q_has.of hl'))
theorem q_iinc {i : Nat} {n : Int} {x v : Int32} (hd : decode cc pc = .ok (.iinc i n, 3)) (hx : ls[i]? = some (some (.inl x))) (hv : x + Int32.ofInt n = v) (hn : i < nL) (k : q_E l cc nL ret own d S (pc + 3) (ls.set i (some (.inl v))) st Q) : q_E l cc nL ret own d S pc ls st Q := by
  intro p e R s m args below meth c D cA ad A0 H locs lsa C hP hD hS hl
  obtain ⟨j, hj⟩ := List.getElem?_of_mem (q_l_mem (ad := ad) hx)
  exact lv_iinc C.1 C.2.1 hd hl.l hj hv hn rfl (fun lsa hl' => k p e R s m args below meth c D cA ad A0 H locs lsa C hP hD hS (q_has.of hl'))
theorem q_iadd {x y : Int32} (hd : decode cc pc = .ok (.iadd, 1)) (k : q_E l cc nL ret own d S (pc + 1) ls (.inl (x + y) :: st) Q) : q_E l cc nL ret own d S pc ls (.inl y :: .inl x :: st) Q := by
  intro p e R s m args below meth c D cA ad A0 H locs lsa C hP hD hS hl
  exact lv_iadd C.1 C.2.1 hd (k p e R s m args below meth c D cA ad A0 H locs lsa C hP hD hS hl)
theorem q_isub {x y : Int32} (hd : decode cc pc = .ok (.isub, 1)) (k : q_E l cc nL ret own d S (pc + 1) ls (.inl (x - y) :: st) Q) : q_E l cc nL ret own d S pc ls (.inl y :: .inl x :: st) Q := by
  intro p e R s m args below meth c D cA ad A0 H locs lsa C hP hD hS hl
  exact lv_isub C.1 C.2.1 hd (k p e R s m args below meth c D cA ad A0 H locs lsa C hP hD hS hl)
theorem q_imul {x y : Int32} (hd : decode cc pc = .ok (.imul, 1)) (k : q_E l cc nL ret own d S (pc + 1) ls (.inl (x * y) :: st) Q) : q_E l cc nL ret own d S pc ls (.inl y :: .inl x :: st) Q := by
  intro p e R s m args below meth c D cA ad A0 H locs lsa C hP hD hS hl
  exact lv_imul C.1 C.2.1 hd (k p e R s m args below meth c D cA ad A0 H locs lsa C hP hD hS hl)
theorem q_iand {x y : Int32} (hd : decode cc pc = .ok (.iand, 1)) (k : q_E l cc nL ret own d S (pc + 1) ls (.inl (x &&& y) :: st) Q) : q_E l cc nL ret own d S pc ls (.inl y :: .inl x :: st) Q := by
  intro p e R s m args below meth c D cA ad A0 H locs lsa C hP hD hS hl
  exact lv_iand C.1 C.2.1 hd (k p e R s m args below meth c D cA ad A0 H locs lsa C hP hD hS hl)
theorem q_ior {x y : Int32} (hd : decode cc pc = .ok (.ior, 1)) (k : q_E l cc nL ret own d S (pc + 1) ls (.inl (x ||| y) :: st) Q) : q_E l cc nL ret own d S pc ls (.inl y :: .inl x :: st) Q := by
  intro p e R s m args below meth c D cA ad A0 H locs lsa C hP hD hS hl
  exact lv_ior C.1 C.2.1 hd (k p e R s m args below meth c D cA ad A0 H locs lsa C hP hD hS hl)
theorem q_ixor {x y : Int32} (hd : decode cc pc = .ok (.ixor, 1)) (k : q_E l cc nL ret own d S (pc + 1) ls (.inl (x ^^^ y) :: st) Q) : q_E l cc nL ret own d S pc ls (.inl y :: .inl x :: st) Q := by
  intro p e R s m args below meth c D cA ad A0 H locs lsa C hP hD hS hl
  exact lv_ixor C.1 C.2.1 hd (k p e R s m args below meth c D cA ad A0 H locs lsa C hP hD hS hl)
theorem q_ishl {x y : Int32} (hd : decode cc pc = .ok (.ishl, 1)) (k : q_E l cc nL ret own d S (pc + 1) ls (.inl (x <<< (y &&& 31)) :: st) Q) : q_E l cc nL ret own d S pc ls (.inl y :: .inl x :: st) Q := by
  intro p e R s m args below meth c D cA ad A0 H locs lsa C hP hD hS hl
  exact lv_ishl C.1 C.2.1 hd (k p e R s m args below meth c D cA ad A0 H locs lsa C hP hD hS hl)
theorem q_ishr {x y : Int32} (hd : decode cc pc = .ok (.ishr, 1)) (k : q_E l cc nL ret own d S (pc + 1) ls (.inl (x >>> (y &&& 31)) :: st) Q) : q_E l cc nL ret own d S pc ls (.inl y :: .inl x :: st) Q := by
  intro p e R s m args below meth c D cA ad A0 H locs lsa C hP hD hS hl
  exact lv_ishr C.1 C.2.1 hd (k p e R s m args below meth c D cA ad A0 H locs lsa C hP hD hS hl)
theorem q_idiv {x y : Int32} (hd : decode cc pc = .ok (.idiv, 1)) (hne : ¬ y = 0) (k : q_E l cc nL ret own d S (pc + 1) ls (.inl (x / y) :: st) Q) : q_E l cc nL ret own d S pc ls (.inl y :: .inl x :: st) Q := by
  intro p e R s m args below meth c D cA ad A0 H locs lsa C hP hD hS hl
  exact lv_idiv C.1 C.2.1 hd hne (k p e R s m args below meth c D cA ad A0 H locs lsa C hP hD hS hl)
theorem q_irem {x y : Int32} (hd : decode cc pc = .ok (.irem, 1)) (hne : ¬ y = 0) (k : q_E l cc nL ret own d S (pc + 1) ls (.inl (x - x / y * y) :: st) Q) : q_E l cc nL ret own d S pc ls (.inl y :: .inl x :: st) Q := by
  intro p e R s m args below meth c D cA ad A0 H locs lsa C hP hD hS hl
  exact lv_irem C.1 C.2.1 hd hne (k p e R s m args below meth c D cA ad A0 H locs lsa C hP hD hS hl)
theorem q_dup {v : qV} (hd : decode cc pc = .ok (.dup, 1)) (k : q_E l cc nL ret own d S (pc + 1) ls (v :: v :: st) Q) : q_E l cc nL ret own d S pc ls (v :: st) Q := by
  intro p e R s m args below meth c D cA ad A0 H locs lsa C hP hD hS hl
  exact lv_dup C.1 C.2.1 hd (q_v_cat ad v) (k p e R s m args below meth c D cA ad A0 H locs lsa C hP hD hS hl)
theorem q_pop {v : qV} (hd : decode cc pc = .ok (.pop, 1)) (k : q_E l cc nL ret own d S (pc + 1) ls st Q) : q_E l cc nL ret own d S pc ls (v :: st) Q := by
  intro p e R s m args below meth c D cA ad A0 H locs lsa C hP hD hS hl
  exact lv_pop C.1 C.2.1 hd (q_v_cat ad v) (k p e R s m args below meth c D cA ad A0 H locs lsa C hP hD hS hl)
theorem q_goto {off : Int} (tgt : Nat) (hd : decode cc pc = .ok (.goto off, 3)) (ht : (pc : Int) + off = (tgt : Int)) (k : q_E l cc nL ret own d S tgt ls st Q) : q_E l cc nL ret own d S pc ls st Q := by
  intro p e R s m args below meth c D cA ad A0 H locs lsa C hP hD hS hl
  exact lv_goto C.1 C.2.1 hd ht (k p e R s m args below meth c D cA ad A0 H locs lsa C hP hD hS hl)
theorem q_icmp_eq {x y : Int32} {off : Int} (tgt : Nat) (hd : decode cc pc = .ok (.if_icmp .eq off, 3)) (ht : (pc : Int) + off = (tgt : Int)) (kt : x = y → q_E l cc nL ret own d S tgt ls st Q) (kf : ¬ x = y → q_E l cc nL ret own d S (pc + 3) ls st Q) : q_E l cc nL ret own d S pc ls (.inl y :: .inl x :: st) Q := by
  intro p e R s m args below meth c D cA ad A0 H locs lsa C hP hD hS hl
  exact lv_icmp_eq C.1 C.2.1 hd ht (fun h => kt h p e R s m args below meth c D cA ad A0 H locs lsa C hP hD hS hl) (fun h => kf h p e R s m args below meth c D cA ad A0 H locs lsa C hP hD hS hl)
theorem q_icmp_ne {x y : Int32} {off : Int} (tgt : Nat) (hd : decode cc pc = .ok (.if_icmp .ne off, 3)) (ht : (pc : Int) + off = (tgt : Int)) (kt : ¬ x = y → q_E l cc nL ret own d S tgt ls st Q) (kf : x = y → q_E l cc nL ret own d S (pc + 3) ls st Q) : q_E l cc nL ret own d S pc ls (.inl y :: .inl x :: st) Q := by
  intro p e R s m args below meth c D cA ad A0 H locs lsa C hP hD hS hl
  exact lv_icmp_ne C.1 C.2.1 hd ht (fun h => kt h p e R s m args below meth c D cA ad A0 H locs lsa C hP hD hS hl) (fun h => kf h p e R s m args below meth c D cA ad A0 H locs lsa C hP hD hS hl)
theorem q_icmp_lt {x y : Int32} {off : Int} (tgt : Nat) (hd : decode cc pc = .ok (.if_icmp .lt off, 3)) (ht : (pc : Int) + off = (tgt : Int)) (kt : x < y → q_E l cc nL ret own d S tgt ls st Q) (kf : ¬ x < y → q_E l cc nL ret own d S (pc + 3) ls st Q) : q_E l cc nL ret own d S pc ls (.inl y :: .inl x :: st) Q := by
  intro p e R s m args below meth c D cA ad A0 H locs lsa C hP hD hS hl
  exact lv_icmp_lt C.1 C.2.1 hd ht (fun h => kt h p e R s m args below meth c D cA ad A0 H locs lsa C hP hD hS hl) (fun h => kf h p e R s m args below meth c D cA ad A0 H locs lsa C hP hD hS hl)
theorem q_icmp_ge {x y : Int32} {off : Int} (tgt : Nat) (hd : decode cc pc = .ok (.if_icmp .ge off, 3)) (ht : (pc : Int) + off = (tgt : Int)) (kt : y ≤ x → q_E l cc nL ret own d S tgt ls st Q) (kf : ¬ y ≤ x → q_E l cc nL ret own d S (pc + 3) ls st Q) : q_E l cc nL ret own d S pc ls (.inl y :: .inl x :: st) Q := by
  intro p e R s m args below meth c D cA ad A0 H locs lsa C hP hD hS hl
  exact lv_icmp_ge C.1 C.2.1 hd ht (fun h => kt h p e R s m args below meth c D cA ad A0 H locs lsa C hP hD hS hl) (fun h => kf h p e R s m args below meth c D cA ad A0 H locs lsa C hP hD hS hl)
theorem q_icmp_gt {x y : Int32} {off : Int} (tgt : Nat) (hd : decode cc pc = .ok (.if_icmp .gt off, 3)) (ht : (pc : Int) + off = (tgt : Int)) (kt : y < x → q_E l cc nL ret own d S tgt ls st Q) (kf : ¬ y < x → q_E l cc nL ret own d S (pc + 3) ls st Q) : q_E l cc nL ret own d S pc ls (.inl y :: .inl x :: st) Q := by
  intro p e R s m args below meth c D cA ad A0 H locs lsa C hP hD hS hl
  exact lv_icmp_gt C.1 C.2.1 hd ht (fun h => kt h p e R s m args below meth c D cA ad A0 H locs lsa C hP hD hS hl) (fun h => kf h p e R s m args below meth c D cA ad A0 H locs lsa C hP hD hS hl)
theorem q_icmp_le {x y : Int32} {off : Int} (tgt : Nat) (hd : decode cc pc = .ok (.if_icmp .le off, 3)) (ht : (pc : Int) + off = (tgt : Int)) (kt : x ≤ y → q_E l cc nL ret own d S tgt ls st Q) (kf : ¬ x ≤ y → q_E l cc nL ret own d S (pc + 3) ls st Q) : q_E l cc nL ret own d S pc ls (.inl y :: .inl x :: st) Q := by
  intro p e R s m args below meth c D cA ad A0 H locs lsa C hP hD hS hl
  exact lv_icmp_le C.1 C.2.1 hd ht (fun h => kt h p e R s m args below meth c D cA ad A0 H locs lsa C hP hD hS hl) (fun h => kf h p e R s m args below meth c D cA ad A0 H locs lsa C hP hD hS hl)
theorem q_if_eq {x : Int32} {off : Int} (tgt : Nat) (hd : decode cc pc = .ok (.ifCond .eq off, 3)) (ht : (pc : Int) + off = (tgt : Int)) (kt : x = 0 → q_E l cc nL ret own d S tgt ls st Q) (kf : ¬ x = 0 → q_E l cc nL ret own d S (pc + 3) ls st Q) : q_E l cc nL ret own d S pc ls (.inl x :: st) Q := by
  intro p e R s m args below meth c D cA ad A0 H locs lsa C hP hD hS hl
  exact lv_if_eq C.1 C.2.1 hd ht (fun h => kt h p e R s m args below meth c D cA ad A0 H locs lsa C hP hD hS hl) (fun h => kf h p e R s m args below meth c D cA ad A0 H locs lsa C hP hD hS hl)
theorem q_if_ne {x : Int32} {off : Int} (tgt : Nat) (hd : decode cc pc = .ok (.ifCond .ne off, 3)) (ht : (pc : Int) + off = (tgt : Int)) (kt : ¬ x = 0 → q_E l cc nL ret own d S tgt ls st Q) (kf : x = 0 → q_E l cc nL ret own d S (pc + 3) ls st Q) : q_E l cc nL ret own d S pc ls (.inl x :: st) Q := by
  intro p e R s m args below meth c D cA ad A0 H locs lsa C hP hD hS hl
  exact lv_if_ne C.1 C.2.1 hd ht (fun h => kt h p e R s m args below meth c D cA ad A0 H locs lsa C hP hD hS hl) (fun h => kf h p e R s m args below meth c D cA ad A0 H locs lsa C hP hD hS hl)
theorem q_if_lt {x : Int32} {off : Int} (tgt : Nat) (hd : decode cc pc = .ok (.ifCond .lt off, 3)) (ht : (pc : Int) + off = (tgt : Int)) (kt : x < 0 → q_E l cc nL ret own d S tgt ls st Q) (kf : ¬ x < 0 → q_E l cc nL ret own d S (pc + 3) ls st Q) : q_E l cc nL ret own d S pc ls (.inl x :: st) Q := by
  intro p e R s m args below meth c D cA ad A0 H locs lsa C hP hD hS hl
  exact lv_if_lt C.1 C.2.1 hd ht (fun h => kt h p e R s m args below meth c D cA ad A0 H locs lsa C hP hD hS hl) (fun h => kf h p e R s m args below meth c D cA ad A0 H locs lsa C hP hD hS hl)
theorem q_if_ge {x : Int32} {off : Int} (tgt : Nat) (hd : decode cc pc = .ok (.ifCond .ge off, 3)) (ht : (pc : Int) + off = (tgt : Int)) (kt : 0 ≤ x → q_E l cc nL ret own d S tgt ls st Q) (kf : ¬ 0 ≤ x → q_E l cc nL ret own d S (pc + 3) ls st Q) : q_E l cc nL ret own d S pc ls (.inl x :: st) Q := by
  intro p e R s m args below meth c D cA ad A0 H locs lsa C hP hD hS hl
  exact lv_if_ge C.1 C.2.1 hd ht (fun h => kt h p e R s m args below meth c D cA ad A0 H locs lsa C hP hD hS hl) (fun h => kf h p e R s m args below meth c D cA ad A0 H locs lsa C hP hD hS hl)
theorem q_if_gt {x : Int32} {off : Int} (tgt : Nat) (hd : decode cc pc = .ok (.ifCond .gt off, 3)) (ht : (pc : Int) + off = (tgt : Int)) (kt : 0 < x → q_E l cc nL ret own d S tgt ls st Q) (kf : ¬ 0 < x → q_E l cc nL ret own d S (pc + 3) ls st Q) : q_E l cc nL ret own d S pc ls (.inl x :: st) Q := by
  intro p e R s m args below meth c D cA ad A0 H locs lsa C hP hD hS hl
  exact lv_if_gt C.1 C.2.1 hd ht (fun h => kt h p e R s m args below meth c D cA ad A0 H locs lsa C hP hD hS hl) (fun h => kf h p e R s m args below meth c D cA ad A0 H locs lsa C hP hD hS hl)
theorem q_if_le {x : Int32} {off : Int} (tgt : Nat) (hd : decode cc pc = .ok (.ifCond .le off, 3)) (ht : (pc : Int) + off = (tgt : Int)) (kt : x ≤ 0 → q_E l cc nL ret own d S tgt ls st Q) (kf : ¬ x ≤ 0 → q_E l cc nL ret own d S (pc + 3) ls st Q) : q_E l cc nL ret own d S pc ls (.inl x :: st) Q := by
  intro p e R s m args below meth c D cA ad A0 H locs lsa C hP hD hS hl
  exact lv_if_le C.1 C.2.1 hd ht (fun h => kt h p e R s m args below meth c D cA ad A0 H locs lsa C hP hD hS hl) (fun h => kf h p e R s m args below meth c D cA ad A0 H locs lsa C hP hD hS hl)
theorem q_tableIn {dflt lo hi : Int} {offs : Array Int} {len : Nat} {x : Int32} {off : Int} (tgt : Nat) (hd : decode cc pc = .ok (.tableswitch dflt lo hi offs, len)) (h1 : ¬ x.toInt < lo) (h2 : ¬ hi < x.toInt) (ho : offs[(x.toInt - lo).toNat]? = some off) (ht : (pc : Int) + off = (tgt : Int)) (k : q_E l cc nL ret own d S tgt ls st Q) : q_E l cc nL ret own d S pc ls (.inl x :: st) Q := by
  intro p e R s m args below meth c D cA ad A0 H locs lsa C hP hD hS hl
  exact lv_tableIn C.1 C.2.1 hd h1 h2 ho ht (k p e R s m args below meth c D cA ad A0 H locs lsa C hP hD hS hl)
theorem q_tableOut {dflt lo hi : Int} {offs : Array Int} {len : Nat} {x : Int32} (tgt : Nat) (hd : decode cc pc = .ok (.tableswitch dflt lo hi offs, len)) (h : x.toInt < lo ∨ hi < x.toInt) (ht : (pc : Int) + dflt = (tgt : Int)) (k : q_E l cc nL ret own d S tgt ls st Q) : q_E l cc nL ret own d S pc ls (.inl x :: st) Q := by
  intro p e R s m args below meth c D cA ad A0 H locs lsa C hP hD hS hl
  exact lv_tableOut C.1 C.2.1 hd h ht (k p e R s m args below meth c D cA ad A0 H locs lsa C hP hD hS hl)
def q_FL (own : String) (idx ci j : Nat) : Prop := ∃ (C : String) (T : u_T) (N : Nat), vwCl[ci]? = some (C, T, N) ∧ j < N ∧ Cond.fieldLink own idx (T j).1 (T j).2.1 (T j).2.2.1 ∈ q_tbl ∧ (∀ w ∈ u_ws C T N, w ∈ q_tbl)
def q_FP (ci j : Nat) : Prop := ∀ (C : String) (T : u_T) (N : Nat), vwCl[ci]? = some (C, T, N) → ∃ ty0 : Nat → FieldType, (∀ k, k < N → parseFieldDescriptor (T k).2.2.1 = some (ty0 k)) ∧ (∀ a, a < N → ∀ b, b < N → a ≠ b → (T a).2.1 ≠ (T b).2.1) ∧ (T j).2.2.2 = false ∧ parseFieldDescriptor (T j).2.2.1 = some .int
theorem q_geti {idx ci j k : Nat} {fs : List (Option Nat)} (hd : decode cc pc = .ok (.getfield idx, 3)) (hf : q_FL own idx ci j) (hy : q_lay[k]? = some (.inr (ci, fs))) (hv : fs[j]? = some (none)) (kk : q_E l cc nL ret own d S (pc + 3) ls (.inl (S k j) :: st) Q) : q_E l cc nL ret own d S pc ls (.inr k :: st) Q := by
  intro p e R s m args below meth c D cA ad A0 H locs lsa C hP hD hS hl
  obtain ⟨CC, T, N, h1, h2, h3, h4⟩ := hf
  refine va_get (D := D) (ci := ci) (v := .int (S k j)) (C := CC) (T := T) (N := N) C.1 C.2.1 C.2.2.2.2.2.1 h4 C.2.2.2.2.1 C.2.2.2.2.2.2.1 hP k (fs := fs.mapIdx (fun j f => q_f ad (S k) j f)) (q_w_get hy) h1 j h2 (C.2.2.2.2.2.1 _ h3) (fun _ h9 => h9) ?_ hd (kk p e R s m args below meth c D cA ad A0 H locs lsa C hP hD hS hl)
  rw [List.getElem?_mapIdx, hv]
  rfl
theorem q_getr {idx ci j k k2 : Nat} {fs : List (Option Nat)} (hd : decode cc pc = .ok (.getfield idx, 3)) (hf : q_FL own idx ci j) (hy : q_lay[k]? = some (.inr (ci, fs))) (hv : fs[j]? = some (some k2)) (kk : q_E l cc nL ret own d S (pc + 3) ls (.inr k2 :: st) Q) : q_E l cc nL ret own d S pc ls (.inr k :: st) Q := by
  intro p e R s m args below meth c D cA ad A0 H locs lsa C hP hD hS hl
  obtain ⟨CC, T, N, h1, h2, h3, h4⟩ := hf
  refine va_get (D := D) (ci := ci) (v := .ref (ad k2)) (C := CC) (T := T) (N := N) C.1 C.2.1 C.2.2.2.2.2.1 h4 C.2.2.2.2.1 C.2.2.2.2.2.2.1 hP k (fs := fs.mapIdx (fun j f => q_f ad (S k) j f)) (q_w_get hy) h1 j h2 (C.2.2.2.2.2.1 _ h3) (fun _ h9 => h9) ?_ hd (kk p e R s m args below meth c D cA ad A0 H locs lsa C hP hD hS hl)
  rw [List.getElem?_mapIdx, hv]
  rfl
theorem q_put {idx ci j k : Nat} {fs : List (Option Nat)} {x : Int32} (hd : decode cc pc = .ok (.putfield idx, 3)) (hf : q_FL own idx ci j) (hp : q_FP ci j) (hy : q_lay[k]? = some (.inr (ci, fs))) (hv : fs[j]? = some none) (kk : q_E l cc nL ret own d (q_up S k j x) (pc + 3) ls st Q) : q_E l cc nL ret own d S pc ls (.inl x :: .inr k :: st) Q := by
  intro p e R s m args below meth c D cA ad A0 H locs lsa C hP hD hS hl
  obtain ⟨CC, T, N, h1, h2, h3, h4⟩ := hf
  obtain ⟨ty0, g1, g2, g3, g4⟩ := hp CC T N h1
  refine va_put (D := D) (ci := ci) (v := .int x) (ty := .int) (C := CC) (T := T) (N := N) C.1 C.2.1 C.2.2.2.2.2.1 h4 ty0 g1 g2 C.2.2.2.2.1 C.2.2.2.2.2.2.1 hP hD hS k (fs := fs.mapIdx (fun j f => q_f ad (S k) j f)) (q_w_get hy) h1 j h2 (C.2.2.2.2.2.1 _ h3) (fun _ h9 => h9) g3 g4 rfl rfl (by simpa using (List.getElem?_eq_some_iff.mp hv).1) hd (fun H1 locs1 hP1 hD1 hS1 => ?_)
  rw [q_w_set hy (q_e_put hv)] at hP1 hD1
  exact kk p e R s m args below meth c D cA ad A0 H1 locs1 lsa C hP1 hD1 hS1 hl
theorem q_iald {k n : Nat} {i : Int32} (hd : decode cc pc = .ok (.iaload, 1)) (hy : q_lay[k]? = some (.inl n)) (hin : vp_in i n) (kk : q_E l cc nL ret own d S (pc + 1) ls (.inl (S k i.toNatClampNeg) :: st) Q) : q_E l cc nL ret own d S pc ls (.inl i :: .inr k :: st) Q := by
  intro p e R s m args below meth c D cA ad A0 H locs lsa C hP hD hS hl
  exact va_iald C.1 C.2.1 C.2.2.2.2.2.2.1 hP k 0 (q_w_get hy) rfl hin hd (kk p e R s m args below meth c D cA ad A0 H locs lsa C hP hD hS hl)
theorem q_iast {k n : Nat} {i x : Int32} (hd : decode cc pc = .ok (.iastore, 1)) (hy : q_lay[k]? = some (.inl n)) (hin : vp_in i n) (kk : q_E l cc nL ret own d (q_up S k i.toNatClampNeg x) (pc + 1) ls st Q) : q_E l cc nL ret own d S pc ls (.inl x :: .inl i :: .inr k :: st) Q := by
  intro p e R s m args below meth c D cA ad A0 H locs lsa C hP hD hS hl
  refine va_iast C.1 C.2.1 C.2.2.2.2.2.2.1 hP hD hS k 0 (q_w_get hy) rfl hin hd (fun H1 locs1 hP1 hD1 hS1 => ?_)
  rw [q_w_set (j := i.toNatClampNeg) (v := x) (E := .inl (cA, n, .inl (upd (S k) i.toNatClampNeg x))) hy rfl] at hP1 hD1
  exact kk p e R s m args below meth c D cA ad A0 H1 locs1 lsa C hP1 hD1 hS1 hl
theorem q_ret {v : Int32} {ty : FieldType} (hd : decode cc pc = .ok (.ireturn, 1)) (hr : ret = some ty) (hn : narrow ty (.int v) = .int v) (k : Q (some v) S) : q_E l cc nL ret own d S pc ls [.inl v] Q := by
  intro p e R s m args below meth c D cA ad A0 H locs lsa C hP hD hS hl
  subst hr
  exact W.zret C.1 C.2.1 C.2.2.2.1 hn (fun t ht _ => ⟨⟨some v, S, rfl, k, by rw [ht]; exact hP, hD⟩, hS.F ht⟩) hS.2.2 hd C.2.2.2.2.2.2.2.1
theorem q_vret (hd : decode cc pc = .ok (.return_, 1)) (hr : ret = none) (k : Q none S) : q_E l cc nL ret own d S pc ls [] Q := by
  intro p e R s m args below meth c D cA ad A0 H locs lsa C hP hD hS hl
  subst hr
  exact W.vret C.1 C.2.1 C.2.2.2.1 (fun t ht _ => ⟨⟨none, S, rfl, k, by rw [ht]; exact hP, hD⟩, hS.F ht⟩) hS.2.2 hd C.2.2.2.2.2.2.2.1
theorem q_max {idx : Nat} {x y : Int32} (hd : decode cc pc = .ok (.invokestatic idx, 3)) (hk : Cond.methodLink own idx Lib.Math.max.name ∈ q_tbl) (hr : st.length ≤ 8) (h1 : 1 ≤ d) (kk : q_E l cc nL ret own d S (pc + 3) ls (.inl (if x < y then y else x) :: st) Q) : q_E l cc nL ret own d S pc ls (.inl y :: .inl x :: st) Q := by
  intro p e R s m args below meth c D cA ad A0 H locs lsa C hP hD hS hl
  have hst : ((st.map (q_v ad)).map fun v => v.category).sum ≤ 8 := by rw [q_cats]; exact hr
  have hr2 : 30 ≤ R.locals := by have := C.2.2.2.2.2.2.2.2.1.2; omega
  exact va_mmax C.1 C.2.1 (by rw [C.2.2.1, hl.1]) C.2.2.2.2.1 (C.2.2.2.2.2.1 _ hk) (C.2.2.2.2.2.1 _ q_mx1) (C.2.2.2.2.2.1 _ q_mx2) (C.2.2.2.2.2.1 _ q_mx3) (by have := C.2.2.2.2.2.2.2.2.1.1; omega) (by omega) (Nat.zero_le _) (Nat.zero_le _) hd (kk p e R s m args below meth c D cA ad A0 H locs lsa C hP hD hS hl)
def q_CV (own : String) (idx ci : Nat) (y : MethodName) (cc : ByteArray) (nL : Nat) (ret : Option FieldType) (n : Nat) : Prop := ∃ (C : String) (T : u_T) (N : Nat), vwCl[ci]? = some (C, T, N) ∧ y.cls = C ∧ Cond.methodLink own idx y ∈ q_tbl ∧ Cond.instanceMethod y ∈ q_tbl ∧ Cond.selects C y y ∈ q_tbl ∧ Cond.initialized C ∈ q_tbl ∧ Cond.code y cc nL ret ∈ q_tbl ∧ (y.cls ≠ "java/lang/invoke/MethodHandle" ∧ y.cls ≠ "java/lang/invoke/VarHandle" ∧ (parseMethodDescriptor y.desc).map (fun d => d.parameters.length) = some n) ∧ nL ≤ 11
def q_CS (own : String) (idx : Nat) (y : MethodName) (cc : ByteArray) (nL : Nat) (ret : Option FieldType) (n : Nat) : Prop := Cond.methodLink own idx y ∈ q_tbl ∧ Cond.static y ∈ q_tbl ∧ Cond.initialized y.cls ∈ q_tbl ∧ Cond.code y cc nL ret ∈ q_tbl ∧ (y.cls ≠ "java/lang/invoke/MethodHandle" ∧ y.cls ≠ "java/lang/invoke/VarHandle" ∧ (parseMethodDescriptor y.desc).map (fun d => d.parameters.length) = some n) ∧ nL ≤ 11
theorem q_Pc_blind {D : va_G} {cA : ClassId} {ad : Nat → Nat} {sz : Nat} {as : List qV} : FrameBlind (q_Pc D cA ad sz as S) := by
  intro a U g mk ⟨q0, q1, qP, qK, qD, qN⟩
  exact ⟨q0, q1, qP, va_K.moved (u := U) (U := U.calling g mk a) (Vm.Alike.refl U.vm) qK, qD, va_Nw.same rfl rfl qN.1, va_Nw.same rfl rfl qN.2⟩
theorem q_Pc_in {D : va_G} {cA : ClassId} {ad : Nat → Nat} {as : List qV} {s : State} {H : Heap} {A0 : Nat → Prop} (hP : va_P D vwCl (q_w cA ad S) H) (hD : va_D A0 (q_w cA ad S)) (hK : va_K D vwCl [(cA, .int)] s) (hN : q_N s) : ∀ U : State, U.heap = H → s.WarmedH U.vm → q_Pc D cA ad H.size as S (as.map (q_v ad)).toArray U := by
  intro U hU hW
  exact ⟨rfl, by rw [hU], by rw [hU]; exact hP, va_K.moved hW.alike hK, hD.weaken (fun _ _ _ _ => trivial), va_Nw.warmM hW hN.1, va_Nw.warmM hW hN.2⟩
theorem q_A_in {cA : ClassId} {ad : Nat → Nat} {A0 : Nat → Prop} {s : State} {H : Heap} {locs : List Loc} (hD : va_D A0 (q_w cA ad S)) (hS : va_S A0 s.heap H locs) (hA : ∀ q : Nat, s.heap.size ≤ q → A0 q) : ∀ q : Nat, va_A (q_w cA ad S) H.size q → A0 q := by
  intro q h
  rcases h with ⟨k, e, h⟩ | h
  · exact hD.2 k _ h
  · exact hA q (Nat.le_trans hS.1 h)
theorem q_callVi {idx ci k : Nat} {fs : List (Option Nat)} {y : MethodName} {c2 : ByteArray} {n2 n : Nat} {r2 : Option FieldType} {As rest : List qV} (hd : decode cc pc = .ok (.invokevirtual idx, 3)) (hc : q_CV own idx ci y c2 n2 r2 n) (hy : q_lay[k]? = some (.inr (ci, fs))) (hn : As.length = n) (hr : rest.length ≤ 8) (h1 : 1 ≤ d) (hM : q_Mi l (d - 1) y c2 n2 r2 (.inr k :: As) S (fun v S2 => q_E l cc nL ret own d S2 (pc + 3) ls (.inl v :: rest) Q)) : q_E l cc nL ret own d S pc ls (As.reverse ++ .inr k :: rest) Q := by
  intro p e R s m args below meth c D cA ad A0 H locs lsa C hP hD hS hl
  have hts := C.2.2.2.2.2.1
  have hrm : (q_rm (d - 1)).frames + 1 ≤ R.frames ∧ 8 + (n2 + 11) + (q_rm (d - 1)).locals ≤ R.locals := by
    have a1 := C.2.2.2.2.2.2.2.2.1.1
    have a2 := C.2.2.2.2.2.2.2.2.1.2
    have a3 : n2 ≤ 11 := by obtain ⟨_, _, _, _, _, _, _, _, _, _, _, h9⟩ := hc; exact h9
    show d - 1 + 1 ≤ R.frames ∧ 8 + (n2 + 11) + 30 * (d - 1) ≤ R.locals
    omega
  obtain ⟨CC, T, N, g1, g2, g3, g4, g5, g6, g7, g8, g9⟩ := hc
  have hcw : CallW R s args own CC idx y c2 n2 r2 (q_ws y c2 n2 r2) (q_rm (d - 1)) 0 0 n := ⟨callB_of n hts (q_goodIn g7) rfl rfl rfl (by rw [g2]; exact hts _ g6) (hts _ g3) g8 hrm, hts _ g4, hts _ g5⟩
  have hFc := q_A_in hD hS C.2.2.2.2.2.2.2.2.2.1
  refine va_calli (va_runV (As := As.map (q_v ad)) (rest := rest.map (q_v ad)) ⟨C.1, C.2.1, C.2.2.1, C.2.2.2.2.1, hts⟩ (hM D cA ad H.size) hcw ⟨q_Pc_blind, va_recv C.2.2.2.2.2.2.1 hP (ci := ci) (q0 := k) g1 (q_w_get hy), q_Pc_in (as := .inr k :: As) hP hD C.2.2.2.2.2.2.1 C.2.2.2.2.2.2.2.2.2.2⟩ rfl (by rw [List.length_map]; exact hn) hl.1 (by simp [q_v]) (lv_room (by rw [q_cats]; exact hr)) hd ⟨Nat.zero_le _, Nat.zero_le _⟩) hS (fun q _ h => hFc q h) hFc (fun r u t H1 locs1 ht hvm hw hB hz1 hk1 hS1 => ?_)
  obtain ⟨hP1, hD1⟩ := hB
  rw [ht] at hP1
  exact hw p e R s m args below meth c D cA ad A0 H1 locs1 lsa C hP1 (hD1.weaken (fun _ q _ h => hFc q.1 h)) hS1 hl
theorem q_callSi {idx : Nat} {y : MethodName} {c2 : ByteArray} {n2 n : Nat} {r2 : Option FieldType} {As rest : List qV} (hd : decode cc pc = .ok (.invokestatic idx, 3)) (hc : q_CS own idx y c2 n2 r2 n) (hn : As.length = n) (hr : rest.length ≤ 8) (h1 : 1 ≤ d) (hM : q_Mi l (d - 1) y c2 n2 r2 As S (fun v S2 => q_E l cc nL ret own d S2 (pc + 3) ls (.inl v :: rest) Q)) : q_E l cc nL ret own d S pc ls (As.reverse ++ rest) Q := by
  intro p e R s m args below meth c D cA ad A0 H locs lsa C hP hD hS hl
  have hts := C.2.2.2.2.2.1
  have hrm : (q_rm (d - 1)).frames + 1 ≤ R.frames ∧ 8 + (n2 + 11) + (q_rm (d - 1)).locals ≤ R.locals := by
    have a1 := C.2.2.2.2.2.2.2.2.1.1
    have a2 := C.2.2.2.2.2.2.2.2.1.2
    have a3 : n2 ≤ 11 := by obtain ⟨_, _, _, _, _, h9⟩ := hc; exact h9
    show d - 1 + 1 ≤ R.frames ∧ 8 + (n2 + 11) + 30 * (d - 1) ≤ R.locals
    omega
  obtain ⟨g3, g4, g6, g7, g8, g9⟩ := hc
  have hcw : CallB R s args own idx y c2 n2 r2 (q_ws y c2 n2 r2) (q_rm (d - 1)) 0 0 n ∧ (Cond.static y).before args s = true := ⟨callB_of n hts (q_goodIn g7) rfl rfl rfl (hts _ g6) (hts _ g3) g8 hrm, hts _ g4⟩
  have hFc := q_A_in hD hS C.2.2.2.2.2.2.2.2.2.1
  refine va_calli (va_runS (As := As.map (q_v ad)) (rest := rest.map (q_v ad)) ⟨C.1, C.2.1, C.2.2.1, C.2.2.2.2.1, hts⟩ (hM D cA ad H.size) hcw ⟨q_Pc_blind, q_Pc_in (as := As) hP hD C.2.2.2.2.2.2.1 C.2.2.2.2.2.2.2.2.2.2⟩ rfl (by rw [List.length_map]; exact hn) hl.1 (by simp) (lv_room (by rw [q_cats]; exact hr)) hd ⟨Nat.zero_le _, Nat.zero_le _⟩) hS (fun q _ h => hFc q h) hFc (fun r u t H1 locs1 ht hvm hw hB hz1 hk1 hS1 => ?_)
  obtain ⟨hP1, hD1⟩ := hB
  rw [ht] at hP1
  exact hw p e R s m args below meth c D cA ad A0 H1 locs1 lsa C hP1 (hD1.weaken (fun _ q _ h => hFc q.1 h)) hS1 hl
theorem q_callNi {idx : Nat} {y : MethodName} {c2 : ByteArray} {n2 n : Nat} {r2 : Option FieldType} {As rest : List qV} (hd : decode cc pc = .ok (.invokestatic idx, 3)) (hc : (Cond.methodLinkNest own idx y RX8 = Cond.methodLinkNest RX6 48 yX8_isType RX8 ∨ Cond.methodLinkNest own idx y RX8 = Cond.methodLinkNest RX6 61 yX8_isValue RX8) ∧ Cond.static y ∈ q_tbl ∧ Cond.initialized y.cls ∈ q_tbl ∧ Cond.code y c2 n2 r2 ∈ q_tbl ∧ (y.cls ≠ "java/lang/invoke/MethodHandle" ∧ y.cls ≠ "java/lang/invoke/VarHandle" ∧ (parseMethodDescriptor y.desc).map (fun d => d.parameters.length) = some n) ∧ n2 ≤ 11) (hn : As.length = n) (hr : rest.length ≤ 8) (h1 : 1 ≤ d) (hM : q_Mi l (d - 1) y c2 n2 r2 As S (fun v S2 => q_E l cc nL ret own d S2 (pc + 3) ls (.inl v :: rest) Q)) : q_E l cc nL ret own d S pc ls (As.reverse ++ rest) Q := by
  intro p e R s m args below meth c D cA ad A0 H locs lsa C hP hD hS hl
  have hts := C.2.2.2.2.2.1
  have hrm : (q_rm (d - 1)).frames + 1 ≤ R.frames ∧ 8 + (n2 + 11) + (q_rm (d - 1)).locals ≤ R.locals := by
    have a1 := C.2.2.2.2.2.2.2.2.1.1
    have a2 := C.2.2.2.2.2.2.2.2.1.2
    have a3 : n2 ≤ 11 := by obtain ⟨_, _, _, _, _, h9⟩ := hc; exact h9
    show d - 1 + 1 ≤ R.frames ∧ 8 + (n2 + 11) + 30 * (d - 1) ≤ R.locals
    omega
  obtain ⟨g3, g4, g6, g7, g8, g9⟩ := hc
  have hnl : va_Nw (.methodLinkNest own idx y RX8) s := by
    rcases g3 with g | g
    · rw [g]; exact C.2.2.2.2.2.2.2.2.2.2.1
    · rw [g]; exact C.2.2.2.2.2.2.2.2.2.2.2
  have hcw : va_CN R s args own idx y RX8 c2 n2 r2 (q_ws y c2 n2 r2) (q_rm (d - 1)) 0 0 n ∧ (Cond.static y).before args s = true ∧ True := ⟨va_cnB n hts (q_goodIn g7) rfl rfl rfl hnl (hts _ g6) g8 hrm, hts _ g4, trivial⟩
  have hFc := q_A_in hD hS C.2.2.2.2.2.2.2.2.2.1
  refine va_calli (va_runSN (As := As.map (q_v ad)) (rest := rest.map (q_v ad)) ⟨C.1, C.2.1, C.2.2.1, C.2.2.2.2.1, hts⟩ (hM D cA ad H.size) hcw ⟨q_Pc_blind, q_Pc_in (as := As) hP hD C.2.2.2.2.2.2.1 C.2.2.2.2.2.2.2.2.2.2⟩ rfl (by rw [List.length_map]; exact hn) hl.1 (by simp) (lv_room (by rw [q_cats]; exact hr)) hd ⟨Nat.zero_le _, Nat.zero_le _⟩) hS (fun q _ h => hFc q h) hFc (fun r u t H1 locs1 ht hvm hw hB hz1 hk1 hS1 => ?_)
  obtain ⟨hP1, hD1⟩ := hB
  rw [ht] at hP1
  exact hw p e R s m args below meth c D cA ad A0 H1 locs1 lsa C hP1 (hD1.weaken (fun _ q _ h => hFc q.1 h)) hS1 hl
theorem q_callVv {idx ci k : Nat} {fs : List (Option Nat)} {y : MethodName} {c2 : ByteArray} {n2 n : Nat} {r2 : Option FieldType} {As rest : List qV} (hd : decode cc pc = .ok (.invokevirtual idx, 3)) (hc : q_CV own idx ci y c2 n2 r2 n) (hy : q_lay[k]? = some (.inr (ci, fs))) (hn : As.length = n) (hr : rest.length ≤ 8) (h1 : 1 ≤ d) (hM : q_Mv l (d - 1) y c2 n2 r2 (.inr k :: As) S (fun S2 => q_E l cc nL ret own d S2 (pc + 3) ls rest Q)) : q_E l cc nL ret own d S pc ls (As.reverse ++ .inr k :: rest) Q := by
  intro p e R s m args below meth c D cA ad A0 H locs lsa C hP hD hS hl
  have hts := C.2.2.2.2.2.1
  have hrm : (q_rm (d - 1)).frames + 1 ≤ R.frames ∧ 8 + (n2 + 11) + (q_rm (d - 1)).locals ≤ R.locals := by
    have a1 := C.2.2.2.2.2.2.2.2.1.1
    have a2 := C.2.2.2.2.2.2.2.2.1.2
    have a3 : n2 ≤ 11 := by obtain ⟨_, _, _, _, _, _, _, _, _, _, _, h9⟩ := hc; exact h9
    show d - 1 + 1 ≤ R.frames ∧ 8 + (n2 + 11) + 30 * (d - 1) ≤ R.locals
    omega
  obtain ⟨CC, T, N, g1, g2, g3, g4, g5, g6, g7, g8, g9⟩ := hc
  have hcw : CallW R s args own CC idx y c2 n2 r2 (q_ws y c2 n2 r2) (q_rm (d - 1)) 0 0 n := ⟨callB_of n hts (q_goodIn g7) rfl rfl rfl (by rw [g2]; exact hts _ g6) (hts _ g3) g8 hrm, hts _ g4, hts _ g5⟩
  have hFc := q_A_in hD hS C.2.2.2.2.2.2.2.2.2.1
  refine va_callv (va_runV (As := As.map (q_v ad)) (rest := rest.map (q_v ad)) ⟨C.1, C.2.1, C.2.2.1, C.2.2.2.2.1, hts⟩ (hM D cA ad H.size) hcw ⟨q_Pc_blind, va_recv C.2.2.2.2.2.2.1 hP (ci := ci) (q0 := k) g1 (q_w_get hy), q_Pc_in (as := .inr k :: As) hP hD C.2.2.2.2.2.2.1 C.2.2.2.2.2.2.2.2.2.2⟩ rfl (by rw [List.length_map]; exact hn) hl.1 (by simp [q_v]) (lv_room (by rw [q_cats]; exact hr)) hd ⟨Nat.zero_le _, Nat.zero_le _⟩) hS (fun q _ h => hFc q h) hFc (fun u t H1 locs1 ht hvm hw hB hz1 hk1 hS1 => ?_)
  obtain ⟨hP1, hD1⟩ := hB
  rw [ht] at hP1
  exact hw p e R s m args below meth c D cA ad A0 H1 locs1 lsa C hP1 (hD1.weaken (fun _ q _ h => hFc q.1 h)) hS1 hl
theorem q_callVi0 {idx ci k : Nat} {fs : List (Option Nat)} {y : MethodName} {c2 : ByteArray} {n2 : Nat} {r2 : Option FieldType} {rest : List qV} (hd : decode cc pc = .ok (.invokevirtual idx, 3)) (hc : q_CV own idx ci y c2 n2 r2 0) (hy : q_lay[k]? = some (.inr (ci, fs))) (hr : rest.length ≤ 8) (h1 : 1 ≤ d) (hM : q_Mi l (d - 1) y c2 n2 r2 [.inr k] S (fun v S2 => q_E l cc nL ret own d S2 (pc + 3) ls (.inl v :: rest) Q)) : q_E l cc nL ret own d S pc ls (.inr k :: rest) Q := q_callVi (As := []) hd hc hy rfl hr h1 hM
theorem q_callVi1 {idx ci k : Nat} {fs : List (Option Nat)} {y : MethodName} {c2 : ByteArray} {n2 : Nat} {r2 : Option FieldType} {rest : List qV} {a1 : Int32} (hd : decode cc pc = .ok (.invokevirtual idx, 3)) (hc : q_CV own idx ci y c2 n2 r2 1) (hy : q_lay[k]? = some (.inr (ci, fs))) (hr : rest.length ≤ 8) (h1 : 1 ≤ d) (hM : q_Mi l (d - 1) y c2 n2 r2 [.inr k, .inl a1] S (fun v S2 => q_E l cc nL ret own d S2 (pc + 3) ls (.inl v :: rest) Q)) : q_E l cc nL ret own d S pc ls (.inl a1 :: .inr k :: rest) Q := q_callVi (As := [.inl a1]) hd hc hy rfl hr h1 hM
theorem q_callVi2 {idx ci k : Nat} {fs : List (Option Nat)} {y : MethodName} {c2 : ByteArray} {n2 : Nat} {r2 : Option FieldType} {rest : List qV} {a1 a2 : Int32} (hd : decode cc pc = .ok (.invokevirtual idx, 3)) (hc : q_CV own idx ci y c2 n2 r2 2) (hy : q_lay[k]? = some (.inr (ci, fs))) (hr : rest.length ≤ 8) (h1 : 1 ≤ d) (hM : q_Mi l (d - 1) y c2 n2 r2 [.inr k, .inl a1, .inl a2] S (fun v S2 => q_E l cc nL ret own d S2 (pc + 3) ls (.inl v :: rest) Q)) : q_E l cc nL ret own d S pc ls (.inl a2 :: .inl a1 :: .inr k :: rest) Q := q_callVi (As := [.inl a1, .inl a2]) hd hc hy rfl hr h1 hM
theorem q_callVi3 {idx ci k : Nat} {fs : List (Option Nat)} {y : MethodName} {c2 : ByteArray} {n2 : Nat} {r2 : Option FieldType} {rest : List qV} {a1 a2 a3 : Int32} (hd : decode cc pc = .ok (.invokevirtual idx, 3)) (hc : q_CV own idx ci y c2 n2 r2 3) (hy : q_lay[k]? = some (.inr (ci, fs))) (hr : rest.length ≤ 8) (h1 : 1 ≤ d) (hM : q_Mi l (d - 1) y c2 n2 r2 [.inr k, .inl a1, .inl a2, .inl a3] S (fun v S2 => q_E l cc nL ret own d S2 (pc + 3) ls (.inl v :: rest) Q)) : q_E l cc nL ret own d S pc ls (.inl a3 :: .inl a2 :: .inl a1 :: .inr k :: rest) Q := q_callVi (As := [.inl a1, .inl a2, .inl a3]) hd hc hy rfl hr h1 hM
theorem q_callVi4 {idx ci k : Nat} {fs : List (Option Nat)} {y : MethodName} {c2 : ByteArray} {n2 : Nat} {r2 : Option FieldType} {rest : List qV} {a1 a2 a3 a4 : Int32} (hd : decode cc pc = .ok (.invokevirtual idx, 3)) (hc : q_CV own idx ci y c2 n2 r2 4) (hy : q_lay[k]? = some (.inr (ci, fs))) (hr : rest.length ≤ 8) (h1 : 1 ≤ d) (hM : q_Mi l (d - 1) y c2 n2 r2 [.inr k, .inl a1, .inl a2, .inl a3, .inl a4] S (fun v S2 => q_E l cc nL ret own d S2 (pc + 3) ls (.inl v :: rest) Q)) : q_E l cc nL ret own d S pc ls (.inl a4 :: .inl a3 :: .inl a2 :: .inl a1 :: .inr k :: rest) Q := q_callVi (As := [.inl a1, .inl a2, .inl a3, .inl a4]) hd hc hy rfl hr h1 hM
theorem q_callVi5 {idx ci k : Nat} {fs : List (Option Nat)} {y : MethodName} {c2 : ByteArray} {n2 : Nat} {r2 : Option FieldType} {rest : List qV} {a1 a2 a3 a4 a5 : Int32} (hd : decode cc pc = .ok (.invokevirtual idx, 3)) (hc : q_CV own idx ci y c2 n2 r2 5) (hy : q_lay[k]? = some (.inr (ci, fs))) (hr : rest.length ≤ 8) (h1 : 1 ≤ d) (hM : q_Mi l (d - 1) y c2 n2 r2 [.inr k, .inl a1, .inl a2, .inl a3, .inl a4, .inl a5] S (fun v S2 => q_E l cc nL ret own d S2 (pc + 3) ls (.inl v :: rest) Q)) : q_E l cc nL ret own d S pc ls (.inl a5 :: .inl a4 :: .inl a3 :: .inl a2 :: .inl a1 :: .inr k :: rest) Q := q_callVi (As := [.inl a1, .inl a2, .inl a3, .inl a4, .inl a5]) hd hc hy rfl hr h1 hM
theorem q_callVi6 {idx ci k : Nat} {fs : List (Option Nat)} {y : MethodName} {c2 : ByteArray} {n2 : Nat} {r2 : Option FieldType} {rest : List qV} {a1 a2 a3 a4 a5 a6 : Int32} (hd : decode cc pc = .ok (.invokevirtual idx, 3)) (hc : q_CV own idx ci y c2 n2 r2 6) (hy : q_lay[k]? = some (.inr (ci, fs))) (hr : rest.length ≤ 8) (h1 : 1 ≤ d) (hM : q_Mi l (d - 1) y c2 n2 r2 [.inr k, .inl a1, .inl a2, .inl a3, .inl a4, .inl a5, .inl a6] S (fun v S2 => q_E l cc nL ret own d S2 (pc + 3) ls (.inl v :: rest) Q)) : q_E l cc nL ret own d S pc ls (.inl a6 :: .inl a5 :: .inl a4 :: .inl a3 :: .inl a2 :: .inl a1 :: .inr k :: rest) Q := q_callVi (As := [.inl a1, .inl a2, .inl a3, .inl a4, .inl a5, .inl a6]) hd hc hy rfl hr h1 hM
theorem q_callVv0 {idx ci k : Nat} {fs : List (Option Nat)} {y : MethodName} {c2 : ByteArray} {n2 : Nat} {r2 : Option FieldType} {rest : List qV} (hd : decode cc pc = .ok (.invokevirtual idx, 3)) (hc : q_CV own idx ci y c2 n2 r2 0) (hy : q_lay[k]? = some (.inr (ci, fs))) (hr : rest.length ≤ 8) (h1 : 1 ≤ d) (hM : q_Mv l (d - 1) y c2 n2 r2 [.inr k] S (fun S2 => q_E l cc nL ret own d S2 (pc + 3) ls rest Q)) : q_E l cc nL ret own d S pc ls (.inr k :: rest) Q := q_callVv (As := []) hd hc hy rfl hr h1 hM
theorem q_callVv1 {idx ci k : Nat} {fs : List (Option Nat)} {y : MethodName} {c2 : ByteArray} {n2 : Nat} {r2 : Option FieldType} {rest : List qV} {a1 : Int32} (hd : decode cc pc = .ok (.invokevirtual idx, 3)) (hc : q_CV own idx ci y c2 n2 r2 1) (hy : q_lay[k]? = some (.inr (ci, fs))) (hr : rest.length ≤ 8) (h1 : 1 ≤ d) (hM : q_Mv l (d - 1) y c2 n2 r2 [.inr k, .inl a1] S (fun S2 => q_E l cc nL ret own d S2 (pc + 3) ls rest Q)) : q_E l cc nL ret own d S pc ls (.inl a1 :: .inr k :: rest) Q := q_callVv (As := [.inl a1]) hd hc hy rfl hr h1 hM
theorem q_callVv2 {idx ci k : Nat} {fs : List (Option Nat)} {y : MethodName} {c2 : ByteArray} {n2 : Nat} {r2 : Option FieldType} {rest : List qV} {a1 a2 : Int32} (hd : decode cc pc = .ok (.invokevirtual idx, 3)) (hc : q_CV own idx ci y c2 n2 r2 2) (hy : q_lay[k]? = some (.inr (ci, fs))) (hr : rest.length ≤ 8) (h1 : 1 ≤ d) (hM : q_Mv l (d - 1) y c2 n2 r2 [.inr k, .inl a1, .inl a2] S (fun S2 => q_E l cc nL ret own d S2 (pc + 3) ls rest Q)) : q_E l cc nL ret own d S pc ls (.inl a2 :: .inl a1 :: .inr k :: rest) Q := q_callVv (As := [.inl a1, .inl a2]) hd hc hy rfl hr h1 hM
theorem q_callVv3 {idx ci k : Nat} {fs : List (Option Nat)} {y : MethodName} {c2 : ByteArray} {n2 : Nat} {r2 : Option FieldType} {rest : List qV} {a1 a2 a3 : Int32} (hd : decode cc pc = .ok (.invokevirtual idx, 3)) (hc : q_CV own idx ci y c2 n2 r2 3) (hy : q_lay[k]? = some (.inr (ci, fs))) (hr : rest.length ≤ 8) (h1 : 1 ≤ d) (hM : q_Mv l (d - 1) y c2 n2 r2 [.inr k, .inl a1, .inl a2, .inl a3] S (fun S2 => q_E l cc nL ret own d S2 (pc + 3) ls rest Q)) : q_E l cc nL ret own d S pc ls (.inl a3 :: .inl a2 :: .inl a1 :: .inr k :: rest) Q := q_callVv (As := [.inl a1, .inl a2, .inl a3]) hd hc hy rfl hr h1 hM
theorem q_callVv4 {idx ci k : Nat} {fs : List (Option Nat)} {y : MethodName} {c2 : ByteArray} {n2 : Nat} {r2 : Option FieldType} {rest : List qV} {a1 a2 a3 a4 : Int32} (hd : decode cc pc = .ok (.invokevirtual idx, 3)) (hc : q_CV own idx ci y c2 n2 r2 4) (hy : q_lay[k]? = some (.inr (ci, fs))) (hr : rest.length ≤ 8) (h1 : 1 ≤ d) (hM : q_Mv l (d - 1) y c2 n2 r2 [.inr k, .inl a1, .inl a2, .inl a3, .inl a4] S (fun S2 => q_E l cc nL ret own d S2 (pc + 3) ls rest Q)) : q_E l cc nL ret own d S pc ls (.inl a4 :: .inl a3 :: .inl a2 :: .inl a1 :: .inr k :: rest) Q := q_callVv (As := [.inl a1, .inl a2, .inl a3, .inl a4]) hd hc hy rfl hr h1 hM
theorem q_callVv5 {idx ci k : Nat} {fs : List (Option Nat)} {y : MethodName} {c2 : ByteArray} {n2 : Nat} {r2 : Option FieldType} {rest : List qV} {a1 a2 a3 a4 a5 : Int32} (hd : decode cc pc = .ok (.invokevirtual idx, 3)) (hc : q_CV own idx ci y c2 n2 r2 5) (hy : q_lay[k]? = some (.inr (ci, fs))) (hr : rest.length ≤ 8) (h1 : 1 ≤ d) (hM : q_Mv l (d - 1) y c2 n2 r2 [.inr k, .inl a1, .inl a2, .inl a3, .inl a4, .inl a5] S (fun S2 => q_E l cc nL ret own d S2 (pc + 3) ls rest Q)) : q_E l cc nL ret own d S pc ls (.inl a5 :: .inl a4 :: .inl a3 :: .inl a2 :: .inl a1 :: .inr k :: rest) Q := q_callVv (As := [.inl a1, .inl a2, .inl a3, .inl a4, .inl a5]) hd hc hy rfl hr h1 hM
theorem q_callVv6 {idx ci k : Nat} {fs : List (Option Nat)} {y : MethodName} {c2 : ByteArray} {n2 : Nat} {r2 : Option FieldType} {rest : List qV} {a1 a2 a3 a4 a5 a6 : Int32} (hd : decode cc pc = .ok (.invokevirtual idx, 3)) (hc : q_CV own idx ci y c2 n2 r2 6) (hy : q_lay[k]? = some (.inr (ci, fs))) (hr : rest.length ≤ 8) (h1 : 1 ≤ d) (hM : q_Mv l (d - 1) y c2 n2 r2 [.inr k, .inl a1, .inl a2, .inl a3, .inl a4, .inl a5, .inl a6] S (fun S2 => q_E l cc nL ret own d S2 (pc + 3) ls rest Q)) : q_E l cc nL ret own d S pc ls (.inl a6 :: .inl a5 :: .inl a4 :: .inl a3 :: .inl a2 :: .inl a1 :: .inr k :: rest) Q := q_callVv (As := [.inl a1, .inl a2, .inl a3, .inl a4, .inl a5, .inl a6]) hd hc hy rfl hr h1 hM
theorem q_callSi1 {idx : Nat} {y : MethodName} {c2 : ByteArray} {n2 : Nat} {r2 : Option FieldType} {rest : List qV} {a1 : Int32} (hd : decode cc pc = .ok (.invokestatic idx, 3)) (hc : q_CS own idx y c2 n2 r2 1) (hr : rest.length ≤ 8) (h1 : 1 ≤ d) (hM : q_Mi l (d - 1) y c2 n2 r2 [.inl a1] S (fun v S2 => q_E l cc nL ret own d S2 (pc + 3) ls (.inl v :: rest) Q)) : q_E l cc nL ret own d S pc ls (.inl a1 :: rest) Q := q_callSi (As := [.inl a1]) hd hc rfl hr h1 hM
theorem q_callSi2 {idx : Nat} {y : MethodName} {c2 : ByteArray} {n2 : Nat} {r2 : Option FieldType} {rest : List qV} {a1 a2 : Int32} (hd : decode cc pc = .ok (.invokestatic idx, 3)) (hc : q_CS own idx y c2 n2 r2 2) (hr : rest.length ≤ 8) (h1 : 1 ≤ d) (hM : q_Mi l (d - 1) y c2 n2 r2 [.inl a1, .inl a2] S (fun v S2 => q_E l cc nL ret own d S2 (pc + 3) ls (.inl v :: rest) Q)) : q_E l cc nL ret own d S pc ls (.inl a2 :: .inl a1 :: rest) Q := q_callSi (As := [.inl a1, .inl a2]) hd hc rfl hr h1 hM
theorem q_callSi3 {idx : Nat} {y : MethodName} {c2 : ByteArray} {n2 : Nat} {r2 : Option FieldType} {rest : List qV} {a1 a2 a3 : Int32} (hd : decode cc pc = .ok (.invokestatic idx, 3)) (hc : q_CS own idx y c2 n2 r2 3) (hr : rest.length ≤ 8) (h1 : 1 ≤ d) (hM : q_Mi l (d - 1) y c2 n2 r2 [.inl a1, .inl a2, .inl a3] S (fun v S2 => q_E l cc nL ret own d S2 (pc + 3) ls (.inl v :: rest) Q)) : q_E l cc nL ret own d S pc ls (.inl a3 :: .inl a2 :: .inl a1 :: rest) Q := q_callSi (As := [.inl a1, .inl a2, .inl a3]) hd hc rfl hr h1 hM
theorem q_callSi4 {idx : Nat} {y : MethodName} {c2 : ByteArray} {n2 : Nat} {r2 : Option FieldType} {rest : List qV} {a1 a2 a3 a4 : Int32} (hd : decode cc pc = .ok (.invokestatic idx, 3)) (hc : q_CS own idx y c2 n2 r2 4) (hr : rest.length ≤ 8) (h1 : 1 ≤ d) (hM : q_Mi l (d - 1) y c2 n2 r2 [.inl a1, .inl a2, .inl a3, .inl a4] S (fun v S2 => q_E l cc nL ret own d S2 (pc + 3) ls (.inl v :: rest) Q)) : q_E l cc nL ret own d S pc ls (.inl a4 :: .inl a3 :: .inl a2 :: .inl a1 :: rest) Q := q_callSi (As := [.inl a1, .inl a2, .inl a3, .inl a4]) hd hc rfl hr h1 hM
theorem q_callSi5 {idx : Nat} {y : MethodName} {c2 : ByteArray} {n2 : Nat} {r2 : Option FieldType} {rest : List qV} {a1 a2 a3 a4 a5 : Int32} (hd : decode cc pc = .ok (.invokestatic idx, 3)) (hc : q_CS own idx y c2 n2 r2 5) (hr : rest.length ≤ 8) (h1 : 1 ≤ d) (hM : q_Mi l (d - 1) y c2 n2 r2 [.inl a1, .inl a2, .inl a3, .inl a4, .inl a5] S (fun v S2 => q_E l cc nL ret own d S2 (pc + 3) ls (.inl v :: rest) Q)) : q_E l cc nL ret own d S pc ls (.inl a5 :: .inl a4 :: .inl a3 :: .inl a2 :: .inl a1 :: rest) Q := q_callSi (As := [.inl a1, .inl a2, .inl a3, .inl a4, .inl a5]) hd hc rfl hr h1 hM
theorem q_callSi6 {idx : Nat} {y : MethodName} {c2 : ByteArray} {n2 : Nat} {r2 : Option FieldType} {rest : List qV} {a1 a2 a3 a4 a5 a6 : Int32} (hd : decode cc pc = .ok (.invokestatic idx, 3)) (hc : q_CS own idx y c2 n2 r2 6) (hr : rest.length ≤ 8) (h1 : 1 ≤ d) (hM : q_Mi l (d - 1) y c2 n2 r2 [.inl a1, .inl a2, .inl a3, .inl a4, .inl a5, .inl a6] S (fun v S2 => q_E l cc nL ret own d S2 (pc + 3) ls (.inl v :: rest) Q)) : q_E l cc nL ret own d S pc ls (.inl a6 :: .inl a5 :: .inl a4 :: .inl a3 :: .inl a2 :: .inl a1 :: rest) Q := q_callSi (As := [.inl a1, .inl a2, .inl a3, .inl a4, .inl a5, .inl a6]) hd hc rfl hr h1 hM
theorem q_callNi1 {idx : Nat} {y : MethodName} {c2 : ByteArray} {n2 : Nat} {r2 : Option FieldType} {rest : List qV} {a1 : Int32} (hd : decode cc pc = .ok (.invokestatic idx, 3)) (hc : (Cond.methodLinkNest own idx y RX8 = Cond.methodLinkNest RX6 48 yX8_isType RX8 ∨ Cond.methodLinkNest own idx y RX8 = Cond.methodLinkNest RX6 61 yX8_isValue RX8) ∧ Cond.static y ∈ q_tbl ∧ Cond.initialized y.cls ∈ q_tbl ∧ Cond.code y c2 n2 r2 ∈ q_tbl ∧ (y.cls ≠ "java/lang/invoke/MethodHandle" ∧ y.cls ≠ "java/lang/invoke/VarHandle" ∧ (parseMethodDescriptor y.desc).map (fun d => d.parameters.length) = some 1) ∧ n2 ≤ 11) (hr : rest.length ≤ 8) (h1 : 1 ≤ d) (hM : q_Mi l (d - 1) y c2 n2 r2 [.inl a1] S (fun v S2 => q_E l cc nL ret own d S2 (pc + 3) ls (.inl v :: rest) Q)) : q_E l cc nL ret own d S pc ls (.inl a1 :: rest) Q := q_callNi (As := [.inl a1]) hd hc rfl hr h1 hM
theorem q_callNi2 {idx : Nat} {y : MethodName} {c2 : ByteArray} {n2 : Nat} {r2 : Option FieldType} {rest : List qV} {a1 a2 : Int32} (hd : decode cc pc = .ok (.invokestatic idx, 3)) (hc : (Cond.methodLinkNest own idx y RX8 = Cond.methodLinkNest RX6 48 yX8_isType RX8 ∨ Cond.methodLinkNest own idx y RX8 = Cond.methodLinkNest RX6 61 yX8_isValue RX8) ∧ Cond.static y ∈ q_tbl ∧ Cond.initialized y.cls ∈ q_tbl ∧ Cond.code y c2 n2 r2 ∈ q_tbl ∧ (y.cls ≠ "java/lang/invoke/MethodHandle" ∧ y.cls ≠ "java/lang/invoke/VarHandle" ∧ (parseMethodDescriptor y.desc).map (fun d => d.parameters.length) = some 2) ∧ n2 ≤ 11) (hr : rest.length ≤ 8) (h1 : 1 ≤ d) (hM : q_Mi l (d - 1) y c2 n2 r2 [.inl a1, .inl a2] S (fun v S2 => q_E l cc nL ret own d S2 (pc + 3) ls (.inl v :: rest) Q)) : q_E l cc nL ret own d S pc ls (.inl a2 :: .inl a1 :: rest) Q := q_callNi (As := [.inl a1, .inl a2]) hd hc rfl hr h1 hM
def q_b (b : Bool) : Int32 := match b with
  | true => 1
  | false => 0
theorem q_b_nar (b : Bool) : narrow .boolean (.int (q_b b)) = .int (q_b b) := by cases b <;> decide
theorem q_b_0 (b : Bool) : q_b b = 0 ↔ b = false := by cases b <;> decide
theorem q_if_eq_b {b : Bool} {off : Int} (tgt : Nat) (hd : decode cc pc = .ok (.ifCond .eq off, 3)) (ht : (pc : Int) + off = (tgt : Int)) (kt : b = false → q_E l cc nL ret own d S tgt ls st Q) (kf : b = true → q_E l cc nL ret own d S (pc + 3) ls st Q) : q_E l cc nL ret own d S pc ls (.inl (q_b b) :: st) Q := by
  cases b with
  | false => exact q_if_eq tgt hd ht (fun _ => kt rfl) (fun h => absurd rfl h)
  | true => exact q_if_eq tgt hd ht (fun h => absurd h (by decide)) (fun _ => kf rfl)
theorem q_if_ne_b {b : Bool} {off : Int} (tgt : Nat) (hd : decode cc pc = .ok (.ifCond .ne off, 3)) (ht : (pc : Int) + off = (tgt : Int)) (kt : b = true → q_E l cc nL ret own d S tgt ls st Q) (kf : b = false → q_E l cc nL ret own d S (pc + 3) ls st Q) : q_E l cc nL ret own d S pc ls (.inl (q_b b) :: st) Q := by
  cases b with
  | false => exact q_if_ne tgt hd ht (fun h => absurd rfl h) (fun _ => kf rfl)
  | true => exact q_if_ne tgt hd ht (fun _ => kt rfl) (fun h => absurd h (by decide))
end QR
end
section
theorem q_uX0 : ∀ w ∈ u_ws RX0 TX0 2, w ∈ q_tbl := q_fields (fun k hk => match k, hk with
  | 0, _ => q_in1 (i := 137) rfl rfl
  | 1, _ => q_in1 (i := 139) rfl rfl
  | k + 2, hk => absurd hk (by omega))
theorem q_uX1 : ∀ w ∈ u_ws RX1 TX1 8, w ∈ q_tbl := q_fields (fun k hk => match k, hk with
  | 0, _ => q_in1 (i := 163) rfl rfl
  | 1, _ => q_in1 (i := 165) rfl rfl
  | 2, _ => q_in1 (i := 167) rfl rfl
  | 3, _ => q_in1 (i := 169) rfl rfl
  | 4, _ => q_in1 (i := 171) rfl rfl
  | 5, _ => q_in1 (i := 173) rfl rfl
  | 6, _ => q_in1 (i := 175) rfl rfl
  | 7, _ => q_in1 (i := 177) rfl rfl
  | k + 8, hk => absurd hk (by omega))
theorem fp_1_5 : q_FP 1 5 := by
  intro C T N h
  cases h
  exact ⟨tyX1, tyX1_ok, nmX1, rfl, by decide +kernel⟩
theorem fp_1_6 : q_FP 1 6 := by
  intro C T N h
  cases h
  exact ⟨tyX1, tyX1_ok, nmX1, rfl, by decide +kernel⟩
theorem fp_1_7 : q_FP 1 7 := by
  intro C T N h
  cases h
  exact ⟨tyX1, tyX1_ok, nmX1, rfl, by decide +kernel⟩
theorem q_uX3 : ∀ w ∈ u_ws RX3 TX3 4, w ∈ q_tbl := q_fields (fun k hk => match k, hk with
  | 0, _ => q_in1 (i := 65) rfl rfl
  | 1, _ => q_in1 (i := 67) rfl rfl
  | 2, _ => q_in1 (i := 69) rfl rfl
  | 3, _ => q_in1 (i := 71) rfl rfl
  | k + 4, hk => absurd hk (by omega))
theorem q_uX4 : ∀ w ∈ u_ws RX4 TX4 5, w ∈ q_tbl := q_fields (fun k hk => match k, hk with
  | 0, _ => q_in1 (i := 122) rfl rfl
  | 1, _ => q_in1 (i := 124) rfl rfl
  | 2, _ => q_in1 (i := 126) rfl rfl
  | 3, _ => q_in1 (i := 128) rfl rfl
  | 4, _ => q_in1 (i := 130) rfl rfl
  | k + 5, hk => absurd hk (by omega))
theorem q_uX5 : ∀ w ∈ u_ws RX5 TX5 4, w ∈ q_tbl := q_fields (fun k hk => match k, hk with
  | 0, _ => q_in1 (i := 49) rfl rfl
  | 1, _ => q_in1 (i := 51) rfl rfl
  | 2, _ => q_in1 (i := 53) rfl rfl
  | 3, _ => q_in1 (i := 55) rfl rfl
  | k + 4, hk => absurd hk (by omega))
theorem fp_4_3 : q_FP 4 3 := by
  intro C T N h
  cases h
  exact ⟨tyX5, tyX5_ok, nmX5, rfl, by decide +kernel⟩
theorem q_uX6 : ∀ w ∈ u_ws RX6 TX6 6, w ∈ q_tbl := q_fields (fun k hk => match k, hk with
  | 0, _ => q_in1 (i := 197) rfl rfl
  | 1, _ => q_in1 (i := 199) rfl rfl
  | 2, _ => q_in1 (i := 201) rfl rfl
  | 3, _ => q_in1 (i := 203) rfl rfl
  | 4, _ => q_in1 (i := 205) rfl rfl
  | 5, _ => q_in1 (i := 207) rfl rfl
  | k + 6, hk => absurd hk (by omega))
theorem fp_5_1 : q_FP 5 1 := by
  intro C T N h
  cases h
  exact ⟨tyX6, tyX6_ok, nmX6, rfl, by decide +kernel⟩
theorem fp_5_5 : q_FP 5 5 := by
  intro C T N h
  cases h
  exact ⟨tyX6, tyX6_ok, nmX6, rfl, by decide +kernel⟩
theorem q_uX7 : ∀ w ∈ u_ws RX7 TX7 3, w ∈ q_tbl := q_fields (fun k hk => match k, hk with
  | 0, _ => q_in1 (i := 96) rfl rfl
  | 1, _ => q_in1 (i := 98) rfl rfl
  | 2, _ => q_in1 (i := 100) rfl rfl
  | k + 3, hk => absurd hk (by omega))
theorem q_uX8 : ∀ w ∈ u_ws RX8 TX8 7, w ∈ q_tbl := q_fields (fun k hk => match k, hk with
  | 0, _ => q_in1 (i := 217) rfl rfl
  | 1, _ => q_in1 (i := 219) rfl rfl
  | 2, _ => q_in1 (i := 221) rfl rfl
  | 3, _ => q_in1 (i := 223) rfl rfl
  | 4, _ => q_in1 (i := 225) rfl rfl
  | 5, _ => q_in1 (i := 227) rfl rfl
  | 6, _ => q_in1 (i := 229) rfl rfl
  | k + 7, hk => absurd hk (by omega))
theorem fp_7_6 : q_FP 7 6 := by
  intro C T N h
  cases h
  exact ⟨tyX8, tyX8_ok, nmX8, rfl, by decide +kernel⟩
theorem q_uX9 : ∀ w ∈ u_ws RX9 TX9 17, w ∈ q_tbl := q_fields (fun k hk => match k, hk with
  | 0, _ => q_in3 (i := 139) rfl rfl
  | 1, _ => q_in3 (i := 141) rfl rfl
  | 2, _ => q_in3 (i := 143) rfl rfl
  | 3, _ => q_in3 (i := 145) rfl rfl
  | 4, _ => q_in3 (i := 147) rfl rfl
  | 5, _ => q_in3 (i := 149) rfl rfl
  | 6, _ => q_in3 (i := 151) rfl rfl
  | 7, _ => q_in3 (i := 153) rfl rfl
  | 8, _ => q_in3 (i := 155) rfl rfl
  | 9, _ => q_in3 (i := 157) rfl rfl
  | 10, _ => q_in3 (i := 159) rfl rfl
  | 11, _ => q_in3 (i := 161) rfl rfl
  | 12, _ => q_in3 (i := 163) rfl rfl
  | 13, _ => q_in3 (i := 165) rfl rfl
  | 14, _ => q_in3 (i := 167) rfl rfl
  | 15, _ => q_in3 (i := 169) rfl rfl
  | 16, _ => q_in3 (i := 171) rfl rfl
  | k + 17, hk => absurd hk (by omega))
theorem fp_8_0 : q_FP 8 0 := by
  intro C T N h
  cases h
  exact ⟨tyX9, tyX9_ok, nmX9, rfl, by decide +kernel⟩
theorem fp_8_2 : q_FP 8 2 := by
  intro C T N h
  cases h
  exact ⟨tyX9, tyX9_ok, nmX9, rfl, by decide +kernel⟩
theorem fp_8_4 : q_FP 8 4 := by
  intro C T N h
  cases h
  exact ⟨tyX9, tyX9_ok, nmX9, rfl, by decide +kernel⟩
theorem fp_8_6 : q_FP 8 6 := by
  intro C T N h
  cases h
  exact ⟨tyX9, tyX9_ok, nmX9, rfl, by decide +kernel⟩
theorem fp_8_8 : q_FP 8 8 := by
  intro C T N h
  cases h
  exact ⟨tyX9, tyX9_ok, nmX9, rfl, by decide +kernel⟩
theorem fp_8_9 : q_FP 8 9 := by
  intro C T N h
  cases h
  exact ⟨tyX9, tyX9_ok, nmX9, rfl, by decide +kernel⟩
theorem fp_8_10 : q_FP 8 10 := by
  intro C T N h
  cases h
  exact ⟨tyX9, tyX9_ok, nmX9, rfl, by decide +kernel⟩
theorem fp_8_12 : q_FP 8 12 := by
  intro C T N h
  cases h
  exact ⟨tyX9, tyX9_ok, nmX9, rfl, by decide +kernel⟩
theorem fp_8_13 : q_FP 8 13 := by
  intro C T N h
  cases h
  exact ⟨tyX9, tyX9_ok, nmX9, rfl, by decide +kernel⟩
theorem fp_8_14 : q_FP 8 14 := by
  intro C T N h
  cases h
  exact ⟨tyX9, tyX9_ok, nmX9, rfl, by decide +kernel⟩
theorem fp_8_16 : q_FP 8 16 := by
  intro C T N h
  cases h
  exact ⟨tyX9, tyX9_ok, nmX9, rfl, by decide +kernel⟩
theorem fl_X0_12 : q_FL RX0 12 0 0 := ⟨RX0, TX0, 2, rfl, by decide, q_in1 (i := 133) rfl rfl, q_uX0⟩
theorem fl_X0_21 : q_FL RX0 21 0 1 := ⟨RX0, TX0, 2, rfl, by decide, q_in1 (i := 135) rfl rfl, q_uX0⟩
theorem fl_X0_29 : q_FL RX0 29 3 4 := ⟨RX4, TX4, 5, rfl, by decide, q_in1 (i := 120) rfl rfl, q_uX4⟩
theorem fl_X0_57 : q_FL RX0 57 6 2 := ⟨RX7, TX7, 3, rfl, by decide, q_in1 (i := 94) rfl rfl, q_uX7⟩
theorem fl_X0_64 : q_FL RX0 64 6 0 := ⟨RX7, TX7, 3, rfl, by decide, q_in1 (i := 89) rfl rfl, q_uX7⟩
theorem fl_X0_68 : q_FL RX0 68 4 3 := ⟨RX5, TX5, 4, rfl, by decide, q_in1 (i := 47) rfl rfl, q_uX5⟩
theorem fl_X0_81 : q_FL RX0 81 4 0 := ⟨RX5, TX5, 4, rfl, by decide, q_in1 (i := 36) rfl rfl, q_uX5⟩
theorem fl_X0_87 : q_FL RX0 87 4 1 := ⟨RX5, TX5, 4, rfl, by decide, q_in1 (i := 40) rfl rfl, q_uX5⟩
theorem fl_X0_90 : q_FL RX0 90 3 0 := ⟨RX4, TX4, 5, rfl, by decide, q_in1 (i := 112) rfl rfl, q_uX4⟩
theorem fl_X1_11 : q_FL RX1 11 1 0 := ⟨RX1, TX1, 8, rfl, by decide, q_in1 (i := 148) rfl rfl, q_uX1⟩
theorem fl_X1_15 : q_FL RX1 15 1 1 := ⟨RX1, TX1, 8, rfl, by decide, q_in1 (i := 150) rfl rfl, q_uX1⟩
theorem fl_X1_18 : q_FL RX1 18 1 2 := ⟨RX1, TX1, 8, rfl, by decide, q_in1 (i := 152) rfl rfl, q_uX1⟩
theorem fl_X1_21 : q_FL RX1 21 1 3 := ⟨RX1, TX1, 8, rfl, by decide, q_in1 (i := 154) rfl rfl, q_uX1⟩
theorem fl_X1_24 : q_FL RX1 24 1 4 := ⟨RX1, TX1, 8, rfl, by decide, q_in1 (i := 156) rfl rfl, q_uX1⟩
theorem fl_X1_27 : q_FL RX1 27 1 5 := ⟨RX1, TX1, 8, rfl, by decide, q_in1 (i := 157) rfl rfl, q_uX1⟩
theorem fl_X1_31 : q_FL RX1 31 1 6 := ⟨RX1, TX1, 8, rfl, by decide, q_in1 (i := 159) rfl rfl, q_uX1⟩
theorem fl_X1_34 : q_FL RX1 34 1 7 := ⟨RX1, TX1, 8, rfl, by decide, q_in1 (i := 161) rfl rfl, q_uX1⟩
theorem fl_X3_16 : q_FL RX3 16 2 0 := ⟨RX3, TX3, 4, rfl, by decide, q_in1 (i := 59) rfl rfl, q_uX3⟩
theorem fl_X3_20 : q_FL RX3 20 2 1 := ⟨RX3, TX3, 4, rfl, by decide, q_in1 (i := 61) rfl rfl, q_uX3⟩
theorem fl_X3_24 : q_FL RX3 24 2 2 := ⟨RX3, TX3, 4, rfl, by decide, q_in1 (i := 63) rfl rfl, q_uX3⟩
theorem fl_X3_27 : q_FL RX3 27 2 3 := ⟨RX3, TX3, 4, rfl, by decide, q_in1 (i := 64) rfl rfl, q_uX3⟩
theorem fl_X3_34 : q_FL RX3 34 4 3 := ⟨RX5, TX5, 4, rfl, by decide, q_in1 (i := 46) rfl rfl, q_uX5⟩
theorem fl_X4_16 : q_FL RX4 16 3 0 := ⟨RX4, TX4, 5, rfl, by decide, q_in1 (i := 111) rfl rfl, q_uX4⟩
theorem fl_X4_20 : q_FL RX4 20 3 1 := ⟨RX4, TX4, 5, rfl, by decide, q_in1 (i := 114) rfl rfl, q_uX4⟩
theorem fl_X4_24 : q_FL RX4 24 3 2 := ⟨RX4, TX4, 5, rfl, by decide, q_in1 (i := 115) rfl rfl, q_uX4⟩
theorem fl_X4_27 : q_FL RX4 27 3 3 := ⟨RX4, TX4, 5, rfl, by decide, q_in1 (i := 117) rfl rfl, q_uX4⟩
theorem fl_X4_30 : q_FL RX4 30 3 4 := ⟨RX4, TX4, 5, rfl, by decide, q_in1 (i := 119) rfl rfl, q_uX4⟩
theorem fl_X4_33 : q_FL RX4 33 4 3 := ⟨RX5, TX5, 4, rfl, by decide, q_in1 (i := 44) rfl rfl, q_uX5⟩
theorem fl_X4_66 : q_FL RX4 66 4 0 := ⟨RX5, TX5, 4, rfl, by decide, q_in1 (i := 37) rfl rfl, q_uX5⟩
theorem fl_X5_15 : q_FL RX5 15 4 2 := ⟨RX5, TX5, 4, rfl, by decide, q_in1 (i := 42) rfl rfl, q_uX5⟩
theorem fl_X5_21 : q_FL RX5 21 4 0 := ⟨RX5, TX5, 4, rfl, by decide, q_in1 (i := 35) rfl rfl, q_uX5⟩
theorem fl_X5_25 : q_FL RX5 25 4 1 := ⟨RX5, TX5, 4, rfl, by decide, q_in1 (i := 39) rfl rfl, q_uX5⟩
theorem fl_X5_28 : q_FL RX5 28 4 3 := ⟨RX5, TX5, 4, rfl, by decide, q_in1 (i := 43) rfl rfl, q_uX5⟩
theorem fl_X6_11 : q_FL RX6 11 5 0 := ⟨RX6, TX6, 6, rfl, by decide, q_in1 (i := 186) rfl rfl, q_uX6⟩
theorem fl_X6_15 : q_FL RX6 15 5 1 := ⟨RX6, TX6, 6, rfl, by decide, q_in1 (i := 187) rfl rfl, q_uX6⟩
theorem fl_X6_19 : q_FL RX6 19 5 2 := ⟨RX6, TX6, 6, rfl, by decide, q_in1 (i := 189) rfl rfl, q_uX6⟩
theorem fl_X6_22 : q_FL RX6 22 5 3 := ⟨RX6, TX6, 6, rfl, by decide, q_in1 (i := 191) rfl rfl, q_uX6⟩
theorem fl_X6_25 : q_FL RX6 25 5 4 := ⟨RX6, TX6, 6, rfl, by decide, q_in1 (i := 193) rfl rfl, q_uX6⟩
theorem fl_X6_28 : q_FL RX6 28 5 5 := ⟨RX6, TX6, 6, rfl, by decide, q_in1 (i := 195) rfl rfl, q_uX6⟩
theorem fl_X7_16 : q_FL RX7 16 6 0 := ⟨RX7, TX7, 3, rfl, by decide, q_in1 (i := 88) rfl rfl, q_uX7⟩
theorem fl_X7_20 : q_FL RX7 20 6 1 := ⟨RX7, TX7, 3, rfl, by decide, q_in1 (i := 91) rfl rfl, q_uX7⟩
theorem fl_X7_24 : q_FL RX7 24 6 2 := ⟨RX7, TX7, 3, rfl, by decide, q_in1 (i := 93) rfl rfl, q_uX7⟩
theorem fl_X7_31 : q_FL RX7 31 4 3 := ⟨RX5, TX5, 4, rfl, by decide, q_in1 (i := 45) rfl rfl, q_uX5⟩
theorem fl_X8_10 : q_FL RX8 10 7 0 := ⟨RX8, TX8, 7, rfl, by decide, q_in1 (i := 210) rfl rfl, q_uX8⟩
theorem fl_X8_19 : q_FL RX8 19 7 1 := ⟨RX8, TX8, 7, rfl, by decide, q_in1 (i := 211) rfl rfl, q_uX8⟩
theorem fl_X8_23 : q_FL RX8 23 0 0 := ⟨RX0, TX0, 2, rfl, by decide, q_in1 (i := 134) rfl rfl, q_uX0⟩
theorem fl_X8_27 : q_FL RX8 27 7 2 := ⟨RX8, TX8, 7, rfl, by decide, q_in1 (i := 212) rfl rfl, q_uX8⟩
theorem fl_X8_28 : q_FL RX8 28 0 1 := ⟨RX0, TX0, 2, rfl, by decide, q_in1 (i := 136) rfl rfl, q_uX0⟩
theorem fl_X8_32 : q_FL RX8 32 7 3 := ⟨RX8, TX8, 7, rfl, by decide, q_in1 (i := 213) rfl rfl, q_uX8⟩
theorem fl_X8_36 : q_FL RX8 36 7 4 := ⟨RX8, TX8, 7, rfl, by decide, q_in1 (i := 214) rfl rfl, q_uX8⟩
theorem fl_X8_43 : q_FL RX8 43 7 5 := ⟨RX8, TX8, 7, rfl, by decide, q_in1 (i := 215) rfl rfl, q_uX8⟩
theorem fl_X8_47 : q_FL RX8 47 7 6 := ⟨RX8, TX8, 7, rfl, by decide, q_in1 (i := 216) rfl rfl, q_uX8⟩
theorem fl_X8_61 : q_FL RX8 61 2 0 := ⟨RX3, TX3, 4, rfl, by decide, q_in1 (i := 60) rfl rfl, q_uX3⟩
theorem fl_X8_86 : q_FL RX8 86 2 1 := ⟨RX3, TX3, 4, rfl, by decide, q_in1 (i := 62) rfl rfl, q_uX3⟩
theorem fl_X8_111 : q_FL RX8 111 6 0 := ⟨RX7, TX7, 3, rfl, by decide, q_in1 (i := 90) rfl rfl, q_uX7⟩
theorem fl_X8_119 : q_FL RX8 119 6 1 := ⟨RX7, TX7, 3, rfl, by decide, q_in1 (i := 92) rfl rfl, q_uX7⟩
theorem fl_X8_120 : q_FL RX8 120 6 2 := ⟨RX7, TX7, 3, rfl, by decide, q_in1 (i := 95) rfl rfl, q_uX7⟩
theorem fl_X8_123 : q_FL RX8 123 4 0 := ⟨RX5, TX5, 4, rfl, by decide, q_in1 (i := 38) rfl rfl, q_uX5⟩
theorem fl_X8_126 : q_FL RX8 126 4 1 := ⟨RX5, TX5, 4, rfl, by decide, q_in1 (i := 41) rfl rfl, q_uX5⟩
theorem fl_X8_136 : q_FL RX8 136 3 0 := ⟨RX4, TX4, 5, rfl, by decide, q_in1 (i := 113) rfl rfl, q_uX4⟩
theorem fl_X8_137 : q_FL RX8 137 4 3 := ⟨RX5, TX5, 4, rfl, by decide, q_in1 (i := 48) rfl rfl, q_uX5⟩
theorem fl_X8_140 : q_FL RX8 140 1 5 := ⟨RX1, TX1, 8, rfl, by decide, q_in1 (i := 158) rfl rfl, q_uX1⟩
theorem fl_X8_143 : q_FL RX8 143 1 6 := ⟨RX1, TX1, 8, rfl, by decide, q_in1 (i := 160) rfl rfl, q_uX1⟩
theorem fl_X8_164 : q_FL RX8 164 3 4 := ⟨RX4, TX4, 5, rfl, by decide, q_in1 (i := 121) rfl rfl, q_uX4⟩
theorem fl_X8_173 : q_FL RX8 173 3 2 := ⟨RX4, TX4, 5, rfl, by decide, q_in1 (i := 116) rfl rfl, q_uX4⟩
theorem fl_X8_176 : q_FL RX8 176 3 3 := ⟨RX4, TX4, 5, rfl, by decide, q_in1 (i := 118) rfl rfl, q_uX4⟩
theorem fl_X8_186 : q_FL RX8 186 5 5 := ⟨RX6, TX6, 6, rfl, by decide, q_in1 (i := 196) rfl rfl, q_uX6⟩
theorem fl_X8_196 : q_FL RX8 196 5 4 := ⟨RX6, TX6, 6, rfl, by decide, q_in1 (i := 194) rfl rfl, q_uX6⟩
theorem fl_X8_197 : q_FL RX8 197 5 2 := ⟨RX6, TX6, 6, rfl, by decide, q_in1 (i := 190) rfl rfl, q_uX6⟩
theorem fl_X8_198 : q_FL RX8 198 5 3 := ⟨RX6, TX6, 6, rfl, by decide, q_in1 (i := 192) rfl rfl, q_uX6⟩
theorem fl_X8_224 : q_FL RX8 224 1 7 := ⟨RX1, TX1, 8, rfl, by decide, q_in1 (i := 162) rfl rfl, q_uX1⟩
theorem fl_X8_231 : q_FL RX8 231 1 3 := ⟨RX1, TX1, 8, rfl, by decide, q_in1 (i := 155) rfl rfl, q_uX1⟩
theorem fl_X8_237 : q_FL RX8 237 1 0 := ⟨RX1, TX1, 8, rfl, by decide, q_in1 (i := 149) rfl rfl, q_uX1⟩
theorem fl_X8_240 : q_FL RX8 240 1 1 := ⟨RX1, TX1, 8, rfl, by decide, q_in1 (i := 151) rfl rfl, q_uX1⟩
theorem fl_X8_241 : q_FL RX8 241 1 2 := ⟨RX1, TX1, 8, rfl, by decide, q_in1 (i := 153) rfl rfl, q_uX1⟩
theorem fl_X8_242 : q_FL RX8 242 5 1 := ⟨RX6, TX6, 6, rfl, by decide, q_in1 (i := 188) rfl rfl, q_uX6⟩
theorem fl_X9_7 : q_FL RX9 7 8 1 := ⟨RX9, TX9, 17, rfl, by decide, q_in3 (i := 123) rfl rfl, q_uX9⟩
theorem fl_X9_13 : q_FL RX9 13 8 3 := ⟨RX9, TX9, 17, rfl, by decide, q_in3 (i := 125) rfl rfl, q_uX9⟩
theorem fl_X9_16 : q_FL RX9 16 8 5 := ⟨RX9, TX9, 17, rfl, by decide, q_in3 (i := 127) rfl rfl, q_uX9⟩
theorem fl_X9_19 : q_FL RX9 19 8 7 := ⟨RX9, TX9, 17, rfl, by decide, q_in3 (i := 129) rfl rfl, q_uX9⟩
theorem fl_X9_22 : q_FL RX9 22 8 9 := ⟨RX9, TX9, 17, rfl, by decide, q_in3 (i := 131) rfl rfl, q_uX9⟩
theorem fl_X9_26 : q_FL RX9 26 8 11 := ⟨RX9, TX9, 17, rfl, by decide, q_in3 (i := 133) rfl rfl, q_uX9⟩
theorem fl_X9_29 : q_FL RX9 29 8 15 := ⟨RX9, TX9, 17, rfl, by decide, q_in3 (i := 137) rfl rfl, q_uX9⟩
theorem fl_X9_32 : q_FL RX9 32 8 0 := ⟨RX9, TX9, 17, rfl, by decide, q_in3 (i := 122) rfl rfl, q_uX9⟩
theorem fl_X9_58 : q_FL RX9 58 8 2 := ⟨RX9, TX9, 17, rfl, by decide, q_in3 (i := 124) rfl rfl, q_uX9⟩
theorem fl_X9_70 : q_FL RX9 70 8 4 := ⟨RX9, TX9, 17, rfl, by decide, q_in3 (i := 126) rfl rfl, q_uX9⟩
theorem fl_X9_91 : q_FL RX9 91 8 6 := ⟨RX9, TX9, 17, rfl, by decide, q_in3 (i := 128) rfl rfl, q_uX9⟩
theorem fl_X9_94 : q_FL RX9 94 8 8 := ⟨RX9, TX9, 17, rfl, by decide, q_in3 (i := 130) rfl rfl, q_uX9⟩
theorem fl_X9_97 : q_FL RX9 97 8 10 := ⟨RX9, TX9, 17, rfl, by decide, q_in3 (i := 132) rfl rfl, q_uX9⟩
theorem fl_X9_130 : q_FL RX9 130 8 13 := ⟨RX9, TX9, 17, rfl, by decide, q_in3 (i := 135) rfl rfl, q_uX9⟩
theorem fl_X9_159 : q_FL RX9 159 8 12 := ⟨RX9, TX9, 17, rfl, by decide, q_in3 (i := 134) rfl rfl, q_uX9⟩
theorem fl_X9_162 : q_FL RX9 162 8 14 := ⟨RX9, TX9, 17, rfl, by decide, q_in3 (i := 136) rfl rfl, q_uX9⟩
theorem fl_X9_165 : q_FL RX9 165 8 16 := ⟨RX9, TX9, 17, rfl, by decide, q_in3 (i := 138) rfl rfl, q_uX9⟩
theorem wc_X8_pass : Cond.code yX8_pass cX8_pass 2 (some .int) ∈ q_tbl := q_in1 (i := 235) rfl rfl
theorem wi_X8 : Cond.initialized RX8 ∈ q_tbl := q_in1 (i := 1) rfl rfl
theorem wm_X8_pass : Cond.instanceMethod yX8_pass ∈ q_tbl := q_in1 (i := 233) rfl rfl
theorem we_X8_pass : Cond.selects RX8 yX8_pass yX8_pass ∈ q_tbl := q_in1 (i := 234) rfl rfl
theorem wc_X9_pass : Cond.code yX9_pass cX9_pass 2 (some .int) ∈ q_tbl := q_in3 (i := 177) rfl rfl
theorem wi_X9 : Cond.initialized RX9 ∈ q_tbl := q_in1 (i := 10) rfl rfl
theorem wm_X9_pass : Cond.instanceMethod yX9_pass ∈ q_tbl := q_in3 (i := 175) rfl rfl
theorem we_X9_pass : Cond.selects RX9 yX9_pass yX9_pass ∈ q_tbl := q_in3 (i := 176) rfl rfl
theorem wc_X8_time : Cond.code yX8_time cX8_time 1 (some .int) ∈ q_tbl := q_in1 (i := 239) rfl rfl
theorem wm_X8_time : Cond.instanceMethod yX8_time ∈ q_tbl := q_in1 (i := 237) rfl rfl
theorem we_X8_time : Cond.selects RX8 yX8_time yX8_time ∈ q_tbl := q_in1 (i := 238) rfl rfl
theorem wc_X9_time : Cond.code yX9_time cX9_time 1 (some .int) ∈ q_tbl := q_in3 (i := 184) rfl rfl
theorem wm_X9_time : Cond.instanceMethod yX9_time ∈ q_tbl := q_in3 (i := 182) rfl rfl
theorem we_X9_time : Cond.selects RX9 yX9_time yX9_time ∈ q_tbl := q_in3 (i := 183) rfl rfl
theorem wc_X8_addNet : Cond.code yX8_addNet cX8_addNet 4 (some .int) ∈ q_tbl := q_in2 (i := 3) rfl rfl
theorem wm_X8_addNet : Cond.instanceMethod yX8_addNet ∈ q_tbl := q_in2 (i := 1) rfl rfl
theorem we_X8_addNet : Cond.selects RX8 yX8_addNet yX8_addNet ∈ q_tbl := q_in2 (i := 2) rfl rfl
theorem wc_X9_addNet : Cond.code yX9_addNet cX9_addNet 5 (some .int) ∈ q_tbl := q_in3 (i := 188) rfl rfl
theorem wm_X9_addNet : Cond.instanceMethod yX9_addNet ∈ q_tbl := q_in3 (i := 186) rfl rfl
theorem we_X9_addNet : Cond.selects RX9 yX9_addNet yX9_addNet ∈ q_tbl := q_in3 (i := 187) rfl rfl
theorem wc_X8_removeNet : Cond.code yX8_removeNet cX8_removeNet 2 (some .int) ∈ q_tbl := q_in2 (i := 29) rfl rfl
theorem wm_X8_removeNet : Cond.instanceMethod yX8_removeNet ∈ q_tbl := q_in2 (i := 27) rfl rfl
theorem we_X8_removeNet : Cond.selects RX8 yX8_removeNet yX8_removeNet ∈ q_tbl := q_in2 (i := 28) rfl rfl
theorem wc_X9_removeNet : Cond.code yX9_removeNet cX9_removeNet 2 (some .int) ∈ q_tbl := q_in3 (i := 195) rfl rfl
theorem wm_X9_removeNet : Cond.instanceMethod yX9_removeNet ∈ q_tbl := q_in3 (i := 193) rfl rfl
theorem we_X9_removeNet : Cond.selects RX9 yX9_removeNet yX9_removeNet ∈ q_tbl := q_in3 (i := 194) rfl rfl
theorem wc_X8_viewOf : Cond.code yX8_viewOf cX8_viewOf 3 (some .int) ∈ q_tbl := q_in2 (i := 46) rfl rfl
theorem wm_X8_viewOf : Cond.instanceMethod yX8_viewOf ∈ q_tbl := q_in2 (i := 44) rfl rfl
theorem we_X8_viewOf : Cond.selects RX8 yX8_viewOf yX8_viewOf ∈ q_tbl := q_in2 (i := 45) rfl rfl
theorem wc_X9_viewOf : Cond.code yX9_viewOf cX9_viewOf 3 (some .int) ∈ q_tbl := q_in3 (i := 199) rfl rfl
theorem wm_X9_viewOf : Cond.instanceMethod yX9_viewOf ∈ q_tbl := q_in3 (i := 197) rfl rfl
theorem we_X9_viewOf : Cond.selects RX9 yX9_viewOf yX9_viewOf ∈ q_tbl := q_in3 (i := 198) rfl rfl
theorem wc_X8_addZone : Cond.code yX8_addZone cX8_addZone 3 (some .int) ∈ q_tbl := q_in2 (i := 63) rfl rfl
theorem wm_X8_addZone : Cond.instanceMethod yX8_addZone ∈ q_tbl := q_in2 (i := 61) rfl rfl
theorem we_X8_addZone : Cond.selects RX8 yX8_addZone yX8_addZone ∈ q_tbl := q_in2 (i := 62) rfl rfl
theorem wc_X9_addZone : Cond.code yX9_addZone cX9_addZone 4 (some .int) ∈ q_tbl := q_in3 (i := 215) rfl rfl
theorem wm_X9_addZone : Cond.instanceMethod yX9_addZone ∈ q_tbl := q_in3 (i := 213) rfl rfl
theorem we_X9_addZone : Cond.selects RX9 yX9_addZone yX9_addZone ∈ q_tbl := q_in3 (i := 214) rfl rfl
theorem wc_X8_removeZone : Cond.code yX8_removeZone cX8_removeZone 2 (some .int) ∈ q_tbl := q_in2 (i := 86) rfl rfl
theorem wm_X8_removeZone : Cond.instanceMethod yX8_removeZone ∈ q_tbl := q_in2 (i := 84) rfl rfl
theorem we_X8_removeZone : Cond.selects RX8 yX8_removeZone yX8_removeZone ∈ q_tbl := q_in2 (i := 85) rfl rfl
theorem wc_X9_removeZone : Cond.code yX9_removeZone cX9_removeZone 3 (some .int) ∈ q_tbl := q_in3 (i := 235) rfl rfl
theorem wm_X9_removeZone : Cond.instanceMethod yX9_removeZone ∈ q_tbl := q_in3 (i := 233) rfl rfl
theorem we_X9_removeZone : Cond.selects RX9 yX9_removeZone yX9_removeZone ∈ q_tbl := q_in3 (i := 234) rfl rfl
theorem wc_X8_zoneInfo : Cond.code yX8_zoneInfo cX8_zoneInfo 3 (some .int) ∈ q_tbl := q_in2 (i := 95) rfl rfl
theorem wm_X8_zoneInfo : Cond.instanceMethod yX8_zoneInfo ∈ q_tbl := q_in2 (i := 93) rfl rfl
theorem we_X8_zoneInfo : Cond.selects RX8 yX8_zoneInfo yX8_zoneInfo ∈ q_tbl := q_in2 (i := 94) rfl rfl
theorem wc_X9_zoneInfo : Cond.code yX9_zoneInfo cX9_zoneInfo 3 (some .int) ∈ q_tbl := q_in4 (i := 15) rfl rfl
theorem wm_X9_zoneInfo : Cond.instanceMethod yX9_zoneInfo ∈ q_tbl := q_in4 (i := 13) rfl rfl
theorem we_X9_zoneInfo : Cond.selects RX9 yX9_zoneInfo yX9_zoneInfo ∈ q_tbl := q_in4 (i := 14) rfl rfl
theorem wc_X8_count : Cond.code yX8_count cX8_count 2 (some .int) ∈ q_tbl := q_in2 (i := 99) rfl rfl
theorem wm_X8_count : Cond.instanceMethod yX8_count ∈ q_tbl := q_in2 (i := 97) rfl rfl
theorem we_X8_count : Cond.selects RX8 yX8_count yX8_count ∈ q_tbl := q_in2 (i := 98) rfl rfl
theorem wc_X9_count : Cond.code yX9_count cX9_count 4 (some .int) ∈ q_tbl := q_in4 (i := 19) rfl rfl
theorem wm_X9_count : Cond.instanceMethod yX9_count ∈ q_tbl := q_in4 (i := 17) rfl rfl
theorem we_X9_count : Cond.selects RX9 yX9_count yX9_count ∈ q_tbl := q_in4 (i := 18) rfl rfl
theorem wc_X8_set : Cond.code yX8_set cX8_set 5 (some .int) ∈ q_tbl := q_in2 (i := 114) rfl rfl
theorem wm_X8_set : Cond.instanceMethod yX8_set ∈ q_tbl := q_in2 (i := 112) rfl rfl
theorem we_X8_set : Cond.selects RX8 yX8_set yX8_set ∈ q_tbl := q_in2 (i := 113) rfl rfl
theorem wc_X9_set : Cond.code yX9_set cX9_set 5 (some .int) ∈ q_tbl := q_in4 (i := 23) rfl rfl
theorem wm_X9_set : Cond.instanceMethod yX9_set ∈ q_tbl := q_in4 (i := 21) rfl rfl
theorem we_X9_set : Cond.selects RX9 yX9_set yX9_set ∈ q_tbl := q_in4 (i := 22) rfl rfl
theorem wc_X8_clear : Cond.code yX8_clear cX8_clear 5 (some .int) ∈ q_tbl := q_in2 (i := 141) rfl rfl
theorem wm_X8_clear : Cond.instanceMethod yX8_clear ∈ q_tbl := q_in2 (i := 139) rfl rfl
theorem we_X8_clear : Cond.selects RX8 yX8_clear yX8_clear ∈ q_tbl := q_in2 (i := 140) rfl rfl
theorem wc_X9_clear : Cond.code yX9_clear cX9_clear 5 (some .int) ∈ q_tbl := q_in4 (i := 46) rfl rfl
theorem wm_X9_clear : Cond.instanceMethod yX9_clear ∈ q_tbl := q_in4 (i := 44) rfl rfl
theorem we_X9_clear : Cond.selects RX9 yX9_clear yX9_clear ∈ q_tbl := q_in4 (i := 45) rfl rfl
theorem wc_X8_record : Cond.code yX8_record cX8_record 6 (some .int) ∈ q_tbl := q_in2 (i := 151) rfl rfl
theorem wm_X8_record : Cond.instanceMethod yX8_record ∈ q_tbl := q_in2 (i := 149) rfl rfl
theorem we_X8_record : Cond.selects RX8 yX8_record yX8_record ∈ q_tbl := q_in2 (i := 150) rfl rfl
theorem wc_X9_record : Cond.code yX9_record cX9_record 6 (some .int) ∈ q_tbl := q_in4 (i := 50) rfl rfl
theorem wm_X9_record : Cond.instanceMethod yX9_record ∈ q_tbl := q_in4 (i := 48) rfl rfl
theorem we_X9_record : Cond.selects RX9 yX9_record yX9_record ∈ q_tbl := q_in4 (i := 49) rfl rfl
theorem wc_X8_serial : Cond.code yX8_serial cX8_serial 3 (some .int) ∈ q_tbl := q_in2 (i := 155) rfl rfl
theorem wm_X8_serial : Cond.instanceMethod yX8_serial ∈ q_tbl := q_in2 (i := 153) rfl rfl
theorem we_X8_serial : Cond.selects RX8 yX8_serial yX8_serial ∈ q_tbl := q_in2 (i := 154) rfl rfl
theorem wc_X9_serial : Cond.code yX9_serial cX9_serial 5 (some .int) ∈ q_tbl := q_in4 (i := 58) rfl rfl
theorem wm_X9_serial : Cond.instanceMethod yX9_serial ∈ q_tbl := q_in4 (i := 56) rfl rfl
theorem we_X9_serial : Cond.selects RX9 yX9_serial yX9_serial ∈ q_tbl := q_in4 (i := 57) rfl rfl
theorem wc_X8_change : Cond.code yX8_change cX8_change 5 (some .int) ∈ q_tbl := q_in2 (i := 163) rfl rfl
theorem wm_X8_change : Cond.instanceMethod yX8_change ∈ q_tbl := q_in2 (i := 161) rfl rfl
theorem we_X8_change : Cond.selects RX8 yX8_change yX8_change ∈ q_tbl := q_in2 (i := 162) rfl rfl
theorem wc_X9_change : Cond.code yX9_change cX9_change 6 (some .int) ∈ q_tbl := q_in4 (i := 62) rfl rfl
theorem wm_X9_change : Cond.instanceMethod yX9_change ∈ q_tbl := q_in4 (i := 60) rfl rfl
theorem we_X9_change : Cond.selects RX9 yX9_change yX9_change ∈ q_tbl := q_in4 (i := 61) rfl rfl
theorem wc_X8_lay : Cond.code yX8_lay cX8_lay 2 (some .int) ∈ q_tbl := q_in2 (i := 171) rfl rfl
theorem wm_X8_lay : Cond.instanceMethod yX8_lay ∈ q_tbl := q_in2 (i := 169) rfl rfl
theorem we_X8_lay : Cond.selects RX8 yX8_lay yX8_lay ∈ q_tbl := q_in2 (i := 170) rfl rfl
theorem wc_X9_lay : Cond.code yX9_lay cX9_lay 5 (some .int) ∈ q_tbl := q_in4 (i := 192) rfl rfl
theorem wm_X9_lay : Cond.instanceMethod yX9_lay ∈ q_tbl := q_in4 (i := 190) rfl rfl
theorem we_X9_lay : Cond.selects RX9 yX9_lay yX9_lay ∈ q_tbl := q_in4 (i := 191) rfl rfl
theorem wc_X8_answer : Cond.code yX8_answer cX8_answer 5 (some .int) ∈ q_tbl := q_in2 (i := 214) rfl rfl
theorem wm_X8_answer : Cond.instanceMethod yX8_answer ∈ q_tbl := q_in2 (i := 212) rfl rfl
theorem we_X8_answer : Cond.selects RX8 yX8_answer yX8_answer ∈ q_tbl := q_in2 (i := 213) rfl rfl
theorem wc_X9_answer : Cond.code yX9_answer cX9_answer 5 (some .int) ∈ q_tbl := q_in4 (i := 66) rfl rfl
theorem wm_X9_answer : Cond.instanceMethod yX9_answer ∈ q_tbl := q_in4 (i := 64) rfl rfl
theorem we_X9_answer : Cond.selects RX9 yX9_answer yX9_answer ∈ q_tbl := q_in4 (i := 65) rfl rfl
theorem wc_X8_viewAnswer : Cond.code yX8_viewAnswer cX8_viewAnswer 5 (some .int) ∈ q_tbl := q_in3 (i := 23) rfl rfl
theorem wm_X8_viewAnswer : Cond.instanceMethod yX8_viewAnswer ∈ q_tbl := q_in3 (i := 21) rfl rfl
theorem we_X8_viewAnswer : Cond.selects RX8 yX8_viewAnswer yX8_viewAnswer ∈ q_tbl := q_in3 (i := 22) rfl rfl
theorem wc_X9_viewAnswer : Cond.code yX9_viewAnswer cX9_viewAnswer 5 (some .int) ∈ q_tbl := q_in4 (i := 96) rfl rfl
theorem wm_X9_viewAnswer : Cond.instanceMethod yX9_viewAnswer ∈ q_tbl := q_in4 (i := 94) rfl rfl
theorem we_X9_viewAnswer : Cond.selects RX9 yX9_viewAnswer yX9_viewAnswer ∈ q_tbl := q_in4 (i := 95) rfl rfl
theorem wc_X8_zoneFor : Cond.code yX8_zoneFor cX8_zoneFor 5 (some .int) ∈ q_tbl := q_in3 (i := 27) rfl rfl
theorem wm_X8_zoneFor : Cond.instanceMethod yX8_zoneFor ∈ q_tbl := q_in3 (i := 25) rfl rfl
theorem we_X8_zoneFor : Cond.selects RX8 yX8_zoneFor yX8_zoneFor ∈ q_tbl := q_in3 (i := 26) rfl rfl
theorem wc_X9_zoneFor : Cond.code yX9_zoneFor cX9_zoneFor 4 (some .int) ∈ q_tbl := q_in4 (i := 100) rfl rfl
theorem wm_X9_zoneFor : Cond.instanceMethod yX9_zoneFor ∈ q_tbl := q_in4 (i := 98) rfl rfl
theorem we_X9_zoneFor : Cond.selects RX9 yX9_zoneFor yX9_zoneFor ∈ q_tbl := q_in4 (i := 99) rfl rfl
theorem wc_X8_source : Cond.code yX8_source cX8_source 6 (some .int) ∈ q_tbl := q_in3 (i := 32) rfl rfl
theorem wm_X8_source : Cond.instanceMethod yX8_source ∈ q_tbl := q_in3 (i := 30) rfl rfl
theorem we_X8_source : Cond.selects RX8 yX8_source yX8_source ∈ q_tbl := q_in3 (i := 31) rfl rfl
theorem wc_X9_source : Cond.code yX9_source cX9_source 5 (some .int) ∈ q_tbl := q_in4 (i := 104) rfl rfl
theorem wm_X9_source : Cond.instanceMethod yX9_source ∈ q_tbl := q_in4 (i := 102) rfl rfl
theorem we_X9_source : Cond.selects RX9 yX9_source yX9_source ∈ q_tbl := q_in4 (i := 103) rfl rfl
theorem wc_X8_differences : Cond.code yX8_differences cX8_differences 5 (some .int) ∈ q_tbl := q_in3 (i := 37) rfl rfl
theorem wm_X8_differences : Cond.instanceMethod yX8_differences ∈ q_tbl := q_in3 (i := 35) rfl rfl
theorem we_X8_differences : Cond.selects RX8 yX8_differences yX8_differences ∈ q_tbl := q_in3 (i := 36) rfl rfl
theorem wc_X9_differences : Cond.code yX9_differences cX9_differences 5 (some .int) ∈ q_tbl := q_in4 (i := 108) rfl rfl
theorem wm_X9_differences : Cond.instanceMethod yX9_differences ∈ q_tbl := q_in4 (i := 106) rfl rfl
theorem we_X9_differences : Cond.selects RX9 yX9_differences yX9_differences ∈ q_tbl := q_in4 (i := 107) rfl rfl
theorem wc_X8_difference : Cond.code yX8_difference cX8_difference 8 (some .int) ∈ q_tbl := q_in3 (i := 45) rfl rfl
theorem wm_X8_difference : Cond.instanceMethod yX8_difference ∈ q_tbl := q_in3 (i := 43) rfl rfl
theorem we_X8_difference : Cond.selects RX8 yX8_difference yX8_difference ∈ q_tbl := q_in3 (i := 44) rfl rfl
theorem wc_X9_difference : Cond.code yX9_difference cX9_difference 6 (some .int) ∈ q_tbl := q_in4 (i := 116) rfl rfl
theorem wm_X9_difference : Cond.instanceMethod yX9_difference ∈ q_tbl := q_in4 (i := 114) rfl rfl
theorem we_X9_difference : Cond.selects RX9 yX9_difference yX9_difference ∈ q_tbl := q_in4 (i := 115) rfl rfl
theorem wc_X8_split : Cond.code yX8_split cX8_split 5 (some .int) ∈ q_tbl := q_in3 (i := 49) rfl rfl
theorem wm_X8_split : Cond.instanceMethod yX8_split ∈ q_tbl := q_in3 (i := 47) rfl rfl
theorem we_X8_split : Cond.selects RX8 yX8_split yX8_split ∈ q_tbl := q_in3 (i := 48) rfl rfl
theorem wc_X9_split : Cond.code yX9_split cX9_split 5 (some .int) ∈ q_tbl := q_in4 (i := 120) rfl rfl
theorem wm_X9_split : Cond.instanceMethod yX9_split ∈ q_tbl := q_in4 (i := 118) rfl rfl
theorem we_X9_split : Cond.selects RX9 yX9_split yX9_split ∈ q_tbl := q_in4 (i := 119) rfl rfl
theorem wc_X8_since : Cond.code yX8_since cX8_since 7 (some .int) ∈ q_tbl := q_in3 (i := 53) rfl rfl
theorem wm_X8_since : Cond.instanceMethod yX8_since ∈ q_tbl := q_in3 (i := 51) rfl rfl
theorem we_X8_since : Cond.selects RX8 yX8_since yX8_since ∈ q_tbl := q_in3 (i := 52) rfl rfl
theorem wc_X9_since : Cond.code yX9_since cX9_since 6 (some .int) ∈ q_tbl := q_in4 (i := 124) rfl rfl
theorem wm_X9_since : Cond.instanceMethod yX9_since ∈ q_tbl := q_in4 (i := 122) rfl rfl
theorem we_X9_since : Cond.selects RX9 yX9_since yX9_since ∈ q_tbl := q_in4 (i := 123) rfl rfl
theorem wc_X8_seenBy : Cond.code yX8_seenBy cX8_seenBy 7 (some .int) ∈ q_tbl := q_in3 (i := 65) rfl rfl
theorem wm_X8_seenBy : Cond.instanceMethod yX8_seenBy ∈ q_tbl := q_in3 (i := 63) rfl rfl
theorem we_X8_seenBy : Cond.selects RX8 yX8_seenBy yX8_seenBy ∈ q_tbl := q_in3 (i := 64) rfl rfl
theorem wc_X9_seenBy : Cond.code yX9_seenBy cX9_seenBy 8 (some .int) ∈ q_tbl := q_in4 (i := 132) rfl rfl
theorem wm_X9_seenBy : Cond.instanceMethod yX9_seenBy ∈ q_tbl := q_in4 (i := 130) rfl rfl
theorem we_X9_seenBy : Cond.selects RX9 yX9_seenBy yX9_seenBy ∈ q_tbl := q_in4 (i := 131) rfl rfl
theorem wc_X8_setKeeping : Cond.code yX8_setKeeping cX8_setKeeping 3 (some .int) ∈ q_tbl := q_in3 (i := 74) rfl rfl
theorem wm_X8_setKeeping : Cond.instanceMethod yX8_setKeeping ∈ q_tbl := q_in3 (i := 72) rfl rfl
theorem we_X8_setKeeping : Cond.selects RX8 yX8_setKeeping yX8_setKeeping ∈ q_tbl := q_in3 (i := 73) rfl rfl
theorem wc_X9_setKeeping : Cond.code yX9_setKeeping cX9_setKeeping 3 (some .int) ∈ q_tbl := q_in4 (i := 136) rfl rfl
theorem wm_X9_setKeeping : Cond.instanceMethod yX9_setKeeping ∈ q_tbl := q_in4 (i := 134) rfl rfl
theorem we_X9_setKeeping : Cond.selects RX9 yX9_setKeeping yX9_setKeeping ∈ q_tbl := q_in4 (i := 135) rfl rfl
theorem wc_X8_ask : Cond.code yX8_ask cX8_ask 6 (some .int) ∈ q_tbl := q_in3 (i := 78) rfl rfl
theorem wm_X8_ask : Cond.instanceMethod yX8_ask ∈ q_tbl := q_in3 (i := 76) rfl rfl
theorem we_X8_ask : Cond.selects RX8 yX8_ask yX8_ask ∈ q_tbl := q_in3 (i := 77) rfl rfl
theorem wc_X9_ask : Cond.code yX9_ask cX9_ask 6 (some .int) ∈ q_tbl := q_in4 (i := 140) rfl rfl
theorem wm_X9_ask : Cond.instanceMethod yX9_ask ∈ q_tbl := q_in4 (i := 138) rfl rfl
theorem we_X9_ask : Cond.selects RX9 yX9_ask yX9_ask ∈ q_tbl := q_in4 (i := 139) rfl rfl
theorem wc_X8_stale : Cond.code yX8_stale cX8_stale 3 (some .int) ∈ q_tbl := q_in3 (i := 99) rfl rfl
theorem wm_X8_stale : Cond.instanceMethod yX8_stale ∈ q_tbl := q_in3 (i := 97) rfl rfl
theorem we_X8_stale : Cond.selects RX8 yX8_stale yX8_stale ∈ q_tbl := q_in3 (i := 98) rfl rfl
theorem wc_X9_stale : Cond.code yX9_stale cX9_stale 4 (some .int) ∈ q_tbl := q_in4 (i := 152) rfl rfl
theorem wm_X9_stale : Cond.instanceMethod yX9_stale ∈ q_tbl := q_in4 (i := 150) rfl rfl
theorem we_X9_stale : Cond.selects RX9 yX9_stale yX9_stale ∈ q_tbl := q_in4 (i := 151) rfl rfl
theorem wc_X8_type : Cond.code yX8_type cX8_type 2 (some .int) ∈ q_tbl := q_in3 (i := 103) rfl rfl
theorem wm_X8_type : Cond.instanceMethod yX8_type ∈ q_tbl := q_in3 (i := 101) rfl rfl
theorem we_X8_type : Cond.selects RX8 yX8_type yX8_type ∈ q_tbl := q_in3 (i := 102) rfl rfl
theorem wc_X9_type : Cond.code yX9_type cX9_type 2 (some .int) ∈ q_tbl := q_in4 (i := 156) rfl rfl
theorem wm_X9_type : Cond.instanceMethod yX9_type ∈ q_tbl := q_in4 (i := 154) rfl rfl
theorem we_X9_type : Cond.selects RX9 yX9_type yX9_type ∈ q_tbl := q_in4 (i := 155) rfl rfl
theorem wc_X8_clearText : Cond.code yX8_clearText cX8_clearText 2 (some .int) ∈ q_tbl := q_in3 (i := 111) rfl rfl
theorem wm_X8_clearText : Cond.instanceMethod yX8_clearText ∈ q_tbl := q_in3 (i := 109) rfl rfl
theorem we_X8_clearText : Cond.selects RX8 yX8_clearText yX8_clearText ∈ q_tbl := q_in3 (i := 110) rfl rfl
theorem wc_X9_clearText : Cond.code yX9_clearText cX9_clearText 2 (some .int) ∈ q_tbl := q_in4 (i := 160) rfl rfl
theorem wm_X9_clearText : Cond.instanceMethod yX9_clearText ∈ q_tbl := q_in4 (i := 158) rfl rfl
theorem we_X9_clearText : Cond.selects RX9 yX9_clearText yX9_clearText ∈ q_tbl := q_in4 (i := 159) rfl rfl
theorem wc_X8_fault : Cond.code yX8_fault cX8_fault 1 (some .int) ∈ q_tbl := q_in3 (i := 115) rfl rfl
theorem wm_X8_fault : Cond.instanceMethod yX8_fault ∈ q_tbl := q_in3 (i := 113) rfl rfl
theorem we_X8_fault : Cond.selects RX8 yX8_fault yX8_fault ∈ q_tbl := q_in3 (i := 114) rfl rfl
theorem wc_X9_fault : Cond.code yX9_fault cX9_fault 1 (some .int) ∈ q_tbl := q_in4 (i := 164) rfl rfl
theorem wm_X9_fault : Cond.instanceMethod yX9_fault ∈ q_tbl := q_in4 (i := 162) rfl rfl
theorem we_X9_fault : Cond.selects RX9 yX9_fault yX9_fault ∈ q_tbl := q_in4 (i := 163) rfl rfl
theorem wc_X0_recordBehind : Cond.code yX0_recordBehind cX0_recordBehind 11 (some .int) ∈ q_tbl := q_in2 (i := 229) rfl rfl
theorem wi_X0 : Cond.initialized RX0 ∈ q_tbl := q_in1 (i := 5) rfl rfl
theorem wm_X0_recordBehind : Cond.instanceMethod yX0_recordBehind ∈ q_tbl := q_in2 (i := 227) rfl rfl
theorem we_X0_recordBehind : Cond.selects RX0 yX0_recordBehind yX0_recordBehind ∈ q_tbl := q_in2 (i := 228) rfl rfl
theorem cl_X0_25 : q_CV RX0 25 0 yX0_recordBehind cX0_recordBehind 11 (some .int) 4 := ⟨RX0, TX0, 2, rfl, rfl, q_in2 (i := 226) rfl rfl, wm_X0_recordBehind, we_X0_recordBehind, wi_X0, wc_X0_recordBehind, ⟨by decide +kernel, by decide +kernel, by decide +kernel⟩, by decide⟩
theorem wc_X7_responsible : Cond.code yX7_responsible cX7_responsible 7 (some .int) ∈ q_tbl := q_in2 (i := 233) rfl rfl
theorem wi_X7 : Cond.initialized RX7 ∈ q_tbl := q_in1 (i := 6) rfl rfl
theorem wm_X7_responsible : Cond.instanceMethod yX7_responsible ∈ q_tbl := q_in2 (i := 231) rfl rfl
theorem we_X7_responsible : Cond.selects RX7 yX7_responsible yX7_responsible ∈ q_tbl := q_in2 (i := 232) rfl rfl
theorem cl_X0_33 : q_CV RX0 33 6 yX7_responsible cX7_responsible 7 (some .int) 3 := ⟨RX7, TX7, 3, rfl, rfl, q_in2 (i := 230) rfl rfl, wm_X7_responsible, we_X7_responsible, wi_X7, wc_X7_responsible, ⟨by decide +kernel, by decide +kernel, by decide +kernel⟩, by decide⟩
theorem wc_X0_standingFor : Cond.code yX0_standingFor cX0_standingFor 6 (some .int) ∈ q_tbl := q_in3 (i := 5) rfl rfl
theorem wm_X0_standingFor : Cond.instanceMethod yX0_standingFor ∈ q_tbl := q_in3 (i := 3) rfl rfl
theorem we_X0_standingFor : Cond.selects RX0 yX0_standingFor yX0_standingFor ∈ q_tbl := q_in3 (i := 4) rfl rfl
theorem cl_X0_37 : q_CV RX0 37 0 yX0_standingFor cX0_standingFor 6 (some .int) 3 := ⟨RX0, TX0, 2, rfl, rfl, q_in3 (i := 2) rfl rfl, wm_X0_standingFor, we_X0_standingFor, wi_X0, wc_X0_standingFor, ⟨by decide +kernel, by decide +kernel, by decide +kernel⟩, by decide⟩
theorem wc_X4_find : Cond.code yX4_find cX4_find 6 (some .int) ∈ q_tbl := q_in2 (i := 131) rfl rfl
theorem wi_X4 : Cond.initialized RX4 ∈ q_tbl := q_in1 (i := 7) rfl rfl
theorem wm_X4_find : Cond.instanceMethod yX4_find ∈ q_tbl := q_in2 (i := 129) rfl rfl
theorem we_X4_find : Cond.selects RX4 yX4_find yX4_find ∈ q_tbl := q_in2 (i := 130) rfl rfl
theorem cl_X0_40 : q_CV RX0 40 3 yX4_find cX4_find 6 (some .int) 4 := ⟨RX4, TX4, 5, rfl, rfl, q_in3 (i := 19) rfl rfl, wm_X4_find, we_X4_find, wi_X4, wc_X4_find, ⟨by decide +kernel, by decide +kernel, by decide +kernel⟩, by decide⟩
theorem wc_X4_exists : Cond.code yX4_exists cX4_exists 5 (some .boolean) ∈ q_tbl := q_in3 (i := 9) rfl rfl
theorem wm_X4_exists : Cond.instanceMethod yX4_exists ∈ q_tbl := q_in3 (i := 7) rfl rfl
theorem we_X4_exists : Cond.selects RX4 yX4_exists yX4_exists ∈ q_tbl := q_in3 (i := 8) rfl rfl
theorem cl_X0_43 : q_CV RX0 43 3 yX4_exists cX4_exists 5 (some .boolean) 3 := ⟨RX4, TX4, 5, rfl, rfl, q_in3 (i := 6) rfl rfl, wm_X4_exists, we_X4_exists, wi_X4, wc_X4_exists, ⟨by decide +kernel, by decide +kernel, by decide +kernel⟩, by decide⟩
theorem wc_X2_isPattern : Cond.code yX2_isPattern cX2_isPattern 1 (some .boolean) ∈ q_tbl := q_in2 (i := 69) rfl rfl
theorem wi_X2 : Cond.initialized RX2 ∈ q_tbl := q_in1 (i := 11) rfl rfl
theorem wt_X2_isPattern : Cond.static yX2_isPattern ∈ q_tbl := q_in2 (i := 68) rfl rfl
theorem cl_X0_47 : q_CS RX0 47 yX2_isPattern cX2_isPattern 1 (some .boolean) 1 := ⟨q_in3 (i := 11) rfl rfl, wt_X2_isPattern, wi_X2, wc_X2_isPattern, ⟨by decide +kernel, by decide +kernel, by decide +kernel⟩, by decide⟩
theorem wc_X2_patternFor : Cond.code yX2_patternFor cX2_patternFor 2 (some .int) ∈ q_tbl := q_in3 (i := 14) rfl rfl
theorem wt_X2_patternFor : Cond.static yX2_patternFor ∈ q_tbl := q_in3 (i := 13) rfl rfl
theorem cl_X0_53 : q_CS RX0 53 yX2_patternFor cX2_patternFor 2 (some .int) 1 := ⟨q_in3 (i := 12) rfl rfl, wt_X2_patternFor, wi_X2, wc_X2_patternFor, ⟨by decide +kernel, by decide +kernel, by decide +kernel⟩, by decide⟩
theorem wc_X2_isBelow : Cond.code yX2_isBelow cX2_isBelow 2 (some .boolean) ∈ q_tbl := q_in3 (i := 17) rfl rfl
theorem wt_X2_isBelow : Cond.static yX2_isBelow ∈ q_tbl := q_in3 (i := 16) rfl rfl
theorem cl_X0_60 : q_CS RX0 60 yX2_isBelow cX2_isBelow 2 (some .boolean) 2 := ⟨q_in3 (i := 15) rfl rfl, wt_X2_isBelow, wi_X2, wc_X2_isBelow, ⟨by decide +kernel, by decide +kernel, by decide +kernel⟩, by decide⟩
theorem wc_X5_isThere : Cond.code yX5_isThere cX5_isThere 3 (some .boolean) ∈ q_tbl := q_in2 (i := 37) rfl rfl
theorem wi_X5 : Cond.initialized RX5 ∈ q_tbl := q_in1 (i := 3) rfl rfl
theorem wm_X5_isThere : Cond.instanceMethod yX5_isThere ∈ q_tbl := q_in2 (i := 35) rfl rfl
theorem we_X5_isThere : Cond.selects RX5 yX5_isThere yX5_isThere ∈ q_tbl := q_in2 (i := 36) rfl rfl
theorem cl_X0_74 : q_CV RX0 74 4 yX5_isThere cX5_isThere 3 (some .boolean) 2 := ⟨RX5, TX5, 4, rfl, rfl, q_in2 (i := 109) rfl rfl, wm_X5_isThere, we_X5_isThere, wi_X5, wc_X5_isThere, ⟨by decide +kernel, by decide +kernel, by decide +kernel⟩, by decide⟩
theorem wc_X4_countIn : Cond.code yX4_countIn cX4_countIn 5 (some .int) ∈ q_tbl := q_in2 (i := 90) rfl rfl
theorem wm_X4_countIn : Cond.instanceMethod yX4_countIn ∈ q_tbl := q_in2 (i := 88) rfl rfl
theorem we_X4_countIn : Cond.selects RX4 yX4_countIn yX4_countIn ∈ q_tbl := q_in2 (i := 89) rfl rfl
theorem cl_X0_77 : q_CV RX0 77 3 yX4_countIn cX4_countIn 5 (some .int) 2 := ⟨RX4, TX4, 5, rfl, rfl, q_in2 (i := 110) rfl rfl, wm_X4_countIn, we_X4_countIn, wi_X4, wc_X4_countIn, ⟨by decide +kernel, by decide +kernel, by decide +kernel⟩, by decide⟩
theorem wc_X0_laterUpTo : Cond.code yX0_laterUpTo cX0_laterUpTo 3 (some .int) ∈ q_tbl := q_in3 (i := 60) rfl rfl
theorem wt_X0_laterUpTo : Cond.static yX0_laterUpTo ∈ q_tbl := q_in3 (i := 59) rfl rfl
theorem cl_X0_84 : q_CS RX0 84 yX0_laterUpTo cX0_laterUpTo 3 (some .int) 3 := ⟨q_in3 (i := 58) rfl rfl, wt_X0_laterUpTo, wi_X0, wc_X0_laterUpTo, ⟨by decide +kernel, by decide +kernel, by decide +kernel⟩, by decide⟩
theorem ml_X0_91 : Cond.methodLink RX0 91 Lib.Math.max.name ∈ q_tbl := q_in3 (i := 61) rfl rfl
theorem wc_X1_find : Cond.code yX1_find cX1_find 5 (some .int) ∈ q_tbl := q_in3 (i := 82) rfl rfl
theorem wi_X1 : Cond.initialized RX1 ∈ q_tbl := q_in1 (i := 8) rfl rfl
theorem wm_X1_find : Cond.instanceMethod yX1_find ∈ q_tbl := q_in3 (i := 80) rfl rfl
theorem we_X1_find : Cond.selects RX1 yX1_find yX1_find ∈ q_tbl := q_in3 (i := 81) rfl rfl
theorem cl_X1_37 : q_CV RX1 37 1 yX1_find cX1_find 5 (some .int) 3 := ⟨RX1, TX1, 8, rfl, rfl, q_in3 (i := 91) rfl rfl, wm_X1_find, we_X1_find, wi_X1, wc_X1_find, ⟨by decide +kernel, by decide +kernel, by decide +kernel⟩, by decide⟩
theorem wc_X1_forget : Cond.code yX1_forget cX1_forget 3 none ∈ q_tbl := q_in3 (i := 95) rfl rfl
theorem wm_X1_forget : Cond.instanceMethod yX1_forget ∈ q_tbl := q_in3 (i := 94) rfl rfl
theorem we_X1_forget : Cond.selects RX1 yX1_forget yX1_forget ∈ q_tbl := q_in0 (i := 10) rfl rfl
theorem cl_X1_41 : q_CV RX1 41 1 yX1_forget cX1_forget 3 none 1 := ⟨RX1, TX1, 8, rfl, rfl, q_in3 (i := 92) rfl rfl, wm_X1_forget, we_X1_forget, wi_X1, wc_X1_forget, ⟨by decide +kernel, by decide +kernel, by decide +kernel⟩, by decide⟩
theorem wc_X2_lastWeight : Cond.code yX2_lastWeight cX2_lastWeight 1 (some .int) ∈ q_tbl := q_in2 (i := 72) rfl rfl
theorem wt_X2_lastWeight : Cond.static yX2_lastWeight ∈ q_tbl := q_in2 (i := 71) rfl rfl
theorem cl_X2_9 : q_CS RX2 9 yX2_lastWeight cX2_lastWeight 1 (some .int) 1 := ⟨q_in2 (i := 70) rfl rfl, wt_X2_lastWeight, wi_X2, wc_X2_lastWeight, ⟨by decide +kernel, by decide +kernel, by decide +kernel⟩, by decide⟩
theorem wc_X2_isAt : Cond.code yX2_isAt cX2_isAt 2 (some .boolean) ∈ q_tbl := q_in2 (i := 123) rfl rfl
theorem wt_X2_isAt : Cond.static yX2_isAt ∈ q_tbl := q_in2 (i := 122) rfl rfl
theorem cl_X2_13 : q_CS RX2 13 yX2_isAt cX2_isAt 2 (some .boolean) 2 := ⟨q_in3 (i := 18) rfl rfl, wt_X2_isAt, wi_X2, wc_X2_isAt, ⟨by decide +kernel, by decide +kernel, by decide +kernel⟩, by decide⟩
theorem wc_X5_begin : Cond.code yX5_begin cX5_begin 3 (some .int) ∈ q_tbl := q_in2 (i := 24) rfl rfl
theorem wm_X5_begin : Cond.instanceMethod yX5_begin ∈ q_tbl := q_in2 (i := 22) rfl rfl
theorem we_X5_begin : Cond.selects RX5 yX5_begin yX5_begin ∈ q_tbl := q_in2 (i := 23) rfl rfl
theorem cl_X3_30 : q_CV RX3 30 4 yX5_begin cX5_begin 3 (some .int) 1 := ⟨RX5, TX5, 4, rfl, rfl, q_in2 (i := 21) rfl rfl, wm_X5_begin, we_X5_begin, wi_X5, wc_X5_begin, ⟨by decide +kernel, by decide +kernel, by decide +kernel⟩, by decide⟩
theorem wc_X3_contains : Cond.code yX3_contains cX3_contains 4 (some .boolean) ∈ q_tbl := q_in2 (i := 58) rfl rfl
theorem wi_X3 : Cond.initialized RX3 ∈ q_tbl := q_in1 (i := 2) rfl rfl
theorem wm_X3_contains : Cond.instanceMethod yX3_contains ∈ q_tbl := q_in2 (i := 56) rfl rfl
theorem we_X3_contains : Cond.selects RX3 yX3_contains yX3_contains ∈ q_tbl := q_in2 (i := 57) rfl rfl
theorem cl_X3_38 : q_CV RX3 38 2 yX3_contains cX3_contains 4 (some .boolean) 2 := ⟨RX3, TX3, 4, rfl, rfl, q_in2 (i := 55) rfl rfl, wm_X3_contains, we_X3_contains, wi_X3, wc_X3_contains, ⟨by decide +kernel, by decide +kernel, by decide +kernel⟩, by decide⟩
theorem cl_X3_42 : q_CV RX3 42 4 yX5_isThere cX5_isThere 3 (some .boolean) 2 := ⟨RX5, TX5, 4, rfl, rfl, q_in2 (i := 59) rfl rfl, wm_X5_isThere, we_X5_isThere, wi_X5, wc_X5_isThere, ⟨by decide +kernel, by decide +kernel, by decide +kernel⟩, by decide⟩
theorem wc_X3_viewAt : Cond.code yX3_viewAt cX3_viewAt 6 (some .int) ∈ q_tbl := q_in2 (i := 54) rfl rfl
theorem wm_X3_viewAt : Cond.instanceMethod yX3_viewAt ∈ q_tbl := q_in2 (i := 52) rfl rfl
theorem we_X3_viewAt : Cond.selects RX3 yX3_viewAt yX3_viewAt ∈ q_tbl := q_in2 (i := 53) rfl rfl
theorem cl_X3_45 : q_CV RX3 45 2 yX3_viewAt cX3_viewAt 6 (some .int) 2 := ⟨RX3, TX3, 4, rfl, rfl, q_in3 (i := 70) rfl rfl, wm_X3_viewAt, we_X3_viewAt, wi_X3, wc_X3_viewAt, ⟨by decide +kernel, by decide +kernel, by decide +kernel⟩, by decide⟩
theorem cl_X4_37 : q_CV RX4 37 4 yX5_isThere cX5_isThere 3 (some .boolean) 2 := ⟨RX5, TX5, 4, rfl, rfl, q_in2 (i := 91) rfl rfl, wm_X5_isThere, we_X5_isThere, wi_X5, wc_X5_isThere, ⟨by decide +kernel, by decide +kernel, by decide +kernel⟩, by decide⟩
theorem cl_X4_41 : q_CS RX4 41 yX2_isAt cX2_isAt 2 (some .boolean) 2 := ⟨q_in3 (i := 10) rfl rfl, wt_X2_isAt, wi_X2, wc_X2_isAt, ⟨by decide +kernel, by decide +kernel, by decide +kernel⟩, by decide⟩
theorem cl_X4_46 : q_CV RX4 46 3 yX4_find cX4_find 6 (some .int) 4 := ⟨RX4, TX4, 5, rfl, rfl, q_in2 (i := 128) rfl rfl, wm_X4_find, we_X4_find, wi_X4, wc_X4_find, ⟨by decide +kernel, by decide +kernel, by decide +kernel⟩, by decide⟩
theorem wc_X5_end : Cond.code yX5_end cX5_end 3 none ∈ q_tbl := q_in2 (i := 41) rfl rfl
theorem wm_X5_end : Cond.instanceMethod yX5_end ∈ q_tbl := q_in2 (i := 39) rfl rfl
theorem we_X5_end : Cond.selects RX5 yX5_end yX5_end ∈ q_tbl := q_in2 (i := 40) rfl rfl
theorem cl_X4_50 : q_CV RX4 50 4 yX5_end cX5_end 3 none 2 := ⟨RX5, TX5, 4, rfl, rfl, q_in2 (i := 132) rfl rfl, wm_X5_end, we_X5_end, wi_X5, wc_X5_end, ⟨by decide +kernel, by decide +kernel, by decide +kernel⟩, by decide⟩
theorem wc_X4_note : Cond.code yX4_note cX4_note 7 (some .int) ∈ q_tbl := q_in2 (i := 136) rfl rfl
theorem wm_X4_note : Cond.instanceMethod yX4_note ∈ q_tbl := q_in2 (i := 135) rfl rfl
theorem we_X4_note : Cond.selects RX4 yX4_note yX4_note ∈ q_tbl := q_in0 (i := 1) rfl rfl
theorem cl_X4_54 : q_CV RX4 54 3 yX4_note cX4_note 7 (some .int) 5 := ⟨RX4, TX4, 5, rfl, rfl, q_in2 (i := 133) rfl rfl, wm_X4_note, we_X4_note, wi_X4, wc_X4_note, ⟨by decide +kernel, by decide +kernel, by decide +kernel⟩, by decide⟩
theorem wc_X5_isMade : Cond.code yX5_isMade cX5_isMade 2 (some .boolean) ∈ q_tbl := q_in2 (i := 33) rfl rfl
theorem wm_X5_isMade : Cond.instanceMethod yX5_isMade ∈ q_tbl := q_in2 (i := 31) rfl rfl
theorem we_X5_isMade : Cond.selects RX5 yX5_isMade yX5_isMade ∈ q_tbl := q_in2 (i := 32) rfl rfl
theorem cl_X4_58 : q_CV RX4 58 4 yX5_isMade cX5_isMade 2 (some .boolean) 1 := ⟨RX5, TX5, 4, rfl, rfl, q_in2 (i := 147) rfl rfl, wm_X5_isMade, we_X5_isMade, wi_X5, wc_X5_isMade, ⟨by decide +kernel, by decide +kernel, by decide +kernel⟩, by decide⟩
theorem cl_X4_62 : q_CV RX4 62 4 yX5_begin cX5_begin 3 (some .int) 1 := ⟨RX5, TX5, 4, rfl, rfl, q_in2 (i := 137) rfl rfl, wm_X5_begin, we_X5_begin, wi_X5, wc_X5_begin, ⟨by decide +kernel, by decide +kernel, by decide +kernel⟩, by decide⟩
theorem ml_X5_9 : Cond.methodLink RX5 9 Lib.Math.max.name ∈ q_tbl := q_in1 (i := 32) rfl rfl
theorem cl_X5_31 : q_CV RX5 31 4 yX5_isThere cX5_isThere 3 (some .boolean) 2 := ⟨RX5, TX5, 4, rfl, rfl, q_in2 (i := 104) rfl rfl, wm_X5_isThere, we_X5_isThere, wi_X5, wc_X5_isThere, ⟨by decide +kernel, by decide +kernel, by decide +kernel⟩, by decide⟩
theorem wc_X5_isFull : Cond.code yX5_isFull cX5_isFull 1 (some .boolean) ∈ q_tbl := q_in2 (i := 16) rfl rfl
theorem wm_X5_isFull : Cond.instanceMethod yX5_isFull ∈ q_tbl := q_in2 (i := 14) rfl rfl
theorem we_X5_isFull : Cond.selects RX5 yX5_isFull yX5_isFull ∈ q_tbl := q_in2 (i := 15) rfl rfl
theorem cl_X5_35 : q_CV RX5 35 4 yX5_isFull cX5_isFull 1 (some .boolean) 0 := ⟨RX5, TX5, 4, rfl, rfl, q_in2 (i := 25) rfl rfl, wm_X5_isFull, we_X5_isFull, wi_X5, wc_X5_isFull, ⟨by decide +kernel, by decide +kernel, by decide +kernel⟩, by decide⟩
theorem cl_X5_39 : q_CV RX5 39 4 yX5_isMade cX5_isMade 2 (some .boolean) 1 := ⟨RX5, TX5, 4, rfl, rfl, q_in2 (i := 42) rfl rfl, wm_X5_isMade, we_X5_isMade, wi_X5, wc_X5_isMade, ⟨by decide +kernel, by decide +kernel, by decide +kernel⟩, by decide⟩
theorem wc_X6_readChange : Cond.code yX6_readChange cX6_readChange 7 (some .int) ∈ q_tbl := q_in2 (i := 179) rfl rfl
theorem wi_X6 : Cond.initialized RX6 ∈ q_tbl := q_in1 (i := 9) rfl rfl
theorem wm_X6_readChange : Cond.instanceMethod yX6_readChange ∈ q_tbl := q_in2 (i := 178) rfl rfl
theorem we_X6_readChange : Cond.selects RX6 yX6_readChange yX6_readChange ∈ q_tbl := q_in0 (i := 2) rfl rfl
theorem cl_X6_31 : q_CV RX6 31 5 yX6_readChange cX6_readChange 7 (some .int) 1 := ⟨RX6, TX6, 6, rfl, rfl, q_in2 (i := 176) rfl rfl, wm_X6_readChange, we_X6_readChange, wi_X6, wc_X6_readChange, ⟨by decide +kernel, by decide +kernel, by decide +kernel⟩, by decide⟩
theorem cl_X6_35 : q_CS RX6 35 yX2_isAt cX2_isAt 2 (some .boolean) 2 := ⟨q_in2 (i := 202) rfl rfl, wt_X2_isAt, wi_X2, wc_X2_isAt, ⟨by decide +kernel, by decide +kernel, by decide +kernel⟩, by decide⟩
theorem wc_X6_digits : Cond.code yX6_digits cX6_digits 5 (some .int) ∈ q_tbl := q_in2 (i := 183) rfl rfl
theorem wm_X6_digits : Cond.instanceMethod yX6_digits ∈ q_tbl := q_in2 (i := 182) rfl rfl
theorem we_X6_digits : Cond.selects RX6 yX6_digits yX6_digits ∈ q_tbl := q_in0 (i := 3) rfl rfl
theorem cl_X6_41 : q_CV RX6 41 5 yX6_digits cX6_digits 5 (some .int) 3 := ⟨RX6, TX6, 6, rfl, rfl, q_in2 (i := 180) rfl rfl, wm_X6_digits, we_X6_digits, wi_X6, wc_X6_digits, ⟨by decide +kernel, by decide +kernel, by decide +kernel⟩, by decide⟩
theorem wc_X6_characterAt : Cond.code yX6_characterAt cX6_characterAt 2 (some .int) ∈ q_tbl := q_in2 (i := 187) rfl rfl
theorem wm_X6_characterAt : Cond.instanceMethod yX6_characterAt ∈ q_tbl := q_in2 (i := 186) rfl rfl
theorem we_X6_characterAt : Cond.selects RX6 yX6_characterAt yX6_characterAt ∈ q_tbl := q_in0 (i := 4) rfl rfl
theorem cl_X6_45 : q_CV RX6 45 5 yX6_characterAt cX6_characterAt 2 (some .int) 1 := ⟨RX6, TX6, 6, rfl, rfl, q_in2 (i := 184) rfl rfl, wm_X6_characterAt, we_X6_characterAt, wi_X6, wc_X6_characterAt, ⟨by decide +kernel, by decide +kernel, by decide +kernel⟩, by decide⟩
theorem wc_X8_isType : Cond.code yX8_isType cX8_isType 1 (some .boolean) ∈ q_tbl := q_in2 (i := 120) rfl rfl
theorem wt_X8_isType : Cond.static yX8_isType ∈ q_tbl := q_in2 (i := 119) rfl rfl
theorem cl_X6_48 : (Cond.methodLinkNest RX6 48 yX8_isType RX8 = Cond.methodLinkNest RX6 48 yX8_isType RX8 ∨ Cond.methodLinkNest RX6 48 yX8_isType RX8 = Cond.methodLinkNest RX6 61 yX8_isValue RX8) ∧ Cond.static yX8_isType ∈ q_tbl ∧ Cond.initialized (yX8_isType).cls ∈ q_tbl ∧ Cond.code yX8_isType cX8_isType 1 (some .boolean) ∈ q_tbl ∧ ((yX8_isType).cls ≠ "java/lang/invoke/MethodHandle" ∧ (yX8_isType).cls ≠ "java/lang/invoke/VarHandle" ∧ (parseMethodDescriptor (yX8_isType).desc).map (fun d => d.parameters.length) = some 1) ∧ 1 ≤ 11 := ⟨Or.inl rfl, wt_X8_isType, wi_X8, wc_X8_isType, ⟨by decide +kernel, by decide +kernel, by decide +kernel⟩, by decide⟩
theorem wc_X6_nameIn : Cond.code yX6_nameIn cX6_nameIn 5 (some .int) ∈ q_tbl := q_in2 (i := 192) rfl rfl
theorem wm_X6_nameIn : Cond.instanceMethod yX6_nameIn ∈ q_tbl := q_in2 (i := 191) rfl rfl
theorem we_X6_nameIn : Cond.selects RX6 yX6_nameIn yX6_nameIn ∈ q_tbl := q_in0 (i := 5) rfl rfl
theorem cl_X6_54 : q_CV RX6 54 5 yX6_nameIn cX6_nameIn 5 (some .int) 2 := ⟨RX6, TX6, 6, rfl, rfl, q_in2 (i := 189) rfl rfl, wm_X6_nameIn, we_X6_nameIn, wi_X6, wc_X6_nameIn, ⟨by decide +kernel, by decide +kernel, by decide +kernel⟩, by decide⟩
theorem wc_X6_numberIn : Cond.code yX6_numberIn cX6_numberIn 5 (some .int) ∈ q_tbl := q_in2 (i := 196) rfl rfl
theorem wm_X6_numberIn : Cond.instanceMethod yX6_numberIn ∈ q_tbl := q_in2 (i := 195) rfl rfl
theorem we_X6_numberIn : Cond.selects RX6 yX6_numberIn yX6_numberIn ∈ q_tbl := q_in0 (i := 6) rfl rfl
theorem cl_X6_58 : q_CV RX6 58 5 yX6_numberIn cX6_numberIn 5 (some .int) 2 := ⟨RX6, TX6, 6, rfl, rfl, q_in2 (i := 193) rfl rfl, wm_X6_numberIn, we_X6_numberIn, wi_X6, wc_X6_numberIn, ⟨by decide +kernel, by decide +kernel, by decide +kernel⟩, by decide⟩
theorem wc_X8_isValue : Cond.code yX8_isValue cX8_isValue 2 (some .boolean) ∈ q_tbl := q_in2 (i := 117) rfl rfl
theorem wt_X8_isValue : Cond.static yX8_isValue ∈ q_tbl := q_in2 (i := 116) rfl rfl
theorem cl_X6_61 : (Cond.methodLinkNest RX6 61 yX8_isValue RX8 = Cond.methodLinkNest RX6 48 yX8_isType RX8 ∨ Cond.methodLinkNest RX6 61 yX8_isValue RX8 = Cond.methodLinkNest RX6 61 yX8_isValue RX8) ∧ Cond.static yX8_isValue ∈ q_tbl ∧ Cond.initialized (yX8_isValue).cls ∈ q_tbl ∧ Cond.code yX8_isValue cX8_isValue 2 (some .boolean) ∈ q_tbl ∧ ((yX8_isValue).cls ≠ "java/lang/invoke/MethodHandle" ∧ (yX8_isValue).cls ≠ "java/lang/invoke/VarHandle" ∧ (parseMethodDescriptor (yX8_isValue).desc).map (fun d => d.parameters.length) = some 2) ∧ 2 ≤ 11 := ⟨Or.inr rfl, wt_X8_isValue, wi_X8, wc_X8_isValue, ⟨by decide +kernel, by decide +kernel, by decide +kernel⟩, by decide⟩
theorem cl_X7_27 : q_CV RX7 27 4 yX5_begin cX5_begin 3 (some .int) 1 := ⟨RX5, TX5, 4, rfl, rfl, q_in2 (i := 82) rfl rfl, wm_X5_begin, we_X5_begin, wi_X5, wc_X5_begin, ⟨by decide +kernel, by decide +kernel, by decide +kernel⟩, by decide⟩
theorem cl_X7_35 : q_CV RX7 35 4 yX5_isThere cX5_isThere 3 (some .boolean) 2 := ⟨RX5, TX5, 4, rfl, rfl, q_in2 (i := 77) rfl rfl, wm_X5_isThere, we_X5_isThere, wi_X5, wc_X5_isThere, ⟨by decide +kernel, by decide +kernel, by decide +kernel⟩, by decide⟩
theorem cl_X7_39 : q_CS RX7 39 yX2_isAt cX2_isAt 2 (some .boolean) 2 := ⟨q_in2 (i := 234) rfl rfl, wt_X2_isAt, wi_X2, wc_X2_isAt, ⟨by decide +kernel, by decide +kernel, by decide +kernel⟩, by decide⟩
theorem wc_X7_hides : Cond.code yX7_hides cX7_hides 3 (some .boolean) ∈ q_tbl := q_in2 (i := 238) rfl rfl
theorem wm_X7_hides : Cond.instanceMethod yX7_hides ∈ q_tbl := q_in2 (i := 236) rfl rfl
theorem we_X7_hides : Cond.selects RX7 yX7_hides yX7_hides ∈ q_tbl := q_in2 (i := 237) rfl rfl
theorem cl_X7_44 : q_CV RX7 44 6 yX7_hides cX7_hides 3 (some .boolean) 2 := ⟨RX7, TX7, 3, rfl, rfl, q_in2 (i := 235) rfl rfl, wm_X7_hides, we_X7_hides, wi_X7, wc_X7_hides, ⟨by decide +kernel, by decide +kernel, by decide +kernel⟩, by decide⟩
theorem wc_X2_isLonger : Cond.code yX2_isLonger cX2_isLonger 2 (some .boolean) ∈ q_tbl := q_in3 (i := 1) rfl rfl
theorem wt_X2_isLonger : Cond.static yX2_isLonger ∈ q_tbl := q_in3 (i := 0) rfl rfl
theorem cl_X7_47 : q_CS RX7 47 yX2_isLonger cX2_isLonger 2 (some .boolean) 2 := ⟨q_in2 (i := 239) rfl rfl, wt_X2_isLonger, wi_X2, wc_X2_isLonger, ⟨by decide +kernel, by decide +kernel, by decide +kernel⟩, by decide⟩
theorem wc_X8_isView : Cond.code yX8_isView cX8_isView 1 (some .boolean) ∈ q_tbl := q_in2 (i := 6) rfl rfl
theorem wt_X8_isView : Cond.static yX8_isView ∈ q_tbl := q_in2 (i := 5) rfl rfl
theorem cl_X8_51 : q_CS RX8 51 yX8_isView cX8_isView 1 (some .boolean) 1 := ⟨q_in2 (i := 4) rfl rfl, wt_X8_isView, wi_X8, wc_X8_isView, ⟨by decide +kernel, by decide +kernel, by decide +kernel⟩, by decide⟩
theorem wc_X8_isAddress : Cond.code yX8_isAddress cX8_isAddress 1 (some .boolean) ∈ q_tbl := q_in2 (i := 9) rfl rfl
theorem wt_X8_isAddress : Cond.static yX8_isAddress ∈ q_tbl := q_in2 (i := 8) rfl rfl
theorem cl_X8_55 : q_CS RX8 55 yX8_isAddress cX8_isAddress 1 (some .boolean) 1 := ⟨q_in2 (i := 7) rfl rfl, wt_X8_isAddress, wi_X8, wc_X8_isAddress, ⟨by decide +kernel, by decide +kernel, by decide +kernel⟩, by decide⟩
theorem wc_X3_isLength : Cond.code yX3_isLength cX3_isLength 1 (some .boolean) ∈ q_tbl := q_in2 (i := 12) rfl rfl
theorem wt_X3_isLength : Cond.static yX3_isLength ∈ q_tbl := q_in2 (i := 11) rfl rfl
theorem cl_X8_58 : q_CS RX8 58 yX3_isLength cX3_isLength 1 (some .boolean) 1 := ⟨q_in2 (i := 10) rfl rfl, wt_X3_isLength, wi_X3, wc_X3_isLength, ⟨by decide +kernel, by decide +kernel, by decide +kernel⟩, by decide⟩
theorem cl_X8_65 : q_CV RX8 65 4 yX5_isFull cX5_isFull 1 (some .boolean) 0 := ⟨RX5, TX5, 4, rfl, rfl, q_in2 (i := 13) rfl rfl, wm_X5_isFull, we_X5_isFull, wi_X5, wc_X5_isFull, ⟨by decide +kernel, by decide +kernel, by decide +kernel⟩, by decide⟩
theorem wc_X3_make : Cond.code yX3_make cX3_make 6 (some .int) ∈ q_tbl := q_in2 (i := 20) rfl rfl
theorem wm_X3_make : Cond.instanceMethod yX3_make ∈ q_tbl := q_in2 (i := 18) rfl rfl
theorem we_X3_make : Cond.selects RX3 yX3_make yX3_make ∈ q_tbl := q_in2 (i := 19) rfl rfl
theorem cl_X8_71 : q_CV RX8 71 2 yX3_make cX3_make 6 (some .int) 4 := ⟨RX3, TX3, 4, rfl, rfl, q_in2 (i := 17) rfl rfl, wm_X3_make, we_X3_make, wi_X3, wc_X3_make, ⟨by decide +kernel, by decide +kernel, by decide +kernel⟩, by decide⟩
theorem cl_X8_75 : q_CV RX8 75 4 yX5_isMade cX5_isMade 2 (some .boolean) 1 := ⟨RX5, TX5, 4, rfl, rfl, q_in2 (i := 30) rfl rfl, wm_X5_isMade, we_X5_isMade, wi_X5, wc_X5_isMade, ⟨by decide +kernel, by decide +kernel, by decide +kernel⟩, by decide⟩
theorem cl_X8_78 : q_CV RX8 78 4 yX5_isThere cX5_isThere 3 (some .boolean) 2 := ⟨RX5, TX5, 4, rfl, rfl, q_in2 (i := 34) rfl rfl, wm_X5_isThere, we_X5_isThere, wi_X5, wc_X5_isThere, ⟨by decide +kernel, by decide +kernel, by decide +kernel⟩, by decide⟩
theorem cl_X8_82 : q_CV RX8 82 4 yX5_end cX5_end 3 none 2 := ⟨RX5, TX5, 4, rfl, rfl, q_in2 (i := 38) rfl rfl, wm_X5_end, we_X5_end, wi_X5, wc_X5_end, ⟨by decide +kernel, by decide +kernel, by decide +kernel⟩, by decide⟩
theorem wc_X8_isTick : Cond.code yX8_isTick cX8_isTick 2 (some .boolean) ∈ q_tbl := q_in2 (i := 50) rfl rfl
theorem wm_X8_isTick : Cond.instanceMethod yX8_isTick ∈ q_tbl := q_in2 (i := 49) rfl rfl
theorem we_X8_isTick : Cond.selects RX8 yX8_isTick yX8_isTick ∈ q_tbl := q_in0 (i := 0) rfl rfl
theorem cl_X8_90 : q_CV RX8 90 7 yX8_isTick cX8_isTick 2 (some .boolean) 1 := ⟨RX8, TX8, 7, rfl, rfl, q_in2 (i := 47) rfl rfl, wm_X8_isTick, we_X8_isTick, wi_X8, wc_X8_isTick, ⟨by decide +kernel, by decide +kernel, by decide +kernel⟩, by decide⟩
theorem cl_X8_93 : q_CV RX8 93 2 yX3_viewAt cX3_viewAt 6 (some .int) 2 := ⟨RX3, TX3, 4, rfl, rfl, q_in2 (i := 51) rfl rfl, wm_X3_viewAt, we_X3_viewAt, wi_X3, wc_X3_viewAt, ⟨by decide +kernel, by decide +kernel, by decide +kernel⟩, by decide⟩
theorem wc_X2_isName : Cond.code yX2_isName cX2_isName 3 (some .boolean) ∈ q_tbl := q_in2 (i := 66) rfl rfl
theorem wt_X2_isName : Cond.static yX2_isName ∈ q_tbl := q_in2 (i := 65) rfl rfl
theorem cl_X8_97 : q_CS RX8 97 yX2_isName cX2_isName 3 (some .boolean) 1 := ⟨q_in2 (i := 64) rfl rfl, wt_X2_isName, wi_X2, wc_X2_isName, ⟨by decide +kernel, by decide +kernel, by decide +kernel⟩, by decide⟩
theorem cl_X8_102 : q_CS RX8 102 yX2_isPattern cX2_isPattern 1 (some .boolean) 1 := ⟨q_in2 (i := 67) rfl rfl, wt_X2_isPattern, wi_X2, wc_X2_isPattern, ⟨by decide +kernel, by decide +kernel, by decide +kernel⟩, by decide⟩
theorem wc_X7_find : Cond.code yX7_find cX7_find 5 (some .int) ∈ q_tbl := q_in2 (i := 76) rfl rfl
theorem wm_X7_find : Cond.instanceMethod yX7_find ∈ q_tbl := q_in2 (i := 74) rfl rfl
theorem we_X7_find : Cond.selects RX7 yX7_find yX7_find ∈ q_tbl := q_in2 (i := 75) rfl rfl
theorem cl_X8_105 : q_CV RX8 105 6 yX7_find cX7_find 5 (some .int) 3 := ⟨RX7, TX7, 3, rfl, rfl, q_in2 (i := 73) rfl rfl, wm_X7_find, we_X7_find, wi_X7, wc_X7_find, ⟨by decide +kernel, by decide +kernel, by decide +kernel⟩, by decide⟩
theorem wc_X7_make : Cond.code yX7_make cX7_make 5 (some .int) ∈ q_tbl := q_in2 (i := 81) rfl rfl
theorem wm_X7_make : Cond.instanceMethod yX7_make ∈ q_tbl := q_in2 (i := 79) rfl rfl
theorem we_X7_make : Cond.selects RX7 yX7_make yX7_make ∈ q_tbl := q_in2 (i := 80) rfl rfl
theorem cl_X8_112 : q_CV RX8 112 6 yX7_make cX7_make 5 (some .int) 3 := ⟨RX7, TX7, 3, rfl, rfl, q_in2 (i := 78) rfl rfl, wm_X7_make, we_X7_make, wi_X7, wc_X7_make, ⟨by decide +kernel, by decide +kernel, by decide +kernel⟩, by decide⟩
theorem cl_X8_114 : q_CV RX8 114 3 yX4_countIn cX4_countIn 5 (some .int) 2 := ⟨RX4, TX4, 5, rfl, rfl, q_in2 (i := 87) rfl rfl, wm_X4_countIn, we_X4_countIn, wi_X4, wc_X4_countIn, ⟨by decide +kernel, by decide +kernel, by decide +kernel⟩, by decide⟩
theorem wc_X5_countThere : Cond.code yX5_countThere cX5_countThere 4 (some .int) ∈ q_tbl := q_in2 (i := 103) rfl rfl
theorem wm_X5_countThere : Cond.instanceMethod yX5_countThere ∈ q_tbl := q_in2 (i := 101) rfl rfl
theorem we_X5_countThere : Cond.selects RX5 yX5_countThere yX5_countThere ∈ q_tbl := q_in2 (i := 102) rfl rfl
theorem cl_X8_129 : q_CV RX8 129 4 yX5_countThere cX5_countThere 4 (some .int) 1 := ⟨RX5, TX5, 4, rfl, rfl, q_in2 (i := 100) rfl rfl, wm_X5_countThere, we_X5_countThere, wi_X5, wc_X5_countThere, ⟨by decide +kernel, by decide +kernel, by decide +kernel⟩, by decide⟩
theorem wc_X0_countRecords : Cond.code yX0_countRecords cX0_countRecords 4 (some .int) ∈ q_tbl := q_in2 (i := 108) rfl rfl
theorem wm_X0_countRecords : Cond.instanceMethod yX0_countRecords ∈ q_tbl := q_in2 (i := 106) rfl rfl
theorem we_X0_countRecords : Cond.selects RX0 yX0_countRecords yX0_countRecords ∈ q_tbl := q_in2 (i := 107) rfl rfl
theorem cl_X8_133 : q_CV RX8 133 0 yX0_countRecords cX0_countRecords 4 (some .int) 1 := ⟨RX0, TX0, 2, rfl, rfl, q_in2 (i := 105) rfl rfl, wm_X0_countRecords, we_X0_countRecords, wi_X0, wc_X0_countRecords, ⟨by decide +kernel, by decide +kernel, by decide +kernel⟩, by decide⟩
theorem cl_X8_146 : q_CS RX8 146 yX8_isValue cX8_isValue 2 (some .boolean) 2 := ⟨q_in2 (i := 115) rfl rfl, wt_X8_isValue, wi_X8, wc_X8_isValue, ⟨by decide +kernel, by decide +kernel, by decide +kernel⟩, by decide⟩
theorem cl_X8_149 : q_CS RX8 149 yX2_isAt cX2_isAt 2 (some .boolean) 2 := ⟨q_in2 (i := 121) rfl rfl, wt_X2_isAt, wi_X2, wc_X2_isAt, ⟨by decide +kernel, by decide +kernel, by decide +kernel⟩, by decide⟩
theorem wc_X4_put : Cond.code yX4_put cX4_put 6 none ∈ q_tbl := q_in2 (i := 127) rfl rfl
theorem wm_X4_put : Cond.instanceMethod yX4_put ∈ q_tbl := q_in2 (i := 125) rfl rfl
theorem we_X4_put : Cond.selects RX4 yX4_put yX4_put ∈ q_tbl := q_in2 (i := 126) rfl rfl
theorem cl_X8_152 : q_CV RX8 152 3 yX4_put cX4_put 6 none 5 := ⟨RX4, TX4, 5, rfl, rfl, q_in2 (i := 124) rfl rfl, wm_X4_put, we_X4_put, wi_X4, wc_X4_put, ⟨by decide +kernel, by decide +kernel, by decide +kernel⟩, by decide⟩
theorem cl_X8_156 : q_CS RX8 156 yX8_isType cX8_isType 1 (some .boolean) 1 := ⟨q_in2 (i := 118) rfl rfl, wt_X8_isType, wi_X8, wc_X8_isType, ⟨by decide +kernel, by decide +kernel, by decide +kernel⟩, by decide⟩
theorem cl_X8_159 : q_CV RX8 159 3 yX4_find cX4_find 6 (some .int) 4 := ⟨RX4, TX4, 5, rfl, rfl, q_in2 (i := 142) rfl rfl, wm_X4_find, we_X4_find, wi_X4, wc_X4_find, ⟨by decide +kernel, by decide +kernel, by decide +kernel⟩, by decide⟩
theorem wc_X4_drop : Cond.code yX4_drop cX4_drop 3 none ∈ q_tbl := q_in2 (i := 146) rfl rfl
theorem wm_X4_drop : Cond.instanceMethod yX4_drop ∈ q_tbl := q_in2 (i := 144) rfl rfl
theorem we_X4_drop : Cond.selects RX4 yX4_drop yX4_drop ∈ q_tbl := q_in2 (i := 145) rfl rfl
theorem cl_X8_161 : q_CV RX8 161 3 yX4_drop cX4_drop 3 none 2 := ⟨RX4, TX4, 5, rfl, rfl, q_in2 (i := 143) rfl rfl, wm_X4_drop, we_X4_drop, wi_X4, wc_X4_drop, ⟨by decide +kernel, by decide +kernel, by decide +kernel⟩, by decide⟩
theorem wc_X4_countChanges : Cond.code yX4_countChanges cX4_countChanges 5 (some .int) ∈ q_tbl := q_in2 (i := 159) rfl rfl
theorem wm_X4_countChanges : Cond.instanceMethod yX4_countChanges ∈ q_tbl := q_in2 (i := 157) rfl rfl
theorem we_X4_countChanges : Cond.selects RX4 yX4_countChanges yX4_countChanges ∈ q_tbl := q_in2 (i := 158) rfl rfl
theorem cl_X8_167 : q_CV RX8 167 3 yX4_countChanges cX4_countChanges 5 (some .int) 2 := ⟨RX4, TX4, 5, rfl, rfl, q_in2 (i := 156) rfl rfl, wm_X4_countChanges, we_X4_countChanges, wi_X4, wc_X4_countChanges, ⟨by decide +kernel, by decide +kernel, by decide +kernel⟩, by decide⟩
theorem wc_X4_findChange : Cond.code yX4_findChange cX4_findChange 5 (some .int) ∈ q_tbl := q_in2 (i := 167) rfl rfl
theorem wm_X4_findChange : Cond.instanceMethod yX4_findChange ∈ q_tbl := q_in2 (i := 165) rfl rfl
theorem we_X4_findChange : Cond.selects RX4 yX4_findChange yX4_findChange ∈ q_tbl := q_in2 (i := 166) rfl rfl
theorem cl_X8_170 : q_CV RX8 170 3 yX4_findChange cX4_findChange 5 (some .int) 2 := ⟨RX4, TX4, 5, rfl, rfl, q_in2 (i := 164) rfl rfl, wm_X4_findChange, we_X4_findChange, wi_X4, wc_X4_findChange, ⟨by decide +kernel, by decide +kernel, by decide +kernel⟩, by decide⟩
theorem wc_X6_read : Cond.code yX6_read cX6_read 4 (some .int) ∈ q_tbl := q_in2 (i := 175) rfl rfl
theorem wm_X6_read : Cond.instanceMethod yX6_read ∈ q_tbl := q_in2 (i := 173) rfl rfl
theorem we_X6_read : Cond.selects RX6 yX6_read yX6_read ∈ q_tbl := q_in2 (i := 174) rfl rfl
theorem cl_X8_179 : q_CV RX8 179 5 yX6_read cX6_read 4 (some .int) 0 := ⟨RX6, TX6, 6, rfl, rfl, q_in2 (i := 172) rfl rfl, wm_X6_read, we_X6_read, wi_X6, wc_X6_read, ⟨by decide +kernel, by decide +kernel, by decide +kernel⟩, by decide⟩
theorem wc_X6_isAllAt : Cond.code yX6_isAllAt cX6_isAllAt 3 (some .boolean) ∈ q_tbl := q_in2 (i := 201) rfl rfl
theorem wm_X6_isAllAt : Cond.instanceMethod yX6_isAllAt ∈ q_tbl := q_in2 (i := 199) rfl rfl
theorem we_X6_isAllAt : Cond.selects RX6 yX6_isAllAt yX6_isAllAt ∈ q_tbl := q_in2 (i := 200) rfl rfl
theorem cl_X8_183 : q_CV RX8 183 5 yX6_isAllAt cX6_isAllAt 3 (some .boolean) 1 := ⟨RX6, TX6, 6, rfl, rfl, q_in2 (i := 198) rfl rfl, wm_X6_isAllAt, we_X6_isAllAt, wi_X6, wc_X6_isAllAt, ⟨by decide +kernel, by decide +kernel, by decide +kernel⟩, by decide⟩
theorem wc_X5_hasRoomFor : Cond.code yX5_hasRoomFor cX5_hasRoomFor 2 (some .boolean) ∈ q_tbl := q_in2 (i := 206) rfl rfl
theorem wm_X5_hasRoomFor : Cond.instanceMethod yX5_hasRoomFor ∈ q_tbl := q_in2 (i := 204) rfl rfl
theorem we_X5_hasRoomFor : Cond.selects RX5 yX5_hasRoomFor yX5_hasRoomFor ∈ q_tbl := q_in2 (i := 205) rfl rfl
theorem cl_X8_189 : q_CV RX8 189 4 yX5_hasRoomFor cX5_hasRoomFor 2 (some .boolean) 1 := ⟨RX5, TX5, 4, rfl, rfl, q_in2 (i := 203) rfl rfl, wm_X5_hasRoomFor, we_X5_hasRoomFor, wi_X5, wc_X5_hasRoomFor, ⟨by decide +kernel, by decide +kernel, by decide +kernel⟩, by decide⟩
theorem wc_X8_layChanges : Cond.code yX8_layChanges cX8_layChanges 4 none ∈ q_tbl := q_in2 (i := 210) rfl rfl
theorem wm_X8_layChanges : Cond.instanceMethod yX8_layChanges ∈ q_tbl := q_in2 (i := 209) rfl rfl
theorem we_X8_layChanges : Cond.selects RX8 yX8_layChanges yX8_layChanges ∈ q_tbl := q_in0 (i := 7) rfl rfl
theorem cl_X8_192 : q_CV RX8 192 7 yX8_layChanges cX8_layChanges 4 none 1 := ⟨RX8, TX8, 7, rfl, rfl, q_in2 (i := 207) rfl rfl, wm_X8_layChanges, we_X8_layChanges, wi_X8, wc_X8_layChanges, ⟨by decide +kernel, by decide +kernel, by decide +kernel⟩, by decide⟩
theorem wc_X8_isQuestion : Cond.code yX8_isQuestion cX8_isQuestion 2 (some .boolean) ∈ q_tbl := q_in2 (i := 217) rfl rfl
theorem wt_X8_isQuestion : Cond.static yX8_isQuestion ∈ q_tbl := q_in2 (i := 216) rfl rfl
theorem cl_X8_199 : q_CS RX8 199 yX8_isQuestion cX8_isQuestion 2 (some .boolean) 2 := ⟨q_in2 (i := 215) rfl rfl, wt_X8_isQuestion, wi_X8, wc_X8_isQuestion, ⟨by decide +kernel, by decide +kernel, by decide +kernel⟩, by decide⟩
theorem wc_X8_answerFor : Cond.code yX8_answerFor cX8_answerFor 5 (some .int) ∈ q_tbl := q_in2 (i := 221) rfl rfl
theorem wm_X8_answerFor : Cond.instanceMethod yX8_answerFor ∈ q_tbl := q_in2 (i := 220) rfl rfl
theorem we_X8_answerFor : Cond.selects RX8 yX8_answerFor yX8_answerFor ∈ q_tbl := q_in0 (i := 8) rfl rfl
theorem cl_X8_202 : q_CV RX8 202 7 yX8_answerFor cX8_answerFor 5 (some .int) 4 := ⟨RX8, TX8, 7, rfl, rfl, q_in2 (i := 218) rfl rfl, wm_X8_answerFor, we_X8_answerFor, wi_X8, wc_X8_answerFor, ⟨by decide +kernel, by decide +kernel, by decide +kernel⟩, by decide⟩
theorem wc_X0_lookUp : Cond.code yX0_lookUp cX0_lookUp 6 (some .int) ∈ q_tbl := q_in2 (i := 225) rfl rfl
theorem wm_X0_lookUp : Cond.instanceMethod yX0_lookUp ∈ q_tbl := q_in2 (i := 223) rfl rfl
theorem we_X0_lookUp : Cond.selects RX0 yX0_lookUp yX0_lookUp ∈ q_tbl := q_in2 (i := 224) rfl rfl
theorem cl_X8_205 : q_CV RX8 205 0 yX0_lookUp cX0_lookUp 6 (some .int) 4 := ⟨RX0, TX0, 2, rfl, rfl, q_in2 (i := 222) rfl rfl, wm_X0_lookUp, we_X0_lookUp, wi_X0, wc_X0_lookUp, ⟨by decide +kernel, by decide +kernel, by decide +kernel⟩, by decide⟩
theorem cl_X8_208 : q_CV RX8 208 6 yX7_responsible cX7_responsible 7 (some .int) 3 := ⟨RX7, TX7, 3, rfl, rfl, q_in3 (i := 28) rfl rfl, wm_X7_responsible, we_X7_responsible, wi_X7, wc_X7_responsible, ⟨by decide +kernel, by decide +kernel, by decide +kernel⟩, by decide⟩
theorem cl_X8_211 : q_CV RX8 211 0 yX0_recordBehind cX0_recordBehind 11 (some .int) 4 := ⟨RX0, TX0, 2, rfl, rfl, q_in3 (i := 33) rfl rfl, wm_X0_recordBehind, we_X0_recordBehind, wi_X0, wc_X0_recordBehind, ⟨by decide +kernel, by decide +kernel, by decide +kernel⟩, by decide⟩
theorem wc_X8_countDiffering : Cond.code yX8_countDiffering cX8_countDiffering 8 (some .int) ∈ q_tbl := q_in3 (i := 41) rfl rfl
theorem wm_X8_countDiffering : Cond.instanceMethod yX8_countDiffering ∈ q_tbl := q_in3 (i := 40) rfl rfl
theorem we_X8_countDiffering : Cond.selects RX8 yX8_countDiffering yX8_countDiffering ∈ q_tbl := q_in0 (i := 9) rfl rfl
theorem cl_X8_214 : q_CV RX8 214 7 yX8_countDiffering cX8_countDiffering 8 (some .int) 5 := ⟨RX8, TX8, 7, rfl, rfl, q_in3 (i := 38) rfl rfl, wm_X8_countDiffering, we_X8_countDiffering, wi_X8, wc_X8_countDiffering, ⟨by decide +kernel, by decide +kernel, by decide +kernel⟩, by decide⟩
theorem wc_X0_lastEvent : Cond.code yX0_lastEvent cX0_lastEvent 4 (some .int) ∈ q_tbl := q_in3 (i := 57) rfl rfl
theorem wm_X0_lastEvent : Cond.instanceMethod yX0_lastEvent ∈ q_tbl := q_in3 (i := 55) rfl rfl
theorem we_X0_lastEvent : Cond.selects RX0 yX0_lastEvent yX0_lastEvent ∈ q_tbl := q_in3 (i := 56) rfl rfl
theorem cl_X8_218 : q_CV RX8 218 0 yX0_lastEvent cX0_lastEvent 4 (some .int) 1 := ⟨RX0, TX0, 2, rfl, rfl, q_in3 (i := 54) rfl rfl, wm_X0_lastEvent, we_X0_lastEvent, wi_X0, wc_X0_lastEvent, ⟨by decide +kernel, by decide +kernel, by decide +kernel⟩, by decide⟩
theorem wc_X3_countAddresses : Cond.code yX3_countAddresses cX3_countAddresses 5 (some .int) ∈ q_tbl := q_in3 (i := 69) rfl rfl
theorem wm_X3_countAddresses : Cond.instanceMethod yX3_countAddresses ∈ q_tbl := q_in3 (i := 67) rfl rfl
theorem we_X3_countAddresses : Cond.selects RX3 yX3_countAddresses yX3_countAddresses ∈ q_tbl := q_in3 (i := 68) rfl rfl
theorem cl_X8_221 : q_CV RX8 221 2 yX3_countAddresses cX3_countAddresses 5 (some .int) 2 := ⟨RX3, TX3, 4, rfl, rfl, q_in3 (i := 66) rfl rfl, wm_X3_countAddresses, we_X3_countAddresses, wi_X3, wc_X3_countAddresses, ⟨by decide +kernel, by decide +kernel, by decide +kernel⟩, by decide⟩
theorem cl_X8_227 : q_CV RX8 227 1 yX1_find cX1_find 5 (some .int) 3 := ⟨RX1, TX1, 8, rfl, rfl, q_in3 (i := 79) rfl rfl, wm_X1_find, we_X1_find, wi_X1, wc_X1_find, ⟨by decide +kernel, by decide +kernel, by decide +kernel⟩, by decide⟩
theorem wc_X1_isFresh : Cond.code yX1_isFresh cX1_isFresh 3 (some .boolean) ∈ q_tbl := q_in3 (i := 86) rfl rfl
theorem wm_X1_isFresh : Cond.instanceMethod yX1_isFresh ∈ q_tbl := q_in3 (i := 84) rfl rfl
theorem we_X1_isFresh : Cond.selects RX1 yX1_isFresh yX1_isFresh ∈ q_tbl := q_in3 (i := 85) rfl rfl
theorem cl_X8_228 : q_CV RX8 228 1 yX1_isFresh cX1_isFresh 3 (some .boolean) 2 := ⟨RX1, TX1, 8, rfl, rfl, q_in3 (i := 83) rfl rfl, wm_X1_isFresh, we_X1_isFresh, wi_X1, wc_X1_isFresh, ⟨by decide +kernel, by decide +kernel, by decide +kernel⟩, by decide⟩
theorem wc_X1_keep : Cond.code yX1_keep cX1_keep 7 none ∈ q_tbl := q_in3 (i := 90) rfl rfl
theorem wm_X1_keep : Cond.instanceMethod yX1_keep ∈ q_tbl := q_in3 (i := 88) rfl rfl
theorem we_X1_keep : Cond.selects RX1 yX1_keep yX1_keep ∈ q_tbl := q_in3 (i := 89) rfl rfl
theorem cl_X8_234 : q_CV RX8 234 1 yX1_keep cX1_keep 7 none 5 := ⟨RX1, TX1, 8, rfl, rfl, q_in3 (i := 87) rfl rfl, wm_X1_keep, we_X1_keep, wi_X1, wc_X1_keep, ⟨by decide +kernel, by decide +kernel, by decide +kernel⟩, by decide⟩
theorem wc_X6_append : Cond.code yX6_append cX6_append 2 none ∈ q_tbl := q_in3 (i := 107) rfl rfl
theorem wm_X6_append : Cond.instanceMethod yX6_append ∈ q_tbl := q_in3 (i := 105) rfl rfl
theorem we_X6_append : Cond.selects RX6 yX6_append yX6_append ∈ q_tbl := q_in3 (i := 106) rfl rfl
theorem cl_X8_245 : q_CV RX8 245 5 yX6_append cX6_append 2 none 1 := ⟨RX6, TX6, 6, rfl, rfl, q_in3 (i := 104) rfl rfl, wm_X6_append, we_X6_append, wi_X6, wc_X6_append, ⟨by decide +kernel, by decide +kernel, by decide +kernel⟩, by decide⟩
theorem wc_X9_in : Cond.code yX9_in cX9_in 3 (some .boolean) ∈ q_tbl := q_in3 (i := 180) rfl rfl
theorem wt_X9_in : Cond.static yX9_in ∈ q_tbl := q_in3 (i := 179) rfl rfl
theorem cl_X9_35 : q_CS RX9 35 yX9_in cX9_in 3 (some .boolean) 3 := ⟨q_in3 (i := 178) rfl rfl, wt_X9_in, wi_X9, wc_X9_in, ⟨by decide +kernel, by decide +kernel, by decide +kernel⟩, by decide⟩
theorem wc_X9_lastLabel : Cond.code yX9_lastLabel cX9_lastLabel 1 (some .int) ∈ q_tbl := q_in3 (i := 227) rfl rfl
theorem wt_X9_lastLabel : Cond.static yX9_lastLabel ∈ q_tbl := q_in3 (i := 226) rfl rfl
theorem cl_X9_39 : q_CS RX9 39 yX9_lastLabel cX9_lastLabel 1 (some .int) 1 := ⟨q_in3 (i := 225) rfl rfl, wt_X9_lastLabel, wi_X9, wc_X9_lastLabel, ⟨by decide +kernel, by decide +kernel, by decide +kernel⟩, by decide⟩
theorem wc_X9_labels : Cond.code yX9_labels cX9_labels 1 (some .int) ∈ q_tbl := q_in4 (i := 29) rfl rfl
theorem wt_X9_labels : Cond.static yX9_labels ∈ q_tbl := q_in4 (i := 28) rfl rfl
theorem cl_X9_43 : q_CS RX9 43 yX9_labels cX9_labels 1 (some .int) 1 := ⟨q_in4 (i := 27) rfl rfl, wt_X9_labels, wi_X9, wc_X9_labels, ⟨by decide +kernel, by decide +kernel, by decide +kernel⟩, by decide⟩
theorem wc_X9_first : Cond.code yX9_first cX9_first 2 (some .int) ∈ q_tbl := q_in4 (i := 32) rfl rfl
theorem wt_X9_first : Cond.static yX9_first ∈ q_tbl := q_in4 (i := 31) rfl rfl
theorem cl_X9_46 : q_CS RX9 46 yX9_first cX9_first 2 (some .int) 2 := ⟨q_in4 (i := 30) rfl rfl, wt_X9_first, wi_X9, wc_X9_first, ⟨by decide +kernel, by decide +kernel, by decide +kernel⟩, by decide⟩
theorem wc_X9_isAt : Cond.code yX9_isAt cX9_isAt 2 (some .boolean) ∈ q_tbl := q_in4 (i := 26) rfl rfl
theorem wt_X9_isAt : Cond.static yX9_isAt ∈ q_tbl := q_in4 (i := 25) rfl rfl
theorem cl_X9_50 : q_CS RX9 50 yX9_isAt cX9_isAt 2 (some .boolean) 2 := ⟨q_in4 (i := 24) rfl rfl, wt_X9_isAt, wi_X9, wc_X9_isAt, ⟨by decide +kernel, by decide +kernel, by decide +kernel⟩, by decide⟩
theorem wc_X9_isAddress : Cond.code yX9_isAddress cX9_isAddress 1 (some .boolean) ∈ q_tbl := q_in3 (i := 191) rfl rfl
theorem wt_X9_isAddress : Cond.static yX9_isAddress ∈ q_tbl := q_in3 (i := 190) rfl rfl
theorem cl_X9_54 : q_CS RX9 54 yX9_isAddress cX9_isAddress 1 (some .boolean) 1 := ⟨q_in3 (i := 189) rfl rfl, wt_X9_isAddress, wi_X9, wc_X9_isAddress, ⟨by decide +kernel, by decide +kernel, by decide +kernel⟩, by decide⟩
theorem wc_X9_isNetThere : Cond.code yX9_isNetThere cX9_isNetThere 4 (some .boolean) ∈ q_tbl := q_in3 (i := 211) rfl rfl
theorem wm_X9_isNetThere : Cond.instanceMethod yX9_isNetThere ∈ q_tbl := q_in3 (i := 210) rfl rfl
theorem we_X9_isNetThere : Cond.selects RX9 yX9_isNetThere yX9_isNetThere ∈ q_tbl := q_in0 (i := 13) rfl rfl
theorem cl_X9_61 : q_CV RX9 61 8 yX9_isNetThere cX9_isNetThere 4 (some .boolean) 2 := ⟨RX9, TX9, 17, rfl, rfl, q_in3 (i := 208) rfl rfl, wm_X9_isNetThere, we_X9_isNetThere, wi_X9, wc_X9_isNetThere, ⟨by decide +kernel, by decide +kernel, by decide +kernel⟩, by decide⟩
theorem wc_X9_isTick : Cond.code yX9_isTick cX9_isTick 2 (some .boolean) ∈ q_tbl := q_in3 (i := 203) rfl rfl
theorem wm_X9_isTick : Cond.instanceMethod yX9_isTick ∈ q_tbl := q_in3 (i := 202) rfl rfl
theorem we_X9_isTick : Cond.selects RX9 yX9_isTick yX9_isTick ∈ q_tbl := q_in0 (i := 11) rfl rfl
theorem cl_X9_64 : q_CV RX9 64 8 yX9_isTick cX9_isTick 2 (some .boolean) 1 := ⟨RX9, TX9, 17, rfl, rfl, q_in3 (i := 200) rfl rfl, wm_X9_isTick, we_X9_isTick, wi_X9, wc_X9_isTick, ⟨by decide +kernel, by decide +kernel, by decide +kernel⟩, by decide⟩
theorem wc_X9_viewAt : Cond.code yX9_viewAt cX9_viewAt 8 (some .int) ∈ q_tbl := q_in3 (i := 207) rfl rfl
theorem wm_X9_viewAt : Cond.instanceMethod yX9_viewAt ∈ q_tbl := q_in3 (i := 206) rfl rfl
theorem we_X9_viewAt : Cond.selects RX9 yX9_viewAt yX9_viewAt ∈ q_tbl := q_in0 (i := 12) rfl rfl
theorem cl_X9_67 : q_CV RX9 67 8 yX9_viewAt cX9_viewAt 8 (some .int) 2 := ⟨RX9, TX9, 17, rfl, rfl, q_in3 (i := 204) rfl rfl, wm_X9_viewAt, we_X9_viewAt, wi_X9, wc_X9_viewAt, ⟨by decide +kernel, by decide +kernel, by decide +kernel⟩, by decide⟩
theorem wc_X9_isView : Cond.code yX9_isView cX9_isView 1 (some .boolean) ∈ q_tbl := q_in3 (i := 218) rfl rfl
theorem wt_X9_isView : Cond.static yX9_isView ∈ q_tbl := q_in3 (i := 217) rfl rfl
theorem cl_X9_73 : q_CS RX9 73 yX9_isView cX9_isView 1 (some .boolean) 1 := ⟨q_in3 (i := 216) rfl rfl, wt_X9_isView, wi_X9, wc_X9_isView, ⟨by decide +kernel, by decide +kernel, by decide +kernel⟩, by decide⟩
theorem wc_X9_isName : Cond.code yX9_isName cX9_isName 4 (some .boolean) ∈ q_tbl := q_in3 (i := 221) rfl rfl
theorem wt_X9_isName : Cond.static yX9_isName ∈ q_tbl := q_in3 (i := 220) rfl rfl
theorem cl_X9_76 : q_CS RX9 76 yX9_isName cX9_isName 4 (some .boolean) 1 := ⟨q_in3 (i := 219) rfl rfl, wt_X9_isName, wi_X9, wc_X9_isName, ⟨by decide +kernel, by decide +kernel, by decide +kernel⟩, by decide⟩
theorem wc_X9_isPattern : Cond.code yX9_isPattern cX9_isPattern 1 (some .boolean) ∈ q_tbl := q_in3 (i := 224) rfl rfl
theorem wt_X9_isPattern : Cond.static yX9_isPattern ∈ q_tbl := q_in3 (i := 223) rfl rfl
theorem cl_X9_79 : q_CS RX9 79 yX9_isPattern cX9_isPattern 1 (some .boolean) 1 := ⟨q_in3 (i := 222) rfl rfl, wt_X9_isPattern, wi_X9, wc_X9_isPattern, ⟨by decide +kernel, by decide +kernel, by decide +kernel⟩, by decide⟩
theorem wc_X9_isGone : Cond.code yX9_isGone cX9_isGone 2 (some .boolean) ∈ q_tbl := q_in3 (i := 231) rfl rfl
theorem wm_X9_isGone : Cond.instanceMethod yX9_isGone ∈ q_tbl := q_in3 (i := 230) rfl rfl
theorem we_X9_isGone : Cond.selects RX9 yX9_isGone yX9_isGone ∈ q_tbl := q_in0 (i := 14) rfl rfl
theorem cl_X9_82 : q_CV RX9 82 8 yX9_isGone cX9_isGone 2 (some .boolean) 1 := ⟨RX9, TX9, 17, rfl, rfl, q_in3 (i := 228) rfl rfl, wm_X9_isGone, we_X9_isGone, wi_X9, wc_X9_isGone, ⟨by decide +kernel, by decide +kernel, by decide +kernel⟩, by decide⟩
theorem wc_X9_isZone : Cond.code yX9_isZone cX9_isZone 2 (some .boolean) ∈ q_tbl := q_in3 (i := 239) rfl rfl
theorem wm_X9_isZone : Cond.instanceMethod yX9_isZone ∈ q_tbl := q_in3 (i := 238) rfl rfl
theorem we_X9_isZone : Cond.selects RX9 yX9_isZone yX9_isZone ∈ q_tbl := q_in0 (i := 15) rfl rfl
theorem cl_X9_85 : q_CV RX9 85 8 yX9_isZone cX9_isZone 2 (some .boolean) 1 := ⟨RX9, TX9, 17, rfl, rfl, q_in3 (i := 236) rfl rfl, wm_X9_isZone, we_X9_isZone, wi_X9, wc_X9_isZone, ⟨by decide +kernel, by decide +kernel, by decide +kernel⟩, by decide⟩
theorem wc_X9_records : Cond.code yX9_records cX9_records 5 (some .int) ∈ q_tbl := q_in4 (i := 3) rfl rfl
theorem wm_X9_records : Cond.instanceMethod yX9_records ∈ q_tbl := q_in4 (i := 2) rfl rfl
theorem we_X9_records : Cond.selects RX9 yX9_records yX9_records ∈ q_tbl := q_in0 (i := 16) rfl rfl
theorem cl_X9_88 : q_CV RX9 88 8 yX9_records cX9_records 5 (some .int) 1 := ⟨RX9, TX9, 17, rfl, rfl, q_in4 (i := 0) rfl rfl, wm_X9_records, we_X9_records, wi_X9, wc_X9_records, ⟨by decide +kernel, by decide +kernel, by decide +kernel⟩, by decide⟩
theorem wc_X9_part : Cond.code yX9_part cX9_part 3 (some .int) ∈ q_tbl := q_in4 (i := 11) rfl rfl
theorem wm_X9_part : Cond.instanceMethod yX9_part ∈ q_tbl := q_in4 (i := 10) rfl rfl
theorem we_X9_part : Cond.selects RX9 yX9_part yX9_part ∈ q_tbl := q_in0 (i := 18) rfl rfl
theorem cl_X9_100 : q_CV RX9 100 8 yX9_part cX9_part 3 (some .int) 2 := ⟨RX9, TX9, 17, rfl, rfl, q_in4 (i := 8) rfl rfl, wm_X9_part, we_X9_part, wi_X9, wc_X9_part, ⟨by decide +kernel, by decide +kernel, by decide +kernel⟩, by decide⟩
theorem wc_X9_valueAt : Cond.code yX9_valueAt cX9_valueAt 8 (some .int) ∈ q_tbl := q_in4 (i := 7) rfl rfl
theorem wm_X9_valueAt : Cond.instanceMethod yX9_valueAt ∈ q_tbl := q_in4 (i := 6) rfl rfl
theorem we_X9_valueAt : Cond.selects RX9 yX9_valueAt yX9_valueAt ∈ q_tbl := q_in0 (i := 17) rfl rfl
theorem cl_X9_103 : q_CV RX9 103 8 yX9_valueAt cX9_valueAt 8 (some .int) 4 := ⟨RX9, TX9, 17, rfl, rfl, q_in4 (i := 4) rfl rfl, wm_X9_valueAt, we_X9_valueAt, wi_X9, wc_X9_valueAt, ⟨by decide +kernel, by decide +kernel, by decide +kernel⟩, by decide⟩
theorem wc_X9_hasType : Cond.code yX9_hasType cX9_hasType 4 (some .boolean) ∈ q_tbl := q_in4 (i := 86) rfl rfl
theorem wm_X9_hasType : Cond.instanceMethod yX9_hasType ∈ q_tbl := q_in4 (i := 85) rfl rfl
theorem we_X9_hasType : Cond.selects RX9 yX9_hasType yX9_hasType ∈ q_tbl := q_in0 (i := 25) rfl rfl
theorem cl_X9_107 : q_CV RX9 107 8 yX9_hasType cX9_hasType 4 (some .boolean) 3 := ⟨RX9, TX9, 17, rfl, rfl, q_in4 (i := 83) rfl rfl, wm_X9_hasType, we_X9_hasType, wi_X9, wc_X9_hasType, ⟨by decide +kernel, by decide +kernel, by decide +kernel⟩, by decide⟩
theorem wc_X9_isBelow : Cond.code yX9_isBelow cX9_isBelow 2 (some .boolean) ∈ q_tbl := q_in4 (i := 89) rfl rfl
theorem wt_X9_isBelow : Cond.static yX9_isBelow ∈ q_tbl := q_in4 (i := 88) rfl rfl
theorem cl_X9_110 : q_CS RX9 110 yX9_isBelow cX9_isBelow 2 (some .boolean) 2 := ⟨q_in4 (i := 87) rfl rfl, wt_X9_isBelow, wi_X9, wc_X9_isBelow, ⟨by decide +kernel, by decide +kernel, by decide +kernel⟩, by decide⟩
theorem wc_X9_isType : Cond.code yX9_isType cX9_isType 1 (some .boolean) ∈ q_tbl := q_in4 (i := 35) rfl rfl
theorem wt_X9_isType : Cond.static yX9_isType ∈ q_tbl := q_in4 (i := 34) rfl rfl
theorem cl_X9_113 : q_CS RX9 113 yX9_isType cX9_isType 1 (some .boolean) 1 := ⟨q_in4 (i := 33) rfl rfl, wt_X9_isType, wi_X9, wc_X9_isType, ⟨by decide +kernel, by decide +kernel, by decide +kernel⟩, by decide⟩
theorem wc_X9_isValue : Cond.code yX9_isValue cX9_isValue 2 (some .boolean) ∈ q_tbl := q_in4 (i := 38) rfl rfl
theorem wt_X9_isValue : Cond.static yX9_isValue ∈ q_tbl := q_in4 (i := 37) rfl rfl
theorem cl_X9_116 : q_CS RX9 116 yX9_isValue cX9_isValue 2 (some .boolean) 2 := ⟨q_in4 (i := 36) rfl rfl, wt_X9_isValue, wi_X9, wc_X9_isValue, ⟨by decide +kernel, by decide +kernel, by decide +kernel⟩, by decide⟩
theorem wc_X9_makes : Cond.code yX9_makes cX9_makes 5 none ∈ q_tbl := q_in4 (i := 42) rfl rfl
theorem wm_X9_makes : Cond.instanceMethod yX9_makes ∈ q_tbl := q_in4 (i := 41) rfl rfl
theorem we_X9_makes : Cond.selects RX9 yX9_makes yX9_makes ∈ q_tbl := q_in0 (i := 19) rfl rfl
theorem cl_X9_119 : q_CV RX9 119 8 yX9_makes cX9_makes 5 none 4 := ⟨RX9, TX9, 17, rfl, rfl, q_in4 (i := 39) rfl rfl, wm_X9_makes, we_X9_makes, wi_X9, wc_X9_makes, ⟨by decide +kernel, by decide +kernel, by decide +kernel⟩, by decide⟩
theorem wc_X9_isThere : Cond.code yX9_isThere cX9_isThere 4 (some .boolean) ∈ q_tbl := q_in4 (i := 54) rfl rfl
theorem wm_X9_isThere : Cond.instanceMethod yX9_isThere ∈ q_tbl := q_in4 (i := 53) rfl rfl
theorem we_X9_isThere : Cond.selects RX9 yX9_isThere yX9_isThere ∈ q_tbl := q_in0 (i := 20) rfl rfl
theorem cl_X9_123 : q_CV RX9 123 8 yX9_isThere cX9_isThere 4 (some .boolean) 2 := ⟨RX9, TX9, 17, rfl, rfl, q_in4 (i := 51) rfl rfl, wm_X9_isThere, we_X9_isThere, wi_X9, wc_X9_isThere, ⟨by decide +kernel, by decide +kernel, by decide +kernel⟩, by decide⟩
theorem wc_X9_responsible : Cond.code yX9_responsible cX9_responsible 10 (some .int) ∈ q_tbl := q_in4 (i := 78) rfl rfl
theorem wm_X9_responsible : Cond.instanceMethod yX9_responsible ∈ q_tbl := q_in4 (i := 77) rfl rfl
theorem we_X9_responsible : Cond.selects RX9 yX9_responsible yX9_responsible ∈ q_tbl := q_in0 (i := 23) rfl rfl
theorem cl_X9_126 : q_CV RX9 126 8 yX9_responsible cX9_responsible 10 (some .int) 3 := ⟨RX9, TX9, 17, rfl, rfl, q_in4 (i := 75) rfl rfl, wm_X9_responsible, we_X9_responsible, wi_X9, wc_X9_responsible, ⟨by decide +kernel, by decide +kernel, by decide +kernel⟩, by decide⟩
theorem wc_X9_exists : Cond.code yX9_exists cX9_exists 6 (some .boolean) ∈ q_tbl := q_in4 (i := 82) rfl rfl
theorem wm_X9_exists : Cond.instanceMethod yX9_exists ∈ q_tbl := q_in4 (i := 81) rfl rfl
theorem we_X9_exists : Cond.selects RX9 yX9_exists yX9_exists ∈ q_tbl := q_in0 (i := 24) rfl rfl
theorem cl_X9_133 : q_CV RX9 133 8 yX9_exists cX9_exists 6 (some .boolean) 3 := ⟨RX9, TX9, 17, rfl, rfl, q_in4 (i := 79) rfl rfl, wm_X9_exists, we_X9_exists, wi_X9, wc_X9_exists, ⟨by decide +kernel, by decide +kernel, by decide +kernel⟩, by decide⟩
theorem wc_X9_patternFor : Cond.code yX9_patternFor cX9_patternFor 1 (some .int) ∈ q_tbl := q_in4 (i := 92) rfl rfl
theorem wt_X9_patternFor : Cond.static yX9_patternFor ∈ q_tbl := q_in4 (i := 91) rfl rfl
theorem cl_X9_136 : q_CS RX9 136 yX9_patternFor cX9_patternFor 1 (some .int) 1 := ⟨q_in4 (i := 90) rfl rfl, wt_X9_patternFor, wi_X9, wc_X9_patternFor, ⟨by decide +kernel, by decide +kernel, by decide +kernel⟩, by decide⟩
theorem wc_X9_isQuestion : Cond.code yX9_isQuestion cX9_isQuestion 4 (some .boolean) ∈ q_tbl := q_in4 (i := 70) rfl rfl
theorem wm_X9_isQuestion : Cond.instanceMethod yX9_isQuestion ∈ q_tbl := q_in4 (i := 69) rfl rfl
theorem we_X9_isQuestion : Cond.selects RX9 yX9_isQuestion yX9_isQuestion ∈ q_tbl := q_in0 (i := 21) rfl rfl
theorem cl_X9_139 : q_CV RX9 139 8 yX9_isQuestion cX9_isQuestion 4 (some .boolean) 3 := ⟨RX9, TX9, 17, rfl, rfl, q_in4 (i := 67) rfl rfl, wm_X9_isQuestion, we_X9_isQuestion, wi_X9, wc_X9_isQuestion, ⟨by decide +kernel, by decide +kernel, by decide +kernel⟩, by decide⟩
theorem wc_X9_finds : Cond.code yX9_finds cX9_finds 9 (some .int) ∈ q_tbl := q_in4 (i := 74) rfl rfl
theorem wm_X9_finds : Cond.instanceMethod yX9_finds ∈ q_tbl := q_in4 (i := 73) rfl rfl
theorem we_X9_finds : Cond.selects RX9 yX9_finds yX9_finds ∈ q_tbl := q_in0 (i := 22) rfl rfl
theorem cl_X9_142 : q_CV RX9 142 8 yX9_finds cX9_finds 9 (some .int) 4 := ⟨RX9, TX9, 17, rfl, rfl, q_in4 (i := 71) rfl rfl, wm_X9_finds, we_X9_finds, wi_X9, wc_X9_finds, ⟨by decide +kernel, by decide +kernel, by decide +kernel⟩, by decide⟩
theorem wc_X9_parts : Cond.code yX9_parts cX9_parts 9 (some .int) ∈ q_tbl := q_in4 (i := 112) rfl rfl
theorem wm_X9_parts : Cond.instanceMethod yX9_parts ∈ q_tbl := q_in4 (i := 111) rfl rfl
theorem we_X9_parts : Cond.selects RX9 yX9_parts yX9_parts ∈ q_tbl := q_in0 (i := 26) rfl rfl
theorem cl_X9_145 : q_CV RX9 145 8 yX9_parts cX9_parts 9 (some .int) 6 := ⟨RX9, TX9, 17, rfl, rfl, q_in4 (i := 109) rfl rfl, wm_X9_parts, we_X9_parts, wi_X9, wc_X9_parts, ⟨by decide +kernel, by decide +kernel, by decide +kernel⟩, by decide⟩
theorem wc_X9_latestEvent : Cond.code yX9_latestEvent cX9_latestEvent 6 (some .int) ∈ q_tbl := q_in4 (i := 128) rfl rfl
theorem wm_X9_latestEvent : Cond.instanceMethod yX9_latestEvent ∈ q_tbl := q_in4 (i := 127) rfl rfl
theorem we_X9_latestEvent : Cond.selects RX9 yX9_latestEvent yX9_latestEvent ∈ q_tbl := q_in0 (i := 27) rfl rfl
theorem cl_X9_149 : q_CV RX9 149 8 yX9_latestEvent cX9_latestEvent 6 (some .int) 1 := ⟨RX9, TX9, 17, rfl, rfl, q_in4 (i := 125) rfl rfl, wm_X9_latestEvent, we_X9_latestEvent, wi_X9, wc_X9_latestEvent, ⟨by decide +kernel, by decide +kernel, by decide +kernel⟩, by decide⟩
theorem wc_X9_isYoung : Cond.code yX9_isYoung cX9_isYoung 2 (some .boolean) ∈ q_tbl := q_in4 (i := 144) rfl rfl
theorem wm_X9_isYoung : Cond.instanceMethod yX9_isYoung ∈ q_tbl := q_in4 (i := 143) rfl rfl
theorem we_X9_isYoung : Cond.selects RX9 yX9_isYoung yX9_isYoung ∈ q_tbl := q_in0 (i := 28) rfl rfl
theorem cl_X9_152 : q_CV RX9 152 8 yX9_isYoung cX9_isYoung 2 (some .boolean) 1 := ⟨RX9, TX9, 17, rfl, rfl, q_in4 (i := 141) rfl rfl, wm_X9_isYoung, we_X9_isYoung, wi_X9, wc_X9_isYoung, ⟨by decide +kernel, by decide +kernel, by decide +kernel⟩, by decide⟩
theorem wc_X9_drops : Cond.code yX9_drops cX9_drops 3 none ∈ q_tbl := q_in4 (i := 148) rfl rfl
theorem wm_X9_drops : Cond.instanceMethod yX9_drops ∈ q_tbl := q_in4 (i := 147) rfl rfl
theorem we_X9_drops : Cond.selects RX9 yX9_drops yX9_drops ∈ q_tbl := q_in0 (i := 29) rfl rfl
theorem cl_X9_155 : q_CV RX9 155 8 yX9_drops cX9_drops 3 none 1 := ⟨RX9, TX9, 17, rfl, rfl, q_in4 (i := 145) rfl rfl, wm_X9_drops, we_X9_drops, wi_X9, wc_X9_drops, ⟨by decide +kernel, by decide +kernel, by decide +kernel⟩, by decide⟩
theorem wc_X9_isHere : Cond.code yX9_isHere cX9_isHere 3 (some .boolean) ∈ q_tbl := q_in4 (i := 180) rfl rfl
theorem wm_X9_isHere : Cond.instanceMethod yX9_isHere ∈ q_tbl := q_in4 (i := 179) rfl rfl
theorem we_X9_isHere : Cond.selects RX9 yX9_isHere yX9_isHere ∈ q_tbl := q_in0 (i := 33) rfl rfl
theorem cl_X9_168 : q_CV RX9 168 8 yX9_isHere cX9_isHere 3 (some .boolean) 2 := ⟨RX9, TX9, 17, rfl, rfl, q_in4 (i := 177) rfl rfl, wm_X9_isHere, we_X9_isHere, wi_X9, wc_X9_isHere, ⟨by decide +kernel, by decide +kernel, by decide +kernel⟩, by decide⟩
theorem wc_X9_isLabels : Cond.code yX9_isLabels cX9_isLabels 3 (some .boolean) ∈ q_tbl := q_in4 (i := 176) rfl rfl
theorem wm_X9_isLabels : Cond.instanceMethod yX9_isLabels ∈ q_tbl := q_in4 (i := 175) rfl rfl
theorem we_X9_isLabels : Cond.selects RX9 yX9_isLabels yX9_isLabels ∈ q_tbl := q_in0 (i := 32) rfl rfl
theorem cl_X9_171 : q_CV RX9 171 8 yX9_isLabels cX9_isLabels 3 (some .boolean) 0 := ⟨RX9, TX9, 17, rfl, rfl, q_in4 (i := 173) rfl rfl, wm_X9_isLabels, we_X9_isLabels, wi_X9, wc_X9_isLabels, ⟨by decide +kernel, by decide +kernel, by decide +kernel⟩, by decide⟩
theorem wc_X9_takes : Cond.code yX9_takes cX9_takes 3 (some .boolean) ∈ q_tbl := q_in4 (i := 184) rfl rfl
theorem wm_X9_takes : Cond.instanceMethod yX9_takes ∈ q_tbl := q_in4 (i := 183) rfl rfl
theorem we_X9_takes : Cond.selects RX9 yX9_takes yX9_takes ∈ q_tbl := q_in0 (i := 34) rfl rfl
theorem cl_X9_175 : q_CV RX9 175 8 yX9_takes cX9_takes 3 (some .boolean) 1 := ⟨RX9, TX9, 17, rfl, rfl, q_in4 (i := 181) rfl rfl, wm_X9_takes, we_X9_takes, wi_X9, wc_X9_takes, ⟨by decide +kernel, by decide +kernel, by decide +kernel⟩, by decide⟩
theorem wc_X9_isDigits : Cond.code yX9_isDigits cX9_isDigits 2 (some .boolean) ∈ q_tbl := q_in4 (i := 188) rfl rfl
theorem wm_X9_isDigits : Cond.instanceMethod yX9_isDigits ∈ q_tbl := q_in4 (i := 187) rfl rfl
theorem we_X9_isDigits : Cond.selects RX9 yX9_isDigits yX9_isDigits ∈ q_tbl := q_in0 (i := 35) rfl rfl
theorem cl_X9_178 : q_CV RX9 178 8 yX9_isDigits cX9_isDigits 2 (some .boolean) 0 := ⟨RX9, TX9, 17, rfl, rfl, q_in4 (i := 185) rfl rfl, wm_X9_isDigits, we_X9_isDigits, wi_X9, wc_X9_isDigits, ⟨by decide +kernel, by decide +kernel, by decide +kernel⟩, by decide⟩
theorem wc_X9_isChange : Cond.code yX9_isChange cX9_isChange 1 (some .boolean) ∈ q_tbl := q_in4 (i := 172) rfl rfl
theorem wm_X9_isChange : Cond.instanceMethod yX9_isChange ∈ q_tbl := q_in4 (i := 171) rfl rfl
theorem we_X9_isChange : Cond.selects RX9 yX9_isChange yX9_isChange ∈ q_tbl := q_in0 (i := 31) rfl rfl
theorem cl_X9_181 : q_CV RX9 181 8 yX9_isChange cX9_isChange 1 (some .boolean) 0 := ⟨RX9, TX9, 17, rfl, rfl, q_in4 (i := 169) rfl rfl, wm_X9_isChange, we_X9_isChange, wi_X9, wc_X9_isChange, ⟨by decide +kernel, by decide +kernel, by decide +kernel⟩, by decide⟩
theorem wc_X9_faultAt : Cond.code yX9_faultAt cX9_faultAt 2 (some .int) ∈ q_tbl := q_in4 (i := 168) rfl rfl
theorem wm_X9_faultAt : Cond.instanceMethod yX9_faultAt ∈ q_tbl := q_in4 (i := 167) rfl rfl
theorem we_X9_faultAt : Cond.selects RX9 yX9_faultAt yX9_faultAt ∈ q_tbl := q_in0 (i := 30) rfl rfl
theorem cl_X9_184 : q_CV RX9 184 8 yX9_faultAt cX9_faultAt 2 (some .int) 0 := ⟨RX9, TX9, 17, rfl, rfl, q_in4 (i := 165) rfl rfl, wm_X9_faultAt, we_X9_faultAt, wi_X9, wc_X9_faultAt, ⟨by decide +kernel, by decide +kernel, by decide +kernel⟩, by decide⟩
end
section
/-! helpers of the decompiled functions -/
def q_inb (i : Int32) (n : Nat) : Bool := !decide (i < 0) && decide (i.toNatClampNeg < n)
theorem q_inb_of {i : Int32} {n : Nat} (h : q_inb i n = true) : vp_in i n := by
  simp only [q_inb, Bool.and_eq_true, Bool.not_eq_true', decide_eq_false_iff_not, decide_eq_true_eq] at h
  exact fun q => q.elim h.1 (fun z => by omega)
theorem q_ift {α : Type} {c : Prop} [Decidable c] {a b r : α} (hc : c) (h : (if c then a else b) = r) : a = r := by rw [if_pos hc] at h; exact h
theorem q_iff {α : Type} {c : Prop} [Decidable c] {a b r : α} (hc : ¬ c) (h : (if c then a else b) = r) : b = r := by rw [if_neg hc] at h; exact h
theorem q_ifb {α : Type} {c : Bool} {a b r : α} (hc : c = false) (h : (if c = true then a else b) = r) : b = r := by subst hc; exact h
theorem q_gd {α : Type} {i : Int32} {n : Nat} {a : Option α} {r : α} (h : (if q_inb i n = true then a else none) = some r) : vp_in i n ∧ a = some r := by
  by_cases hc : q_inb i n = true
  · rw [if_pos hc] at h; exact ⟨q_inb_of hc, h⟩
  · rw [if_neg hc] at h; cases h
theorem q_gz {α : Type} {y : Int32} {a : Option α} {r : α} (h : (if y = 0 then none else a) = some r) : ¬ y = 0 ∧ a = some r := by
  by_cases hc : y = 0
  · rw [if_pos hc] at h; cases h
  · rw [if_neg hc] at h; exact ⟨hc, h⟩
theorem q_bnd {α β : Type} {o : Option α} {g : α → Option β} {r : β} (h : o.bind g = some r) : ∃ q, o = some q ∧ g q = some r := by
  cases o with
  | none => cases h
  | some q => exact ⟨q, rfl, h⟩
theorem q_no {α : Type} {x : α} {P : Prop} (h : (none : Option α) = some x) : P := by cases h
theorem q_lfi {Q : Int32 → qS → Prop} {v r : Int32} {S : qS} (h : some v = some r) (k : Q r S) : q_Qi Q (some v) S := by cases h; exact k
theorem q_lfiw {Q : Int32 → qS → Prop} {v r : Int32} {S S' : qS} (h : some (v, S) = some (r, S')) (k : Q r S') : q_Qi Q (some v) S := by cases h; exact k
theorem q_lfb {Q : Int32 → qS → Prop} {v r : Bool} {S : qS} (h : some v = some r) (k : Q (q_b r) S) : q_Qi Q (some (q_b v)) S := by cases h; exact k
theorem q_lfbw {Q : Int32 → qS → Prop} {v r : Bool} {S S' : qS} (h : some (v, S) = some (r, S')) (k : Q (q_b r) S') : q_Qi Q (some (q_b v)) S := by cases h; exact k
theorem q_lfv {Q : qS → Prop} {S S' : qS} (h : some S = some S') (k : Q S') : q_Qv Q none S := by cases h; exact k
theorem q_ti {x y : Int32} {n : Int} (hc : ¬ x = y) (hy : y.toInt = n) : x.toInt ≠ n := fun e => hc (Int32.toInt_inj.mp (e.trans hy.symm))
def q_le : List (Option qV) → List (Option qV) → Prop
  | [], _ => True
  | none :: a, _ :: b => q_le a b
  | some v :: a, w :: b => w = some v ∧ q_le a b
  | _ :: _, [] => False
theorem q_le_get : ∀ {a b : List (Option qV)}, q_le a b → ∀ (i : Nat) (v : qV), a[i]? = some (some v) → b[i]? = some (some v) := by
  intro a
  induction a with
  | nil => intro b _ i v h; simp at h
  | cons x a ih =>
    intro b hb i v h
    cases b with
    | nil => cases x <;> exact hb.elim
    | cons y b =>
      cases x with
      | none =>
        cases i with
        | zero => simp at h
        | succ i => simpa using ih (b := b) hb i v (by simpa using h)
      | some w =>
        obtain ⟨h1, h2⟩ : y = some w ∧ q_le a b := hb
        cases i with
        | zero =>
          have : w = v := by simpa using h
          subst this
          simp [h1]
        | succ i => simpa using ih (b := b) h2 i v (by simpa using h)
theorem q_sub {l : Launch} {cc : ByteArray} {nL : Nat} {ret : Option FieldType} {own : String} {d : Nat} {S : qS} {pc : Nat} {ls ls' : List (Option qV)} {st : List qV} {Q : Option Int32 → qS → Prop} (h : q_le ls' ls) (k : q_E l cc nL ret own d S pc ls' st Q) : q_E l cc nL ret own d S pc ls st Q := by
  intro p e R s m args below meth c D cA ad A0 H locs lsa C hP hD hS hl
  exact k p e R s m args below meth c D cA ad A0 H locs lsa C hP hD hS ⟨hl.1, hl.2.1, fun i v hi => hl.2.2 i v (q_le_get h i v hi)⟩
end
section
def fX2_isName (a1 : Int32) (S : qS) : Option Bool := if a1 < 1 then some false else if 124 < a1 then some false else if (a1 - a1 / 5 * 5) = 0 then some false else if ((a1 / 5) - (a1 / 5) / 5 * 5) = 0 then if (a1 / 25) = 0 then some true else some false else if (a1 / 25) = 0 then some true else some true
set_option maxHeartbeats 4000000 in
set_option maxRecDepth 100000 in
theorem sX2_isName {l : Launch} {d : Nat} (hd : 0 ≤ d) {S : qS} {a1 : Int32} {r : Bool} (h : fX2_isName a1 S = some r) {Q : Int32 → qS → Prop} (k : Q (q_b r) S) : q_Mi l d yX2_isName cX2_isName 3 (some .boolean) [.inl a1] S Q := by
  refine q_Mi_of (own := RX2) rfl rfl [some (.inl a1), none, none] rfl (Nat.le_of_ble_eq_true rfl) ?_
  unfold fX2_isName at h
  refine q_iload_n dX2_isName_0 rfl ?_
  refine q_iconst (v := 1) dX2_isName_1 (by decide) ?_
  refine q_icmp_lt 17 dX2_isName_2 (by decide) (fun c2 => ?_) (fun c2 => ?_)
  · replace h := q_ift c2 h
    refine q_iconst (v := 0) dX2_isName_17 (by decide) ?_
    exact q_ret (v := q_b false) dX2_isName_18 rfl (q_b_nar false) (q_lfb h k)
  · replace h := q_iff c2 h
    refine q_iload_n dX2_isName_5 rfl ?_
    refine q_bipush (v := 124) dX2_isName_6 (by decide) ?_
    refine q_icmp_gt 17 dX2_isName_8 (by decide) (fun c8 => ?_) (fun c8 => ?_)
    · replace h := q_ift c8 h
      refine q_iconst (v := 0) dX2_isName_17 (by decide) ?_
      exact q_ret (v := q_b false) dX2_isName_18 rfl (q_b_nar false) (q_lfb h k)
    · replace h := q_iff c8 h
      refine q_iload_n dX2_isName_11 rfl ?_
      refine q_iconst (v := 5) dX2_isName_12 (by decide) ?_
      refine q_irem dX2_isName_13 (by decide) ?_
      refine q_if_ne 19 dX2_isName_14 (by decide) (fun c14 => ?_) (fun c14 => ?_)
      · replace h := q_iff c14 h
        refine q_iload_n dX2_isName_19 rfl ?_
        refine q_iconst (v := 5) dX2_isName_20 (by decide) ?_
        refine q_idiv dX2_isName_21 (by decide) ?_
        refine q_iconst (v := 5) dX2_isName_22 (by decide) ?_
        refine q_irem dX2_isName_23 (by decide) ?_
        refine q_if_eq 31 dX2_isName_24 (by decide) (fun c24 => ?_) (fun c24 => ?_)
        · replace h := q_ift c24 h
          refine q_iconst (v := 0) dX2_isName_31 (by decide) ?_
          refine q_istore_n dX2_isName_32 (by decide) ?_
          refine q_iload_n dX2_isName_33 rfl ?_
          refine q_bipush (v := 25) dX2_isName_34 (by decide) ?_
          refine q_idiv dX2_isName_36 (by decide) ?_
          refine q_if_eq 44 dX2_isName_37 (by decide) (fun c37 => ?_) (fun c37 => ?_)
          · replace h := q_ift c37 h
            refine q_iconst (v := 0) dX2_isName_44 (by decide) ?_
            refine q_istore_n dX2_isName_45 (by decide) ?_
            refine q_iload_n dX2_isName_46 rfl ?_
            refine q_if_ne 54 dX2_isName_47 (by decide) (fun c => absurd c (by decide)) (fun _ => ?_)
            refine q_iload_n dX2_isName_50 rfl ?_
            refine q_if_ne 58 dX2_isName_51 (by decide) (fun c => absurd c (by decide)) (fun _ => ?_)
            refine q_iconst (v := 1) dX2_isName_54 (by decide) ?_
            refine q_goto 59 dX2_isName_55 (by decide) ?_
            exact q_ret (v := q_b true) dX2_isName_59 rfl (q_b_nar true) (q_lfb h k)
          · replace h := q_iff c37 h
            refine q_iconst (v := 1) dX2_isName_40 (by decide) ?_
            refine q_goto 45 dX2_isName_41 (by decide) ?_
            refine q_istore_n dX2_isName_45 (by decide) ?_
            refine q_iload_n dX2_isName_46 rfl ?_
            refine q_if_ne 54 dX2_isName_47 (by decide) (fun c => absurd c (by decide)) (fun _ => ?_)
            refine q_iload_n dX2_isName_50 rfl ?_
            refine q_if_ne 58 dX2_isName_51 (by decide) (fun _ => ?_) (fun c => absurd c (by decide))
            refine q_iconst (v := 0) dX2_isName_58 (by decide) ?_
            exact q_ret (v := q_b false) dX2_isName_59 rfl (q_b_nar false) (q_lfb h k)
        · replace h := q_iff c24 h
          refine q_iconst (v := 1) dX2_isName_27 (by decide) ?_
          refine q_goto 32 dX2_isName_28 (by decide) ?_
          refine q_istore_n dX2_isName_32 (by decide) ?_
          refine q_iload_n dX2_isName_33 rfl ?_
          refine q_bipush (v := 25) dX2_isName_34 (by decide) ?_
          refine q_idiv dX2_isName_36 (by decide) ?_
          refine q_if_eq 44 dX2_isName_37 (by decide) (fun c37 => ?_) (fun c37 => ?_)
          · replace h := q_ift c37 h
            refine q_iconst (v := 0) dX2_isName_44 (by decide) ?_
            refine q_istore_n dX2_isName_45 (by decide) ?_
            refine q_iload_n dX2_isName_46 rfl ?_
            refine q_if_ne 54 dX2_isName_47 (by decide) (fun _ => ?_) (fun c => absurd c (by decide))
            refine q_iconst (v := 1) dX2_isName_54 (by decide) ?_
            refine q_goto 59 dX2_isName_55 (by decide) ?_
            exact q_ret (v := q_b true) dX2_isName_59 rfl (q_b_nar true) (q_lfb h k)
          · replace h := q_iff c37 h
            refine q_iconst (v := 1) dX2_isName_40 (by decide) ?_
            refine q_goto 45 dX2_isName_41 (by decide) ?_
            refine q_istore_n dX2_isName_45 (by decide) ?_
            refine q_iload_n dX2_isName_46 rfl ?_
            refine q_if_ne 54 dX2_isName_47 (by decide) (fun _ => ?_) (fun c => absurd c (by decide))
            refine q_iconst (v := 1) dX2_isName_54 (by decide) ?_
            refine q_goto 59 dX2_isName_55 (by decide) ?_
            exact q_ret (v := q_b true) dX2_isName_59 rfl (q_b_nar true) (q_lfb h k)
      · replace h := q_ift c14 h
        refine q_iconst (v := 0) dX2_isName_17 (by decide) ?_
        exact q_ret (v := q_b false) dX2_isName_18 rfl (q_b_nar false) (q_lfb h k)
def fX2_lastWeight (a1 : Int32) (S : qS) : Option Int32 := if 5 ≤ a1 then if 25 ≤ a1 then some 25 else some 5 else some 1
set_option maxHeartbeats 4000000 in
set_option maxRecDepth 100000 in
theorem sX2_lastWeight {l : Launch} {d : Nat} (hd : 0 ≤ d) {S : qS} {a1 : Int32} {r : Int32} (h : fX2_lastWeight a1 S = some r) {Q : Int32 → qS → Prop} (k : Q r S) : q_Mi l d yX2_lastWeight cX2_lastWeight 1 (some .int) [.inl a1] S Q := by
  refine q_Mi_of (own := RX2) rfl rfl [some (.inl a1)] rfl (Nat.le_of_ble_eq_true rfl) ?_
  unfold fX2_lastWeight at h
  refine q_iload_n dX2_lastWeight_0 rfl ?_
  refine q_iconst (v := 5) dX2_lastWeight_1 (by decide) ?_
  refine q_icmp_ge 7 dX2_lastWeight_2 (by decide) (fun c2 => ?_) (fun c2 => ?_)
  · replace h := q_ift c2 h
    refine q_iload_n dX2_lastWeight_7 rfl ?_
    refine q_bipush (v := 25) dX2_lastWeight_8 (by decide) ?_
    refine q_icmp_ge 17 dX2_lastWeight_10 (by decide) (fun c10 => ?_) (fun c10 => ?_)
    · replace h := q_ift c10 h
      refine q_bipush (v := 25) dX2_lastWeight_17 (by decide) ?_
      exact q_ret dX2_lastWeight_19 rfl rfl (q_lfi h k)
    · replace h := q_iff c10 h
      refine q_iconst (v := 5) dX2_lastWeight_13 (by decide) ?_
      refine q_goto 19 dX2_lastWeight_14 (by decide) ?_
      exact q_ret dX2_lastWeight_19 rfl rfl (q_lfi h k)
  · replace h := q_iff c2 h
    refine q_iconst (v := 1) dX2_lastWeight_5 (by decide) ?_
    exact q_ret dX2_lastWeight_6 rfl rfl (q_lfi h k)
def fX2_isPattern (a1 : Int32) (S : qS) : Option Bool := (fX2_lastWeight a1 S).bind (fun r3 => if a1 < (4 * r3) then some false else some true)
set_option maxHeartbeats 4000000 in
set_option maxRecDepth 100000 in
theorem sX2_isPattern {l : Launch} {d : Nat} (hd : 1 ≤ d) {S : qS} {a1 : Int32} {r : Bool} (h : fX2_isPattern a1 S = some r) {Q : Int32 → qS → Prop} (k : Q (q_b r) S) : q_Mi l d yX2_isPattern cX2_isPattern 1 (some .boolean) [.inl a1] S Q := by
  refine q_Mi_of (own := RX2) rfl rfl [some (.inl a1)] rfl (Nat.le_of_ble_eq_true rfl) ?_
  unfold fX2_isPattern at h
  refine q_iload_n dX2_isPattern_0 rfl ?_
  refine q_iconst (v := 4) dX2_isPattern_1 (by decide) ?_
  refine q_iload_n dX2_isPattern_2 rfl ?_
  obtain ⟨r3, h3, h⟩ := q_bnd h
  refine q_callSi1 dX2_isPattern_3 cl_X2_9 (Nat.le_of_ble_eq_true rfl) (by omega) (sX2_lastWeight (by omega) h3 ?_)
  refine q_imul dX2_isPattern_6 ?_
  refine q_icmp_lt 14 dX2_isPattern_7 (by decide) (fun c7 => ?_) (fun c7 => ?_)
  · replace h := q_ift c7 h
    refine q_iconst (v := 0) dX2_isPattern_14 (by decide) ?_
    exact q_ret (v := q_b false) dX2_isPattern_15 rfl (q_b_nar false) (q_lfb h k)
  · replace h := q_iff c7 h
    refine q_iconst (v := 1) dX2_isPattern_10 (by decide) ?_
    refine q_goto 15 dX2_isPattern_11 (by decide) ?_
    exact q_ret (v := q_b true) dX2_isPattern_15 rfl (q_b_nar true) (q_lfb h k)
def fX2_patternFor (a1 : Int32) (S : qS) : Option Int32 := (fX2_lastWeight a1 S).bind (fun r1 => if r1 = 0 then none else some ((a1 - a1 / r1 * r1) + (4 * r1)))
set_option maxHeartbeats 4000000 in
set_option maxRecDepth 100000 in
theorem sX2_patternFor {l : Launch} {d : Nat} (hd : 1 ≤ d) {S : qS} {a1 : Int32} {r : Int32} (h : fX2_patternFor a1 S = some r) {Q : Int32 → qS → Prop} (k : Q r S) : q_Mi l d yX2_patternFor cX2_patternFor 2 (some .int) [.inl a1] S Q := by
  refine q_Mi_of (own := RX2) rfl rfl [some (.inl a1), none] rfl (Nat.le_of_ble_eq_true rfl) ?_
  unfold fX2_patternFor at h
  refine q_iload_n dX2_patternFor_0 rfl ?_
  obtain ⟨r1, h1, h⟩ := q_bnd h
  refine q_callSi1 dX2_patternFor_1 cl_X2_9 (Nat.le_of_ble_eq_true rfl) (by omega) (sX2_lastWeight (by omega) h1 ?_)
  refine q_istore_n dX2_patternFor_4 (by decide) ?_
  refine q_iload_n dX2_patternFor_5 rfl ?_
  refine q_iload_n dX2_patternFor_6 rfl ?_
  obtain ⟨g7, h⟩ := q_gz h
  refine q_irem dX2_patternFor_7 g7 ?_
  refine q_iconst (v := 4) dX2_patternFor_8 (by decide) ?_
  refine q_iload_n dX2_patternFor_9 rfl ?_
  refine q_imul dX2_patternFor_10 ?_
  refine q_iadd dX2_patternFor_11 ?_
  exact q_ret dX2_patternFor_12 rfl rfl (q_lfi h k)
def fX2_isAt (a1 a2 : Int32) (S : qS) : Option Bool := if 5 ≤ a2 then if 25 ≤ a2 then if a1 = a2 then some true else some false else if (a1 - a1 / 25 * 25) = a2 then some true else some false else if (a1 - a1 / 5 * 5) = a2 then some true else some false
set_option maxHeartbeats 4000000 in
set_option maxRecDepth 100000 in
theorem sX2_isAt {l : Launch} {d : Nat} (hd : 0 ≤ d) {S : qS} {a1 a2 : Int32} {r : Bool} (h : fX2_isAt a1 a2 S = some r) {Q : Int32 → qS → Prop} (k : Q (q_b r) S) : q_Mi l d yX2_isAt cX2_isAt 2 (some .boolean) [.inl a1, .inl a2] S Q := by
  refine q_Mi_of (own := RX2) rfl rfl [some (.inl a1), some (.inl a2)] rfl (Nat.le_of_ble_eq_true rfl) ?_
  unfold fX2_isAt at h
  refine q_iload_n dX2_isAt_0 rfl ?_
  refine q_iconst (v := 5) dX2_isAt_1 (by decide) ?_
  refine q_icmp_ge 18 dX2_isAt_2 (by decide) (fun c2 => ?_) (fun c2 => ?_)
  · replace h := q_ift c2 h
    refine q_iload_n dX2_isAt_18 rfl ?_
    refine q_bipush (v := 25) dX2_isAt_19 (by decide) ?_
    refine q_icmp_ge 40 dX2_isAt_21 (by decide) (fun c21 => ?_) (fun c21 => ?_)
    · replace h := q_ift c21 h
      refine q_iload_n dX2_isAt_40 rfl ?_
      refine q_iload_n dX2_isAt_41 rfl ?_
      refine q_icmp_ne 49 dX2_isAt_42 (by decide) (fun c42 => ?_) (fun c42 => ?_)
      · replace h := q_iff c42 h
        refine q_iconst (v := 0) dX2_isAt_49 (by decide) ?_
        exact q_ret (v := q_b false) dX2_isAt_50 rfl (q_b_nar false) (q_lfb h k)
      · replace h := q_ift c42 h
        refine q_iconst (v := 1) dX2_isAt_45 (by decide) ?_
        refine q_goto 50 dX2_isAt_46 (by decide) ?_
        exact q_ret (v := q_b true) dX2_isAt_50 rfl (q_b_nar true) (q_lfb h k)
    · replace h := q_iff c21 h
      refine q_iload_n dX2_isAt_24 rfl ?_
      refine q_bipush (v := 25) dX2_isAt_25 (by decide) ?_
      refine q_irem dX2_isAt_27 (by decide) ?_
      refine q_iload_n dX2_isAt_28 rfl ?_
      refine q_icmp_ne 36 dX2_isAt_29 (by decide) (fun c29 => ?_) (fun c29 => ?_)
      · replace h := q_iff c29 h
        refine q_iconst (v := 0) dX2_isAt_36 (by decide) ?_
        refine q_goto 50 dX2_isAt_37 (by decide) ?_
        exact q_ret (v := q_b false) dX2_isAt_50 rfl (q_b_nar false) (q_lfb h k)
      · replace h := q_ift c29 h
        refine q_iconst (v := 1) dX2_isAt_32 (by decide) ?_
        refine q_goto 50 dX2_isAt_33 (by decide) ?_
        exact q_ret (v := q_b true) dX2_isAt_50 rfl (q_b_nar true) (q_lfb h k)
  · replace h := q_iff c2 h
    refine q_iload_n dX2_isAt_5 rfl ?_
    refine q_iconst (v := 5) dX2_isAt_6 (by decide) ?_
    refine q_irem dX2_isAt_7 (by decide) ?_
    refine q_iload_n dX2_isAt_8 rfl ?_
    refine q_icmp_ne 16 dX2_isAt_9 (by decide) (fun c9 => ?_) (fun c9 => ?_)
    · replace h := q_iff c9 h
      refine q_iconst (v := 0) dX2_isAt_16 (by decide) ?_
      exact q_ret (v := q_b false) dX2_isAt_17 rfl (q_b_nar false) (q_lfb h k)
    · replace h := q_ift c9 h
      refine q_iconst (v := 1) dX2_isAt_12 (by decide) ?_
      refine q_goto 17 dX2_isAt_13 (by decide) ?_
      exact q_ret (v := q_b true) dX2_isAt_17 rfl (q_b_nar true) (q_lfb h k)
def fX2_isBelow (a1 a2 : Int32) (S : qS) : Option Bool := if a1 = a2 then some false else (fX2_isAt a1 a2 S).bind (fun r7 => if r7 = true then some true else some false)
set_option maxHeartbeats 4000000 in
set_option maxRecDepth 100000 in
theorem sX2_isBelow {l : Launch} {d : Nat} (hd : 1 ≤ d) {S : qS} {a1 a2 : Int32} {r : Bool} (h : fX2_isBelow a1 a2 S = some r) {Q : Int32 → qS → Prop} (k : Q (q_b r) S) : q_Mi l d yX2_isBelow cX2_isBelow 2 (some .boolean) [.inl a1, .inl a2] S Q := by
  refine q_Mi_of (own := RX2) rfl rfl [some (.inl a1), some (.inl a2)] rfl (Nat.le_of_ble_eq_true rfl) ?_
  unfold fX2_isBelow at h
  refine q_iload_n dX2_isBelow_0 rfl ?_
  refine q_iload_n dX2_isBelow_1 rfl ?_
  refine q_icmp_eq 17 dX2_isBelow_2 (by decide) (fun c2 => ?_) (fun c2 => ?_)
  · replace h := q_ift c2 h
    refine q_iconst (v := 0) dX2_isBelow_17 (by decide) ?_
    exact q_ret (v := q_b false) dX2_isBelow_18 rfl (q_b_nar false) (q_lfb h k)
  · replace h := q_iff c2 h
    refine q_iload_n dX2_isBelow_5 rfl ?_
    refine q_iload_n dX2_isBelow_6 rfl ?_
    obtain ⟨r7, h7, h⟩ := q_bnd h
    refine q_callSi2 dX2_isBelow_7 cl_X2_13 (Nat.le_of_ble_eq_true rfl) (by omega) (sX2_isAt (by omega) h7 ?_)
    refine q_if_eq_b 17 dX2_isBelow_10 (by decide) (fun c10 => ?_) (fun c10 => ?_)
    · replace h := q_ifb c10 h
      refine q_iconst (v := 0) dX2_isBelow_17 (by decide) ?_
      exact q_ret (v := q_b false) dX2_isBelow_18 rfl (q_b_nar false) (q_lfb h k)
    · replace h := q_ift c10 h
      refine q_iconst (v := 1) dX2_isBelow_13 (by decide) ?_
      refine q_goto 18 dX2_isBelow_14 (by decide) ?_
      exact q_ret (v := q_b true) dX2_isBelow_18 rfl (q_b_nar true) (q_lfb h k)
def fX2_isLonger (a1 a2 : Int32) (S : qS) : Option Bool := (fX2_lastWeight a1 S).bind (fun r1 => (fX2_lastWeight a2 S).bind (fun r5 => if r1 ≤ r5 then some false else some true))
set_option maxHeartbeats 4000000 in
set_option maxRecDepth 100000 in
theorem sX2_isLonger {l : Launch} {d : Nat} (hd : 1 ≤ d) {S : qS} {a1 a2 : Int32} {r : Bool} (h : fX2_isLonger a1 a2 S = some r) {Q : Int32 → qS → Prop} (k : Q (q_b r) S) : q_Mi l d yX2_isLonger cX2_isLonger 2 (some .boolean) [.inl a1, .inl a2] S Q := by
  refine q_Mi_of (own := RX2) rfl rfl [some (.inl a1), some (.inl a2)] rfl (Nat.le_of_ble_eq_true rfl) ?_
  unfold fX2_isLonger at h
  refine q_iload_n dX2_isLonger_0 rfl ?_
  obtain ⟨r1, h1, h⟩ := q_bnd h
  refine q_callSi1 dX2_isLonger_1 cl_X2_9 (Nat.le_of_ble_eq_true rfl) (by omega) (sX2_lastWeight (by omega) h1 ?_)
  refine q_iload_n dX2_isLonger_4 rfl ?_
  obtain ⟨r5, h5, h⟩ := q_bnd h
  refine q_callSi1 dX2_isLonger_5 cl_X2_9 (Nat.le_of_ble_eq_true rfl) (by omega) (sX2_lastWeight (by omega) h5 ?_)
  refine q_icmp_le 15 dX2_isLonger_8 (by decide) (fun c8 => ?_) (fun c8 => ?_)
  · replace h := q_ift c8 h
    refine q_iconst (v := 0) dX2_isLonger_15 (by decide) ?_
    exact q_ret (v := q_b false) dX2_isLonger_16 rfl (q_b_nar false) (q_lfb h k)
  · replace h := q_iff c8 h
    refine q_iconst (v := 1) dX2_isLonger_11 (by decide) ?_
    refine q_goto 16 dX2_isLonger_12 (by decide) ?_
    exact q_ret (v := q_b true) dX2_isLonger_16 rfl (q_b_nar true) (q_lfb h k)
def fX5_isFull_2 (S : qS) : Option Bool := if (S 2 3) < (S 2 2) then some false else some true
set_option maxHeartbeats 4000000 in
set_option maxRecDepth 100000 in
theorem sX5_isFull_2 {l : Launch} {d : Nat} (hd : 0 ≤ d) {S : qS} {r : Bool} (h : fX5_isFull_2 S = some r) {Q : Int32 → qS → Prop} (k : Q (q_b r) S) : q_Mi l d yX5_isFull cX5_isFull 1 (some .boolean) [.inr 2] S Q := by
  refine q_Mi_of (own := RX5) rfl rfl [some (.inr 2)] rfl (Nat.le_of_ble_eq_true rfl) ?_
  unfold fX5_isFull_2 at h
  refine q_aload_n dX5_isFull_0 rfl ?_
  refine q_geti dX5_isFull_1 fl_X5_28 rfl rfl ?_
  refine q_aload_n dX5_isFull_4 rfl ?_
  refine q_geti dX5_isFull_5 fl_X5_15 rfl rfl ?_
  refine q_icmp_lt 15 dX5_isFull_8 (by decide) (fun c8 => ?_) (fun c8 => ?_)
  · replace h := q_ift c8 h
    refine q_iconst (v := 0) dX5_isFull_15 (by decide) ?_
    exact q_ret (v := q_b false) dX5_isFull_16 rfl (q_b_nar false) (q_lfb h k)
  · replace h := q_iff c8 h
    refine q_iconst (v := 1) dX5_isFull_11 (by decide) ?_
    refine q_goto 16 dX5_isFull_12 (by decide) ?_
    exact q_ret (v := q_b true) dX5_isFull_16 rfl (q_b_nar true) (q_lfb h k)
def fX5_isFull_10 (S : qS) : Option Bool := if (S 10 3) < (S 10 2) then some false else some true
set_option maxHeartbeats 4000000 in
set_option maxRecDepth 100000 in
theorem sX5_isFull_10 {l : Launch} {d : Nat} (hd : 0 ≤ d) {S : qS} {r : Bool} (h : fX5_isFull_10 S = some r) {Q : Int32 → qS → Prop} (k : Q (q_b r) S) : q_Mi l d yX5_isFull cX5_isFull 1 (some .boolean) [.inr 10] S Q := by
  refine q_Mi_of (own := RX5) rfl rfl [some (.inr 10)] rfl (Nat.le_of_ble_eq_true rfl) ?_
  unfold fX5_isFull_10 at h
  refine q_aload_n dX5_isFull_0 rfl ?_
  refine q_geti dX5_isFull_1 fl_X5_28 rfl rfl ?_
  refine q_aload_n dX5_isFull_4 rfl ?_
  refine q_geti dX5_isFull_5 fl_X5_15 rfl rfl ?_
  refine q_icmp_lt 15 dX5_isFull_8 (by decide) (fun c8 => ?_) (fun c8 => ?_)
  · replace h := q_ift c8 h
    refine q_iconst (v := 0) dX5_isFull_15 (by decide) ?_
    exact q_ret (v := q_b false) dX5_isFull_16 rfl (q_b_nar false) (q_lfb h k)
  · replace h := q_iff c8 h
    refine q_iconst (v := 1) dX5_isFull_11 (by decide) ?_
    refine q_goto 16 dX5_isFull_12 (by decide) ?_
    exact q_ret (v := q_b true) dX5_isFull_16 rfl (q_b_nar true) (q_lfb h k)
def fX5_isFull_16 (S : qS) : Option Bool := if (S 16 3) < (S 16 2) then some false else some true
set_option maxHeartbeats 4000000 in
set_option maxRecDepth 100000 in
theorem sX5_isFull_16 {l : Launch} {d : Nat} (hd : 0 ≤ d) {S : qS} {r : Bool} (h : fX5_isFull_16 S = some r) {Q : Int32 → qS → Prop} (k : Q (q_b r) S) : q_Mi l d yX5_isFull cX5_isFull 1 (some .boolean) [.inr 16] S Q := by
  refine q_Mi_of (own := RX5) rfl rfl [some (.inr 16)] rfl (Nat.le_of_ble_eq_true rfl) ?_
  unfold fX5_isFull_16 at h
  refine q_aload_n dX5_isFull_0 rfl ?_
  refine q_geti dX5_isFull_1 fl_X5_28 rfl rfl ?_
  refine q_aload_n dX5_isFull_4 rfl ?_
  refine q_geti dX5_isFull_5 fl_X5_15 rfl rfl ?_
  refine q_icmp_lt 15 dX5_isFull_8 (by decide) (fun c8 => ?_) (fun c8 => ?_)
  · replace h := q_ift c8 h
    refine q_iconst (v := 0) dX5_isFull_15 (by decide) ?_
    exact q_ret (v := q_b false) dX5_isFull_16 rfl (q_b_nar false) (q_lfb h k)
  · replace h := q_iff c8 h
    refine q_iconst (v := 1) dX5_isFull_11 (by decide) ?_
    refine q_goto 16 dX5_isFull_12 (by decide) ?_
    exact q_ret (v := q_b true) dX5_isFull_16 rfl (q_b_nar true) (q_lfb h k)
def fX5_hasRoomFor_2 (a1 : Int32) (S : qS) : Option Bool := if ((S 2 2) - (S 2 3)) < a1 then some false else some true
set_option maxHeartbeats 4000000 in
set_option maxRecDepth 100000 in
theorem sX5_hasRoomFor_2 {l : Launch} {d : Nat} (hd : 0 ≤ d) {S : qS} {a1 : Int32} {r : Bool} (h : fX5_hasRoomFor_2 a1 S = some r) {Q : Int32 → qS → Prop} (k : Q (q_b r) S) : q_Mi l d yX5_hasRoomFor cX5_hasRoomFor 2 (some .boolean) [.inr 2, .inl a1] S Q := by
  refine q_Mi_of (own := RX5) rfl rfl [some (.inr 2), some (.inl a1)] rfl (Nat.le_of_ble_eq_true rfl) ?_
  unfold fX5_hasRoomFor_2 at h
  refine q_iload_n dX5_hasRoomFor_0 rfl ?_
  refine q_aload_n dX5_hasRoomFor_1 rfl ?_
  refine q_geti dX5_hasRoomFor_2 fl_X5_15 rfl rfl ?_
  refine q_aload_n dX5_hasRoomFor_5 rfl ?_
  refine q_geti dX5_hasRoomFor_6 fl_X5_28 rfl rfl ?_
  refine q_isub dX5_hasRoomFor_9 ?_
  refine q_icmp_gt 17 dX5_hasRoomFor_10 (by decide) (fun c10 => ?_) (fun c10 => ?_)
  · replace h := q_ift c10 h
    refine q_iconst (v := 0) dX5_hasRoomFor_17 (by decide) ?_
    exact q_ret (v := q_b false) dX5_hasRoomFor_18 rfl (q_b_nar false) (q_lfb h k)
  · replace h := q_iff c10 h
    refine q_iconst (v := 1) dX5_hasRoomFor_13 (by decide) ?_
    refine q_goto 18 dX5_hasRoomFor_14 (by decide) ?_
    exact q_ret (v := q_b true) dX5_hasRoomFor_18 rfl (q_b_nar true) (q_lfb h k)
def fX5_hasRoomFor_10 (a1 : Int32) (S : qS) : Option Bool := if ((S 10 2) - (S 10 3)) < a1 then some false else some true
set_option maxHeartbeats 4000000 in
set_option maxRecDepth 100000 in
theorem sX5_hasRoomFor_10 {l : Launch} {d : Nat} (hd : 0 ≤ d) {S : qS} {a1 : Int32} {r : Bool} (h : fX5_hasRoomFor_10 a1 S = some r) {Q : Int32 → qS → Prop} (k : Q (q_b r) S) : q_Mi l d yX5_hasRoomFor cX5_hasRoomFor 2 (some .boolean) [.inr 10, .inl a1] S Q := by
  refine q_Mi_of (own := RX5) rfl rfl [some (.inr 10), some (.inl a1)] rfl (Nat.le_of_ble_eq_true rfl) ?_
  unfold fX5_hasRoomFor_10 at h
  refine q_iload_n dX5_hasRoomFor_0 rfl ?_
  refine q_aload_n dX5_hasRoomFor_1 rfl ?_
  refine q_geti dX5_hasRoomFor_2 fl_X5_15 rfl rfl ?_
  refine q_aload_n dX5_hasRoomFor_5 rfl ?_
  refine q_geti dX5_hasRoomFor_6 fl_X5_28 rfl rfl ?_
  refine q_isub dX5_hasRoomFor_9 ?_
  refine q_icmp_gt 17 dX5_hasRoomFor_10 (by decide) (fun c10 => ?_) (fun c10 => ?_)
  · replace h := q_ift c10 h
    refine q_iconst (v := 0) dX5_hasRoomFor_17 (by decide) ?_
    exact q_ret (v := q_b false) dX5_hasRoomFor_18 rfl (q_b_nar false) (q_lfb h k)
  · replace h := q_iff c10 h
    refine q_iconst (v := 1) dX5_hasRoomFor_13 (by decide) ?_
    refine q_goto 18 dX5_hasRoomFor_14 (by decide) ?_
    exact q_ret (v := q_b true) dX5_hasRoomFor_18 rfl (q_b_nar true) (q_lfb h k)
def fX5_hasRoomFor_16 (a1 : Int32) (S : qS) : Option Bool := if ((S 16 2) - (S 16 3)) < a1 then some false else some true
set_option maxHeartbeats 4000000 in
set_option maxRecDepth 100000 in
theorem sX5_hasRoomFor_16 {l : Launch} {d : Nat} (hd : 0 ≤ d) {S : qS} {a1 : Int32} {r : Bool} (h : fX5_hasRoomFor_16 a1 S = some r) {Q : Int32 → qS → Prop} (k : Q (q_b r) S) : q_Mi l d yX5_hasRoomFor cX5_hasRoomFor 2 (some .boolean) [.inr 16, .inl a1] S Q := by
  refine q_Mi_of (own := RX5) rfl rfl [some (.inr 16), some (.inl a1)] rfl (Nat.le_of_ble_eq_true rfl) ?_
  unfold fX5_hasRoomFor_16 at h
  refine q_iload_n dX5_hasRoomFor_0 rfl ?_
  refine q_aload_n dX5_hasRoomFor_1 rfl ?_
  refine q_geti dX5_hasRoomFor_2 fl_X5_15 rfl rfl ?_
  refine q_aload_n dX5_hasRoomFor_5 rfl ?_
  refine q_geti dX5_hasRoomFor_6 fl_X5_28 rfl rfl ?_
  refine q_isub dX5_hasRoomFor_9 ?_
  refine q_icmp_gt 17 dX5_hasRoomFor_10 (by decide) (fun c10 => ?_) (fun c10 => ?_)
  · replace h := q_ift c10 h
    refine q_iconst (v := 0) dX5_hasRoomFor_17 (by decide) ?_
    exact q_ret (v := q_b false) dX5_hasRoomFor_18 rfl (q_b_nar false) (q_lfb h k)
  · replace h := q_iff c10 h
    refine q_iconst (v := 1) dX5_hasRoomFor_13 (by decide) ?_
    refine q_goto 18 dX5_hasRoomFor_14 (by decide) ?_
    exact q_ret (v := q_b true) dX5_hasRoomFor_18 rfl (q_b_nar true) (q_lfb h k)
def fX5_isMade_2 (a1 : Int32) (S : qS) : Option Bool := if a1 < 0 then some false else if (S 2 3) ≤ a1 then some false else some true
set_option maxHeartbeats 4000000 in
set_option maxRecDepth 100000 in
theorem sX5_isMade_2 {l : Launch} {d : Nat} (hd : 0 ≤ d) {S : qS} {a1 : Int32} {r : Bool} (h : fX5_isMade_2 a1 S = some r) {Q : Int32 → qS → Prop} (k : Q (q_b r) S) : q_Mi l d yX5_isMade cX5_isMade 2 (some .boolean) [.inr 2, .inl a1] S Q := by
  refine q_Mi_of (own := RX5) rfl rfl [some (.inr 2), some (.inl a1)] rfl (Nat.le_of_ble_eq_true rfl) ?_
  unfold fX5_isMade_2 at h
  refine q_iload_n dX5_isMade_0 rfl ?_
  refine q_if_lt 16 dX5_isMade_1 (by decide) (fun c1 => ?_) (fun c1 => ?_)
  · replace h := q_ift c1 h
    refine q_iconst (v := 0) dX5_isMade_16 (by decide) ?_
    exact q_ret (v := q_b false) dX5_isMade_17 rfl (q_b_nar false) (q_lfb h k)
  · replace h := q_iff c1 h
    refine q_iload_n dX5_isMade_4 rfl ?_
    refine q_aload_n dX5_isMade_5 rfl ?_
    refine q_geti dX5_isMade_6 fl_X5_28 rfl rfl ?_
    refine q_icmp_ge 16 dX5_isMade_9 (by decide) (fun c9 => ?_) (fun c9 => ?_)
    · replace h := q_ift c9 h
      refine q_iconst (v := 0) dX5_isMade_16 (by decide) ?_
      exact q_ret (v := q_b false) dX5_isMade_17 rfl (q_b_nar false) (q_lfb h k)
    · replace h := q_iff c9 h
      refine q_iconst (v := 1) dX5_isMade_12 (by decide) ?_
      refine q_goto 17 dX5_isMade_13 (by decide) ?_
      exact q_ret (v := q_b true) dX5_isMade_17 rfl (q_b_nar true) (q_lfb h k)
def fX5_isMade_10 (a1 : Int32) (S : qS) : Option Bool := if a1 < 0 then some false else if (S 10 3) ≤ a1 then some false else some true
set_option maxHeartbeats 4000000 in
set_option maxRecDepth 100000 in
theorem sX5_isMade_10 {l : Launch} {d : Nat} (hd : 0 ≤ d) {S : qS} {a1 : Int32} {r : Bool} (h : fX5_isMade_10 a1 S = some r) {Q : Int32 → qS → Prop} (k : Q (q_b r) S) : q_Mi l d yX5_isMade cX5_isMade 2 (some .boolean) [.inr 10, .inl a1] S Q := by
  refine q_Mi_of (own := RX5) rfl rfl [some (.inr 10), some (.inl a1)] rfl (Nat.le_of_ble_eq_true rfl) ?_
  unfold fX5_isMade_10 at h
  refine q_iload_n dX5_isMade_0 rfl ?_
  refine q_if_lt 16 dX5_isMade_1 (by decide) (fun c1 => ?_) (fun c1 => ?_)
  · replace h := q_ift c1 h
    refine q_iconst (v := 0) dX5_isMade_16 (by decide) ?_
    exact q_ret (v := q_b false) dX5_isMade_17 rfl (q_b_nar false) (q_lfb h k)
  · replace h := q_iff c1 h
    refine q_iload_n dX5_isMade_4 rfl ?_
    refine q_aload_n dX5_isMade_5 rfl ?_
    refine q_geti dX5_isMade_6 fl_X5_28 rfl rfl ?_
    refine q_icmp_ge 16 dX5_isMade_9 (by decide) (fun c9 => ?_) (fun c9 => ?_)
    · replace h := q_ift c9 h
      refine q_iconst (v := 0) dX5_isMade_16 (by decide) ?_
      exact q_ret (v := q_b false) dX5_isMade_17 rfl (q_b_nar false) (q_lfb h k)
    · replace h := q_iff c9 h
      refine q_iconst (v := 1) dX5_isMade_12 (by decide) ?_
      refine q_goto 17 dX5_isMade_13 (by decide) ?_
      exact q_ret (v := q_b true) dX5_isMade_17 rfl (q_b_nar true) (q_lfb h k)
def fX5_isMade_16 (a1 : Int32) (S : qS) : Option Bool := if a1 < 0 then some false else if (S 16 3) ≤ a1 then some false else some true
set_option maxHeartbeats 4000000 in
set_option maxRecDepth 100000 in
theorem sX5_isMade_16 {l : Launch} {d : Nat} (hd : 0 ≤ d) {S : qS} {a1 : Int32} {r : Bool} (h : fX5_isMade_16 a1 S = some r) {Q : Int32 → qS → Prop} (k : Q (q_b r) S) : q_Mi l d yX5_isMade cX5_isMade 2 (some .boolean) [.inr 16, .inl a1] S Q := by
  refine q_Mi_of (own := RX5) rfl rfl [some (.inr 16), some (.inl a1)] rfl (Nat.le_of_ble_eq_true rfl) ?_
  unfold fX5_isMade_16 at h
  refine q_iload_n dX5_isMade_0 rfl ?_
  refine q_if_lt 16 dX5_isMade_1 (by decide) (fun c1 => ?_) (fun c1 => ?_)
  · replace h := q_ift c1 h
    refine q_iconst (v := 0) dX5_isMade_16 (by decide) ?_
    exact q_ret (v := q_b false) dX5_isMade_17 rfl (q_b_nar false) (q_lfb h k)
  · replace h := q_iff c1 h
    refine q_iload_n dX5_isMade_4 rfl ?_
    refine q_aload_n dX5_isMade_5 rfl ?_
    refine q_geti dX5_isMade_6 fl_X5_28 rfl rfl ?_
    refine q_icmp_ge 16 dX5_isMade_9 (by decide) (fun c9 => ?_) (fun c9 => ?_)
    · replace h := q_ift c9 h
      refine q_iconst (v := 0) dX5_isMade_16 (by decide) ?_
      exact q_ret (v := q_b false) dX5_isMade_17 rfl (q_b_nar false) (q_lfb h k)
    · replace h := q_iff c9 h
      refine q_iconst (v := 1) dX5_isMade_12 (by decide) ?_
      refine q_goto 17 dX5_isMade_13 (by decide) ?_
      exact q_ret (v := q_b true) dX5_isMade_17 rfl (q_b_nar true) (q_lfb h k)
def fX5_isThere_2 (a1 a2 : Int32) (S : qS) : Option Bool := if a1 < 0 then some false else if (S 2 3) ≤ a1 then some false else if q_inb a1 10 = true then if a2 < (S 3 a1.toNatClampNeg) then some false else if q_inb a1 10 = true then if (S 4 a1.toNatClampNeg) ≤ a2 then some false else some true else none else none
set_option maxHeartbeats 4000000 in
set_option maxRecDepth 100000 in
theorem sX5_isThere_2 {l : Launch} {d : Nat} (hd : 0 ≤ d) {S : qS} {a1 a2 : Int32} {r : Bool} (h : fX5_isThere_2 a1 a2 S = some r) {Q : Int32 → qS → Prop} (k : Q (q_b r) S) : q_Mi l d yX5_isThere cX5_isThere 3 (some .boolean) [.inr 2, .inl a1, .inl a2] S Q := by
  refine q_Mi_of (own := RX5) rfl rfl [some (.inr 2), some (.inl a1), some (.inl a2)] rfl (Nat.le_of_ble_eq_true rfl) ?_
  unfold fX5_isThere_2 at h
  refine q_iload_n dX5_isThere_0 rfl ?_
  refine q_if_lt 36 dX5_isThere_1 (by decide) (fun c1 => ?_) (fun c1 => ?_)
  · replace h := q_ift c1 h
    refine q_iconst (v := 0) dX5_isThere_36 (by decide) ?_
    exact q_ret (v := q_b false) dX5_isThere_37 rfl (q_b_nar false) (q_lfb h k)
  · replace h := q_iff c1 h
    refine q_iload_n dX5_isThere_4 rfl ?_
    refine q_aload_n dX5_isThere_5 rfl ?_
    refine q_geti dX5_isThere_6 fl_X5_28 rfl rfl ?_
    refine q_icmp_ge 36 dX5_isThere_9 (by decide) (fun c9 => ?_) (fun c9 => ?_)
    · replace h := q_ift c9 h
      refine q_iconst (v := 0) dX5_isThere_36 (by decide) ?_
      exact q_ret (v := q_b false) dX5_isThere_37 rfl (q_b_nar false) (q_lfb h k)
    · replace h := q_iff c9 h
      refine q_aload_n dX5_isThere_12 rfl ?_
      refine q_getr dX5_isThere_13 fl_X5_21 rfl rfl ?_
      refine q_iload_n dX5_isThere_16 rfl ?_
      obtain ⟨g17, h⟩ := q_gd h
      refine q_iald dX5_isThere_17 rfl g17 ?_
      refine q_iload_n dX5_isThere_18 rfl ?_
      refine q_icmp_gt 36 dX5_isThere_19 (by decide) (fun c19 => ?_) (fun c19 => ?_)
      · replace h := q_ift c19 h
        refine q_iconst (v := 0) dX5_isThere_36 (by decide) ?_
        exact q_ret (v := q_b false) dX5_isThere_37 rfl (q_b_nar false) (q_lfb h k)
      · replace h := q_iff c19 h
        refine q_iload_n dX5_isThere_22 rfl ?_
        refine q_aload_n dX5_isThere_23 rfl ?_
        refine q_getr dX5_isThere_24 fl_X5_25 rfl rfl ?_
        refine q_iload_n dX5_isThere_27 rfl ?_
        obtain ⟨g28, h⟩ := q_gd h
        refine q_iald dX5_isThere_28 rfl g28 ?_
        refine q_icmp_ge 36 dX5_isThere_29 (by decide) (fun c29 => ?_) (fun c29 => ?_)
        · replace h := q_ift c29 h
          refine q_iconst (v := 0) dX5_isThere_36 (by decide) ?_
          exact q_ret (v := q_b false) dX5_isThere_37 rfl (q_b_nar false) (q_lfb h k)
        · replace h := q_iff c29 h
          refine q_iconst (v := 1) dX5_isThere_32 (by decide) ?_
          refine q_goto 37 dX5_isThere_33 (by decide) ?_
          exact q_ret (v := q_b true) dX5_isThere_37 rfl (q_b_nar true) (q_lfb h k)
def fX5_isThere_10 (a1 a2 : Int32) (S : qS) : Option Bool := if a1 < 0 then some false else if (S 10 3) ≤ a1 then some false else if q_inb a1 10 = true then if a2 < (S 11 a1.toNatClampNeg) then some false else if q_inb a1 10 = true then if (S 12 a1.toNatClampNeg) ≤ a2 then some false else some true else none else none
set_option maxHeartbeats 4000000 in
set_option maxRecDepth 100000 in
theorem sX5_isThere_10 {l : Launch} {d : Nat} (hd : 0 ≤ d) {S : qS} {a1 a2 : Int32} {r : Bool} (h : fX5_isThere_10 a1 a2 S = some r) {Q : Int32 → qS → Prop} (k : Q (q_b r) S) : q_Mi l d yX5_isThere cX5_isThere 3 (some .boolean) [.inr 10, .inl a1, .inl a2] S Q := by
  refine q_Mi_of (own := RX5) rfl rfl [some (.inr 10), some (.inl a1), some (.inl a2)] rfl (Nat.le_of_ble_eq_true rfl) ?_
  unfold fX5_isThere_10 at h
  refine q_iload_n dX5_isThere_0 rfl ?_
  refine q_if_lt 36 dX5_isThere_1 (by decide) (fun c1 => ?_) (fun c1 => ?_)
  · replace h := q_ift c1 h
    refine q_iconst (v := 0) dX5_isThere_36 (by decide) ?_
    exact q_ret (v := q_b false) dX5_isThere_37 rfl (q_b_nar false) (q_lfb h k)
  · replace h := q_iff c1 h
    refine q_iload_n dX5_isThere_4 rfl ?_
    refine q_aload_n dX5_isThere_5 rfl ?_
    refine q_geti dX5_isThere_6 fl_X5_28 rfl rfl ?_
    refine q_icmp_ge 36 dX5_isThere_9 (by decide) (fun c9 => ?_) (fun c9 => ?_)
    · replace h := q_ift c9 h
      refine q_iconst (v := 0) dX5_isThere_36 (by decide) ?_
      exact q_ret (v := q_b false) dX5_isThere_37 rfl (q_b_nar false) (q_lfb h k)
    · replace h := q_iff c9 h
      refine q_aload_n dX5_isThere_12 rfl ?_
      refine q_getr dX5_isThere_13 fl_X5_21 rfl rfl ?_
      refine q_iload_n dX5_isThere_16 rfl ?_
      obtain ⟨g17, h⟩ := q_gd h
      refine q_iald dX5_isThere_17 rfl g17 ?_
      refine q_iload_n dX5_isThere_18 rfl ?_
      refine q_icmp_gt 36 dX5_isThere_19 (by decide) (fun c19 => ?_) (fun c19 => ?_)
      · replace h := q_ift c19 h
        refine q_iconst (v := 0) dX5_isThere_36 (by decide) ?_
        exact q_ret (v := q_b false) dX5_isThere_37 rfl (q_b_nar false) (q_lfb h k)
      · replace h := q_iff c19 h
        refine q_iload_n dX5_isThere_22 rfl ?_
        refine q_aload_n dX5_isThere_23 rfl ?_
        refine q_getr dX5_isThere_24 fl_X5_25 rfl rfl ?_
        refine q_iload_n dX5_isThere_27 rfl ?_
        obtain ⟨g28, h⟩ := q_gd h
        refine q_iald dX5_isThere_28 rfl g28 ?_
        refine q_icmp_ge 36 dX5_isThere_29 (by decide) (fun c29 => ?_) (fun c29 => ?_)
        · replace h := q_ift c29 h
          refine q_iconst (v := 0) dX5_isThere_36 (by decide) ?_
          exact q_ret (v := q_b false) dX5_isThere_37 rfl (q_b_nar false) (q_lfb h k)
        · replace h := q_iff c29 h
          refine q_iconst (v := 1) dX5_isThere_32 (by decide) ?_
          refine q_goto 37 dX5_isThere_33 (by decide) ?_
          exact q_ret (v := q_b true) dX5_isThere_37 rfl (q_b_nar true) (q_lfb h k)
def fX5_isThere_16 (a1 a2 : Int32) (S : qS) : Option Bool := if a1 < 0 then some false else if (S 16 3) ≤ a1 then some false else if q_inb a1 70 = true then if a2 < (S 17 a1.toNatClampNeg) then some false else if q_inb a1 70 = true then if (S 18 a1.toNatClampNeg) ≤ a2 then some false else some true else none else none
set_option maxHeartbeats 4000000 in
set_option maxRecDepth 100000 in
theorem sX5_isThere_16 {l : Launch} {d : Nat} (hd : 0 ≤ d) {S : qS} {a1 a2 : Int32} {r : Bool} (h : fX5_isThere_16 a1 a2 S = some r) {Q : Int32 → qS → Prop} (k : Q (q_b r) S) : q_Mi l d yX5_isThere cX5_isThere 3 (some .boolean) [.inr 16, .inl a1, .inl a2] S Q := by
  refine q_Mi_of (own := RX5) rfl rfl [some (.inr 16), some (.inl a1), some (.inl a2)] rfl (Nat.le_of_ble_eq_true rfl) ?_
  unfold fX5_isThere_16 at h
  refine q_iload_n dX5_isThere_0 rfl ?_
  refine q_if_lt 36 dX5_isThere_1 (by decide) (fun c1 => ?_) (fun c1 => ?_)
  · replace h := q_ift c1 h
    refine q_iconst (v := 0) dX5_isThere_36 (by decide) ?_
    exact q_ret (v := q_b false) dX5_isThere_37 rfl (q_b_nar false) (q_lfb h k)
  · replace h := q_iff c1 h
    refine q_iload_n dX5_isThere_4 rfl ?_
    refine q_aload_n dX5_isThere_5 rfl ?_
    refine q_geti dX5_isThere_6 fl_X5_28 rfl rfl ?_
    refine q_icmp_ge 36 dX5_isThere_9 (by decide) (fun c9 => ?_) (fun c9 => ?_)
    · replace h := q_ift c9 h
      refine q_iconst (v := 0) dX5_isThere_36 (by decide) ?_
      exact q_ret (v := q_b false) dX5_isThere_37 rfl (q_b_nar false) (q_lfb h k)
    · replace h := q_iff c9 h
      refine q_aload_n dX5_isThere_12 rfl ?_
      refine q_getr dX5_isThere_13 fl_X5_21 rfl rfl ?_
      refine q_iload_n dX5_isThere_16 rfl ?_
      obtain ⟨g17, h⟩ := q_gd h
      refine q_iald dX5_isThere_17 rfl g17 ?_
      refine q_iload_n dX5_isThere_18 rfl ?_
      refine q_icmp_gt 36 dX5_isThere_19 (by decide) (fun c19 => ?_) (fun c19 => ?_)
      · replace h := q_ift c19 h
        refine q_iconst (v := 0) dX5_isThere_36 (by decide) ?_
        exact q_ret (v := q_b false) dX5_isThere_37 rfl (q_b_nar false) (q_lfb h k)
      · replace h := q_iff c19 h
        refine q_iload_n dX5_isThere_22 rfl ?_
        refine q_aload_n dX5_isThere_23 rfl ?_
        refine q_getr dX5_isThere_24 fl_X5_25 rfl rfl ?_
        refine q_iload_n dX5_isThere_27 rfl ?_
        obtain ⟨g28, h⟩ := q_gd h
        refine q_iald dX5_isThere_28 rfl g28 ?_
        refine q_icmp_ge 36 dX5_isThere_29 (by decide) (fun c29 => ?_) (fun c29 => ?_)
        · replace h := q_ift c29 h
          refine q_iconst (v := 0) dX5_isThere_36 (by decide) ?_
          exact q_ret (v := q_b false) dX5_isThere_37 rfl (q_b_nar false) (q_lfb h k)
        · replace h := q_iff c29 h
          refine q_iconst (v := 1) dX5_isThere_32 (by decide) ?_
          refine q_goto 37 dX5_isThere_33 (by decide) ?_
          exact q_ret (v := q_b true) dX5_isThere_37 rfl (q_b_nar true) (q_lfb h k)
end
