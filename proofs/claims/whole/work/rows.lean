section
-- ===== PART A: goes FIRST, ahead of the names: the tables' words, and 'selects' of the private methods out of them =====
/-- a private method of a class that the tables say can be made, by its rows of tables_1 -/
def lw_okq (q : MethodName × Nat) : Prop := (q.1.cls ≠ "java/lang/invoke/MethodHandle" ∧ q.1.cls ≠ "java/lang/invoke/VarHandle") ∧ Cond.instantiable q.1.cls q.2 ∈ tables_1 ∧ Cond.privateMethod q.1 ∈ tables_1 ∧ Cond.instanceMethod q.1 ∈ tables_1
theorem lw_p0 : lw_okq (⟨"ViewedNames", "isTick", "(I)Z"⟩, 7) := ⟨⟨by decide +kernel, by decide +kernel⟩, List.mem_of_getElem? (i := 13) (by decide +kernel), List.mem_of_getElem? (i := 288) (by decide +kernel), List.mem_of_getElem? (i := 289) (by decide +kernel)⟩
theorem lw_p1 : lw_okq (⟨"ViewedNames$Records", "note", "(IIIII)I"⟩, 5) := ⟨⟨by decide +kernel, by decide +kernel⟩, List.mem_of_getElem? (i := 104) (by decide +kernel), List.mem_of_getElem? (i := 374) (by decide +kernel), List.mem_of_getElem? (i := 375) (by decide +kernel)⟩
theorem lw_p2 : lw_okq (⟨"ViewedNames$Text", "readChange", "(I)I"⟩, 6) := ⟨⟨by decide +kernel, by decide +kernel⟩, List.mem_of_getElem? (i := 181) (by decide +kernel), List.mem_of_getElem? (i := 417) (by decide +kernel), List.mem_of_getElem? (i := 418) (by decide +kernel)⟩
theorem lw_p3 : lw_okq (⟨"ViewedNames$Text", "digits", "(III)I"⟩, 6) := ⟨⟨by decide +kernel, by decide +kernel⟩, List.mem_of_getElem? (i := 181) (by decide +kernel), List.mem_of_getElem? (i := 421) (by decide +kernel), List.mem_of_getElem? (i := 422) (by decide +kernel)⟩
theorem lw_p4 : lw_okq (⟨"ViewedNames$Text", "characterAt", "(I)I"⟩, 6) := ⟨⟨by decide +kernel, by decide +kernel⟩, List.mem_of_getElem? (i := 181) (by decide +kernel), List.mem_of_getElem? (i := 425) (by decide +kernel), List.mem_of_getElem? (i := 426) (by decide +kernel)⟩
theorem lw_p5 : lw_okq (⟨"ViewedNames$Text", "nameIn", "(II)I"⟩, 6) := ⟨⟨by decide +kernel, by decide +kernel⟩, List.mem_of_getElem? (i := 181) (by decide +kernel), List.mem_of_getElem? (i := 430) (by decide +kernel), List.mem_of_getElem? (i := 431) (by decide +kernel)⟩
theorem lw_p6 : lw_okq (⟨"ViewedNames$Text", "numberIn", "(II)I"⟩, 6) := ⟨⟨by decide +kernel, by decide +kernel⟩, List.mem_of_getElem? (i := 181) (by decide +kernel), List.mem_of_getElem? (i := 434) (by decide +kernel), List.mem_of_getElem? (i := 435) (by decide +kernel)⟩
theorem lw_p7 : lw_okq (⟨"ViewedNames", "layChanges", "(I)V"⟩, 7) := ⟨⟨by decide +kernel, by decide +kernel⟩, List.mem_of_getElem? (i := 13) (by decide +kernel), List.mem_of_getElem? (i := 448) (by decide +kernel), List.mem_of_getElem? (i := 449) (by decide +kernel)⟩
theorem lw_p8 : lw_okq (⟨"ViewedNames", "answerFor", "(IIII)I"⟩, 7) := ⟨⟨by decide +kernel, by decide +kernel⟩, List.mem_of_getElem? (i := 13) (by decide +kernel), List.mem_of_getElem? (i := 459) (by decide +kernel), List.mem_of_getElem? (i := 460) (by decide +kernel)⟩
theorem lw_p9 : lw_okq (⟨"ViewedNames", "countDiffering", "(IIIII)I"⟩, 7) := ⟨⟨by decide +kernel, by decide +kernel⟩, List.mem_of_getElem? (i := 13) (by decide +kernel), List.mem_of_getElem? (i := 519) (by decide +kernel), List.mem_of_getElem? (i := 520) (by decide +kernel)⟩
theorem lw_p10 : lw_okq (⟨"ViewedNames$KeptAnswers", "forget", "(I)V"⟩, 8) := ⟨⟨by decide +kernel, by decide +kernel⟩, List.mem_of_getElem? (i := 143) (by decide +kernel), List.mem_of_getElem? (i := 573) (by decide +kernel), List.mem_of_getElem? (i := 574) (by decide +kernel)⟩
theorem lw_p11 : lw_okq (⟨"ViewedNamesModel", "isTick", "(I)Z"⟩, 17) := ⟨⟨by decide +kernel, by decide +kernel⟩, List.mem_of_getElem? (i := 597) (by decide +kernel), List.mem_of_getElem? (i := 681) (by decide +kernel), List.mem_of_getElem? (i := 682) (by decide +kernel)⟩
theorem lw_p12 : lw_okq (⟨"ViewedNamesModel", "viewAt", "(II)I"⟩, 17) := ⟨⟨by decide +kernel, by decide +kernel⟩, List.mem_of_getElem? (i := 597) (by decide +kernel), List.mem_of_getElem? (i := 685) (by decide +kernel), List.mem_of_getElem? (i := 686) (by decide +kernel)⟩
theorem lw_p13 : lw_okq (⟨"ViewedNamesModel", "isNetThere", "(II)Z"⟩, 17) := ⟨⟨by decide +kernel, by decide +kernel⟩, List.mem_of_getElem? (i := 597) (by decide +kernel), List.mem_of_getElem? (i := 689) (by decide +kernel), List.mem_of_getElem? (i := 690) (by decide +kernel)⟩
theorem lw_p14 : lw_okq (⟨"ViewedNamesModel", "isGone", "(I)Z"⟩, 17) := ⟨⟨by decide +kernel, by decide +kernel⟩, List.mem_of_getElem? (i := 597) (by decide +kernel), List.mem_of_getElem? (i := 709) (by decide +kernel), List.mem_of_getElem? (i := 710) (by decide +kernel)⟩
theorem lw_p15 : lw_okq (⟨"ViewedNamesModel", "isZone", "(I)Z"⟩, 17) := ⟨⟨by decide +kernel, by decide +kernel⟩, List.mem_of_getElem? (i := 597) (by decide +kernel), List.mem_of_getElem? (i := 717) (by decide +kernel), List.mem_of_getElem? (i := 718) (by decide +kernel)⟩
def lw_privs_1 : List (MethodName × Nat) := [(⟨"ViewedNames", "isTick", "(I)Z"⟩, 7), (⟨"ViewedNames$Records", "note", "(IIIII)I"⟩, 5), (⟨"ViewedNames$Text", "readChange", "(I)I"⟩, 6), (⟨"ViewedNames$Text", "digits", "(III)I"⟩, 6), (⟨"ViewedNames$Text", "characterAt", "(I)I"⟩, 6), (⟨"ViewedNames$Text", "nameIn", "(II)I"⟩, 6), (⟨"ViewedNames$Text", "numberIn", "(II)I"⟩, 6), (⟨"ViewedNames", "layChanges", "(I)V"⟩, 7), (⟨"ViewedNames", "answerFor", "(IIII)I"⟩, 7), (⟨"ViewedNames", "countDiffering", "(IIIII)I"⟩, 7), (⟨"ViewedNames$KeptAnswers", "forget", "(I)V"⟩, 8), (⟨"ViewedNamesModel", "isTick", "(I)Z"⟩, 17), (⟨"ViewedNamesModel", "viewAt", "(II)I"⟩, 17), (⟨"ViewedNamesModel", "isNetThere", "(II)Z"⟩, 17), (⟨"ViewedNamesModel", "isGone", "(I)Z"⟩, 17), (⟨"ViewedNamesModel", "isZone", "(I)Z"⟩, 17)]
theorem lw_r1 : ∀ q ∈ lw_privs_1, lw_okq q := List.forall_mem_cons.mpr ⟨lw_p0, List.forall_mem_cons.mpr ⟨lw_p1, List.forall_mem_cons.mpr ⟨lw_p2, List.forall_mem_cons.mpr ⟨lw_p3, List.forall_mem_cons.mpr ⟨lw_p4, List.forall_mem_cons.mpr ⟨lw_p5, List.forall_mem_cons.mpr ⟨lw_p6, List.forall_mem_cons.mpr ⟨lw_p7, List.forall_mem_cons.mpr ⟨lw_p8, List.forall_mem_cons.mpr ⟨lw_p9, List.forall_mem_cons.mpr ⟨lw_p10, List.forall_mem_cons.mpr ⟨lw_p11, List.forall_mem_cons.mpr ⟨lw_p12, List.forall_mem_cons.mpr ⟨lw_p13, List.forall_mem_cons.mpr ⟨lw_p14, List.forall_mem_cons.mpr ⟨lw_p15, fun _ h => absurd h List.not_mem_nil⟩⟩⟩⟩⟩⟩⟩⟩⟩⟩⟩⟩⟩⟩⟩⟩
theorem lw_p16 : lw_okq (⟨"ViewedNamesModel", "records", "(I)I"⟩, 17) := ⟨⟨by decide +kernel, by decide +kernel⟩, List.mem_of_getElem? (i := 597) (by decide +kernel), List.mem_of_getElem? (i := 721) (by decide +kernel), List.mem_of_getElem? (i := 722) (by decide +kernel)⟩
theorem lw_p17 : lw_okq (⟨"ViewedNamesModel", "valueAt", "(IIII)I"⟩, 17) := ⟨⟨by decide +kernel, by decide +kernel⟩, List.mem_of_getElem? (i := 597) (by decide +kernel), List.mem_of_getElem? (i := 725) (by decide +kernel), List.mem_of_getElem? (i := 726) (by decide +kernel)⟩
theorem lw_p18 : lw_okq (⟨"ViewedNamesModel", "part", "(II)I"⟩, 17) := ⟨⟨by decide +kernel, by decide +kernel⟩, List.mem_of_getElem? (i := 597) (by decide +kernel), List.mem_of_getElem? (i := 729) (by decide +kernel), List.mem_of_getElem? (i := 730) (by decide +kernel)⟩
theorem lw_p19 : lw_okq (⟨"ViewedNamesModel", "makes", "(IIII)V"⟩, 17) := ⟨⟨by decide +kernel, by decide +kernel⟩, List.mem_of_getElem? (i := 597) (by decide +kernel), List.mem_of_getElem? (i := 760) (by decide +kernel), List.mem_of_getElem? (i := 761) (by decide +kernel)⟩
theorem lw_p20 : lw_okq (⟨"ViewedNamesModel", "isThere", "(II)Z"⟩, 17) := ⟨⟨by decide +kernel, by decide +kernel⟩, List.mem_of_getElem? (i := 597) (by decide +kernel), List.mem_of_getElem? (i := 772) (by decide +kernel), List.mem_of_getElem? (i := 773) (by decide +kernel)⟩
theorem lw_p21 : lw_okq (⟨"ViewedNamesModel", "isQuestion", "(III)Z"⟩, 17) := ⟨⟨by decide +kernel, by decide +kernel⟩, List.mem_of_getElem? (i := 597) (by decide +kernel), List.mem_of_getElem? (i := 788) (by decide +kernel), List.mem_of_getElem? (i := 789) (by decide +kernel)⟩
theorem lw_p22 : lw_okq (⟨"ViewedNamesModel", "finds", "(IIII)I"⟩, 17) := ⟨⟨by decide +kernel, by decide +kernel⟩, List.mem_of_getElem? (i := 597) (by decide +kernel), List.mem_of_getElem? (i := 792) (by decide +kernel), List.mem_of_getElem? (i := 793) (by decide +kernel)⟩
theorem lw_p23 : lw_okq (⟨"ViewedNamesModel", "responsible", "(III)I"⟩, 17) := ⟨⟨by decide +kernel, by decide +kernel⟩, List.mem_of_getElem? (i := 597) (by decide +kernel), List.mem_of_getElem? (i := 796) (by decide +kernel), List.mem_of_getElem? (i := 797) (by decide +kernel)⟩
theorem lw_p24 : lw_okq (⟨"ViewedNamesModel", "exists", "(III)Z"⟩, 17) := ⟨⟨by decide +kernel, by decide +kernel⟩, List.mem_of_getElem? (i := 597) (by decide +kernel), List.mem_of_getElem? (i := 800) (by decide +kernel), List.mem_of_getElem? (i := 801) (by decide +kernel)⟩
theorem lw_p25 : lw_okq (⟨"ViewedNamesModel", "hasType", "(III)Z"⟩, 17) := ⟨⟨by decide +kernel, by decide +kernel⟩, List.mem_of_getElem? (i := 597) (by decide +kernel), List.mem_of_getElem? (i := 804) (by decide +kernel), List.mem_of_getElem? (i := 805) (by decide +kernel)⟩
theorem lw_p26 : lw_okq (⟨"ViewedNamesModel", "parts", "(IIIIII)I"⟩, 17) := ⟨⟨by decide +kernel, by decide +kernel⟩, List.mem_of_getElem? (i := 597) (by decide +kernel), List.mem_of_getElem? (i := 830) (by decide +kernel), List.mem_of_getElem? (i := 831) (by decide +kernel)⟩
theorem lw_p27 : lw_okq (⟨"ViewedNamesModel", "latestEvent", "(I)I"⟩, 17) := ⟨⟨by decide +kernel, by decide +kernel⟩, List.mem_of_getElem? (i := 597) (by decide +kernel), List.mem_of_getElem? (i := 846) (by decide +kernel), List.mem_of_getElem? (i := 847) (by decide +kernel)⟩
theorem lw_p28 : lw_okq (⟨"ViewedNamesModel", "isYoung", "(I)Z"⟩, 17) := ⟨⟨by decide +kernel, by decide +kernel⟩, List.mem_of_getElem? (i := 597) (by decide +kernel), List.mem_of_getElem? (i := 862) (by decide +kernel), List.mem_of_getElem? (i := 863) (by decide +kernel)⟩
theorem lw_p29 : lw_okq (⟨"ViewedNamesModel", "drops", "(I)V"⟩, 17) := ⟨⟨by decide +kernel, by decide +kernel⟩, List.mem_of_getElem? (i := 597) (by decide +kernel), List.mem_of_getElem? (i := 866) (by decide +kernel), List.mem_of_getElem? (i := 867) (by decide +kernel)⟩
theorem lw_p30 : lw_okq (⟨"ViewedNamesModel", "faultAt", "()I"⟩, 17) := ⟨⟨by decide +kernel, by decide +kernel⟩, List.mem_of_getElem? (i := 597) (by decide +kernel), List.mem_of_getElem? (i := 886) (by decide +kernel), List.mem_of_getElem? (i := 887) (by decide +kernel)⟩
theorem lw_p31 : lw_okq (⟨"ViewedNamesModel", "isChange", "()Z"⟩, 17) := ⟨⟨by decide +kernel, by decide +kernel⟩, List.mem_of_getElem? (i := 597) (by decide +kernel), List.mem_of_getElem? (i := 890) (by decide +kernel), List.mem_of_getElem? (i := 891) (by decide +kernel)⟩
def lw_privs_2 : List (MethodName × Nat) := [(⟨"ViewedNamesModel", "records", "(I)I"⟩, 17), (⟨"ViewedNamesModel", "valueAt", "(IIII)I"⟩, 17), (⟨"ViewedNamesModel", "part", "(II)I"⟩, 17), (⟨"ViewedNamesModel", "makes", "(IIII)V"⟩, 17), (⟨"ViewedNamesModel", "isThere", "(II)Z"⟩, 17), (⟨"ViewedNamesModel", "isQuestion", "(III)Z"⟩, 17), (⟨"ViewedNamesModel", "finds", "(IIII)I"⟩, 17), (⟨"ViewedNamesModel", "responsible", "(III)I"⟩, 17), (⟨"ViewedNamesModel", "exists", "(III)Z"⟩, 17), (⟨"ViewedNamesModel", "hasType", "(III)Z"⟩, 17), (⟨"ViewedNamesModel", "parts", "(IIIIII)I"⟩, 17), (⟨"ViewedNamesModel", "latestEvent", "(I)I"⟩, 17), (⟨"ViewedNamesModel", "isYoung", "(I)Z"⟩, 17), (⟨"ViewedNamesModel", "drops", "(I)V"⟩, 17), (⟨"ViewedNamesModel", "faultAt", "()I"⟩, 17), (⟨"ViewedNamesModel", "isChange", "()Z"⟩, 17)]
theorem lw_r2 : ∀ q ∈ lw_privs_2, lw_okq q := List.forall_mem_cons.mpr ⟨lw_p16, List.forall_mem_cons.mpr ⟨lw_p17, List.forall_mem_cons.mpr ⟨lw_p18, List.forall_mem_cons.mpr ⟨lw_p19, List.forall_mem_cons.mpr ⟨lw_p20, List.forall_mem_cons.mpr ⟨lw_p21, List.forall_mem_cons.mpr ⟨lw_p22, List.forall_mem_cons.mpr ⟨lw_p23, List.forall_mem_cons.mpr ⟨lw_p24, List.forall_mem_cons.mpr ⟨lw_p25, List.forall_mem_cons.mpr ⟨lw_p26, List.forall_mem_cons.mpr ⟨lw_p27, List.forall_mem_cons.mpr ⟨lw_p28, List.forall_mem_cons.mpr ⟨lw_p29, List.forall_mem_cons.mpr ⟨lw_p30, List.forall_mem_cons.mpr ⟨lw_p31, fun _ h => absurd h List.not_mem_nil⟩⟩⟩⟩⟩⟩⟩⟩⟩⟩⟩⟩⟩⟩⟩⟩
theorem lw_p32 : lw_okq (⟨"ViewedNamesModel", "isLabels", "()Z"⟩, 17) := ⟨⟨by decide +kernel, by decide +kernel⟩, List.mem_of_getElem? (i := 597) (by decide +kernel), List.mem_of_getElem? (i := 894) (by decide +kernel), List.mem_of_getElem? (i := 895) (by decide +kernel)⟩
theorem lw_p33 : lw_okq (⟨"ViewedNamesModel", "isHere", "(II)Z"⟩, 17) := ⟨⟨by decide +kernel, by decide +kernel⟩, List.mem_of_getElem? (i := 597) (by decide +kernel), List.mem_of_getElem? (i := 898) (by decide +kernel), List.mem_of_getElem? (i := 899) (by decide +kernel)⟩
theorem lw_p34 : lw_okq (⟨"ViewedNamesModel", "takes", "(I)Z"⟩, 17) := ⟨⟨by decide +kernel, by decide +kernel⟩, List.mem_of_getElem? (i := 597) (by decide +kernel), List.mem_of_getElem? (i := 902) (by decide +kernel), List.mem_of_getElem? (i := 903) (by decide +kernel)⟩
theorem lw_p35 : lw_okq (⟨"ViewedNamesModel", "isDigits", "()Z"⟩, 17) := ⟨⟨by decide +kernel, by decide +kernel⟩, List.mem_of_getElem? (i := 597) (by decide +kernel), List.mem_of_getElem? (i := 906) (by decide +kernel), List.mem_of_getElem? (i := 907) (by decide +kernel)⟩
def lw_privs_3 : List (MethodName × Nat) := [(⟨"ViewedNamesModel", "isLabels", "()Z"⟩, 17), (⟨"ViewedNamesModel", "isHere", "(II)Z"⟩, 17), (⟨"ViewedNamesModel", "takes", "(I)Z"⟩, 17), (⟨"ViewedNamesModel", "isDigits", "()Z"⟩, 17)]
theorem lw_r3 : ∀ q ∈ lw_privs_3, lw_okq q := List.forall_mem_cons.mpr ⟨lw_p32, List.forall_mem_cons.mpr ⟨lw_p33, List.forall_mem_cons.mpr ⟨lw_p34, List.forall_mem_cons.mpr ⟨lw_p35, fun _ h => absurd h List.not_mem_nil⟩⟩⟩⟩
def lw_privs : List (MethodName × Nat) := lw_privs_1 ++ (lw_privs_2 ++ (lw_privs_3))
def lw_tbl : List Cond := k2_sels lw_privs ++ tables_1
theorem lw_privs_ok : ∀ q ∈ lw_privs, lw_okq q := by
  show ∀ q ∈ lw_privs_1 ++ (lw_privs_2 ++ (lw_privs_3)), lw_okq q
  exact List.forall_mem_append.mpr ⟨lw_r1, List.forall_mem_append.mpr ⟨lw_r2, lw_r3⟩⟩
end
section
/-! ===== BEGIN printed: names, fields, word lists, decode rows ===== -/
def RX0 : String := "ViewedNames$Catalog"
def TX0 : u_T := fun k => match k with
  | 0 => ("ViewedNames$Catalog", "zones", "LViewedNames$Zones;", true)
  | _ => ("ViewedNames$Catalog", "records", "LViewedNames$Records;", true)
def tyX0 : Nat → FieldType := fun k => match k with
  | 0 => .object "ViewedNames$Zones"
  | _ => .object "ViewedNames$Records"
abbrev wsX00 : List Cond := u_ws RX0 TX0 2
theorem nmX0 : ∀ a, a < 2 → ∀ b, b < 2 → a ≠ b → (TX0 a).2.1 ≠ (TX0 b).2.1 := by decide +kernel
theorem tyX0_ok : ∀ k, k < 2 → parseFieldDescriptor (TX0 k).2.2.1 = some (tyX0 k) := by decide +kernel
abbrev cX0_init : ByteArray := prog_2_method_1_code
def yX0_init : MethodName := ⟨RX0, "<init>", "()V"⟩
abbrev cX0_lookUp : ByteArray := prog_2_method_2_code
def yX0_lookUp : MethodName := ⟨RX0, "lookUp", "(IIII)I"⟩
abbrev cX0_recordBehind : ByteArray := prog_2_method_3_code
def yX0_recordBehind : MethodName := ⟨RX0, "recordBehind", "(IIII)I"⟩
abbrev cX0_standingFor : ByteArray := prog_2_method_4_code
def yX0_standingFor : MethodName := ⟨RX0, "standingFor", "(III)I"⟩
abbrev cX0_countRecords : ByteArray := prog_2_method_5_code
def yX0_countRecords : MethodName := ⟨RX0, "countRecords", "(I)I"⟩
abbrev cX0_lastEvent : ByteArray := prog_2_method_6_code
def yX0_lastEvent : MethodName := ⟨RX0, "lastEvent", "(I)I"⟩
abbrev cX0_laterUpTo : ByteArray := prog_2_method_7_code
def yX0_laterUpTo : MethodName := ⟨RX0, "laterUpTo", "(III)I"⟩
def RX1 : String := "ViewedNames$KeptAnswers"
def TX1 : u_T := fun k => match k with
  | 0 => ("ViewedNames$KeptAnswers", "address", "[I", true)
  | 1 => ("ViewedNames$KeptAnswers", "name", "[I", true)
  | 2 => ("ViewedNames$KeptAnswers", "type", "[I", true)
  | 3 => ("ViewedNames$KeptAnswers", "answer", "[I", true)
  | 4 => ("ViewedNames$KeptAnswers", "tick", "[I", true)
  | 5 => ("ViewedNames$KeptAnswers", "size", "I", false)
  | 6 => ("ViewedNames$KeptAnswers", "hits", "I", false)
  | _ => ("ViewedNames$KeptAnswers", "keeping", "I", false)
def tyX1 : Nat → FieldType := fun k => match k with
  | 0 => .array .int
  | 1 => .array .int
  | 2 => .array .int
  | 3 => .array .int
  | 4 => .array .int
  | 5 => .int
  | 6 => .int
  | _ => .int
abbrev wsX10 : List Cond := u_ws RX1 TX1 8
theorem nmX1 : ∀ a, a < 8 → ∀ b, b < 8 → a ≠ b → (TX1 a).2.1 ≠ (TX1 b).2.1 := by decide +kernel
theorem tyX1_ok : ∀ k, k < 8 → parseFieldDescriptor (TX1 k).2.2.1 = some (tyX1 k) := by decide +kernel
abbrev cX1_init : ByteArray := prog_3_method_1_code
def yX1_init : MethodName := ⟨RX1, "<init>", "()V"⟩
abbrev cX1_find : ByteArray := prog_3_method_2_code
def yX1_find : MethodName := ⟨RX1, "find", "(III)I"⟩
abbrev cX1_isFresh : ByteArray := prog_3_method_3_code
def yX1_isFresh : MethodName := ⟨RX1, "isFresh", "(II)Z"⟩
abbrev cX1_keep : ByteArray := prog_3_method_4_code
def yX1_keep : MethodName := ⟨RX1, "keep", "(IIIII)V"⟩
abbrev cX1_forget : ByteArray := prog_3_method_5_code
def yX1_forget : MethodName := ⟨RX1, "forget", "(I)V"⟩
def RX2 : String := "ViewedNames$Names"
def TX2 : u_T := fun k => match k with
  | _ => ("", "", "", false)
def tyX2 : Nat → FieldType := fun k => match k with
  | _ => .int
abbrev wsX20 : List Cond := u_ws RX2 TX2 0
theorem nmX2 : ∀ a, a < 0 → ∀ b, b < 0 → a ≠ b → (TX2 a).2.1 ≠ (TX2 b).2.1 := by decide +kernel
theorem tyX2_ok : ∀ k, k < 0 → parseFieldDescriptor (TX2 k).2.2.1 = some (tyX2 k) := by decide +kernel
abbrev cX2_isName : ByteArray := prog_4_method_2_code
def yX2_isName : MethodName := ⟨RX2, "isName", "(I)Z"⟩
abbrev cX2_lastWeight : ByteArray := prog_4_method_3_code
def yX2_lastWeight : MethodName := ⟨RX2, "lastWeight", "(I)I"⟩
abbrev cX2_isPattern : ByteArray := prog_4_method_4_code
def yX2_isPattern : MethodName := ⟨RX2, "isPattern", "(I)Z"⟩
abbrev cX2_patternFor : ByteArray := prog_4_method_5_code
def yX2_patternFor : MethodName := ⟨RX2, "patternFor", "(I)I"⟩
abbrev cX2_isAt : ByteArray := prog_4_method_6_code
def yX2_isAt : MethodName := ⟨RX2, "isAt", "(II)Z"⟩
abbrev cX2_isBelow : ByteArray := prog_4_method_7_code
def yX2_isBelow : MethodName := ⟨RX2, "isBelow", "(II)Z"⟩
abbrev cX2_isLonger : ByteArray := prog_4_method_8_code
def yX2_isLonger : MethodName := ⟨RX2, "isLonger", "(II)Z"⟩
def RX3 : String := "ViewedNames$Nets"
def TX3 : u_T := fun k => match k with
  | 0 => ("ViewedNames$Nets", "spans", "LViewedNames$Spans;", true)
  | 1 => ("ViewedNames$Nets", "view", "[I", true)
  | 2 => ("ViewedNames$Nets", "base", "[I", true)
  | _ => ("ViewedNames$Nets", "length", "[I", true)
def tyX3 : Nat → FieldType := fun k => match k with
  | 0 => .object "ViewedNames$Spans"
  | 1 => .array .int
  | 2 => .array .int
  | _ => .array .int
abbrev wsX30 : List Cond := u_ws RX3 TX3 4
theorem nmX3 : ∀ a, a < 4 → ∀ b, b < 4 → a ≠ b → (TX3 a).2.1 ≠ (TX3 b).2.1 := by decide +kernel
theorem tyX3_ok : ∀ k, k < 4 → parseFieldDescriptor (TX3 k).2.2.1 = some (tyX3 k) := by decide +kernel
abbrev cX3_init : ByteArray := prog_5_method_1_code
def yX3_init : MethodName := ⟨RX3, "<init>", "()V"⟩
abbrev cX3_isLength : ByteArray := prog_5_method_2_code
def yX3_isLength : MethodName := ⟨RX3, "isLength", "(I)Z"⟩
abbrev cX3_make : ByteArray := prog_5_method_3_code
def yX3_make : MethodName := ⟨RX3, "make", "(IIII)I"⟩
abbrev cX3_viewAt : ByteArray := prog_5_method_4_code
def yX3_viewAt : MethodName := ⟨RX3, "viewAt", "(II)I"⟩
abbrev cX3_contains : ByteArray := prog_5_method_5_code
def yX3_contains : MethodName := ⟨RX3, "contains", "(II)Z"⟩
abbrev cX3_countAddresses : ByteArray := prog_5_method_6_code
def yX3_countAddresses : MethodName := ⟨RX3, "countAddresses", "(II)I"⟩
def RX4 : String := "ViewedNames$Records"
def TX4 : u_T := fun k => match k with
  | 0 => ("ViewedNames$Records", "spans", "LViewedNames$Spans;", true)
  | 1 => ("ViewedNames$Records", "zone", "[I", true)
  | 2 => ("ViewedNames$Records", "name", "[I", true)
  | 3 => ("ViewedNames$Records", "type", "[I", true)
  | _ => ("ViewedNames$Records", "value", "[I", true)
def tyX4 : Nat → FieldType := fun k => match k with
  | 0 => .object "ViewedNames$Spans"
  | 1 => .array .int
  | 2 => .array .int
  | 3 => .array .int
  | _ => .array .int
abbrev wsX40 : List Cond := u_ws RX4 TX4 5
theorem nmX4 : ∀ a, a < 5 → ∀ b, b < 5 → a ≠ b → (TX4 a).2.1 ≠ (TX4 b).2.1 := by decide +kernel
theorem tyX4_ok : ∀ k, k < 5 → parseFieldDescriptor (TX4 k).2.2.1 = some (tyX4 k) := by decide +kernel
abbrev cX4_init : ByteArray := prog_6_method_1_code
def yX4_init : MethodName := ⟨RX4, "<init>", "()V"⟩
abbrev cX4_find : ByteArray := prog_6_method_2_code
def yX4_find : MethodName := ⟨RX4, "find", "(IIII)I"⟩
abbrev cX4_exists : ByteArray := prog_6_method_3_code
def yX4_exists : MethodName := ⟨RX4, "exists", "(III)Z"⟩
abbrev cX4_put : ByteArray := prog_6_method_4_code
def yX4_put : MethodName := ⟨RX4, "put", "(IIIII)V"⟩
abbrev cX4_drop : ByteArray := prog_6_method_5_code
def yX4_drop : MethodName := ⟨RX4, "drop", "(II)V"⟩
abbrev cX4_note : ByteArray := prog_6_method_6_code
def yX4_note : MethodName := ⟨RX4, "note", "(IIIII)I"⟩
abbrev cX4_countIn : ByteArray := prog_6_method_7_code
def yX4_countIn : MethodName := ⟨RX4, "countIn", "(II)I"⟩
abbrev cX4_countChanges : ByteArray := prog_6_method_8_code
def yX4_countChanges : MethodName := ⟨RX4, "countChanges", "(II)I"⟩
abbrev cX4_findChange : ByteArray := prog_6_method_9_code
def yX4_findChange : MethodName := ⟨RX4, "findChange", "(II)I"⟩
def RX5 : String := "ViewedNames$Spans"
def TX5 : u_T := fun k => match k with
  | 0 => ("ViewedNames$Spans", "from", "[I", true)
  | 1 => ("ViewedNames$Spans", "until", "[I", true)
  | 2 => ("ViewedNames$Spans", "limit", "I", true)
  | _ => ("ViewedNames$Spans", "made", "I", false)
def tyX5 : Nat → FieldType := fun k => match k with
  | 0 => .array .int
  | 1 => .array .int
  | 2 => .int
  | _ => .int
abbrev wsX50 : List Cond := u_ws RX5 TX5 4
theorem nmX5 : ∀ a, a < 4 → ∀ b, b < 4 → a ≠ b → (TX5 a).2.1 ≠ (TX5 b).2.1 := by decide +kernel
theorem tyX5_ok : ∀ k, k < 4 → parseFieldDescriptor (TX5 k).2.2.1 = some (tyX5 k) := by decide +kernel
abbrev cX5_init : ByteArray := prog_7_method_1_code
def yX5_init : MethodName := ⟨RX5, "<init>", "(I)V"⟩
abbrev cX5_isFull : ByteArray := prog_7_method_2_code
def yX5_isFull : MethodName := ⟨RX5, "isFull", "()Z"⟩
abbrev cX5_hasRoomFor : ByteArray := prog_7_method_3_code
def yX5_hasRoomFor : MethodName := ⟨RX5, "hasRoomFor", "(I)Z"⟩
abbrev cX5_isMade : ByteArray := prog_7_method_4_code
def yX5_isMade : MethodName := ⟨RX5, "isMade", "(I)Z"⟩
abbrev cX5_isThere : ByteArray := prog_7_method_5_code
def yX5_isThere : MethodName := ⟨RX5, "isThere", "(II)Z"⟩
abbrev cX5_countThere : ByteArray := prog_7_method_6_code
def yX5_countThere : MethodName := ⟨RX5, "countThere", "(I)I"⟩
abbrev cX5_begin : ByteArray := prog_7_method_7_code
def yX5_begin : MethodName := ⟨RX5, "begin", "(I)I"⟩
abbrev cX5_end : ByteArray := prog_7_method_8_code
def yX5_end : MethodName := ⟨RX5, "end", "(II)V"⟩
def RX6 : String := "ViewedNames$Text"
def TX6 : u_T := fun k => match k with
  | 0 => ("ViewedNames$Text", "characters", "[I", true)
  | 1 => ("ViewedNames$Text", "length", "I", false)
  | 2 => ("ViewedNames$Text", "name", "[I", true)
  | 3 => ("ViewedNames$Text", "type", "[I", true)
  | 4 => ("ViewedNames$Text", "value", "[I", true)
  | _ => ("ViewedNames$Text", "changes", "I", false)
def tyX6 : Nat → FieldType := fun k => match k with
  | 0 => .array .int
  | 1 => .int
  | 2 => .array .int
  | 3 => .array .int
  | 4 => .array .int
  | _ => .int
abbrev wsX60 : List Cond := u_ws RX6 TX6 6
theorem nmX6 : ∀ a, a < 6 → ∀ b, b < 6 → a ≠ b → (TX6 a).2.1 ≠ (TX6 b).2.1 := by decide +kernel
theorem tyX6_ok : ∀ k, k < 6 → parseFieldDescriptor (TX6 k).2.2.1 = some (tyX6 k) := by decide +kernel
abbrev cX6_init : ByteArray := prog_8_method_1_code
def yX6_init : MethodName := ⟨RX6, "<init>", "()V"⟩
abbrev cX6_append : ByteArray := prog_8_method_2_code
def yX6_append : MethodName := ⟨RX6, "append", "(I)V"⟩
abbrev cX6_read : ByteArray := prog_8_method_3_code
def yX6_read : MethodName := ⟨RX6, "read", "()I"⟩
abbrev cX6_isAllAt : ByteArray := prog_8_method_4_code
def yX6_isAllAt : MethodName := ⟨RX6, "isAllAt", "(I)Z"⟩
abbrev cX6_readChange : ByteArray := prog_8_method_5_code
def yX6_readChange : MethodName := ⟨RX6, "readChange", "(I)I"⟩
abbrev cX6_characterAt : ByteArray := prog_8_method_6_code
def yX6_characterAt : MethodName := ⟨RX6, "characterAt", "(I)I"⟩
abbrev cX6_digits : ByteArray := prog_8_method_7_code
def yX6_digits : MethodName := ⟨RX6, "digits", "(III)I"⟩
abbrev cX6_nameIn : ByteArray := prog_8_method_8_code
def yX6_nameIn : MethodName := ⟨RX6, "nameIn", "(II)I"⟩
abbrev cX6_numberIn : ByteArray := prog_8_method_9_code
def yX6_numberIn : MethodName := ⟨RX6, "numberIn", "(II)I"⟩
def RX7 : String := "ViewedNames$Zones"
def TX7 : u_T := fun k => match k with
  | 0 => ("ViewedNames$Zones", "spans", "LViewedNames$Spans;", true)
  | 1 => ("ViewedNames$Zones", "view", "[I", true)
  | _ => ("ViewedNames$Zones", "apex", "[I", true)
def tyX7 : Nat → FieldType := fun k => match k with
  | 0 => .object "ViewedNames$Spans"
  | 1 => .array .int
  | _ => .array .int
abbrev wsX70 : List Cond := u_ws RX7 TX7 3
theorem nmX7 : ∀ a, a < 3 → ∀ b, b < 3 → a ≠ b → (TX7 a).2.1 ≠ (TX7 b).2.1 := by decide +kernel
theorem tyX7_ok : ∀ k, k < 3 → parseFieldDescriptor (TX7 k).2.2.1 = some (tyX7 k) := by decide +kernel
abbrev cX7_init : ByteArray := prog_9_method_1_code
def yX7_init : MethodName := ⟨RX7, "<init>", "()V"⟩
abbrev cX7_make : ByteArray := prog_9_method_2_code
def yX7_make : MethodName := ⟨RX7, "make", "(III)I"⟩
abbrev cX7_find : ByteArray := prog_9_method_3_code
def yX7_find : MethodName := ⟨RX7, "find", "(III)I"⟩
abbrev cX7_responsible : ByteArray := prog_9_method_4_code
def yX7_responsible : MethodName := ⟨RX7, "responsible", "(III)I"⟩
abbrev cX7_hides : ByteArray := prog_9_method_5_code
def yX7_hides : MethodName := ⟨RX7, "hides", "(II)Z"⟩
def RX8 : String := "ViewedNames"
def TX8 : u_T := fun k => match k with
  | 0 => ("ViewedNames", "nets", "LViewedNames$Nets;", true)
  | 1 => ("ViewedNames", "catalog", "LViewedNames$Catalog;", true)
  | 2 => ("ViewedNames", "zones", "LViewedNames$Zones;", true)
  | 3 => ("ViewedNames", "records", "LViewedNames$Records;", true)
  | 4 => ("ViewedNames", "kept", "LViewedNames$KeptAnswers;", true)
  | 5 => ("ViewedNames", "text", "LViewedNames$Text;", true)
  | _ => ("ViewedNames", "now", "I", false)
def tyX8 : Nat → FieldType := fun k => match k with
  | 0 => .object "ViewedNames$Nets"
  | 1 => .object "ViewedNames$Catalog"
  | 2 => .object "ViewedNames$Zones"
  | 3 => .object "ViewedNames$Records"
  | 4 => .object "ViewedNames$KeptAnswers"
  | 5 => .object "ViewedNames$Text"
  | _ => .int
abbrev wsX80 : List Cond := u_ws RX8 TX8 7
theorem nmX8 : ∀ a, a < 7 → ∀ b, b < 7 → a ≠ b → (TX8 a).2.1 ≠ (TX8 b).2.1 := by decide +kernel
theorem tyX8_ok : ∀ k, k < 7 → parseFieldDescriptor (TX8 k).2.2.1 = some (tyX8 k) := by decide +kernel
abbrev cX8_init : ByteArray := prog_1_method_1_code
def yX8_init : MethodName := ⟨RX8, "<init>", "()V"⟩
abbrev cX8_pass : ByteArray := prog_1_method_2_code
def yX8_pass : MethodName := ⟨RX8, "pass", "(I)I"⟩
abbrev cX8_time : ByteArray := prog_1_method_3_code
def yX8_time : MethodName := ⟨RX8, "time", "()I"⟩
abbrev cX8_addNet : ByteArray := prog_1_method_4_code
def yX8_addNet : MethodName := ⟨RX8, "addNet", "(III)I"⟩
abbrev cX8_removeNet : ByteArray := prog_1_method_5_code
def yX8_removeNet : MethodName := ⟨RX8, "removeNet", "(I)I"⟩
abbrev cX8_viewOf : ByteArray := prog_1_method_6_code
def yX8_viewOf : MethodName := ⟨RX8, "viewOf", "(II)I"⟩
abbrev cX8_addZone : ByteArray := prog_1_method_7_code
def yX8_addZone : MethodName := ⟨RX8, "addZone", "(II)I"⟩
abbrev cX8_removeZone : ByteArray := prog_1_method_8_code
def yX8_removeZone : MethodName := ⟨RX8, "removeZone", "(I)I"⟩
abbrev cX8_zoneInfo : ByteArray := prog_1_method_9_code
def yX8_zoneInfo : MethodName := ⟨RX8, "zoneInfo", "(II)I"⟩
abbrev cX8_count : ByteArray := prog_1_method_10_code
def yX8_count : MethodName := ⟨RX8, "count", "(I)I"⟩
abbrev cX8_set : ByteArray := prog_1_method_11_code
def yX8_set : MethodName := ⟨RX8, "set", "(IIII)I"⟩
abbrev cX8_clear : ByteArray := prog_1_method_12_code
def yX8_clear : MethodName := ⟨RX8, "clear", "(III)I"⟩
abbrev cX8_record : ByteArray := prog_1_method_13_code
def yX8_record : MethodName := ⟨RX8, "record", "(IIII)I"⟩
abbrev cX8_serial : ByteArray := prog_1_method_14_code
def yX8_serial : MethodName := ⟨RX8, "serial", "(II)I"⟩
abbrev cX8_change : ByteArray := prog_1_method_15_code
def yX8_change : MethodName := ⟨RX8, "change", "(III)I"⟩
abbrev cX8_lay : ByteArray := prog_1_method_16_code
def yX8_lay : MethodName := ⟨RX8, "lay", "(I)I"⟩
abbrev cX8_layChanges : ByteArray := prog_1_method_17_code
def yX8_layChanges : MethodName := ⟨RX8, "layChanges", "(I)V"⟩
abbrev cX8_answer : ByteArray := prog_1_method_18_code
def yX8_answer : MethodName := ⟨RX8, "answer", "(IIII)I"⟩
abbrev cX8_answerFor : ByteArray := prog_1_method_19_code
def yX8_answerFor : MethodName := ⟨RX8, "answerFor", "(IIII)I"⟩
abbrev cX8_viewAnswer : ByteArray := prog_1_method_20_code
def yX8_viewAnswer : MethodName := ⟨RX8, "viewAnswer", "(IIII)I"⟩
abbrev cX8_zoneFor : ByteArray := prog_1_method_21_code
def yX8_zoneFor : MethodName := ⟨RX8, "zoneFor", "(III)I"⟩
abbrev cX8_source : ByteArray := prog_1_method_22_code
def yX8_source : MethodName := ⟨RX8, "source", "(IIII)I"⟩
abbrev cX8_differences : ByteArray := prog_1_method_23_code
def yX8_differences : MethodName := ⟨RX8, "differences", "(IIII)I"⟩
abbrev cX8_difference : ByteArray := prog_1_method_24_code
def yX8_difference : MethodName := ⟨RX8, "difference", "(IIIII)I"⟩
abbrev cX8_split : ByteArray := prog_1_method_25_code
def yX8_split : MethodName := ⟨RX8, "split", "(IIII)I"⟩
abbrev cX8_countDiffering : ByteArray := prog_1_method_26_code
def yX8_countDiffering : MethodName := ⟨RX8, "countDiffering", "(IIIII)I"⟩
abbrev cX8_since : ByteArray := prog_1_method_27_code
def yX8_since : MethodName := ⟨RX8, "since", "(III)I"⟩
abbrev cX8_seenBy : ByteArray := prog_1_method_28_code
def yX8_seenBy : MethodName := ⟨RX8, "seenBy", "(IIII)I"⟩
abbrev cX8_setKeeping : ByteArray := prog_1_method_29_code
def yX8_setKeeping : MethodName := ⟨RX8, "setKeeping", "(I)I"⟩
abbrev cX8_ask : ByteArray := prog_1_method_30_code
def yX8_ask : MethodName := ⟨RX8, "ask", "(III)I"⟩
abbrev cX8_stale : ByteArray := prog_1_method_31_code
def yX8_stale : MethodName := ⟨RX8, "stale", "()I"⟩
abbrev cX8_type : ByteArray := prog_1_method_32_code
def yX8_type : MethodName := ⟨RX8, "type", "(I)I"⟩
abbrev cX8_clearText : ByteArray := prog_1_method_33_code
def yX8_clearText : MethodName := ⟨RX8, "clearText", "()I"⟩
abbrev cX8_fault : ByteArray := prog_1_method_34_code
def yX8_fault : MethodName := ⟨RX8, "fault", "()I"⟩
abbrev cX8_isTick : ByteArray := prog_1_method_35_code
def yX8_isTick : MethodName := ⟨RX8, "isTick", "(I)Z"⟩
abbrev cX8_isView : ByteArray := prog_1_method_36_code
def yX8_isView : MethodName := ⟨RX8, "isView", "(I)Z"⟩
abbrev cX8_isAddress : ByteArray := prog_1_method_37_code
def yX8_isAddress : MethodName := ⟨RX8, "isAddress", "(I)Z"⟩
abbrev cX8_isType : ByteArray := prog_1_method_38_code
def yX8_isType : MethodName := ⟨RX8, "isType", "(I)Z"⟩
abbrev cX8_isQuestion : ByteArray := prog_1_method_39_code
def yX8_isQuestion : MethodName := ⟨RX8, "isQuestion", "(II)Z"⟩
abbrev cX8_isValue : ByteArray := prog_1_method_40_code
def yX8_isValue : MethodName := ⟨RX8, "isValue", "(II)Z"⟩
def RX9 : String := "ViewedNamesModel"
def TX9 : u_T := fun k => match k with
  | 0 => ("ViewedNamesModel", "now", "I", false)
  | 1 => ("ViewedNamesModel", "nets", "[I", true)
  | 2 => ("ViewedNamesModel", "netsMany", "I", false)
  | 3 => ("ViewedNamesModel", "zones", "[I", true)
  | 4 => ("ViewedNamesModel", "zonesMany", "I", false)
  | 5 => ("ViewedNamesModel", "changes", "[I", true)
  | 6 => ("ViewedNamesModel", "changesMany", "I", false)
  | 7 => ("ViewedNamesModel", "kept", "[I", true)
  | 8 => ("ViewedNamesModel", "keptMany", "I", false)
  | 9 => ("ViewedNamesModel", "keeping", "I", false)
  | 10 => ("ViewedNamesModel", "hits", "I", false)
  | 11 => ("ViewedNamesModel", "text", "[I", true)
  | 12 => ("ViewedNamesModel", "typed", "I", false)
  | 13 => ("ViewedNamesModel", "from", "I", false)
  | 14 => ("ViewedNamesModel", "at", "I", false)
  | 15 => ("ViewedNamesModel", "read", "[I", true)
  | _ => ("ViewedNamesModel", "number", "I", false)
def tyX9 : Nat → FieldType := fun k => match k with
  | 0 => .int
  | 1 => .array .int
  | 2 => .int
  | 3 => .array .int
  | 4 => .int
  | 5 => .array .int
  | 6 => .int
  | 7 => .array .int
  | 8 => .int
  | 9 => .int
  | 10 => .int
  | 11 => .array .int
  | 12 => .int
  | 13 => .int
  | 14 => .int
  | 15 => .array .int
  | _ => .int
abbrev wsX90 : List Cond := u_ws RX9 TX9 17
theorem nmX9 : ∀ a, a < 17 → ∀ b, b < 17 → a ≠ b → (TX9 a).2.1 ≠ (TX9 b).2.1 := by decide +kernel
theorem tyX9_ok : ∀ k, k < 17 → parseFieldDescriptor (TX9 k).2.2.1 = some (tyX9 k) := by decide +kernel
abbrev cX9_init : ByteArray := prog_11_method_1_code
def yX9_init : MethodName := ⟨RX9, "<init>", "()V"⟩
abbrev cX9_in : ByteArray := prog_11_method_3_code
def yX9_in : MethodName := ⟨RX9, "in", "(III)Z"⟩
abbrev cX9_isName : ByteArray := prog_11_method_4_code
def yX9_isName : MethodName := ⟨RX9, "isName", "(I)Z"⟩
abbrev cX9_labels : ByteArray := prog_11_method_5_code
def yX9_labels : MethodName := ⟨RX9, "labels", "(I)I"⟩
abbrev cX9_lastLabel : ByteArray := prog_11_method_6_code
def yX9_lastLabel : MethodName := ⟨RX9, "lastLabel", "(I)I"⟩
abbrev cX9_isPattern : ByteArray := prog_11_method_7_code
def yX9_isPattern : MethodName := ⟨RX9, "isPattern", "(I)Z"⟩
abbrev cX9_first : ByteArray := prog_11_method_8_code
def yX9_first : MethodName := ⟨RX9, "first", "(II)I"⟩
abbrev cX9_isAt : ByteArray := prog_11_method_9_code
def yX9_isAt : MethodName := ⟨RX9, "isAt", "(II)Z"⟩
abbrev cX9_isBelow : ByteArray := prog_11_method_10_code
def yX9_isBelow : MethodName := ⟨RX9, "isBelow", "(II)Z"⟩
abbrev cX9_patternFor : ByteArray := prog_11_method_11_code
def yX9_patternFor : MethodName := ⟨RX9, "patternFor", "(I)I"⟩
abbrev cX9_isTick : ByteArray := prog_11_method_12_code
def yX9_isTick : MethodName := ⟨RX9, "isTick", "(I)Z"⟩
abbrev cX9_pass : ByteArray := prog_11_method_13_code
def yX9_pass : MethodName := ⟨RX9, "pass", "(I)I"⟩
abbrev cX9_time : ByteArray := prog_11_method_14_code
def yX9_time : MethodName := ⟨RX9, "time", "()I"⟩
abbrev cX9_isAddress : ByteArray := prog_11_method_15_code
def yX9_isAddress : MethodName := ⟨RX9, "isAddress", "(I)Z"⟩
abbrev cX9_addNet : ByteArray := prog_11_method_16_code
def yX9_addNet : MethodName := ⟨RX9, "addNet", "(III)I"⟩
abbrev cX9_isNetThere : ByteArray := prog_11_method_17_code
def yX9_isNetThere : MethodName := ⟨RX9, "isNetThere", "(II)Z"⟩
abbrev cX9_removeNet : ByteArray := prog_11_method_18_code
def yX9_removeNet : MethodName := ⟨RX9, "removeNet", "(I)I"⟩
abbrev cX9_viewAt : ByteArray := prog_11_method_19_code
def yX9_viewAt : MethodName := ⟨RX9, "viewAt", "(II)I"⟩
abbrev cX9_viewOf : ByteArray := prog_11_method_20_code
def yX9_viewOf : MethodName := ⟨RX9, "viewOf", "(II)I"⟩
abbrev cX9_isZone : ByteArray := prog_11_method_21_code
def yX9_isZone : MethodName := ⟨RX9, "isZone", "(I)Z"⟩
abbrev cX9_isThere : ByteArray := prog_11_method_22_code
def yX9_isThere : MethodName := ⟨RX9, "isThere", "(II)Z"⟩
abbrev cX9_isGone : ByteArray := prog_11_method_23_code
def yX9_isGone : MethodName := ⟨RX9, "isGone", "(I)Z"⟩
abbrev cX9_isView : ByteArray := prog_11_method_24_code
def yX9_isView : MethodName := ⟨RX9, "isView", "(I)Z"⟩
abbrev cX9_addZone : ByteArray := prog_11_method_25_code
def yX9_addZone : MethodName := ⟨RX9, "addZone", "(II)I"⟩
abbrev cX9_removeZone : ByteArray := prog_11_method_26_code
def yX9_removeZone : MethodName := ⟨RX9, "removeZone", "(I)I"⟩
abbrev cX9_zoneInfo : ByteArray := prog_11_method_27_code
def yX9_zoneInfo : MethodName := ⟨RX9, "zoneInfo", "(II)I"⟩
abbrev cX9_count : ByteArray := prog_11_method_28_code
def yX9_count : MethodName := ⟨RX9, "count", "(I)I"⟩
abbrev cX9_part : ByteArray := prog_11_method_29_code
def yX9_part : MethodName := ⟨RX9, "part", "(II)I"⟩
abbrev cX9_valueAt : ByteArray := prog_11_method_30_code
def yX9_valueAt : MethodName := ⟨RX9, "valueAt", "(IIII)I"⟩
abbrev cX9_records : ByteArray := prog_11_method_31_code
def yX9_records : MethodName := ⟨RX9, "records", "(I)I"⟩
abbrev cX9_hasType : ByteArray := prog_11_method_32_code
def yX9_hasType : MethodName := ⟨RX9, "hasType", "(III)Z"⟩
abbrev cX9_exists : ByteArray := prog_11_method_33_code
def yX9_exists : MethodName := ⟨RX9, "exists", "(III)Z"⟩
abbrev cX9_isType : ByteArray := prog_11_method_34_code
def yX9_isType : MethodName := ⟨RX9, "isType", "(I)Z"⟩
abbrev cX9_isValue : ByteArray := prog_11_method_35_code
def yX9_isValue : MethodName := ⟨RX9, "isValue", "(II)Z"⟩
abbrev cX9_makes : ByteArray := prog_11_method_36_code
def yX9_makes : MethodName := ⟨RX9, "makes", "(IIII)V"⟩
abbrev cX9_set : ByteArray := prog_11_method_37_code
def yX9_set : MethodName := ⟨RX9, "set", "(IIII)I"⟩
abbrev cX9_clear : ByteArray := prog_11_method_38_code
def yX9_clear : MethodName := ⟨RX9, "clear", "(III)I"⟩
abbrev cX9_record : ByteArray := prog_11_method_39_code
def yX9_record : MethodName := ⟨RX9, "record", "(IIII)I"⟩
abbrev cX9_serial : ByteArray := prog_11_method_40_code
def yX9_serial : MethodName := ⟨RX9, "serial", "(II)I"⟩
abbrev cX9_change : ByteArray := prog_11_method_41_code
def yX9_change : MethodName := ⟨RX9, "change", "(III)I"⟩
abbrev cX9_responsible : ByteArray := prog_11_method_42_code
def yX9_responsible : MethodName := ⟨RX9, "responsible", "(III)I"⟩
abbrev cX9_finds : ByteArray := prog_11_method_43_code
def yX9_finds : MethodName := ⟨RX9, "finds", "(IIII)I"⟩
abbrev cX9_isQuestion : ByteArray := prog_11_method_44_code
def yX9_isQuestion : MethodName := ⟨RX9, "isQuestion", "(III)Z"⟩
abbrev cX9_answer : ByteArray := prog_11_method_45_code
def yX9_answer : MethodName := ⟨RX9, "answer", "(IIII)I"⟩
abbrev cX9_viewAnswer : ByteArray := prog_11_method_46_code
def yX9_viewAnswer : MethodName := ⟨RX9, "viewAnswer", "(IIII)I"⟩
abbrev cX9_zoneFor : ByteArray := prog_11_method_47_code
def yX9_zoneFor : MethodName := ⟨RX9, "zoneFor", "(III)I"⟩
abbrev cX9_source : ByteArray := prog_11_method_48_code
def yX9_source : MethodName := ⟨RX9, "source", "(IIII)I"⟩
abbrev cX9_parts : ByteArray := prog_11_method_49_code
def yX9_parts : MethodName := ⟨RX9, "parts", "(IIIIII)I"⟩
abbrev cX9_differences : ByteArray := prog_11_method_50_code
def yX9_differences : MethodName := ⟨RX9, "differences", "(IIII)I"⟩
abbrev cX9_difference : ByteArray := prog_11_method_51_code
def yX9_difference : MethodName := ⟨RX9, "difference", "(IIIII)I"⟩
abbrev cX9_split : ByteArray := prog_11_method_52_code
def yX9_split : MethodName := ⟨RX9, "split", "(IIII)I"⟩
abbrev cX9_latestEvent : ByteArray := prog_11_method_53_code
def yX9_latestEvent : MethodName := ⟨RX9, "latestEvent", "(I)I"⟩
abbrev cX9_since : ByteArray := prog_11_method_54_code
def yX9_since : MethodName := ⟨RX9, "since", "(III)I"⟩
abbrev cX9_seenBy : ByteArray := prog_11_method_55_code
def yX9_seenBy : MethodName := ⟨RX9, "seenBy", "(IIII)I"⟩
abbrev cX9_setKeeping : ByteArray := prog_11_method_56_code
def yX9_setKeeping : MethodName := ⟨RX9, "setKeeping", "(I)I"⟩
abbrev cX9_isYoung : ByteArray := prog_11_method_57_code
def yX9_isYoung : MethodName := ⟨RX9, "isYoung", "(I)Z"⟩
abbrev cX9_drops : ByteArray := prog_11_method_58_code
def yX9_drops : MethodName := ⟨RX9, "drops", "(I)V"⟩
abbrev cX9_ask : ByteArray := prog_11_method_59_code
def yX9_ask : MethodName := ⟨RX9, "ask", "(III)I"⟩
abbrev cX9_stale : ByteArray := prog_11_method_60_code
def yX9_stale : MethodName := ⟨RX9, "stale", "()I"⟩
abbrev cX9_type : ByteArray := prog_11_method_61_code
def yX9_type : MethodName := ⟨RX9, "type", "(I)I"⟩
abbrev cX9_clearText : ByteArray := prog_11_method_62_code
def yX9_clearText : MethodName := ⟨RX9, "clearText", "()I"⟩
abbrev cX9_isHere : ByteArray := prog_11_method_63_code
def yX9_isHere : MethodName := ⟨RX9, "isHere", "(II)Z"⟩
abbrev cX9_isLabels : ByteArray := prog_11_method_64_code
def yX9_isLabels : MethodName := ⟨RX9, "isLabels", "()Z"⟩
abbrev cX9_isDigits : ByteArray := prog_11_method_65_code
def yX9_isDigits : MethodName := ⟨RX9, "isDigits", "()Z"⟩
abbrev cX9_takes : ByteArray := prog_11_method_66_code
def yX9_takes : MethodName := ⟨RX9, "takes", "(I)Z"⟩
abbrev cX9_isChange : ByteArray := prog_11_method_67_code
def yX9_isChange : MethodName := ⟨RX9, "isChange", "()Z"⟩
abbrev cX9_faultAt : ByteArray := prog_11_method_68_code
def yX9_faultAt : MethodName := ⟨RX9, "faultAt", "()I"⟩
abbrev cX9_fault : ByteArray := prog_11_method_69_code
def yX9_fault : MethodName := ⟨RX9, "fault", "()I"⟩
abbrev cX9_lay : ByteArray := prog_11_method_70_code
def yX9_lay : MethodName := ⟨RX9, "lay", "(I)I"⟩
def RJ9 : String := "java/lang/Math"
def TJ9 : u_T := fun k => match k with
  | _ => ("", "", "", false)
def tyJ9 : Nat → FieldType := fun k => match k with
  | _ => .int
abbrev wsJ90 : List Cond := u_ws RJ9 TJ9 0
theorem nmJ9 : ∀ a, a < 0 → ∀ b, b < 0 → a ≠ b → (TJ9 a).2.1 ≠ (TJ9 b).2.1 := by decide +kernel
theorem tyJ9_ok : ∀ k, k < 0 → parseFieldDescriptor (TJ9 k).2.2.1 = some (tyJ9 k) := by decide +kernel
abbrev cJ9_max_7cf53 : ByteArray := prog_12_method_65_code
def yJ9_max_7cf53 : MethodName := ⟨RJ9, "max", "(II)I"⟩
def RL : String := "ViewedNamesLaw"
abbrev cL_law : ByteArray := code
def yL_law : MethodName := ⟨RL, "law", "([I)Z"⟩
abbrev vwCl : List vw_C := [(RX0, TX0, 2), (RX1, TX1, 8), (RX3, TX3, 4), (RX4, TX4, 5), (RX5, TX5, 4), (RX6, TX6, 6), (RX7, TX7, 3), (RX8, TX8, 7), (RX9, TX9, 17)]
end
section
/-! THE FIXED WORLD: one object of the class with all that it holds (places 0 .. 33), one of the reference (places 34 .. 40). References never change after the constructors; what changes is ONE function: place, field or index, to an int. -/
abbrev qS : Type := Nat → Nat → Int32
abbrev qV : Type := Int32 ⊕ Nat
abbrev qL : Type := Nat ⊕ (Nat × List (Option Nat))
def q_v (ad : Nat → Nat) (v : qV) : Value := match v with
  | .inl x => .int x
  | .inr k => .ref (ad k)
def q_f (ad : Nat → Nat) (r : Nat → Int32) (j : Nat) (f : Option Nat) : Value := match f with
  | some k => .ref (ad k)
  | none => .int (r j)
def q_e (cA : ClassId) (ad : Nat → Nat) (r : Nat → Int32) (c : qL) : va_E := match c with
  | .inl n => .inl (cA, n, .inl r)
  | .inr o => .inr (o.1, o.2.mapIdx (fun j f => q_f ad r j f))
def q_lay : List qL := [
  .inr (7, [some 1, some 8, some 9, some 15, some 23, some 29, none]),
  .inr (2, [some 2, some 5, some 6, some 7]),
  .inr (4, [some 3, some 4, none, none]), .inl 10, .inl 10,
  .inl 10, .inl 10, .inl 10,
  .inr (0, [some 9, some 15]),
  .inr (6, [some 10, some 13, some 14]),
  .inr (4, [some 11, some 12, none, none]), .inl 10, .inl 10,
  .inl 10, .inl 10,
  .inr (3, [some 16, some 19, some 20, some 21, some 22]),
  .inr (4, [some 17, some 18, none, none]), .inl 70, .inl 70,
  .inl 70, .inl 70, .inl 70, .inl 70,
  .inr (1, [some 24, some 25, some 26, some 27, some 28, none, none, none]),
  .inl 6, .inl 6, .inl 6, .inl 6, .inl 6,
  .inr (5, [some 30, none, some 31, some 32, some 33, none]),
  .inl 60, .inl 12, .inl 12, .inl 12,
  .inr (8, [none, some 35, none, some 36, none, some 37, none, some 38, none, none, none, some 39, none, none, none, some 40, none]),
  .inl 50, .inl 40, .inl 350, .inl 30, .inl 60, .inl 3]
def q_w (cA : ClassId) (ad : Nat → Nat) (S : qS) : va_W := q_lay.mapIdx (fun k c => (ad k, q_e cA ad (S k) c))
def q_up (S : qS) (k j : Nat) (v : Int32) : qS := va_up S k (upd (S k) j v)
theorem q_up_s (S : qS) (k j : Nat) (v : Int32) : q_up S k j v k = upd (S k) j v := by simp [q_up, va_up]
theorem q_up_n (S : qS) (k j : Nat) (v : Int32) {i : Nat} (h : i ≠ k) : q_up S k j v i = S i := by simp [q_up, va_up, h]
theorem q_w_get {cA : ClassId} {ad : Nat → Nat} {S : qS} {k : Nat} {c : qL} (h : q_lay[k]? = some c) : (q_w cA ad S)[k]? = some (ad k, q_e cA ad (S k) c) := by
  simp only [q_w, List.getElem?_mapIdx, h, Option.map_some]
theorem q_w_set {cA : ClassId} {ad : Nat → Nat} {S : qS} {k j : Nat} {v : Int32} {c : qL} {E : va_E} (h : q_lay[k]? = some c) (hE : q_e cA ad (upd (S k) j v) c = E) : (q_w cA ad S).set k (ad k, E) = q_w cA ad (q_up S k j v) := by
  apply List.ext_getElem?
  intro i
  by_cases hi : i = k
  · subst hi
    have hl : i < (q_w cA ad S).length := by
      have := (List.getElem?_eq_some_iff.mp h).1
      simpa [q_w] using this
    rw [List.getElem?_set_self hl, q_w_get h, q_up_s, hE]
  · rw [List.getElem?_set_ne (fun e => hi e.symm)]
    simp only [q_w, List.getElem?_mapIdx, q_up_n S k j v hi]
theorem q_e_put {cA : ClassId} {ad : Nat → Nat} {r : Nat → Int32} {ci j : Nat} {fs : List (Option Nat)} {v : Int32} (h : fs[j]? = some none) : q_e cA ad (upd r j v) (.inr (ci, fs)) = .inr (ci, (fs.mapIdx (fun j f => q_f ad r j f)).set j (.int v)) := by
  show (Sum.inr (ci, fs.mapIdx (fun i f => q_f ad (upd r j v) i f)) : va_E) = _
  congr 2
  apply List.ext_getElem?
  intro i
  have hl := (List.getElem?_eq_some_iff.mp h).1
  by_cases hi : i = j
  · subst hi
    rw [List.getElem?_set_self (by simpa using hl), List.getElem?_mapIdx, h]
    simp [q_f, upd]
  · rw [List.getElem?_set_ne (fun e => hi e.symm), List.getElem?_mapIdx, List.getElem?_mapIdx]
    cases fs[i]? with
    | none => rfl
    | some f => cases f <;> simp [q_f, upd, hi]
/-- the locals -/
def q_has (lsa : Array Slot) (nL : Nat) (ad : Nat → Nat) (ls : List (Option qV)) : Prop := lsa.size = nL ∧ lv_wf lsa ∧ ∀ (i : Nat) (v : qV), ls[i]? = some (some v) → lsa[i]? = some (.val (q_v ad v))
def q_l (ad : Nat → Nat) (ls : List (Option qV)) : List (Nat × Value) := (List.range ls.length).filterMap (fun i => match ls[i]? with
  | some (some v) => some (i, q_v ad v)
  | _ => none)
theorem q_l_mem {ad : Nat → Nat} {ls : List (Option qV)} {i : Nat} {v : qV} (h : ls[i]? = some (some v)) : (i, q_v ad v) ∈ q_l ad ls := by
  refine List.mem_filterMap.mpr ⟨i, List.mem_range.mpr (List.getElem?_eq_some_iff.mp h).1, ?_⟩
  rw [h]
theorem q_has.l {lsa : Array Slot} {nL : Nat} {ad : Nat → Nat} {ls : List (Option qV)} (h : q_has lsa nL ad ls) : lv_has lsa nL (q_l ad ls) := by
  refine ⟨h.1, h.2.1, fun q hq => ?_⟩
  obtain ⟨i, -, hi⟩ := List.mem_filterMap.mp hq
  cases hc : ls[i]? with
  | none => rw [hc] at hi; cases hi
  | some o =>
    cases o with
    | none => rw [hc] at hi; cases hi
    | some v =>
      rw [hc] at hi
      have hq2 := Option.some.inj hi
      rw [← hq2]
      exact h.2.2 i v hc
theorem q_v_cat (ad : Nat → Nat) (v : qV) : (q_v ad v).category = 1 := by cases v <;> rfl
theorem q_has.of {lsa : Array Slot} {nL : Nat} {ad : Nat → Nat} {ls : List (Option qV)} {i : Nat} {v : qV} (h : lv_has lsa nL ((i, q_v ad v) :: (q_l ad ls).filter (fun q => !(q.1 == i) && !(q.1 + 1 == i && q.2.category == 2)))) : q_has lsa nL ad (ls.set i (some v)) := by
  refine ⟨h.1, h.2.1, fun j w hj => ?_⟩
  by_cases hi : j = i
  · subst hi
    have hl : j < ls.length := by
      have := (List.getElem?_eq_some_iff.mp hj).1
      simpa using this
    rw [List.getElem?_set_self hl] at hj
    have hw := Option.some.inj (Option.some.inj hj)
    rw [← hw]
    exact h.2.2 (j, q_v ad v) List.mem_cons_self
  · rw [List.getElem?_set_ne (fun e => hi e.symm)] at hj
    refine h.2.2 (j, q_v ad w) (List.mem_cons_of_mem _ (List.mem_filter.mpr ⟨q_l_mem hj, ?_⟩))
    have h1 : (j == i) = false := by simpa using hi
    simp [h1, q_v_cat]
theorem q_args_mem (ad : Nat → Nat) : ∀ (as : List qV) (k i : Nat) (v : qV), as[i]? = some v → (k + i, q_v ad v) ∈ lv_args k (as.map (q_v ad)) := by
  intro as
  induction as with
  | nil => intro k i v h; simp at h
  | cons a as ih =>
    intro k i v h
    have hc : (if (q_v ad a).category = 2 then k + 2 else k + 1) = k + 1 := by rw [q_v_cat]; rfl
    show (k + i, q_v ad v) ∈ (k, q_v ad a) :: lv_args (if (q_v ad a).category = 2 then k + 2 else k + 1) (as.map (q_v ad))
    rw [hc]
    cases i with
    | zero =>
      have : a = v := by simpa using h
      subst this
      exact List.mem_cons_self
    | succ i =>
      have h2 : as[i]? = some v := by simpa using h
      have := ih (k + 1) i v h2
      rw [show k + (i + 1) = k + 1 + i by omega]
      exact List.mem_cons_of_mem _ this
/-- the words -/
def q_tbl : List Cond := lw_tbl.filter goodWord
theorem q_tbl_in {w : Cond} (h : w ∈ lw_tbl) (g : goodWord w = true) : w ∈ q_tbl := List.mem_filter.mpr ⟨h, g⟩
theorem q_in0 {i : Nat} {w : Cond} (h : (k2_sels lw_privs)[i]? = some w) (g : goodWord w = true) : w ∈ q_tbl := q_tbl_in (List.mem_append_left _ (List.mem_of_getElem? h)) g
theorem q_in1 {i : Nat} {w : Cond} (h : tables_1_1[i]? = some w) (g : goodWord w = true) : w ∈ q_tbl := q_tbl_in (List.mem_append_right _ (List.mem_append_left _ (List.mem_of_getElem? h))) g
theorem q_in2 {i : Nat} {w : Cond} (h : tables_1_2[i]? = some w) (g : goodWord w = true) : w ∈ q_tbl := q_tbl_in (List.mem_append_right _ (List.mem_append_right _ (List.mem_append_left _ (List.mem_of_getElem? h)))) g
theorem q_in3 {i : Nat} {w : Cond} (h : tables_1_3[i]? = some w) (g : goodWord w = true) : w ∈ q_tbl := q_tbl_in (List.mem_append_right _ (List.mem_append_right _ (List.mem_append_right _ (List.mem_append_left _ (List.mem_of_getElem? h))))) g
theorem q_in4 {i : Nat} {w : Cond} (h : tables_1_4[i]? = some w) (g : goodWord w = true) : w ∈ q_tbl := q_tbl_in (List.mem_append_right _ (List.mem_append_right _ (List.mem_append_right _ (List.mem_append_right _ (List.mem_of_getElem? h))))) g
theorem q_good {w : Cond} (h : w ∈ q_tbl) : goodWord w = true := (List.mem_filter.mp h).2
theorem q_fields {C : String} {T : u_T} {N : Nat} (h : ∀ k, k < N → u_lay C T k ∈ q_tbl) : ∀ w ∈ u_ws C T N, w ∈ q_tbl := by
  intro w hw
  obtain ⟨k, hk, e⟩ := List.mem_map.mp hw
  rw [← e]
  exact h k (List.mem_range.mp hk)
def q_ws (y : MethodName) (cc : ByteArray) (nL : Nat) (ret : Option FieldType) : List Cond := Cond.code y cc nL ret :: q_tbl
theorem q_goodIn {y : MethodName} {cc : ByteArray} {nL : Nat} {ret : Option FieldType} (h : Cond.code y cc nL ret ∈ q_tbl) : GoodIn q_tbl (q_ws y cc nL ret) := by
  intro w hw
  have hm : w ∈ q_tbl := by
    rcases List.mem_cons.mp hw with e | e
    · rw [e]; exact h
    · exact e
  exact ⟨hm, good_of_word (q_good hm)⟩
def q_N (U : State) : Prop := va_Nw (.methodLinkNest RX6 48 yX8_isType RX8) U ∧ va_Nw (.methodLinkNest RX6 61 yX8_isValue RX8) U
def q_rm (d : Nat) : Room := { frames := d, cells := 0, slots := 0, locals := 30 * d }
def q_K (D : va_G) (cA : ClassId) (U : State) : Prop := va_K D vwCl [(cA, .int)] U
def q_Cx (cc : ByteArray) (nL : Nat) (ret : Option FieldType) (own : String) (d : Nat) (p : Program) (R : Room) (s : State) (m : MethodId) (args : Array Value) (meth : Method) (c : Code) (D : va_G) (cA : ClassId) (A0 : Nat → Prop) : Prop :=
  p.tables.exec = Jvm.exec ∧ c.code = cc ∧ c.maxLocals = nL ∧ meth.sig.returnType = ret ∧ s.vm.findClass own = some m.cls ∧ (∀ w ∈ q_tbl, w.before args s = true) ∧ va_K D vwCl [(cA, .int)] s ∧ meth.locks = false ∧ (d ≤ R.frames ∧ 30 * d ≤ R.locals) ∧ (∀ q : Nat, s.heap.size ≤ q → A0 q) ∧ q_N s
def q_Qc (D : va_G) (cA : ClassId) (ad : Nat → Nat) (A0 : Nat → Prop) (Q : Option Int32 → qS → Prop) : Array Value → State → Outcome → State → Prop := fun _ st oc t => (∃ (r : Option Int32) (S' : qS), oc = .returned (r.map Value.int) ∧ Q r S' ∧ va_P D vwCl (q_w cA ad S') t.heap ∧ va_D A0 (q_w cA ad S')) ∧ va_F A0 st t
/-- the machine, in a method's frame at pc with these locals, stack and world, comes to its return with Q -/
def q_E (l : Launch) (cc : ByteArray) (nL : Nat) (ret : Option FieldType) (own : String) (d : Nat) (S : qS) (pc : Nat) (ls : List (Option qV)) (st : List qV) (Q : Option Int32 → qS → Prop) : Prop :=
  ∀ (p : Program) (e : Env) (R : Room) (s : State) (m : MethodId) (args : Array Value) (below : List Frame) (meth : Method) (c : Code) (D : va_G) (cA : ClassId) (ad : Nat → Nat) (A0 : Nat → Prop) (H : Heap) (locs : List Loc) (lsa : Array Slot),
    q_Cx cc nL ret own d p R s m args meth c D cA A0 → va_P D vwCl (q_w cA ad S) H → va_D A0 (q_w cA ad S) → va_S A0 s.heap H locs → q_has lsa nL ad ls →
    W p l e R s m args below meth c H locs 0 0 (MQ below (q_Qc D cA ad A0 Q) args s 0 0 A0) (F0 m pc lsa (st.map (q_v ad)))
def q_Pc (D : va_G) (cA : ClassId) (ad : Nat → Nat) (sz : Nat) (as : List qV) (S : qS) : Array Value → State → Prop := va_Pc (as.map (q_v ad)) (fun U => U.heap.size = sz ∧ va_P D vwCl (q_w cA ad S) U.heap ∧ va_K D vwCl [(cA, .int)] U ∧ va_D (fun _ => True) (q_w cA ad S) ∧ q_N U)
def q_B (D : va_G) (cA : ClassId) (ad : Nat → Nat) (A : Nat → Prop) (S : qS) (t : State) : Prop := va_P D vwCl (q_w cA ad S) t.heap ∧ va_D A (q_w cA ad S)
/-- a method's contract: it answers v with the world S', and Q of them -/
def q_Mi (l : Launch) (d : Nat) (y : MethodName) (cc : ByteArray) (nL : Nat) (ret : Option FieldType) (as : List qV) (S : qS) (Q : Int32 → qS → Prop) : Prop :=
  ∀ (D : va_G) (cA : ClassId) (ad : Nat → Nat) (sz : Nat), Met l y (q_ws y cc nL ret) (q_rm d) (q_Pc D cA ad sz as S) (va_Qi Q (q_B D cA ad (va_A (q_w cA ad S) sz)) (va_A (q_w cA ad S) sz)) 0 0 (va_A (q_w cA ad S) sz)
def q_Mv (l : Launch) (d : Nat) (y : MethodName) (cc : ByteArray) (nL : Nat) (ret : Option FieldType) (as : List qV) (S : qS) (Q : qS → Prop) : Prop :=
  ∀ (D : va_G) (cA : ClassId) (ad : Nat → Nat) (sz : Nat), Met l y (q_ws y cc nL ret) (q_rm d) (q_Pc D cA ad sz as S) (va_Qv Q (q_B D cA ad (va_A (q_w cA ad S) sz)) (va_A (q_w cA ad S) sz)) 0 0 (va_A (q_w cA ad S) sz)
def q_Qi (Q : Int32 → qS → Prop) : Option Int32 → qS → Prop := fun r S => match r with
  | some v => Q v S
  | none => False
def q_Qv (Q : qS → Prop) : Option Int32 → qS → Prop := fun r S => match r with
  | some _ => False
  | none => Q S
theorem q_W_mono {p : Program} {l : Launch} {e : Env} {R : Room} {s : State} {m : MethodId} {args : Array Value} {below : List Frame} {meth : Method} {c : Code} {H : Heap} {locs : List Loc} {cells slots : Nat} {Q Q' : State → Prop} {g : JFrame} (h : W p l e R s m args below meth c H locs cells slots Q g) (hq : ∀ t, Q t → Q' t) : W p l e R s m args below meth c H locs cells slots Q' g := by
  intro T hT X
  obtain ⟨t, a, b⟩ := h T hT X
  exact ⟨t, a, hq t b⟩
theorem q_MQ_mono {below : List Frame} {Qc Qc' : Array Value → State → Outcome → State → Prop} {a : Array Value} {s : State} {mc ms : Nat} {free : Addr → Prop} (h : ∀ o t, Qc a s o t → Qc' a s o t) : ∀ t, MQ below Qc a s mc ms free t → MQ below Qc' a s mc ms free t := by
  intro t ⟨o, h1, h2, h3, h4⟩
  exact ⟨o, h1, h2, h o t h3, h4⟩
theorem q_entry {l : Launch} {d : Nat} {y : MethodName} {cc : ByteArray} {nL : Nat} {ret : Option FieldType} {as : List qV} {S : qS} {Q : Option Int32 → qS → Prop} {Qc : va_G → ClassId → (Nat → Nat) → Nat → Array Value → State → Outcome → State → Prop} {own : String}
    (hy : plainName y.cls = true) (ho : y.cls = own) (ls : List (Option qV)) (hls : as.map some ++ List.replicate (nL - as.length) none = ls) (hn : as.length ≤ nL)
    (hq : ∀ (D : va_G) (cA : ClassId) (ad : Nat → Nat) (a : Array Value) (s : State) (o : Outcome) (t : State), q_Qc D cA ad (va_A (q_w cA ad S) s.heap.size) Q a s o t → Qc D cA ad s.heap.size a s o t)
    (h : q_E l cc nL ret own d S 0 ls [] Q) (D : va_G) (cA : ClassId) (ad : Nat → Nat) (sz : Nat) : Met l y (q_ws y cc nL ret) (q_rm d) (q_Pc D cA ad sz as S) (Qc D cA ad sz) 0 0 (va_A (q_w cA ad S) sz) := by
  refine Met.ofW (cc := cc) (maxL := nL) (ret := ret) hy rfl ?_
  intro p e s m args below meth c s₁ B hml hv
  obtain ⟨rfl, hsz, hP, hK, hD0, hN⟩ := hv
  have hts := atoms_spec (ws := q_ws y cc nL ret) B.pre
  have hown : s.vm.findClass y.cls = some m.cls := findClass_of_methodNamed B.named
  subst hsz
  subst ho
  subst hls
  have hD := hD0.self (sz := s.heap.size)
  have hl := lv_entry (as.map (q_v ad)) (n := nL) (by
    have : (lg_sl (as.map (q_v ad))).length = as.length := by
      clear hD0 hD hP hN hn h B hts hK
      induction as with
      | nil => rfl
      | cons a as ih =>
        cases a <;> simpa [lg_sl, q_v, Value.category] using ih
    omega)
  rw [lg_entry_eq]
  generalize (lg_sl (as.map (q_v ad)) ++ List.replicate (nL - (lg_sl (as.map (q_v ad))).length) Slot.unset).toArray = lsa at hl ⊢
  have hl2 : q_has lsa nL ad (as.map some ++ List.replicate (nL - as.length) none) := by
    refine ⟨hl.1, hl.2.1, fun i v hi => ?_⟩
    by_cases hlt : i < (as.map some).length
    · rw [List.getElem?_append_left hlt, List.getElem?_map] at hi
      cases hc : as[i]? with
      | none => rw [hc] at hi; cases hi
      | some w =>
        rw [hc] at hi
        have hw : w = v := Option.some.inj (Option.some.inj hi)
        subst hw
        have := q_args_mem ad as 0 i w hc
        rw [Nat.zero_add] at this
        exact hl.2.2 _ this
    · rw [List.getElem?_append_right (Nat.le_of_not_lt hlt)] at hi
      have := List.eq_of_mem_replicate (List.mem_of_getElem? hi)
      cases this
  refine q_W_mono (h p e _ s m _ below meth c D cA ad _ s.heap [] lsa ⟨B.exec, B.bytes, hml, B.returns, hown, fun w hw => hts w (List.mem_cons_of_mem _ hw), hK, B.notSynchronized, ⟨Nat.le_refl _, Nat.le_refl _⟩, fun q hq => Or.inr hq, hN⟩ hP hD va_S.rf hl2) (q_MQ_mono (fun o t => hq D cA ad _ s o t))
theorem q_Mi_of {l : Launch} {d : Nat} {y : MethodName} {cc : ByteArray} {nL : Nat} {ret : Option FieldType} {as : List qV} {S : qS} {Q : Int32 → qS → Prop} {own : String}
    (hy : plainName y.cls = true) (ho : y.cls = own) (ls : List (Option qV)) (hls : as.map some ++ List.replicate (nL - as.length) none = ls) (hn : as.length ≤ nL)
    (h : q_E l cc nL ret own d S 0 ls [] (q_Qi Q)) : q_Mi l d y cc nL ret as S Q := by
  intro D cA ad sz
  refine q_entry (Qc := fun D cA ad sz => va_Qi Q (q_B D cA ad (va_A (q_w cA ad S) sz)) (va_A (q_w cA ad S) sz)) hy ho ls hls hn ?_ h D cA ad sz
  intro D cA ad a s o t ⟨⟨r, S', h1, h2, h3, h4⟩, h5⟩
  cases r with
  | none => exact h2.elim
  | some v => exact ⟨⟨v, S', h1, h2, h3, h4⟩, h5⟩
theorem q_Mv_of {l : Launch} {d : Nat} {y : MethodName} {cc : ByteArray} {nL : Nat} {ret : Option FieldType} {as : List qV} {S : qS} {Q : qS → Prop} {own : String}
    (hy : plainName y.cls = true) (ho : y.cls = own) (ls : List (Option qV)) (hls : as.map some ++ List.replicate (nL - as.length) none = ls) (hn : as.length ≤ nL)
    (h : q_E l cc nL ret own d S 0 ls [] (q_Qv Q)) : q_Mv l d y cc nL ret as S Q := by
  intro D cA ad sz
  refine q_entry (Qc := fun D cA ad sz => va_Qv Q (q_B D cA ad (va_A (q_w cA ad S) sz)) (va_A (q_w cA ad S) sz)) hy ho ls hls hn ?_ h D cA ad sz
  intro D cA ad a s o t ⟨⟨r, S', h1, h2, h3, h4⟩, h5⟩
  cases r with
  | none => exact ⟨⟨S', h1, h2, h3, h4⟩, h5⟩
  | some v => exact h2.elim
end
section
section QR
variable {l : Launch} {cc : ByteArray} {nL : Nat} {ret : Option FieldType} {own : String} {d : Nat} {S : qS} {pc : Nat} {ls : List (Option qV)} {st : List qV} {Q : Option Int32 → qS → Prop}
theorem q_cats {ad : Nat → Nat} {st : List qV} : ((st.map (q_v ad)).map fun v => v.category).sum = st.length := by
  induction st with
  | nil => rfl
  | cons a st ih => rw [List.map_cons, List.map_cons, List.sum_cons, ih, q_v_cat, List.length_cons, Nat.add_comm]
theorem q_mx1 : Cond.static Lib.Math.max.name ∈ q_tbl := q_in1 (i := 33) rfl rfl
theorem q_mx2 : Cond.initialized "java/lang/Math" ∈ q_tbl := q_in1 (i := 4) rfl rfl
theorem q_mx3 : Cond.code Lib.Math.max.name Lib.Math.max.code 2 (some .int) ∈ q_tbl := q_in1 (i := 34) (by decide +kernel) rfl
theorem q_iconst {n : Int} {v : Int32} (hd : decode cc pc = .ok (.iconst n, 1)) (hv : Int32.ofInt n = v) (k : q_E l cc nL ret own d S (pc + 1) ls (.inl v :: st) Q) : q_E l cc nL ret own d S pc ls st Q := by
  intro p e R s m args below meth c D cA ad A0 H locs lsa C hP hD hS hl
  exact lv_iconst C.1 C.2.1 hd hv (k p e R s m args below meth c D cA ad A0 H locs lsa C hP hD hS hl)
theorem q_bipush {n : Int} {v : Int32} (hd : decode cc pc = .ok (.bipush n, 2)) (hv : (Int8.ofInt n).toInt32 = v) (k : q_E l cc nL ret own d S (pc + 2) ls (.inl v :: st) Q) : q_E l cc nL ret own d S pc ls st Q := by
  intro p e R s m args below meth c D cA ad A0 H locs lsa C hP hD hS hl
  exact lv_bipush C.1 C.2.1 hd hv (k p e R s m args below meth c D cA ad A0 H locs lsa C hP hD hS hl)
theorem q_sipush {n : Int} {v : Int32} (hd : decode cc pc = .ok (.sipush n, 3)) (hv : (Int16.ofInt n).toInt32 = v) (k : q_E l cc nL ret own d S (pc + 3) ls (.inl v :: st) Q) : q_E l cc nL ret own d S pc ls st Q := by
  intro p e R s m args below meth c D cA ad A0 H locs lsa C hP hD hS hl
  exact lv_sipush C.1 C.2.1 hd hv (k p e R s m args below meth c D cA ad A0 H locs lsa C hP hD hS hl)
theorem q_iload {i : Nat} {x : Int32} (hd : decode cc pc = .ok (.iload i, 2)) (hx : ls[(i : Nat)]? = some (some (.inl x))) (k : q_E l cc nL ret own d S (pc + 2) ls (.inl x :: st) Q) : q_E l cc nL ret own d S pc ls st Q := by
  intro p e R s m args below meth c D cA ad A0 H locs lsa C hP hD hS hl
  exact lv_iload C.1 C.2.1 hd (hl.2.2 _ _ hx) (k p e R s m args below meth c D cA ad A0 H locs lsa C hP hD hS hl)
theorem q_iload_n {i : Fin 4} {x : Int32} (hd : decode cc pc = .ok (.iload_n i, 1)) (hx : ls[(i : Nat)]? = some (some (.inl x))) (k : q_E l cc nL ret own d S (pc + 1) ls (.inl x :: st) Q) : q_E l cc nL ret own d S pc ls st Q := by
  intro p e R s m args below meth c D cA ad A0 H locs lsa C hP hD hS hl
  exact lv_iload_n C.1 C.2.1 hd rfl (hl.2.2 _ _ hx) (k p e R s m args below meth c D cA ad A0 H locs lsa C hP hD hS hl)
theorem q_aload_n {i : Fin 4} {x : Nat} (hd : decode cc pc = .ok (.aload_n i, 1)) (hx : ls[(i : Nat)]? = some (some (.inr x))) (k : q_E l cc nL ret own d S (pc + 1) ls (.inr x :: st) Q) : q_E l cc nL ret own d S pc ls st Q := by
  intro p e R s m args below meth c D cA ad A0 H locs lsa C hP hD hS hl
  exact lv_aload_n C.1 C.2.1 hd rfl (hl.2.2 _ _ hx) (k p e R s m args below meth c D cA ad A0 H locs lsa C hP hD hS hl)
theorem q_aload {i : Nat} {x : Nat} (hd : decode cc pc = .ok (.aload i, 2)) (hx : ls[(i : Nat)]? = some (some (.inr x))) (k : q_E l cc nL ret own d S (pc + 2) ls (.inr x :: st) Q) : q_E l cc nL ret own d S pc ls st Q := by
  intro p e R s m args below meth c D cA ad A0 H locs lsa C hP hD hS hl
  exact lv_aload C.1 C.2.1 hd (hl.2.2 _ _ hx) (k p e R s m args below meth c D cA ad A0 H locs lsa C hP hD hS hl)
theorem q_istore {i : Nat} {x : Int32} (hd : decode cc pc = .ok (.istore i, 2)) (hn : i < nL) (k : q_E l cc nL ret own d S (pc + 2) (ls.set i (some (.inl x))) st Q) : q_E l cc nL ret own d S pc ls (.inl x :: st) Q := by
  intro p e R s m args below meth c D cA ad A0 H locs lsa C hP hD hS hl
  exact lv_istore C.1 C.2.1 hd hl.l hn rfl (fun lsa hl' => k p e R s m args below meth c D cA ad A0 H locs lsa C hP hD hS (q_has.of hl'))
theorem q_istore_n {i : Fin 4} {x : Int32} (hd : decode cc pc = .ok (.istore_n i, 1)) (hn : (i : Nat) < nL) (k : q_E l cc nL ret own d S (pc + 1) (ls.set (i : Nat) (some (.inl x))) st Q) : q_E l cc nL ret own d S pc ls (.inl x :: st) Q := by
  intro p e R s m args below meth c D cA ad A0 H locs lsa C hP hD hS hl
  exact lv_istore_n C.1 C.2.1 hd rfl hl.l hn rfl (fun lsa hl' => k p e R s m args below meth c D cA ad A0 H locs lsa C hP hD hS (q_has.of hl'))
theorem q_iinc {i : Nat} {n : Int} {x v : Int32} (hd : decode cc pc = .ok (.iinc i n, 3)) (hx : ls[i]? = some (some (.inl x))) (hv : x + Int32.ofInt n = v) (hn : i < nL) (k : q_E l cc nL ret own d S (pc + 3) (ls.set i (some (.inl v))) st Q) : q_E l cc nL ret own d S pc ls st Q := by
  intro p e R s m args below meth c D cA ad A0 H locs lsa C hP hD hS hl
  obtain ⟨j, hj⟩ := List.getElem?_of_mem (q_l_mem (ad := ad) hx)
  exact lv_iinc C.1 C.2.1 hd hl.l hj hv hn rfl (fun lsa hl' => k p e R s m args below meth c D cA ad A0 H locs lsa C hP hD hS (q_has.of hl'))
theorem q_iadd {x y : Int32} (hd : decode cc pc = .ok (.iadd, 1)) (k : q_E l cc nL ret own d S (pc + 1) ls (.inl (x + y) :: st) Q) : q_E l cc nL ret own d S pc ls (.inl y :: .inl x :: st) Q := by
  intro p e R s m args below meth c D cA ad A0 H locs lsa C hP hD hS hl
  exact lv_iadd C.1 C.2.1 hd (k p e R s m args below meth c D cA ad A0 H locs lsa C hP hD hS hl)
theorem q_isub {x y : Int32} (hd : decode cc pc = .ok (.isub, 1)) (k : q_E l cc nL ret own d S (pc + 1) ls (.inl (x - y) :: st) Q) : q_E l cc nL ret own d S pc ls (.inl y :: .inl x :: st) Q := by
  intro p e R s m args below meth c D cA ad A0 H locs lsa C hP hD hS hl
  exact lv_isub C.1 C.2.1 hd (k p e R s m args below meth c D cA ad A0 H locs lsa C hP hD hS hl)
theorem q_imul {x y : Int32} (hd : decode cc pc = .ok (.imul, 1)) (k : q_E l cc nL ret own d S (pc + 1) ls (.inl (x * y) :: st) Q) : q_E l cc nL ret own d S pc ls (.inl y :: .inl x :: st) Q := by
  intro p e R s m args below meth c D cA ad A0 H locs lsa C hP hD hS hl
  exact lv_imul C.1 C.2.1 hd (k p e R s m args below meth c D cA ad A0 H locs lsa C hP hD hS hl)
theorem q_iand {x y : Int32} (hd : decode cc pc = .ok (.iand, 1)) (k : q_E l cc nL ret own d S (pc + 1) ls (.inl (x &&& y) :: st) Q) : q_E l cc nL ret own d S pc ls (.inl y :: .inl x :: st) Q := by
  intro p e R s m args below meth c D cA ad A0 H locs lsa C hP hD hS hl
  exact lv_iand C.1 C.2.1 hd (k p e R s m args below meth c D cA ad A0 H locs lsa C hP hD hS hl)
theorem q_ior {x y : Int32} (hd : decode cc pc = .ok (.ior, 1)) (k : q_E l cc nL ret own d S (pc + 1) ls (.inl (x ||| y) :: st) Q) : q_E l cc nL ret own d S pc ls (.inl y :: .inl x :: st) Q := by
  intro p e R s m args below meth c D cA ad A0 H locs lsa C hP hD hS hl
  exact lv_ior C.1 C.2.1 hd (k p e R s m args below meth c D cA ad A0 H locs lsa C hP hD hS hl)
theorem q_ixor {x y : Int32} (hd : decode cc pc = .ok (.ixor, 1)) (k : q_E l cc nL ret own d S (pc + 1) ls (.inl (x ^^^ y) :: st) Q) : q_E l cc nL ret own d S pc ls (.inl y :: .inl x :: st) Q := by
  intro p e R s m args below meth c D cA ad A0 H locs lsa C hP hD hS hl
  exact lv_ixor C.1 C.2.1 hd (k p e R s m args below meth c D cA ad A0 H locs lsa C hP hD hS hl)
theorem q_ishl {x y : Int32} (hd : decode cc pc = .ok (.ishl, 1)) (k : q_E l cc nL ret own d S (pc + 1) ls (.inl (x <<< (y &&& 31)) :: st) Q) : q_E l cc nL ret own d S pc ls (.inl y :: .inl x :: st) Q := by
  intro p e R s m args below meth c D cA ad A0 H locs lsa C hP hD hS hl
  exact lv_ishl C.1 C.2.1 hd (k p e R s m args below meth c D cA ad A0 H locs lsa C hP hD hS hl)
theorem q_ishr {x y : Int32} (hd : decode cc pc = .ok (.ishr, 1)) (k : q_E l cc nL ret own d S (pc + 1) ls (.inl (x >>> (y &&& 31)) :: st) Q) : q_E l cc nL ret own d S pc ls (.inl y :: .inl x :: st) Q := by
  intro p e R s m args below meth c D cA ad A0 H locs lsa C hP hD hS hl
  exact lv_ishr C.1 C.2.1 hd (k p e R s m args below meth c D cA ad A0 H locs lsa C hP hD hS hl)
theorem q_idiv {x y : Int32} (hd : decode cc pc = .ok (.idiv, 1)) (hne : ¬ y = 0) (k : q_E l cc nL ret own d S (pc + 1) ls (.inl (x / y) :: st) Q) : q_E l cc nL ret own d S pc ls (.inl y :: .inl x :: st) Q := by
  intro p e R s m args below meth c D cA ad A0 H locs lsa C hP hD hS hl
  exact lv_idiv C.1 C.2.1 hd hne (k p e R s m args below meth c D cA ad A0 H locs lsa C hP hD hS hl)
theorem q_irem {x y : Int32} (hd : decode cc pc = .ok (.irem, 1)) (hne : ¬ y = 0) (k : q_E l cc nL ret own d S (pc + 1) ls (.inl (x - x / y * y) :: st) Q) : q_E l cc nL ret own d S pc ls (.inl y :: .inl x :: st) Q := by
  intro p e R s m args below meth c D cA ad A0 H locs lsa C hP hD hS hl
  exact lv_irem C.1 C.2.1 hd hne (k p e R s m args below meth c D cA ad A0 H locs lsa C hP hD hS hl)
theorem q_dup {v : qV} (hd : decode cc pc = .ok (.dup, 1)) (k : q_E l cc nL ret own d S (pc + 1) ls (v :: v :: st) Q) : q_E l cc nL ret own d S pc ls (v :: st) Q := by
  intro p e R s m args below meth c D cA ad A0 H locs lsa C hP hD hS hl
  exact lv_dup C.1 C.2.1 hd (q_v_cat ad v) (k p e R s m args below meth c D cA ad A0 H locs lsa C hP hD hS hl)
theorem q_pop {v : qV} (hd : decode cc pc = .ok (.pop, 1)) (k : q_E l cc nL ret own d S (pc + 1) ls st Q) : q_E l cc nL ret own d S pc ls (v :: st) Q := by
  intro p e R s m args below meth c D cA ad A0 H locs lsa C hP hD hS hl
  exact lv_pop C.1 C.2.1 hd (q_v_cat ad v) (k p e R s m args below meth c D cA ad A0 H locs lsa C hP hD hS hl)
theorem q_goto {off : Int} (tgt : Nat) (hd : decode cc pc = .ok (.goto off, 3)) (ht : (pc : Int) + off = (tgt : Int)) (k : q_E l cc nL ret own d S tgt ls st Q) : q_E l cc nL ret own d S pc ls st Q := by
  intro p e R s m args below meth c D cA ad A0 H locs lsa C hP hD hS hl
  exact lv_goto C.1 C.2.1 hd ht (k p e R s m args below meth c D cA ad A0 H locs lsa C hP hD hS hl)
theorem q_icmp_eq {x y : Int32} {off : Int} (tgt : Nat) (hd : decode cc pc = .ok (.if_icmp .eq off, 3)) (ht : (pc : Int) + off = (tgt : Int)) (kt : x = y → q_E l cc nL ret own d S tgt ls st Q) (kf : ¬ x = y → q_E l cc nL ret own d S (pc + 3) ls st Q) : q_E l cc nL ret own d S pc ls (.inl y :: .inl x :: st) Q := by
  intro p e R s m args below meth c D cA ad A0 H locs lsa C hP hD hS hl
  exact lv_icmp_eq C.1 C.2.1 hd ht (fun h => kt h p e R s m args below meth c D cA ad A0 H locs lsa C hP hD hS hl) (fun h => kf h p e R s m args below meth c D cA ad A0 H locs lsa C hP hD hS hl)
theorem q_icmp_ne {x y : Int32} {off : Int} (tgt : Nat) (hd : decode cc pc = .ok (.if_icmp .ne off, 3)) (ht : (pc : Int) + off = (tgt : Int)) (kt : ¬ x = y → q_E l cc nL ret own d S tgt ls st Q) (kf : x = y → q_E l cc nL ret own d S (pc + 3) ls st Q) : q_E l cc nL ret own d S pc ls (.inl y :: .inl x :: st) Q := by
  intro p e R s m args below meth c D cA ad A0 H locs lsa C hP hD hS hl
  exact lv_icmp_ne C.1 C.2.1 hd ht (fun h => kt h p e R s m args below meth c D cA ad A0 H locs lsa C hP hD hS hl) (fun h => kf h p e R s m args below meth c D cA ad A0 H locs lsa C hP hD hS hl)
theorem q_icmp_lt {x y : Int32} {off : Int} (tgt : Nat) (hd : decode cc pc = .ok (.if_icmp .lt off, 3)) (ht : (pc : Int) + off = (tgt : Int)) (kt : x < y → q_E l cc nL ret own d S tgt ls st Q) (kf : ¬ x < y → q_E l cc nL ret own d S (pc + 3) ls st Q) : q_E l cc nL ret own d S pc ls (.inl y :: .inl x :: st) Q := by
  intro p e R s m args below meth c D cA ad A0 H locs lsa C hP hD hS hl
  exact lv_icmp_lt C.1 C.2.1 hd ht (fun h => kt h p e R s m args below meth c D cA ad A0 H locs lsa C hP hD hS hl) (fun h => kf h p e R s m args below meth c D cA ad A0 H locs lsa C hP hD hS hl)
theorem q_icmp_ge {x y : Int32} {off : Int} (tgt : Nat) (hd : decode cc pc = .ok (.if_icmp .ge off, 3)) (ht : (pc : Int) + off = (tgt : Int)) (kt : y ≤ x → q_E l cc nL ret own d S tgt ls st Q) (kf : ¬ y ≤ x → q_E l cc nL ret own d S (pc + 3) ls st Q) : q_E l cc nL ret own d S pc ls (.inl y :: .inl x :: st) Q := by
  intro p e R s m args below meth c D cA ad A0 H locs lsa C hP hD hS hl
  exact lv_icmp_ge C.1 C.2.1 hd ht (fun h => kt h p e R s m args below meth c D cA ad A0 H locs lsa C hP hD hS hl) (fun h => kf h p e R s m args below meth c D cA ad A0 H locs lsa C hP hD hS hl)
theorem q_icmp_gt {x y : Int32} {off : Int} (tgt : Nat) (hd : decode cc pc = .ok (.if_icmp .gt off, 3)) (ht : (pc : Int) + off = (tgt : Int)) (kt : y < x → q_E l cc nL ret own d S tgt ls st Q) (kf : ¬ y < x → q_E l cc nL ret own d S (pc + 3) ls st Q) : q_E l cc nL ret own d S pc ls (.inl y :: .inl x :: st) Q := by
  intro p e R s m args below meth c D cA ad A0 H locs lsa C hP hD hS hl
  exact lv_icmp_gt C.1 C.2.1 hd ht (fun h => kt h p e R s m args below meth c D cA ad A0 H locs lsa C hP hD hS hl) (fun h => kf h p e R s m args below meth c D cA ad A0 H locs lsa C hP hD hS hl)
theorem q_icmp_le {x y : Int32} {off : Int} (tgt : Nat) (hd : decode cc pc = .ok (.if_icmp .le off, 3)) (ht : (pc : Int) + off = (tgt : Int)) (kt : x ≤ y → q_E l cc nL ret own d S tgt ls st Q) (kf : ¬ x ≤ y → q_E l cc nL ret own d S (pc + 3) ls st Q) : q_E l cc nL ret own d S pc ls (.inl y :: .inl x :: st) Q := by
  intro p e R s m args below meth c D cA ad A0 H locs lsa C hP hD hS hl
  exact lv_icmp_le C.1 C.2.1 hd ht (fun h => kt h p e R s m args below meth c D cA ad A0 H locs lsa C hP hD hS hl) (fun h => kf h p e R s m args below meth c D cA ad A0 H locs lsa C hP hD hS hl)
theorem q_if_eq {x : Int32} {off : Int} (tgt : Nat) (hd : decode cc pc = .ok (.ifCond .eq off, 3)) (ht : (pc : Int) + off = (tgt : Int)) (kt : x = 0 → q_E l cc nL ret own d S tgt ls st Q) (kf : ¬ x = 0 → q_E l cc nL ret own d S (pc + 3) ls st Q) : q_E l cc nL ret own d S pc ls (.inl x :: st) Q := by
  intro p e R s m args below meth c D cA ad A0 H locs lsa C hP hD hS hl
  exact lv_if_eq C.1 C.2.1 hd ht (fun h => kt h p e R s m args below meth c D cA ad A0 H locs lsa C hP hD hS hl) (fun h => kf h p e R s m args below meth c D cA ad A0 H locs lsa C hP hD hS hl)
theorem q_if_ne {x : Int32} {off : Int} (tgt : Nat) (hd : decode cc pc = .ok (.ifCond .ne off, 3)) (ht : (pc : Int) + off = (tgt : Int)) (kt : ¬ x = 0 → q_E l cc nL ret own d S tgt ls st Q) (kf : x = 0 → q_E l cc nL ret own d S (pc + 3) ls st Q) : q_E l cc nL ret own d S pc ls (.inl x :: st) Q := by
  intro p e R s m args below meth c D cA ad A0 H locs lsa C hP hD hS hl
  exact lv_if_ne C.1 C.2.1 hd ht (fun h => kt h p e R s m args below meth c D cA ad A0 H locs lsa C hP hD hS hl) (fun h => kf h p e R s m args below meth c D cA ad A0 H locs lsa C hP hD hS hl)
theorem q_if_lt {x : Int32} {off : Int} (tgt : Nat) (hd : decode cc pc = .ok (.ifCond .lt off, 3)) (ht : (pc : Int) + off = (tgt : Int)) (kt : x < 0 → q_E l cc nL ret own d S tgt ls st Q) (kf : ¬ x < 0 → q_E l cc nL ret own d S (pc + 3) ls st Q) : q_E l cc nL ret own d S pc ls (.inl x :: st) Q := by
  intro p e R s m args below meth c D cA ad A0 H locs lsa C hP hD hS hl
  exact lv_if_lt C.1 C.2.1 hd ht (fun h => kt h p e R s m args below meth c D cA ad A0 H locs lsa C hP hD hS hl) (fun h => kf h p e R s m args below meth c D cA ad A0 H locs lsa C hP hD hS hl)
theorem q_if_ge {x : Int32} {off : Int} (tgt : Nat) (hd : decode cc pc = .ok (.ifCond .ge off, 3)) (ht : (pc : Int) + off = (tgt : Int)) (kt : 0 ≤ x → q_E l cc nL ret own d S tgt ls st Q) (kf : ¬ 0 ≤ x → q_E l cc nL ret own d S (pc + 3) ls st Q) : q_E l cc nL ret own d S pc ls (.inl x :: st) Q := by
  intro p e R s m args below meth c D cA ad A0 H locs lsa C hP hD hS hl
  exact lv_if_ge C.1 C.2.1 hd ht (fun h => kt h p e R s m args below meth c D cA ad A0 H locs lsa C hP hD hS hl) (fun h => kf h p e R s m args below meth c D cA ad A0 H locs lsa C hP hD hS hl)
theorem q_if_gt {x : Int32} {off : Int} (tgt : Nat) (hd : decode cc pc = .ok (.ifCond .gt off, 3)) (ht : (pc : Int) + off = (tgt : Int)) (kt : 0 < x → q_E l cc nL ret own d S tgt ls st Q) (kf : ¬ 0 < x → q_E l cc nL ret own d S (pc + 3) ls st Q) : q_E l cc nL ret own d S pc ls (.inl x :: st) Q := by
  intro p e R s m args below meth c D cA ad A0 H locs lsa C hP hD hS hl
  exact lv_if_gt C.1 C.2.1 hd ht (fun h => kt h p e R s m args below meth c D cA ad A0 H locs lsa C hP hD hS hl) (fun h => kf h p e R s m args below meth c D cA ad A0 H locs lsa C hP hD hS hl)
theorem q_if_le {x : Int32} {off : Int} (tgt : Nat) (hd : decode cc pc = .ok (.ifCond .le off, 3)) (ht : (pc : Int) + off = (tgt : Int)) (kt : x ≤ 0 → q_E l cc nL ret own d S tgt ls st Q) (kf : ¬ x ≤ 0 → q_E l cc nL ret own d S (pc + 3) ls st Q) : q_E l cc nL ret own d S pc ls (.inl x :: st) Q := by
  intro p e R s m args below meth c D cA ad A0 H locs lsa C hP hD hS hl
  exact lv_if_le C.1 C.2.1 hd ht (fun h => kt h p e R s m args below meth c D cA ad A0 H locs lsa C hP hD hS hl) (fun h => kf h p e R s m args below meth c D cA ad A0 H locs lsa C hP hD hS hl)
theorem q_tableIn {dflt lo hi : Int} {offs : Array Int} {len : Nat} {x : Int32} {off : Int} (tgt : Nat) (hd : decode cc pc = .ok (.tableswitch dflt lo hi offs, len)) (h1 : ¬ x.toInt < lo) (h2 : ¬ hi < x.toInt) (ho : offs[(x.toInt - lo).toNat]? = some off) (ht : (pc : Int) + off = (tgt : Int)) (k : q_E l cc nL ret own d S tgt ls st Q) : q_E l cc nL ret own d S pc ls (.inl x :: st) Q := by
  intro p e R s m args below meth c D cA ad A0 H locs lsa C hP hD hS hl
  exact lv_tableIn C.1 C.2.1 hd h1 h2 ho ht (k p e R s m args below meth c D cA ad A0 H locs lsa C hP hD hS hl)
theorem q_tableOut {dflt lo hi : Int} {offs : Array Int} {len : Nat} {x : Int32} (tgt : Nat) (hd : decode cc pc = .ok (.tableswitch dflt lo hi offs, len)) (h : x.toInt < lo ∨ hi < x.toInt) (ht : (pc : Int) + dflt = (tgt : Int)) (k : q_E l cc nL ret own d S tgt ls st Q) : q_E l cc nL ret own d S pc ls (.inl x :: st) Q := by
  intro p e R s m args below meth c D cA ad A0 H locs lsa C hP hD hS hl
  exact lv_tableOut C.1 C.2.1 hd h ht (k p e R s m args below meth c D cA ad A0 H locs lsa C hP hD hS hl)
def q_FL (own : String) (idx ci j : Nat) : Prop := ∃ (C : String) (T : u_T) (N : Nat), vwCl[ci]? = some (C, T, N) ∧ j < N ∧ Cond.fieldLink own idx (T j).1 (T j).2.1 (T j).2.2.1 ∈ q_tbl ∧ (∀ w ∈ u_ws C T N, w ∈ q_tbl)
def q_FP (ci j : Nat) : Prop := ∀ (C : String) (T : u_T) (N : Nat), vwCl[ci]? = some (C, T, N) → ∃ ty0 : Nat → FieldType, (∀ k, k < N → parseFieldDescriptor (T k).2.2.1 = some (ty0 k)) ∧ (∀ a, a < N → ∀ b, b < N → a ≠ b → (T a).2.1 ≠ (T b).2.1) ∧ (T j).2.2.2 = false ∧ parseFieldDescriptor (T j).2.2.1 = some .int
theorem q_geti {idx ci j k k2 : Nat} {fs : List (Option Nat)} (hd : decode cc pc = .ok (.getfield idx, 3)) (hf : q_FL own idx ci j) (hy : q_lay[k]? = some (.inr (ci, fs))) (hv : fs[j]? = some (none)) (kk : q_E l cc nL ret own d S (pc + 3) ls (.inl (S k j) :: st) Q) : q_E l cc nL ret own d S pc ls (.inr k :: st) Q := by
  intro p e R s m args below meth c D cA ad A0 H locs lsa C hP hD hS hl
  obtain ⟨CC, T, N, h1, h2, h3, h4⟩ := hf
  refine va_get (D := D) (ci := ci) (v := .int (S k j)) (C := CC) (T := T) (N := N) C.1 C.2.1 C.2.2.2.2.2.1 h4 C.2.2.2.2.1 C.2.2.2.2.2.2.1 hP k (fs := fs.mapIdx (fun j f => q_f ad (S k) j f)) (q_w_get hy) h1 j h2 (C.2.2.2.2.2.1 _ h3) (fun _ h9 => h9) ?_ hd (kk p e R s m args below meth c D cA ad A0 H locs lsa C hP hD hS hl)
  rw [List.getElem?_mapIdx, hv]
  rfl
theorem q_getr {idx ci j k k2 : Nat} {fs : List (Option Nat)} (hd : decode cc pc = .ok (.getfield idx, 3)) (hf : q_FL own idx ci j) (hy : q_lay[k]? = some (.inr (ci, fs))) (hv : fs[j]? = some (some k2)) (kk : q_E l cc nL ret own d S (pc + 3) ls (.inr k2 :: st) Q) : q_E l cc nL ret own d S pc ls (.inr k :: st) Q := by
  intro p e R s m args below meth c D cA ad A0 H locs lsa C hP hD hS hl
  obtain ⟨CC, T, N, h1, h2, h3, h4⟩ := hf
  refine va_get (D := D) (ci := ci) (v := .ref (ad k2)) (C := CC) (T := T) (N := N) C.1 C.2.1 C.2.2.2.2.2.1 h4 C.2.2.2.2.1 C.2.2.2.2.2.2.1 hP k (fs := fs.mapIdx (fun j f => q_f ad (S k) j f)) (q_w_get hy) h1 j h2 (C.2.2.2.2.2.1 _ h3) (fun _ h9 => h9) ?_ hd (kk p e R s m args below meth c D cA ad A0 H locs lsa C hP hD hS hl)
  rw [List.getElem?_mapIdx, hv]
  rfl
theorem q_put {idx ci j k : Nat} {fs : List (Option Nat)} {x : Int32} (hd : decode cc pc = .ok (.putfield idx, 3)) (hf : q_FL own idx ci j) (hp : q_FP ci j) (hy : q_lay[k]? = some (.inr (ci, fs))) (hv : fs[j]? = some none) (kk : q_E l cc nL ret own d (q_up S k j x) (pc + 3) ls st Q) : q_E l cc nL ret own d S pc ls (.inl x :: .inr k :: st) Q := by
  intro p e R s m args below meth c D cA ad A0 H locs lsa C hP hD hS hl
  obtain ⟨CC, T, N, h1, h2, h3, h4⟩ := hf
  obtain ⟨ty0, g1, g2, g3, g4⟩ := hp CC T N h1
  refine va_put (D := D) (ci := ci) (v := .int x) (ty := .int) (C := CC) (T := T) (N := N) C.1 C.2.1 C.2.2.2.2.2.1 h4 ty0 g1 g2 C.2.2.2.2.1 C.2.2.2.2.2.2.1 hP hD hS k (fs := fs.mapIdx (fun j f => q_f ad (S k) j f)) (q_w_get hy) h1 j h2 (C.2.2.2.2.2.1 _ h3) (fun _ h9 => h9) g3 g4 rfl rfl (by simpa using (List.getElem?_eq_some_iff.mp hv).1) hd (fun H1 locs1 hP1 hD1 hS1 => ?_)
  rw [q_w_set hy (q_e_put hv)] at hP1 hD1
  exact kk p e R s m args below meth c D cA ad A0 H1 locs1 lsa C hP1 hD1 hS1 hl
theorem q_iald {k n : Nat} {i : Int32} (hd : decode cc pc = .ok (.iaload, 1)) (hy : q_lay[k]? = some (.inl n)) (hin : vp_in i n) (kk : q_E l cc nL ret own d S (pc + 1) ls (.inl (S k i.toNatClampNeg) :: st) Q) : q_E l cc nL ret own d S pc ls (.inl i :: .inr k :: st) Q := by
  intro p e R s m args below meth c D cA ad A0 H locs lsa C hP hD hS hl
  exact va_iald C.1 C.2.1 C.2.2.2.2.2.2.1 hP k 0 (q_w_get hy) rfl hin hd (kk p e R s m args below meth c D cA ad A0 H locs lsa C hP hD hS hl)
theorem q_iast {k n : Nat} {i x : Int32} (hd : decode cc pc = .ok (.iastore, 1)) (hy : q_lay[k]? = some (.inl n)) (hin : vp_in i n) (kk : q_E l cc nL ret own d (q_up S k i.toNatClampNeg x) (pc + 1) ls st Q) : q_E l cc nL ret own d S pc ls (.inl x :: .inl i :: .inr k :: st) Q := by
  intro p e R s m args below meth c D cA ad A0 H locs lsa C hP hD hS hl
  refine va_iast C.1 C.2.1 C.2.2.2.2.2.2.1 hP hD hS k 0 (q_w_get hy) rfl hin hd (fun H1 locs1 hP1 hD1 hS1 => ?_)
  rw [q_w_set (j := i.toNatClampNeg) (v := x) (E := .inl (cA, n, .inl (upd (S k) i.toNatClampNeg x))) hy rfl] at hP1 hD1
  exact kk p e R s m args below meth c D cA ad A0 H1 locs1 lsa C hP1 hD1 hS1 hl
theorem q_ret {v : Int32} {ty : FieldType} (hd : decode cc pc = .ok (.ireturn, 1)) (hr : ret = some ty) (hn : narrow ty (.int v) = .int v) (k : Q (some v) S) : q_E l cc nL ret own d S pc ls [.inl v] Q := by
  intro p e R s m args below meth c D cA ad A0 H locs lsa C hP hD hS hl
  subst hr
  exact W.zret C.1 C.2.1 C.2.2.2.1 hn (fun t ht _ => ⟨⟨some v, S, rfl, k, by rw [ht]; exact hP, hD⟩, hS.F ht⟩) hS.2.2 hd C.2.2.2.2.2.2.2.1
theorem q_vret (hd : decode cc pc = .ok (.return_, 1)) (hr : ret = none) (k : Q none S) : q_E l cc nL ret own d S pc ls [] Q := by
  intro p e R s m args below meth c D cA ad A0 H locs lsa C hP hD hS hl
  subst hr
  exact W.vret C.1 C.2.1 C.2.2.2.1 (fun t ht _ => ⟨⟨none, S, rfl, k, by rw [ht]; exact hP, hD⟩, hS.F ht⟩) hS.2.2 hd C.2.2.2.2.2.2.2.1
theorem q_max {idx : Nat} {x y : Int32} (hd : decode cc pc = .ok (.invokestatic idx, 3)) (hk : Cond.methodLink own idx Lib.Math.max.name ∈ q_tbl) (hr : st.length ≤ 8) (h1 : 1 ≤ d) (kk : q_E l cc nL ret own d S (pc + 3) ls (.inl (if x < y then y else x) :: st) Q) : q_E l cc nL ret own d S pc ls (.inl y :: .inl x :: st) Q := by
  intro p e R s m args below meth c D cA ad A0 H locs lsa C hP hD hS hl
  have hst : ((st.map (q_v ad)).map fun v => v.category).sum ≤ 8 := by rw [q_cats]; exact hr
  have hr2 : 30 ≤ R.locals := by have := C.2.2.2.2.2.2.2.2.1.2; omega
  exact va_mmax C.1 C.2.1 (by rw [C.2.2.1, hl.1]) C.2.2.2.2.1 (C.2.2.2.2.2.1 _ hk) (C.2.2.2.2.2.1 _ q_mx1) (C.2.2.2.2.2.1 _ q_mx2) (C.2.2.2.2.2.1 _ q_mx3) (by have := C.2.2.2.2.2.2.2.2.1.1; omega) (by omega) (Nat.zero_le _) (Nat.zero_le _) hd (kk p e R s m args below meth c D cA ad A0 H locs lsa C hP hD hS hl)
def q_CV (own : String) (idx ci : Nat) (y : MethodName) (cc : ByteArray) (nL : Nat) (ret : Option FieldType) (n : Nat) : Prop := ∃ (C : String) (T : u_T) (N : Nat), vwCl[ci]? = some (C, T, N) ∧ y.cls = C ∧ Cond.methodLink own idx y ∈ q_tbl ∧ Cond.instanceMethod y ∈ q_tbl ∧ Cond.selects C y y ∈ q_tbl ∧ Cond.initialized C ∈ q_tbl ∧ Cond.code y cc nL ret ∈ q_tbl ∧ (y.cls ≠ "java/lang/invoke/MethodHandle" ∧ y.cls ≠ "java/lang/invoke/VarHandle" ∧ (parseMethodDescriptor y.desc).map (fun d => d.parameters.length) = some n) ∧ nL ≤ 11
def q_CS (own : String) (idx : Nat) (y : MethodName) (cc : ByteArray) (nL : Nat) (ret : Option FieldType) (n : Nat) : Prop := Cond.methodLink own idx y ∈ q_tbl ∧ Cond.static y ∈ q_tbl ∧ Cond.initialized y.cls ∈ q_tbl ∧ Cond.code y cc nL ret ∈ q_tbl ∧ (y.cls ≠ "java/lang/invoke/MethodHandle" ∧ y.cls ≠ "java/lang/invoke/VarHandle" ∧ (parseMethodDescriptor y.desc).map (fun d => d.parameters.length) = some n) ∧ nL ≤ 11
theorem q_Pc_blind {D : va_G} {cA : ClassId} {ad : Nat → Nat} {sz : Nat} {as : List qV} : FrameBlind (q_Pc D cA ad sz as S) := by
  intro a U g mk ⟨q0, q1, qP, qK, qD, qN⟩
  exact ⟨q0, q1, qP, va_K.moved (u := U) (U := U.calling g mk a) (Vm.Alike.refl U.vm) qK, qD, va_Nw.same rfl rfl qN.1, va_Nw.same rfl rfl qN.2⟩
theorem q_Pc_in {D : va_G} {cA : ClassId} {ad : Nat → Nat} {as : List qV} {s : State} {H : Heap} {A0 : Nat → Prop} (hP : va_P D vwCl (q_w cA ad S) H) (hD : va_D A0 (q_w cA ad S)) (hK : va_K D vwCl [(cA, .int)] s) (hN : q_N s) : ∀ U : State, U.heap = H → s.WarmedH U.vm → q_Pc D cA ad H.size as S (as.map (q_v ad)).toArray U := by
  intro U hU hW
  exact ⟨rfl, by rw [hU], by rw [hU]; exact hP, va_K.moved hW.alike hK, hD.weaken (fun _ _ _ _ => trivial), va_Nw.warmM hW hN.1, va_Nw.warmM hW hN.2⟩
theorem q_A_in {cA : ClassId} {ad : Nat → Nat} {A0 : Nat → Prop} {s : State} {H : Heap} {locs : List Loc} (hD : va_D A0 (q_w cA ad S)) (hS : va_S A0 s.heap H locs) (hA : ∀ q : Nat, s.heap.size ≤ q → A0 q) : ∀ q : Nat, va_A (q_w cA ad S) H.size q → A0 q := by
  intro q h
  rcases h with ⟨k, e, h⟩ | h
  · exact hD.2 k _ h
  · exact hA q (Nat.le_trans hS.1 h)
theorem q_callVi {idx ci k : Nat} {fs : List (Option Nat)} {y : MethodName} {c2 : ByteArray} {n2 n : Nat} {r2 : Option FieldType} {As rest : List qV} (hd : decode cc pc = .ok (.invokevirtual idx, 3)) (hc : q_CV own idx ci y c2 n2 r2 n) (hy : q_lay[k]? = some (.inr (ci, fs))) (hn : As.length = n) (hr : rest.length ≤ 8) (h1 : 1 ≤ d) (hM : q_Mi l (d - 1) y c2 n2 r2 (.inr k :: As) S (fun v S2 => q_E l cc nL ret own d S2 (pc + 3) ls (.inl v :: rest) Q)) : q_E l cc nL ret own d S pc ls (As.reverse ++ .inr k :: rest) Q := by
  intro p e R s m args below meth c D cA ad A0 H locs lsa C hP hD hS hl
  have hts := C.2.2.2.2.2.1
  have hrm : (q_rm (d - 1)).frames + 1 ≤ R.frames ∧ 8 + (n2 + 11) + (q_rm (d - 1)).locals ≤ R.locals := by
    have a1 := C.2.2.2.2.2.2.2.2.1.1
    have a2 := C.2.2.2.2.2.2.2.2.1.2
    have a3 : n2 ≤ 11 := by obtain ⟨_, _, _, _, _, _, _, _, _, _, _, h9⟩ := hc; exact h9
    show d - 1 + 1 ≤ R.frames ∧ 8 + (n2 + 11) + 30 * (d - 1) ≤ R.locals
    omega
  obtain ⟨CC, T, N, g1, g2, g3, g4, g5, g6, g7, g8, g9⟩ := hc
  have hcw : CallW R s args own CC idx y c2 n2 r2 (q_ws y c2 n2 r2) (q_rm (d - 1)) 0 0 n := ⟨callB_of n hts (q_goodIn g7) rfl rfl rfl (by rw [g2]; exact hts _ g6) (hts _ g3) g8 hrm, hts _ g4, hts _ g5⟩
  have hFc := q_A_in hD hS C.2.2.2.2.2.2.2.2.2.1
  refine va_calli (va_runV (As := As.map (q_v ad)) (rest := rest.map (q_v ad)) ⟨C.1, C.2.1, C.2.2.1, C.2.2.2.2.1, hts⟩ (hM D cA ad H.size) hcw ⟨q_Pc_blind, va_recv C.2.2.2.2.2.2.1 hP (ci := ci) (q0 := k) g1 (q_w_get hy), q_Pc_in (as := .inr k :: As) hP hD C.2.2.2.2.2.2.1 C.2.2.2.2.2.2.2.2.2.2⟩ rfl (by rw [List.length_map]; exact hn) hl.1 (by simp [q_v]) (lv_room (by rw [q_cats]; exact hr)) hd ⟨Nat.zero_le _, Nat.zero_le _⟩) hS (fun q _ h => hFc q h) hFc (fun r u t H1 locs1 ht hvm hw hB hz1 hk1 hS1 => ?_)
  obtain ⟨hP1, hD1⟩ := hB
  rw [ht] at hP1
  exact hw p e R s m args below meth c D cA ad A0 H1 locs1 lsa C hP1 (hD1.weaken (fun _ q _ h => hFc q.1 h)) hS1 hl
theorem q_callSi {idx : Nat} {y : MethodName} {c2 : ByteArray} {n2 n : Nat} {r2 : Option FieldType} {As rest : List qV} (hd : decode cc pc = .ok (.invokestatic idx, 3)) (hc : q_CS own idx y c2 n2 r2 n) (hn : As.length = n) (hr : rest.length ≤ 8) (h1 : 1 ≤ d) (hM : q_Mi l (d - 1) y c2 n2 r2 As S (fun v S2 => q_E l cc nL ret own d S2 (pc + 3) ls (.inl v :: rest) Q)) : q_E l cc nL ret own d S pc ls (As.reverse ++ rest) Q := by
  intro p e R s m args below meth c D cA ad A0 H locs lsa C hP hD hS hl
  have hts := C.2.2.2.2.2.1
  have hrm : (q_rm (d - 1)).frames + 1 ≤ R.frames ∧ 8 + (n2 + 11) + (q_rm (d - 1)).locals ≤ R.locals := by
    have a1 := C.2.2.2.2.2.2.2.2.1.1
    have a2 := C.2.2.2.2.2.2.2.2.1.2
    have a3 : n2 ≤ 11 := by obtain ⟨_, _, _, _, _, h9⟩ := hc; exact h9
    show d - 1 + 1 ≤ R.frames ∧ 8 + (n2 + 11) + 30 * (d - 1) ≤ R.locals
    omega
  obtain ⟨g3, g4, g6, g7, g8, g9⟩ := hc
  have hcw : CallB R s args own idx y c2 n2 r2 (q_ws y c2 n2 r2) (q_rm (d - 1)) 0 0 n ∧ (Cond.static y).before args s = true := ⟨callB_of n hts (q_goodIn g7) rfl rfl rfl (hts _ g6) (hts _ g3) g8 hrm, hts _ g4⟩
  have hFc := q_A_in hD hS C.2.2.2.2.2.2.2.2.2.1
  refine va_calli (va_runS (As := As.map (q_v ad)) (rest := rest.map (q_v ad)) ⟨C.1, C.2.1, C.2.2.1, C.2.2.2.2.1, hts⟩ (hM D cA ad H.size) hcw ⟨q_Pc_blind, q_Pc_in (as := As) hP hD C.2.2.2.2.2.2.1 C.2.2.2.2.2.2.2.2.2.2⟩ rfl (by rw [List.length_map]; exact hn) hl.1 (by simp) (lv_room (by rw [q_cats]; exact hr)) hd ⟨Nat.zero_le _, Nat.zero_le _⟩) hS (fun q _ h => hFc q h) hFc (fun r u t H1 locs1 ht hvm hw hB hz1 hk1 hS1 => ?_)
  obtain ⟨hP1, hD1⟩ := hB
  rw [ht] at hP1
  exact hw p e R s m args below meth c D cA ad A0 H1 locs1 lsa C hP1 (hD1.weaken (fun _ q _ h => hFc q.1 h)) hS1 hl
theorem q_callNi {idx : Nat} {y : MethodName} {c2 : ByteArray} {n2 n : Nat} {r2 : Option FieldType} {As rest : List qV} (hd : decode cc pc = .ok (.invokestatic idx, 3)) (hc : (Cond.methodLinkNest own idx y RX8 = Cond.methodLinkNest RX6 48 yX8_isType RX8 ∨ Cond.methodLinkNest own idx y RX8 = Cond.methodLinkNest RX6 61 yX8_isValue RX8) ∧ Cond.static y ∈ q_tbl ∧ Cond.initialized y.cls ∈ q_tbl ∧ Cond.code y c2 n2 r2 ∈ q_tbl ∧ (y.cls ≠ "java/lang/invoke/MethodHandle" ∧ y.cls ≠ "java/lang/invoke/VarHandle" ∧ (parseMethodDescriptor y.desc).map (fun d => d.parameters.length) = some n) ∧ n2 ≤ 11) (hn : As.length = n) (hr : rest.length ≤ 8) (h1 : 1 ≤ d) (hM : q_Mi l (d - 1) y c2 n2 r2 As S (fun v S2 => q_E l cc nL ret own d S2 (pc + 3) ls (.inl v :: rest) Q)) : q_E l cc nL ret own d S pc ls (As.reverse ++ rest) Q := by
  intro p e R s m args below meth c D cA ad A0 H locs lsa C hP hD hS hl
  have hts := C.2.2.2.2.2.1
  have hrm : (q_rm (d - 1)).frames + 1 ≤ R.frames ∧ 8 + (n2 + 11) + (q_rm (d - 1)).locals ≤ R.locals := by
    have a1 := C.2.2.2.2.2.2.2.2.1.1
    have a2 := C.2.2.2.2.2.2.2.2.1.2
    have a3 : n2 ≤ 11 := by obtain ⟨_, _, _, _, _, h9⟩ := hc; exact h9
    show d - 1 + 1 ≤ R.frames ∧ 8 + (n2 + 11) + 30 * (d - 1) ≤ R.locals
    omega
  obtain ⟨g3, g4, g6, g7, g8, g9⟩ := hc
  have hnl : va_Nw (.methodLinkNest own idx y RX8) s := by
    rcases g3 with g | g
    · rw [g]; exact C.2.2.2.2.2.2.2.2.2.2.1
    · rw [g]; exact C.2.2.2.2.2.2.2.2.2.2.2
  have hcw : va_CN R s args own idx y RX8 c2 n2 r2 (q_ws y c2 n2 r2) (q_rm (d - 1)) 0 0 n ∧ (Cond.static y).before args s = true ∧ True := ⟨va_cnB n hts (q_goodIn g7) rfl rfl rfl hnl (hts _ g6) g8 hrm, hts _ g4, trivial⟩
  have hFc := q_A_in hD hS C.2.2.2.2.2.2.2.2.2.1
  refine va_calli (va_runSN (As := As.map (q_v ad)) (rest := rest.map (q_v ad)) ⟨C.1, C.2.1, C.2.2.1, C.2.2.2.2.1, hts⟩ (hM D cA ad H.size) hcw ⟨q_Pc_blind, q_Pc_in (as := As) hP hD C.2.2.2.2.2.2.1 C.2.2.2.2.2.2.2.2.2.2⟩ rfl (by rw [List.length_map]; exact hn) hl.1 (by simp) (lv_room (by rw [q_cats]; exact hr)) hd ⟨Nat.zero_le _, Nat.zero_le _⟩) hS (fun q _ h => hFc q h) hFc (fun r u t H1 locs1 ht hvm hw hB hz1 hk1 hS1 => ?_)
  obtain ⟨hP1, hD1⟩ := hB
  rw [ht] at hP1
  exact hw p e R s m args below meth c D cA ad A0 H1 locs1 lsa C hP1 (hD1.weaken (fun _ q _ h => hFc q.1 h)) hS1 hl
theorem q_callVv {idx ci k : Nat} {fs : List (Option Nat)} {y : MethodName} {c2 : ByteArray} {n2 n : Nat} {r2 : Option FieldType} {As rest : List qV} (hd : decode cc pc = .ok (.invokevirtual idx, 3)) (hc : q_CV own idx ci y c2 n2 r2 n) (hy : q_lay[k]? = some (.inr (ci, fs))) (hn : As.length = n) (hr : rest.length ≤ 8) (h1 : 1 ≤ d) (hM : q_Mv l (d - 1) y c2 n2 r2 (.inr k :: As) S (fun S2 => q_E l cc nL ret own d S2 (pc + 3) ls rest Q)) : q_E l cc nL ret own d S pc ls (As.reverse ++ .inr k :: rest) Q := by
  intro p e R s m args below meth c D cA ad A0 H locs lsa C hP hD hS hl
  have hts := C.2.2.2.2.2.1
  have hrm : (q_rm (d - 1)).frames + 1 ≤ R.frames ∧ 8 + (n2 + 11) + (q_rm (d - 1)).locals ≤ R.locals := by
    have a1 := C.2.2.2.2.2.2.2.2.1.1
    have a2 := C.2.2.2.2.2.2.2.2.1.2
    have a3 : n2 ≤ 11 := by obtain ⟨_, _, _, _, _, _, _, _, _, _, _, h9⟩ := hc; exact h9
    show d - 1 + 1 ≤ R.frames ∧ 8 + (n2 + 11) + 30 * (d - 1) ≤ R.locals
    omega
  obtain ⟨CC, T, N, g1, g2, g3, g4, g5, g6, g7, g8, g9⟩ := hc
  have hcw : CallW R s args own CC idx y c2 n2 r2 (q_ws y c2 n2 r2) (q_rm (d - 1)) 0 0 n := ⟨callB_of n hts (q_goodIn g7) rfl rfl rfl (by rw [g2]; exact hts _ g6) (hts _ g3) g8 hrm, hts _ g4, hts _ g5⟩
  have hFc := q_A_in hD hS C.2.2.2.2.2.2.2.2.2.1
  refine va_callv (va_runV (As := As.map (q_v ad)) (rest := rest.map (q_v ad)) ⟨C.1, C.2.1, C.2.2.1, C.2.2.2.2.1, hts⟩ (hM D cA ad H.size) hcw ⟨q_Pc_blind, va_recv C.2.2.2.2.2.2.1 hP (ci := ci) (q0 := k) g1 (q_w_get hy), q_Pc_in (as := .inr k :: As) hP hD C.2.2.2.2.2.2.1 C.2.2.2.2.2.2.2.2.2.2⟩ rfl (by rw [List.length_map]; exact hn) hl.1 (by simp [q_v]) (lv_room (by rw [q_cats]; exact hr)) hd ⟨Nat.zero_le _, Nat.zero_le _⟩) hS (fun q _ h => hFc q h) hFc (fun u t H1 locs1 ht hvm hw hB hz1 hk1 hS1 => ?_)
  obtain ⟨hP1, hD1⟩ := hB
  rw [ht] at hP1
  exact hw p e R s m args below meth c D cA ad A0 H1 locs1 lsa C hP1 (hD1.weaken (fun _ q _ h => hFc q.1 h)) hS1 hl
theorem q_callVi0 {idx ci k : Nat} {fs : List (Option Nat)} {y : MethodName} {c2 : ByteArray} {n2 : Nat} {r2 : Option FieldType} {rest : List qV} (hd : decode cc pc = .ok (.invokevirtual idx, 3)) (hc : q_CV own idx ci y c2 n2 r2 0) (hy : q_lay[k]? = some (.inr (ci, fs))) (hr : rest.length ≤ 8) (h1 : 1 ≤ d) (hM : q_Mi l (d - 1) y c2 n2 r2 [.inr k] S (fun v S2 => q_E l cc nL ret own d S2 (pc + 3) ls (.inl v :: rest) Q)) : q_E l cc nL ret own d S pc ls (.inr k :: rest) Q := q_callVi (As := []) hd hc hy rfl hr h1 hM
theorem q_callVi1 {idx ci k : Nat} {fs : List (Option Nat)} {y : MethodName} {c2 : ByteArray} {n2 : Nat} {r2 : Option FieldType} {rest : List qV} {a1 : Int32} (hd : decode cc pc = .ok (.invokevirtual idx, 3)) (hc : q_CV own idx ci y c2 n2 r2 1) (hy : q_lay[k]? = some (.inr (ci, fs))) (hr : rest.length ≤ 8) (h1 : 1 ≤ d) (hM : q_Mi l (d - 1) y c2 n2 r2 [.inr k, .inl a1] S (fun v S2 => q_E l cc nL ret own d S2 (pc + 3) ls (.inl v :: rest) Q)) : q_E l cc nL ret own d S pc ls (.inl a1 :: .inr k :: rest) Q := q_callVi (As := [.inl a1]) hd hc hy rfl hr h1 hM
theorem q_callVi2 {idx ci k : Nat} {fs : List (Option Nat)} {y : MethodName} {c2 : ByteArray} {n2 : Nat} {r2 : Option FieldType} {rest : List qV} {a1 a2 : Int32} (hd : decode cc pc = .ok (.invokevirtual idx, 3)) (hc : q_CV own idx ci y c2 n2 r2 2) (hy : q_lay[k]? = some (.inr (ci, fs))) (hr : rest.length ≤ 8) (h1 : 1 ≤ d) (hM : q_Mi l (d - 1) y c2 n2 r2 [.inr k, .inl a1, .inl a2] S (fun v S2 => q_E l cc nL ret own d S2 (pc + 3) ls (.inl v :: rest) Q)) : q_E l cc nL ret own d S pc ls (.inl a2 :: .inl a1 :: .inr k :: rest) Q := q_callVi (As := [.inl a1, .inl a2]) hd hc hy rfl hr h1 hM
theorem q_callVi3 {idx ci k : Nat} {fs : List (Option Nat)} {y : MethodName} {c2 : ByteArray} {n2 : Nat} {r2 : Option FieldType} {rest : List qV} {a1 a2 a3 : Int32} (hd : decode cc pc = .ok (.invokevirtual idx, 3)) (hc : q_CV own idx ci y c2 n2 r2 3) (hy : q_lay[k]? = some (.inr (ci, fs))) (hr : rest.length ≤ 8) (h1 : 1 ≤ d) (hM : q_Mi l (d - 1) y c2 n2 r2 [.inr k, .inl a1, .inl a2, .inl a3] S (fun v S2 => q_E l cc nL ret own d S2 (pc + 3) ls (.inl v :: rest) Q)) : q_E l cc nL ret own d S pc ls (.inl a3 :: .inl a2 :: .inl a1 :: .inr k :: rest) Q := q_callVi (As := [.inl a1, .inl a2, .inl a3]) hd hc hy rfl hr h1 hM
theorem q_callVi4 {idx ci k : Nat} {fs : List (Option Nat)} {y : MethodName} {c2 : ByteArray} {n2 : Nat} {r2 : Option FieldType} {rest : List qV} {a1 a2 a3 a4 : Int32} (hd : decode cc pc = .ok (.invokevirtual idx, 3)) (hc : q_CV own idx ci y c2 n2 r2 4) (hy : q_lay[k]? = some (.inr (ci, fs))) (hr : rest.length ≤ 8) (h1 : 1 ≤ d) (hM : q_Mi l (d - 1) y c2 n2 r2 [.inr k, .inl a1, .inl a2, .inl a3, .inl a4] S (fun v S2 => q_E l cc nL ret own d S2 (pc + 3) ls (.inl v :: rest) Q)) : q_E l cc nL ret own d S pc ls (.inl a4 :: .inl a3 :: .inl a2 :: .inl a1 :: .inr k :: rest) Q := q_callVi (As := [.inl a1, .inl a2, .inl a3, .inl a4]) hd hc hy rfl hr h1 hM
theorem q_callVi5 {idx ci k : Nat} {fs : List (Option Nat)} {y : MethodName} {c2 : ByteArray} {n2 : Nat} {r2 : Option FieldType} {rest : List qV} {a1 a2 a3 a4 a5 : Int32} (hd : decode cc pc = .ok (.invokevirtual idx, 3)) (hc : q_CV own idx ci y c2 n2 r2 5) (hy : q_lay[k]? = some (.inr (ci, fs))) (hr : rest.length ≤ 8) (h1 : 1 ≤ d) (hM : q_Mi l (d - 1) y c2 n2 r2 [.inr k, .inl a1, .inl a2, .inl a3, .inl a4, .inl a5] S (fun v S2 => q_E l cc nL ret own d S2 (pc + 3) ls (.inl v :: rest) Q)) : q_E l cc nL ret own d S pc ls (.inl a5 :: .inl a4 :: .inl a3 :: .inl a2 :: .inl a1 :: .inr k :: rest) Q := q_callVi (As := [.inl a1, .inl a2, .inl a3, .inl a4, .inl a5]) hd hc hy rfl hr h1 hM
theorem q_callVi6 {idx ci k : Nat} {fs : List (Option Nat)} {y : MethodName} {c2 : ByteArray} {n2 : Nat} {r2 : Option FieldType} {rest : List qV} {a1 a2 a3 a4 a5 a6 : Int32} (hd : decode cc pc = .ok (.invokevirtual idx, 3)) (hc : q_CV own idx ci y c2 n2 r2 6) (hy : q_lay[k]? = some (.inr (ci, fs))) (hr : rest.length ≤ 8) (h1 : 1 ≤ d) (hM : q_Mi l (d - 1) y c2 n2 r2 [.inr k, .inl a1, .inl a2, .inl a3, .inl a4, .inl a5, .inl a6] S (fun v S2 => q_E l cc nL ret own d S2 (pc + 3) ls (.inl v :: rest) Q)) : q_E l cc nL ret own d S pc ls (.inl a6 :: .inl a5 :: .inl a4 :: .inl a3 :: .inl a2 :: .inl a1 :: .inr k :: rest) Q := q_callVi (As := [.inl a1, .inl a2, .inl a3, .inl a4, .inl a5, .inl a6]) hd hc hy rfl hr h1 hM
theorem q_callVv0 {idx ci k : Nat} {fs : List (Option Nat)} {y : MethodName} {c2 : ByteArray} {n2 : Nat} {r2 : Option FieldType} {rest : List qV} (hd : decode cc pc = .ok (.invokevirtual idx, 3)) (hc : q_CV own idx ci y c2 n2 r2 0) (hy : q_lay[k]? = some (.inr (ci, fs))) (hr : rest.length ≤ 8) (h1 : 1 ≤ d) (hM : q_Mv l (d - 1) y c2 n2 r2 [.inr k] S (fun S2 => q_E l cc nL ret own d S2 (pc + 3) ls rest Q)) : q_E l cc nL ret own d S pc ls (.inr k :: rest) Q := q_callVv (As := []) hd hc hy rfl hr h1 hM
theorem q_callVv1 {idx ci k : Nat} {fs : List (Option Nat)} {y : MethodName} {c2 : ByteArray} {n2 : Nat} {r2 : Option FieldType} {rest : List qV} {a1 : Int32} (hd : decode cc pc = .ok (.invokevirtual idx, 3)) (hc : q_CV own idx ci y c2 n2 r2 1) (hy : q_lay[k]? = some (.inr (ci, fs))) (hr : rest.length ≤ 8) (h1 : 1 ≤ d) (hM : q_Mv l (d - 1) y c2 n2 r2 [.inr k, .inl a1] S (fun S2 => q_E l cc nL ret own d S2 (pc + 3) ls rest Q)) : q_E l cc nL ret own d S pc ls (.inl a1 :: .inr k :: rest) Q := q_callVv (As := [.inl a1]) hd hc hy rfl hr h1 hM
theorem q_callVv2 {idx ci k : Nat} {fs : List (Option Nat)} {y : MethodName} {c2 : ByteArray} {n2 : Nat} {r2 : Option FieldType} {rest : List qV} {a1 a2 : Int32} (hd : decode cc pc = .ok (.invokevirtual idx, 3)) (hc : q_CV own idx ci y c2 n2 r2 2) (hy : q_lay[k]? = some (.inr (ci, fs))) (hr : rest.length ≤ 8) (h1 : 1 ≤ d) (hM : q_Mv l (d - 1) y c2 n2 r2 [.inr k, .inl a1, .inl a2] S (fun S2 => q_E l cc nL ret own d S2 (pc + 3) ls rest Q)) : q_E l cc nL ret own d S pc ls (.inl a2 :: .inl a1 :: .inr k :: rest) Q := q_callVv (As := [.inl a1, .inl a2]) hd hc hy rfl hr h1 hM
theorem q_callVv3 {idx ci k : Nat} {fs : List (Option Nat)} {y : MethodName} {c2 : ByteArray} {n2 : Nat} {r2 : Option FieldType} {rest : List qV} {a1 a2 a3 : Int32} (hd : decode cc pc = .ok (.invokevirtual idx, 3)) (hc : q_CV own idx ci y c2 n2 r2 3) (hy : q_lay[k]? = some (.inr (ci, fs))) (hr : rest.length ≤ 8) (h1 : 1 ≤ d) (hM : q_Mv l (d - 1) y c2 n2 r2 [.inr k, .inl a1, .inl a2, .inl a3] S (fun S2 => q_E l cc nL ret own d S2 (pc + 3) ls rest Q)) : q_E l cc nL ret own d S pc ls (.inl a3 :: .inl a2 :: .inl a1 :: .inr k :: rest) Q := q_callVv (As := [.inl a1, .inl a2, .inl a3]) hd hc hy rfl hr h1 hM
theorem q_callVv4 {idx ci k : Nat} {fs : List (Option Nat)} {y : MethodName} {c2 : ByteArray} {n2 : Nat} {r2 : Option FieldType} {rest : List qV} {a1 a2 a3 a4 : Int32} (hd : decode cc pc = .ok (.invokevirtual idx, 3)) (hc : q_CV own idx ci y c2 n2 r2 4) (hy : q_lay[k]? = some (.inr (ci, fs))) (hr : rest.length ≤ 8) (h1 : 1 ≤ d) (hM : q_Mv l (d - 1) y c2 n2 r2 [.inr k, .inl a1, .inl a2, .inl a3, .inl a4] S (fun S2 => q_E l cc nL ret own d S2 (pc + 3) ls rest Q)) : q_E l cc nL ret own d S pc ls (.inl a4 :: .inl a3 :: .inl a2 :: .inl a1 :: .inr k :: rest) Q := q_callVv (As := [.inl a1, .inl a2, .inl a3, .inl a4]) hd hc hy rfl hr h1 hM
theorem q_callVv5 {idx ci k : Nat} {fs : List (Option Nat)} {y : MethodName} {c2 : ByteArray} {n2 : Nat} {r2 : Option FieldType} {rest : List qV} {a1 a2 a3 a4 a5 : Int32} (hd : decode cc pc = .ok (.invokevirtual idx, 3)) (hc : q_CV own idx ci y c2 n2 r2 5) (hy : q_lay[k]? = some (.inr (ci, fs))) (hr : rest.length ≤ 8) (h1 : 1 ≤ d) (hM : q_Mv l (d - 1) y c2 n2 r2 [.inr k, .inl a1, .inl a2, .inl a3, .inl a4, .inl a5] S (fun S2 => q_E l cc nL ret own d S2 (pc + 3) ls rest Q)) : q_E l cc nL ret own d S pc ls (.inl a5 :: .inl a4 :: .inl a3 :: .inl a2 :: .inl a1 :: .inr k :: rest) Q := q_callVv (As := [.inl a1, .inl a2, .inl a3, .inl a4, .inl a5]) hd hc hy rfl hr h1 hM
theorem q_callVv6 {idx ci k : Nat} {fs : List (Option Nat)} {y : MethodName} {c2 : ByteArray} {n2 : Nat} {r2 : Option FieldType} {rest : List qV} {a1 a2 a3 a4 a5 a6 : Int32} (hd : decode cc pc = .ok (.invokevirtual idx, 3)) (hc : q_CV own idx ci y c2 n2 r2 6) (hy : q_lay[k]? = some (.inr (ci, fs))) (hr : rest.length ≤ 8) (h1 : 1 ≤ d) (hM : q_Mv l (d - 1) y c2 n2 r2 [.inr k, .inl a1, .inl a2, .inl a3, .inl a4, .inl a5, .inl a6] S (fun S2 => q_E l cc nL ret own d S2 (pc + 3) ls rest Q)) : q_E l cc nL ret own d S pc ls (.inl a6 :: .inl a5 :: .inl a4 :: .inl a3 :: .inl a2 :: .inl a1 :: .inr k :: rest) Q := q_callVv (As := [.inl a1, .inl a2, .inl a3, .inl a4, .inl a5, .inl a6]) hd hc hy rfl hr h1 hM
theorem q_callSi1 {idx : Nat} {y : MethodName} {c2 : ByteArray} {n2 : Nat} {r2 : Option FieldType} {rest : List qV} {a1 : Int32} (hd : decode cc pc = .ok (.invokestatic idx, 3)) (hc : q_CS own idx y c2 n2 r2 1) (hr : rest.length ≤ 8) (h1 : 1 ≤ d) (hM : q_Mi l (d - 1) y c2 n2 r2 [.inl a1] S (fun v S2 => q_E l cc nL ret own d S2 (pc + 3) ls (.inl v :: rest) Q)) : q_E l cc nL ret own d S pc ls (.inl a1 :: rest) Q := q_callSi (As := [.inl a1]) hd hc rfl hr h1 hM
theorem q_callSi2 {idx : Nat} {y : MethodName} {c2 : ByteArray} {n2 : Nat} {r2 : Option FieldType} {rest : List qV} {a1 a2 : Int32} (hd : decode cc pc = .ok (.invokestatic idx, 3)) (hc : q_CS own idx y c2 n2 r2 2) (hr : rest.length ≤ 8) (h1 : 1 ≤ d) (hM : q_Mi l (d - 1) y c2 n2 r2 [.inl a1, .inl a2] S (fun v S2 => q_E l cc nL ret own d S2 (pc + 3) ls (.inl v :: rest) Q)) : q_E l cc nL ret own d S pc ls (.inl a2 :: .inl a1 :: rest) Q := q_callSi (As := [.inl a1, .inl a2]) hd hc rfl hr h1 hM
theorem q_callSi3 {idx : Nat} {y : MethodName} {c2 : ByteArray} {n2 : Nat} {r2 : Option FieldType} {rest : List qV} {a1 a2 a3 : Int32} (hd : decode cc pc = .ok (.invokestatic idx, 3)) (hc : q_CS own idx y c2 n2 r2 3) (hr : rest.length ≤ 8) (h1 : 1 ≤ d) (hM : q_Mi l (d - 1) y c2 n2 r2 [.inl a1, .inl a2, .inl a3] S (fun v S2 => q_E l cc nL ret own d S2 (pc + 3) ls (.inl v :: rest) Q)) : q_E l cc nL ret own d S pc ls (.inl a3 :: .inl a2 :: .inl a1 :: rest) Q := q_callSi (As := [.inl a1, .inl a2, .inl a3]) hd hc rfl hr h1 hM
theorem q_callSi4 {idx : Nat} {y : MethodName} {c2 : ByteArray} {n2 : Nat} {r2 : Option FieldType} {rest : List qV} {a1 a2 a3 a4 : Int32} (hd : decode cc pc = .ok (.invokestatic idx, 3)) (hc : q_CS own idx y c2 n2 r2 4) (hr : rest.length ≤ 8) (h1 : 1 ≤ d) (hM : q_Mi l (d - 1) y c2 n2 r2 [.inl a1, .inl a2, .inl a3, .inl a4] S (fun v S2 => q_E l cc nL ret own d S2 (pc + 3) ls (.inl v :: rest) Q)) : q_E l cc nL ret own d S pc ls (.inl a4 :: .inl a3 :: .inl a2 :: .inl a1 :: rest) Q := q_callSi (As := [.inl a1, .inl a2, .inl a3, .inl a4]) hd hc rfl hr h1 hM
theorem q_callSi5 {idx : Nat} {y : MethodName} {c2 : ByteArray} {n2 : Nat} {r2 : Option FieldType} {rest : List qV} {a1 a2 a3 a4 a5 : Int32} (hd : decode cc pc = .ok (.invokestatic idx, 3)) (hc : q_CS own idx y c2 n2 r2 5) (hr : rest.length ≤ 8) (h1 : 1 ≤ d) (hM : q_Mi l (d - 1) y c2 n2 r2 [.inl a1, .inl a2, .inl a3, .inl a4, .inl a5] S (fun v S2 => q_E l cc nL ret own d S2 (pc + 3) ls (.inl v :: rest) Q)) : q_E l cc nL ret own d S pc ls (.inl a5 :: .inl a4 :: .inl a3 :: .inl a2 :: .inl a1 :: rest) Q := q_callSi (As := [.inl a1, .inl a2, .inl a3, .inl a4, .inl a5]) hd hc rfl hr h1 hM
theorem q_callSi6 {idx : Nat} {y : MethodName} {c2 : ByteArray} {n2 : Nat} {r2 : Option FieldType} {rest : List qV} {a1 a2 a3 a4 a5 a6 : Int32} (hd : decode cc pc = .ok (.invokestatic idx, 3)) (hc : q_CS own idx y c2 n2 r2 6) (hr : rest.length ≤ 8) (h1 : 1 ≤ d) (hM : q_Mi l (d - 1) y c2 n2 r2 [.inl a1, .inl a2, .inl a3, .inl a4, .inl a5, .inl a6] S (fun v S2 => q_E l cc nL ret own d S2 (pc + 3) ls (.inl v :: rest) Q)) : q_E l cc nL ret own d S pc ls (.inl a6 :: .inl a5 :: .inl a4 :: .inl a3 :: .inl a2 :: .inl a1 :: rest) Q := q_callSi (As := [.inl a1, .inl a2, .inl a3, .inl a4, .inl a5, .inl a6]) hd hc rfl hr h1 hM
theorem q_callNi1 {idx : Nat} {y : MethodName} {c2 : ByteArray} {n2 : Nat} {r2 : Option FieldType} {rest : List qV} {a1 : Int32} (hd : decode cc pc = .ok (.invokestatic idx, 3)) (hc : (Cond.methodLinkNest own idx y RX8 = Cond.methodLinkNest RX6 48 yX8_isType RX8 ∨ Cond.methodLinkNest own idx y RX8 = Cond.methodLinkNest RX6 61 yX8_isValue RX8) ∧ Cond.static y ∈ q_tbl ∧ Cond.initialized y.cls ∈ q_tbl ∧ Cond.code y c2 n2 r2 ∈ q_tbl ∧ (y.cls ≠ "java/lang/invoke/MethodHandle" ∧ y.cls ≠ "java/lang/invoke/VarHandle" ∧ (parseMethodDescriptor y.desc).map (fun d => d.parameters.length) = some 1) ∧ n2 ≤ 11) (hr : rest.length ≤ 8) (h1 : 1 ≤ d) (hM : q_Mi l (d - 1) y c2 n2 r2 [.inl a1] S (fun v S2 => q_E l cc nL ret own d S2 (pc + 3) ls (.inl v :: rest) Q)) : q_E l cc nL ret own d S pc ls (.inl a1 :: rest) Q := q_callNi (As := [.inl a1]) hd hc rfl hr h1 hM
theorem q_callNi2 {idx : Nat} {y : MethodName} {c2 : ByteArray} {n2 : Nat} {r2 : Option FieldType} {rest : List qV} {a1 a2 : Int32} (hd : decode cc pc = .ok (.invokestatic idx, 3)) (hc : (Cond.methodLinkNest own idx y RX8 = Cond.methodLinkNest RX6 48 yX8_isType RX8 ∨ Cond.methodLinkNest own idx y RX8 = Cond.methodLinkNest RX6 61 yX8_isValue RX8) ∧ Cond.static y ∈ q_tbl ∧ Cond.initialized y.cls ∈ q_tbl ∧ Cond.code y c2 n2 r2 ∈ q_tbl ∧ (y.cls ≠ "java/lang/invoke/MethodHandle" ∧ y.cls ≠ "java/lang/invoke/VarHandle" ∧ (parseMethodDescriptor y.desc).map (fun d => d.parameters.length) = some 2) ∧ n2 ≤ 11) (hr : rest.length ≤ 8) (h1 : 1 ≤ d) (hM : q_Mi l (d - 1) y c2 n2 r2 [.inl a1, .inl a2] S (fun v S2 => q_E l cc nL ret own d S2 (pc + 3) ls (.inl v :: rest) Q)) : q_E l cc nL ret own d S pc ls (.inl a2 :: .inl a1 :: rest) Q := q_callNi (As := [.inl a1, .inl a2]) hd hc rfl hr h1 hM
def q_b (b : Bool) : Int32 := match b with
  | true => 1
  | false => 0
theorem q_b_nar (b : Bool) : narrow .boolean (.int (q_b b)) = .int (q_b b) := by cases b <;> decide
theorem q_b_0 (b : Bool) : q_b b = 0 ↔ b = false := by cases b <;> decide
theorem q_if_eq_b {b : Bool} {off : Int} (tgt : Nat) (hd : decode cc pc = .ok (.ifCond .eq off, 3)) (ht : (pc : Int) + off = (tgt : Int)) (kt : b = false → q_E l cc nL ret own d S tgt ls st Q) (kf : b = true → q_E l cc nL ret own d S (pc + 3) ls st Q) : q_E l cc nL ret own d S pc ls (.inl (q_b b) :: st) Q := by
  cases b with
  | false => exact q_if_eq tgt hd ht (fun _ => kt rfl) (fun h => absurd rfl h)
  | true => exact q_if_eq tgt hd ht (fun h => absurd h (by decide)) (fun _ => kf rfl)
theorem q_if_ne_b {b : Bool} {off : Int} (tgt : Nat) (hd : decode cc pc = .ok (.ifCond .ne off, 3)) (ht : (pc : Int) + off = (tgt : Int)) (kt : b = true → q_E l cc nL ret own d S tgt ls st Q) (kf : b = false → q_E l cc nL ret own d S (pc + 3) ls st Q) : q_E l cc nL ret own d S pc ls (.inl (q_b b) :: st) Q := by
  cases b with
  | false => exact q_if_ne tgt hd ht (fun h => absurd rfl h) (fun _ => kf rfl)
  | true => exact q_if_ne tgt hd ht (fun _ => kt rfl) (fun h => absurd h (by decide))
end QR
end
section
theorem q_uX0 : ∀ w ∈ u_ws RX0 TX0 2, w ∈ q_tbl := q_fields (fun k hk => match k, hk with
  | 0, _ => q_in1 (i := 137) rfl rfl
  | 1, _ => q_in1 (i := 139) rfl rfl
  | k + 2, hk => absurd hk (by omega))
theorem q_uX1 : ∀ w ∈ u_ws RX1 TX1 8, w ∈ q_tbl := q_fields (fun k hk => match k, hk with
  | 0, _ => q_in1 (i := 163) rfl rfl
  | 1, _ => q_in1 (i := 165) rfl rfl
  | 2, _ => q_in1 (i := 167) rfl rfl
  | 3, _ => q_in1 (i := 169) rfl rfl
  | 4, _ => q_in1 (i := 171) rfl rfl
  | 5, _ => q_in1 (i := 173) rfl rfl
  | 6, _ => q_in1 (i := 175) rfl rfl
  | 7, _ => q_in1 (i := 177) rfl rfl
  | k + 8, hk => absurd hk (by omega))
theorem fp_1_5 : q_FP 1 5 := by
  intro C T N h
  cases h
  exact ⟨tyX1, tyX1_ok, nmX1, rfl, by decide +kernel⟩
theorem fp_1_6 : q_FP 1 6 := by
  intro C T N h
  cases h
  exact ⟨tyX1, tyX1_ok, nmX1, rfl, by decide +kernel⟩
theorem fp_1_7 : q_FP 1 7 := by
  intro C T N h
  cases h
  exact ⟨tyX1, tyX1_ok, nmX1, rfl, by decide +kernel⟩
theorem q_uX3 : ∀ w ∈ u_ws RX3 TX3 4, w ∈ q_tbl := q_fields (fun k hk => match k, hk with
  | 0, _ => q_in1 (i := 65) rfl rfl
  | 1, _ => q_in1 (i := 67) rfl rfl
  | 2, _ => q_in1 (i := 69) rfl rfl
  | 3, _ => q_in1 (i := 71) rfl rfl
  | k + 4, hk => absurd hk (by omega))
theorem q_uX4 : ∀ w ∈ u_ws RX4 TX4 5, w ∈ q_tbl := q_fields (fun k hk => match k, hk with
  | 0, _ => q_in1 (i := 122) rfl rfl
  | 1, _ => q_in1 (i := 124) rfl rfl
  | 2, _ => q_in1 (i := 126) rfl rfl
  | 3, _ => q_in1 (i := 128) rfl rfl
  | 4, _ => q_in1 (i := 130) rfl rfl
  | k + 5, hk => absurd hk (by omega))
theorem q_uX5 : ∀ w ∈ u_ws RX5 TX5 4, w ∈ q_tbl := q_fields (fun k hk => match k, hk with
  | 0, _ => q_in1 (i := 49) rfl rfl
  | 1, _ => q_in1 (i := 51) rfl rfl
  | 2, _ => q_in1 (i := 53) rfl rfl
  | 3, _ => q_in1 (i := 55) rfl rfl
  | k + 4, hk => absurd hk (by omega))
theorem fp_4_3 : q_FP 4 3 := by
  intro C T N h
  cases h
  exact ⟨tyX5, tyX5_ok, nmX5, rfl, by decide +kernel⟩
theorem q_uX6 : ∀ w ∈ u_ws RX6 TX6 6, w ∈ q_tbl := q_fields (fun k hk => match k, hk with
  | 0, _ => q_in1 (i := 197) rfl rfl
  | 1, _ => q_in1 (i := 199) rfl rfl
  | 2, _ => q_in1 (i := 201) rfl rfl
  | 3, _ => q_in1 (i := 203) rfl rfl
  | 4, _ => q_in1 (i := 205) rfl rfl
  | 5, _ => q_in1 (i := 207) rfl rfl
  | k + 6, hk => absurd hk (by omega))
theorem fp_5_1 : q_FP 5 1 := by
  intro C T N h
  cases h
  exact ⟨tyX6, tyX6_ok, nmX6, rfl, by decide +kernel⟩
theorem fp_5_5 : q_FP 5 5 := by
  intro C T N h
  cases h
  exact ⟨tyX6, tyX6_ok, nmX6, rfl, by decide +kernel⟩
theorem q_uX7 : ∀ w ∈ u_ws RX7 TX7 3, w ∈ q_tbl := q_fields (fun k hk => match k, hk with
  | 0, _ => q_in1 (i := 96) rfl rfl
  | 1, _ => q_in1 (i := 98) rfl rfl
  | 2, _ => q_in1 (i := 100) rfl rfl
  | k + 3, hk => absurd hk (by omega))
theorem q_uX8 : ∀ w ∈ u_ws RX8 TX8 7, w ∈ q_tbl := q_fields (fun k hk => match k, hk with
  | 0, _ => q_in1 (i := 217) rfl rfl
  | 1, _ => q_in1 (i := 219) rfl rfl
  | 2, _ => q_in1 (i := 221) rfl rfl
  | 3, _ => q_in1 (i := 223) rfl rfl
  | 4, _ => q_in1 (i := 225) rfl rfl
  | 5, _ => q_in1 (i := 227) rfl rfl
  | 6, _ => q_in1 (i := 229) rfl rfl
  | k + 7, hk => absurd hk (by omega))
theorem fp_7_6 : q_FP 7 6 := by
  intro C T N h
  cases h
  exact ⟨tyX8, tyX8_ok, nmX8, rfl, by decide +kernel⟩
theorem q_uX9 : ∀ w ∈ u_ws RX9 TX9 17, w ∈ q_tbl := q_fields (fun k hk => match k, hk with
  | 0, _ => q_in3 (i := 139) rfl rfl
  | 1, _ => q_in3 (i := 141) rfl rfl
  | 2, _ => q_in3 (i := 143) rfl rfl
  | 3, _ => q_in3 (i := 145) rfl rfl
  | 4, _ => q_in3 (i := 147) rfl rfl
  | 5, _ => q_in3 (i := 149) rfl rfl
  | 6, _ => q_in3 (i := 151) rfl rfl
  | 7, _ => q_in3 (i := 153) rfl rfl
  | 8, _ => q_in3 (i := 155) rfl rfl
  | 9, _ => q_in3 (i := 157) rfl rfl
  | 10, _ => q_in3 (i := 159) rfl rfl
  | 11, _ => q_in3 (i := 161) rfl rfl
  | 12, _ => q_in3 (i := 163) rfl rfl
  | 13, _ => q_in3 (i := 165) rfl rfl
  | 14, _ => q_in3 (i := 167) rfl rfl
  | 15, _ => q_in3 (i := 169) rfl rfl
  | 16, _ => q_in3 (i := 171) rfl rfl
  | k + 17, hk => absurd hk (by omega))
theorem fp_8_0 : q_FP 8 0 := by
  intro C T N h
  cases h
  exact ⟨tyX9, tyX9_ok, nmX9, rfl, by decide +kernel⟩
theorem fp_8_2 : q_FP 8 2 := by
  intro C T N h
  cases h
  exact ⟨tyX9, tyX9_ok, nmX9, rfl, by decide +kernel⟩
theorem fp_8_4 : q_FP 8 4 := by
  intro C T N h
  cases h
  exact ⟨tyX9, tyX9_ok, nmX9, rfl, by decide +kernel⟩
theorem fp_8_6 : q_FP 8 6 := by
  intro C T N h
  cases h
  exact ⟨tyX9, tyX9_ok, nmX9, rfl, by decide +kernel⟩
theorem fp_8_8 : q_FP 8 8 := by
  intro C T N h
  cases h
  exact ⟨tyX9, tyX9_ok, nmX9, rfl, by decide +kernel⟩
theorem fp_8_9 : q_FP 8 9 := by
  intro C T N h
  cases h
  exact ⟨tyX9, tyX9_ok, nmX9, rfl, by decide +kernel⟩
theorem fp_8_10 : q_FP 8 10 := by
  intro C T N h
  cases h
  exact ⟨tyX9, tyX9_ok, nmX9, rfl, by decide +kernel⟩
theorem fp_8_12 : q_FP 8 12 := by
  intro C T N h
  cases h
  exact ⟨tyX9, tyX9_ok, nmX9, rfl, by decide +kernel⟩
theorem fp_8_13 : q_FP 8 13 := by
  intro C T N h
  cases h
  exact ⟨tyX9, tyX9_ok, nmX9, rfl, by decide +kernel⟩
theorem fp_8_14 : q_FP 8 14 := by
  intro C T N h
  cases h
  exact ⟨tyX9, tyX9_ok, nmX9, rfl, by decide +kernel⟩
theorem fp_8_16 : q_FP 8 16 := by
  intro C T N h
  cases h
  exact ⟨tyX9, tyX9_ok, nmX9, rfl, by decide +kernel⟩
theorem fl_X0_12 : q_FL RX0 12 0 0 := ⟨RX0, TX0, 2, rfl, by decide, q_in1 (i := 133) rfl rfl, q_uX0⟩
theorem fl_X0_21 : q_FL RX0 21 0 1 := ⟨RX0, TX0, 2, rfl, by decide, q_in1 (i := 135) rfl rfl, q_uX0⟩
theorem fl_X0_29 : q_FL RX0 29 3 4 := ⟨RX4, TX4, 5, rfl, by decide, q_in1 (i := 120) rfl rfl, q_uX4⟩
theorem fl_X0_57 : q_FL RX0 57 6 2 := ⟨RX7, TX7, 3, rfl, by decide, q_in1 (i := 94) rfl rfl, q_uX7⟩
theorem fl_X0_64 : q_FL RX0 64 6 0 := ⟨RX7, TX7, 3, rfl, by decide, q_in1 (i := 89) rfl rfl, q_uX7⟩
theorem fl_X0_68 : q_FL RX0 68 4 3 := ⟨RX5, TX5, 4, rfl, by decide, q_in1 (i := 47) rfl rfl, q_uX5⟩
theorem fl_X0_81 : q_FL RX0 81 4 0 := ⟨RX5, TX5, 4, rfl, by decide, q_in1 (i := 36) rfl rfl, q_uX5⟩
theorem fl_X0_87 : q_FL RX0 87 4 1 := ⟨RX5, TX5, 4, rfl, by decide, q_in1 (i := 40) rfl rfl, q_uX5⟩
theorem fl_X0_90 : q_FL RX0 90 3 0 := ⟨RX4, TX4, 5, rfl, by decide, q_in1 (i := 112) rfl rfl, q_uX4⟩
theorem fl_X1_11 : q_FL RX1 11 1 0 := ⟨RX1, TX1, 8, rfl, by decide, q_in1 (i := 148) rfl rfl, q_uX1⟩
theorem fl_X1_15 : q_FL RX1 15 1 1 := ⟨RX1, TX1, 8, rfl, by decide, q_in1 (i := 150) rfl rfl, q_uX1⟩
theorem fl_X1_18 : q_FL RX1 18 1 2 := ⟨RX1, TX1, 8, rfl, by decide, q_in1 (i := 152) rfl rfl, q_uX1⟩
theorem fl_X1_21 : q_FL RX1 21 1 3 := ⟨RX1, TX1, 8, rfl, by decide, q_in1 (i := 154) rfl rfl, q_uX1⟩
theorem fl_X1_24 : q_FL RX1 24 1 4 := ⟨RX1, TX1, 8, rfl, by decide, q_in1 (i := 156) rfl rfl, q_uX1⟩
theorem fl_X1_27 : q_FL RX1 27 1 5 := ⟨RX1, TX1, 8, rfl, by decide, q_in1 (i := 157) rfl rfl, q_uX1⟩
theorem fl_X1_31 : q_FL RX1 31 1 6 := ⟨RX1, TX1, 8, rfl, by decide, q_in1 (i := 159) rfl rfl, q_uX1⟩
theorem fl_X1_34 : q_FL RX1 34 1 7 := ⟨RX1, TX1, 8, rfl, by decide, q_in1 (i := 161) rfl rfl, q_uX1⟩
theorem fl_X3_16 : q_FL RX3 16 2 0 := ⟨RX3, TX3, 4, rfl, by decide, q_in1 (i := 59) rfl rfl, q_uX3⟩
theorem fl_X3_20 : q_FL RX3 20 2 1 := ⟨RX3, TX3, 4, rfl, by decide, q_in1 (i := 61) rfl rfl, q_uX3⟩
theorem fl_X3_24 : q_FL RX3 24 2 2 := ⟨RX3, TX3, 4, rfl, by decide, q_in1 (i := 63) rfl rfl, q_uX3⟩
theorem fl_X3_27 : q_FL RX3 27 2 3 := ⟨RX3, TX3, 4, rfl, by decide, q_in1 (i := 64) rfl rfl, q_uX3⟩
theorem fl_X3_34 : q_FL RX3 34 4 3 := ⟨RX5, TX5, 4, rfl, by decide, q_in1 (i := 46) rfl rfl, q_uX5⟩
theorem fl_X4_16 : q_FL RX4 16 3 0 := ⟨RX4, TX4, 5, rfl, by decide, q_in1 (i := 111) rfl rfl, q_uX4⟩
theorem fl_X4_20 : q_FL RX4 20 3 1 := ⟨RX4, TX4, 5, rfl, by decide, q_in1 (i := 114) rfl rfl, q_uX4⟩
theorem fl_X4_24 : q_FL RX4 24 3 2 := ⟨RX4, TX4, 5, rfl, by decide, q_in1 (i := 115) rfl rfl, q_uX4⟩
theorem fl_X4_27 : q_FL RX4 27 3 3 := ⟨RX4, TX4, 5, rfl, by decide, q_in1 (i := 117) rfl rfl, q_uX4⟩
theorem fl_X4_30 : q_FL RX4 30 3 4 := ⟨RX4, TX4, 5, rfl, by decide, q_in1 (i := 119) rfl rfl, q_uX4⟩
theorem fl_X4_33 : q_FL RX4 33 4 3 := ⟨RX5, TX5, 4, rfl, by decide, q_in1 (i := 44) rfl rfl, q_uX5⟩
theorem fl_X4_66 : q_FL RX4 66 4 0 := ⟨RX5, TX5, 4, rfl, by decide, q_in1 (i := 37) rfl rfl, q_uX5⟩
theorem fl_X5_15 : q_FL RX5 15 4 2 := ⟨RX5, TX5, 4, rfl, by decide, q_in1 (i := 42) rfl rfl, q_uX5⟩
theorem fl_X5_21 : q_FL RX5 21 4 0 := ⟨RX5, TX5, 4, rfl, by decide, q_in1 (i := 35) rfl rfl, q_uX5⟩
theorem fl_X5_25 : q_FL RX5 25 4 1 := ⟨RX5, TX5, 4, rfl, by decide, q_in1 (i := 39) rfl rfl, q_uX5⟩
theorem fl_X5_28 : q_FL RX5 28 4 3 := ⟨RX5, TX5, 4, rfl, by decide, q_in1 (i := 43) rfl rfl, q_uX5⟩
theorem fl_X6_11 : q_FL RX6 11 5 0 := ⟨RX6, TX6, 6, rfl, by decide, q_in1 (i := 186) rfl rfl, q_uX6⟩
theorem fl_X6_15 : q_FL RX6 15 5 1 := ⟨RX6, TX6, 6, rfl, by decide, q_in1 (i := 187) rfl rfl, q_uX6⟩
theorem fl_X6_19 : q_FL RX6 19 5 2 := ⟨RX6, TX6, 6, rfl, by decide, q_in1 (i := 189) rfl rfl, q_uX6⟩
theorem fl_X6_22 : q_FL RX6 22 5 3 := ⟨RX6, TX6, 6, rfl, by decide, q_in1 (i := 191) rfl rfl, q_uX6⟩
theorem fl_X6_25 : q_FL RX6 25 5 4 := ⟨RX6, TX6, 6, rfl, by decide, q_in1 (i := 193) rfl rfl, q_uX6⟩
theorem fl_X6_28 : q_FL RX6 28 5 5 := ⟨RX6, TX6, 6, rfl, by decide, q_in1 (i := 195) rfl rfl, q_uX6⟩
theorem fl_X7_16 : q_FL RX7 16 6 0 := ⟨RX7, TX7, 3, rfl, by decide, q_in1 (i := 88) rfl rfl, q_uX7⟩
theorem fl_X7_20 : q_FL RX7 20 6 1 := ⟨RX7, TX7, 3, rfl, by decide, q_in1 (i := 91) rfl rfl, q_uX7⟩
theorem fl_X7_24 : q_FL RX7 24 6 2 := ⟨RX7, TX7, 3, rfl, by decide, q_in1 (i := 93) rfl rfl, q_uX7⟩
theorem fl_X7_31 : q_FL RX7 31 4 3 := ⟨RX5, TX5, 4, rfl, by decide, q_in1 (i := 45) rfl rfl, q_uX5⟩
theorem fl_X8_10 : q_FL RX8 10 7 0 := ⟨RX8, TX8, 7, rfl, by decide, q_in1 (i := 210) rfl rfl, q_uX8⟩
theorem fl_X8_19 : q_FL RX8 19 7 1 := ⟨RX8, TX8, 7, rfl, by decide, q_in1 (i := 211) rfl rfl, q_uX8⟩
theorem fl_X8_23 : q_FL RX8 23 0 0 := ⟨RX0, TX0, 2, rfl, by decide, q_in1 (i := 134) rfl rfl, q_uX0⟩
theorem fl_X8_27 : q_FL RX8 27 7 2 := ⟨RX8, TX8, 7, rfl, by decide, q_in1 (i := 212) rfl rfl, q_uX8⟩
theorem fl_X8_28 : q_FL RX8 28 0 1 := ⟨RX0, TX0, 2, rfl, by decide, q_in1 (i := 136) rfl rfl, q_uX0⟩
theorem fl_X8_32 : q_FL RX8 32 7 3 := ⟨RX8, TX8, 7, rfl, by decide, q_in1 (i := 213) rfl rfl, q_uX8⟩
theorem fl_X8_36 : q_FL RX8 36 7 4 := ⟨RX8, TX8, 7, rfl, by decide, q_in1 (i := 214) rfl rfl, q_uX8⟩
theorem fl_X8_43 : q_FL RX8 43 7 5 := ⟨RX8, TX8, 7, rfl, by decide, q_in1 (i := 215) rfl rfl, q_uX8⟩
theorem fl_X8_47 : q_FL RX8 47 7 6 := ⟨RX8, TX8, 7, rfl, by decide, q_in1 (i := 216) rfl rfl, q_uX8⟩
theorem fl_X8_61 : q_FL RX8 61 2 0 := ⟨RX3, TX3, 4, rfl, by decide, q_in1 (i := 60) rfl rfl, q_uX3⟩
theorem fl_X8_86 : q_FL RX8 86 2 1 := ⟨RX3, TX3, 4, rfl, by decide, q_in1 (i := 62) rfl rfl, q_uX3⟩
theorem fl_X8_111 : q_FL RX8 111 6 0 := ⟨RX7, TX7, 3, rfl, by decide, q_in1 (i := 90) rfl rfl, q_uX7⟩
theorem fl_X8_119 : q_FL RX8 119 6 1 := ⟨RX7, TX7, 3, rfl, by decide, q_in1 (i := 92) rfl rfl, q_uX7⟩
theorem fl_X8_120 : q_FL RX8 120 6 2 := ⟨RX7, TX7, 3, rfl, by decide, q_in1 (i := 95) rfl rfl, q_uX7⟩
theorem fl_X8_123 : q_FL RX8 123 4 0 := ⟨RX5, TX5, 4, rfl, by decide, q_in1 (i := 38) rfl rfl, q_uX5⟩
theorem fl_X8_126 : q_FL RX8 126 4 1 := ⟨RX5, TX5, 4, rfl, by decide, q_in1 (i := 41) rfl rfl, q_uX5⟩
theorem fl_X8_136 : q_FL RX8 136 3 0 := ⟨RX4, TX4, 5, rfl, by decide, q_in1 (i := 113) rfl rfl, q_uX4⟩
theorem fl_X8_137 : q_FL RX8 137 4 3 := ⟨RX5, TX5, 4, rfl, by decide, q_in1 (i := 48) rfl rfl, q_uX5⟩
theorem fl_X8_140 : q_FL RX8 140 1 5 := ⟨RX1, TX1, 8, rfl, by decide, q_in1 (i := 158) rfl rfl, q_uX1⟩
theorem fl_X8_143 : q_FL RX8 143 1 6 := ⟨RX1, TX1, 8, rfl, by decide, q_in1 (i := 160) rfl rfl, q_uX1⟩
theorem fl_X8_164 : q_FL RX8 164 3 4 := ⟨RX4, TX4, 5, rfl, by decide, q_in1 (i := 121) rfl rfl, q_uX4⟩
theorem fl_X8_173 : q_FL RX8 173 3 2 := ⟨RX4, TX4, 5, rfl, by decide, q_in1 (i := 116) rfl rfl, q_uX4⟩
theorem fl_X8_176 : q_FL RX8 176 3 3 := ⟨RX4, TX4, 5, rfl, by decide, q_in1 (i := 118) rfl rfl, q_uX4⟩
theorem fl_X8_186 : q_FL RX8 186 5 5 := ⟨RX6, TX6, 6, rfl, by decide, q_in1 (i := 196) rfl rfl, q_uX6⟩
theorem fl_X8_196 : q_FL RX8 196 5 4 := ⟨RX6, TX6, 6, rfl, by decide, q_in1 (i := 194) rfl rfl, q_uX6⟩
theorem fl_X8_197 : q_FL RX8 197 5 2 := ⟨RX6, TX6, 6, rfl, by decide, q_in1 (i := 190) rfl rfl, q_uX6⟩
theorem fl_X8_198 : q_FL RX8 198 5 3 := ⟨RX6, TX6, 6, rfl, by decide, q_in1 (i := 192) rfl rfl, q_uX6⟩
theorem fl_X8_224 : q_FL RX8 224 1 7 := ⟨RX1, TX1, 8, rfl, by decide, q_in1 (i := 162) rfl rfl, q_uX1⟩
theorem fl_X8_231 : q_FL RX8 231 1 3 := ⟨RX1, TX1, 8, rfl, by decide, q_in1 (i := 155) rfl rfl, q_uX1⟩
theorem fl_X8_237 : q_FL RX8 237 1 0 := ⟨RX1, TX1, 8, rfl, by decide, q_in1 (i := 149) rfl rfl, q_uX1⟩
theorem fl_X8_240 : q_FL RX8 240 1 1 := ⟨RX1, TX1, 8, rfl, by decide, q_in1 (i := 151) rfl rfl, q_uX1⟩
theorem fl_X8_241 : q_FL RX8 241 1 2 := ⟨RX1, TX1, 8, rfl, by decide, q_in1 (i := 153) rfl rfl, q_uX1⟩
theorem fl_X8_242 : q_FL RX8 242 5 1 := ⟨RX6, TX6, 6, rfl, by decide, q_in1 (i := 188) rfl rfl, q_uX6⟩
theorem fl_X9_7 : q_FL RX9 7 8 1 := ⟨RX9, TX9, 17, rfl, by decide, q_in3 (i := 123) rfl rfl, q_uX9⟩
theorem fl_X9_13 : q_FL RX9 13 8 3 := ⟨RX9, TX9, 17, rfl, by decide, q_in3 (i := 125) rfl rfl, q_uX9⟩
theorem fl_X9_16 : q_FL RX9 16 8 5 := ⟨RX9, TX9, 17, rfl, by decide, q_in3 (i := 127) rfl rfl, q_uX9⟩
theorem fl_X9_19 : q_FL RX9 19 8 7 := ⟨RX9, TX9, 17, rfl, by decide, q_in3 (i := 129) rfl rfl, q_uX9⟩
theorem fl_X9_22 : q_FL RX9 22 8 9 := ⟨RX9, TX9, 17, rfl, by decide, q_in3 (i := 131) rfl rfl, q_uX9⟩
theorem fl_X9_26 : q_FL RX9 26 8 11 := ⟨RX9, TX9, 17, rfl, by decide, q_in3 (i := 133) rfl rfl, q_uX9⟩
theorem fl_X9_29 : q_FL RX9 29 8 15 := ⟨RX9, TX9, 17, rfl, by decide, q_in3 (i := 137) rfl rfl, q_uX9⟩
theorem fl_X9_32 : q_FL RX9 32 8 0 := ⟨RX9, TX9, 17, rfl, by decide, q_in3 (i := 122) rfl rfl, q_uX9⟩
theorem fl_X9_58 : q_FL RX9 58 8 2 := ⟨RX9, TX9, 17, rfl, by decide, q_in3 (i := 124) rfl rfl, q_uX9⟩
theorem fl_X9_70 : q_FL RX9 70 8 4 := ⟨RX9, TX9, 17, rfl, by decide, q_in3 (i := 126) rfl rfl, q_uX9⟩
theorem fl_X9_91 : q_FL RX9 91 8 6 := ⟨RX9, TX9, 17, rfl, by decide, q_in3 (i := 128) rfl rfl, q_uX9⟩
theorem fl_X9_94 : q_FL RX9 94 8 8 := ⟨RX9, TX9, 17, rfl, by decide, q_in3 (i := 130) rfl rfl, q_uX9⟩
theorem fl_X9_97 : q_FL RX9 97 8 10 := ⟨RX9, TX9, 17, rfl, by decide, q_in3 (i := 132) rfl rfl, q_uX9⟩
theorem fl_X9_130 : q_FL RX9 130 8 13 := ⟨RX9, TX9, 17, rfl, by decide, q_in3 (i := 135) rfl rfl, q_uX9⟩
theorem fl_X9_159 : q_FL RX9 159 8 12 := ⟨RX9, TX9, 17, rfl, by decide, q_in3 (i := 134) rfl rfl, q_uX9⟩
theorem fl_X9_162 : q_FL RX9 162 8 14 := ⟨RX9, TX9, 17, rfl, by decide, q_in3 (i := 136) rfl rfl, q_uX9⟩
theorem fl_X9_165 : q_FL RX9 165 8 16 := ⟨RX9, TX9, 17, rfl, by decide, q_in3 (i := 138) rfl rfl, q_uX9⟩
theorem wc_X8_pass : Cond.code yX8_pass cX8_pass 2 (some .int) ∈ q_tbl := q_in1 (i := 235) rfl rfl
theorem wi_X8 : Cond.initialized RX8 ∈ q_tbl := q_in1 (i := 1) rfl rfl
theorem wm_X8_pass : Cond.instanceMethod yX8_pass ∈ q_tbl := q_in1 (i := 233) rfl rfl
theorem we_X8_pass : Cond.selects RX8 yX8_pass yX8_pass ∈ q_tbl := q_in1 (i := 234) rfl rfl
theorem wc_X9_pass : Cond.code yX9_pass cX9_pass 2 (some .int) ∈ q_tbl := q_in3 (i := 177) rfl rfl
theorem wi_X9 : Cond.initialized RX9 ∈ q_tbl := q_in1 (i := 10) rfl rfl
theorem wm_X9_pass : Cond.instanceMethod yX9_pass ∈ q_tbl := q_in3 (i := 175) rfl rfl
theorem we_X9_pass : Cond.selects RX9 yX9_pass yX9_pass ∈ q_tbl := q_in3 (i := 176) rfl rfl
theorem wc_X8_time : Cond.code yX8_time cX8_time 1 (some .int) ∈ q_tbl := q_in1 (i := 239) rfl rfl
theorem wm_X8_time : Cond.instanceMethod yX8_time ∈ q_tbl := q_in1 (i := 237) rfl rfl
theorem we_X8_time : Cond.selects RX8 yX8_time yX8_time ∈ q_tbl := q_in1 (i := 238) rfl rfl
theorem wc_X9_time : Cond.code yX9_time cX9_time 1 (some .int) ∈ q_tbl := q_in3 (i := 184) rfl rfl
theorem wm_X9_time : Cond.instanceMethod yX9_time ∈ q_tbl := q_in3 (i := 182) rfl rfl
theorem we_X9_time : Cond.selects RX9 yX9_time yX9_time ∈ q_tbl := q_in3 (i := 183) rfl rfl
theorem wc_X8_addNet : Cond.code yX8_addNet cX8_addNet 4 (some .int) ∈ q_tbl := q_in2 (i := 3) rfl rfl
theorem wm_X8_addNet : Cond.instanceMethod yX8_addNet ∈ q_tbl := q_in2 (i := 1) rfl rfl
theorem we_X8_addNet : Cond.selects RX8 yX8_addNet yX8_addNet ∈ q_tbl := q_in2 (i := 2) rfl rfl
theorem wc_X9_addNet : Cond.code yX9_addNet cX9_addNet 5 (some .int) ∈ q_tbl := q_in3 (i := 188) rfl rfl
theorem wm_X9_addNet : Cond.instanceMethod yX9_addNet ∈ q_tbl := q_in3 (i := 186) rfl rfl
theorem we_X9_addNet : Cond.selects RX9 yX9_addNet yX9_addNet ∈ q_tbl := q_in3 (i := 187) rfl rfl
theorem wc_X8_removeNet : Cond.code yX8_removeNet cX8_removeNet 2 (some .int) ∈ q_tbl := q_in2 (i := 29) rfl rfl
theorem wm_X8_removeNet : Cond.instanceMethod yX8_removeNet ∈ q_tbl := q_in2 (i := 27) rfl rfl
theorem we_X8_removeNet : Cond.selects RX8 yX8_removeNet yX8_removeNet ∈ q_tbl := q_in2 (i := 28) rfl rfl
theorem wc_X9_removeNet : Cond.code yX9_removeNet cX9_removeNet 2 (some .int) ∈ q_tbl := q_in3 (i := 195) rfl rfl
theorem wm_X9_removeNet : Cond.instanceMethod yX9_removeNet ∈ q_tbl := q_in3 (i := 193) rfl rfl
theorem we_X9_removeNet : Cond.selects RX9 yX9_removeNet yX9_removeNet ∈ q_tbl := q_in3 (i := 194) rfl rfl
theorem wc_X8_viewOf : Cond.code yX8_viewOf cX8_viewOf 3 (some .int) ∈ q_tbl := q_in2 (i := 46) rfl rfl
theorem wm_X8_viewOf : Cond.instanceMethod yX8_viewOf ∈ q_tbl := q_in2 (i := 44) rfl rfl
theorem we_X8_viewOf : Cond.selects RX8 yX8_viewOf yX8_viewOf ∈ q_tbl := q_in2 (i := 45) rfl rfl
theorem wc_X9_viewOf : Cond.code yX9_viewOf cX9_viewOf 3 (some .int) ∈ q_tbl := q_in3 (i := 199) rfl rfl
theorem wm_X9_viewOf : Cond.instanceMethod yX9_viewOf ∈ q_tbl := q_in3 (i := 197) rfl rfl
theorem we_X9_viewOf : Cond.selects RX9 yX9_viewOf yX9_viewOf ∈ q_tbl := q_in3 (i := 198) rfl rfl
theorem wc_X8_addZone : Cond.code yX8_addZone cX8_addZone 3 (some .int) ∈ q_tbl := q_in2 (i := 63) rfl rfl
theorem wm_X8_addZone : Cond.instanceMethod yX8_addZone ∈ q_tbl := q_in2 (i := 61) rfl rfl
theorem we_X8_addZone : Cond.selects RX8 yX8_addZone yX8_addZone ∈ q_tbl := q_in2 (i := 62) rfl rfl
theorem wc_X9_addZone : Cond.code yX9_addZone cX9_addZone 4 (some .int) ∈ q_tbl := q_in3 (i := 215) rfl rfl
theorem wm_X9_addZone : Cond.instanceMethod yX9_addZone ∈ q_tbl := q_in3 (i := 213) rfl rfl
theorem we_X9_addZone : Cond.selects RX9 yX9_addZone yX9_addZone ∈ q_tbl := q_in3 (i := 214) rfl rfl
theorem wc_X8_removeZone : Cond.code yX8_removeZone cX8_removeZone 2 (some .int) ∈ q_tbl := q_in2 (i := 86) rfl rfl
theorem wm_X8_removeZone : Cond.instanceMethod yX8_removeZone ∈ q_tbl := q_in2 (i := 84) rfl rfl
theorem we_X8_removeZone : Cond.selects RX8 yX8_removeZone yX8_removeZone ∈ q_tbl := q_in2 (i := 85) rfl rfl
theorem wc_X9_removeZone : Cond.code yX9_removeZone cX9_removeZone 3 (some .int) ∈ q_tbl := q_in3 (i := 235) rfl rfl
theorem wm_X9_removeZone : Cond.instanceMethod yX9_removeZone ∈ q_tbl := q_in3 (i := 233) rfl rfl
theorem we_X9_removeZone : Cond.selects RX9 yX9_removeZone yX9_removeZone ∈ q_tbl := q_in3 (i := 234) rfl rfl
theorem wc_X8_zoneInfo : Cond.code yX8_zoneInfo cX8_zoneInfo 3 (some .int) ∈ q_tbl := q_in2 (i := 95) rfl rfl
theorem wm_X8_zoneInfo : Cond.instanceMethod yX8_zoneInfo ∈ q_tbl := q_in2 (i := 93) rfl rfl
theorem we_X8_zoneInfo : Cond.selects RX8 yX8_zoneInfo yX8_zoneInfo ∈ q_tbl := q_in2 (i := 94) rfl rfl
theorem wc_X9_zoneInfo : Cond.code yX9_zoneInfo cX9_zoneInfo 3 (some .int) ∈ q_tbl := q_in4 (i := 15) rfl rfl
theorem wm_X9_zoneInfo : Cond.instanceMethod yX9_zoneInfo ∈ q_tbl := q_in4 (i := 13) rfl rfl
theorem we_X9_zoneInfo : Cond.selects RX9 yX9_zoneInfo yX9_zoneInfo ∈ q_tbl := q_in4 (i := 14) rfl rfl
theorem wc_X8_count : Cond.code yX8_count cX8_count 2 (some .int) ∈ q_tbl := q_in2 (i := 99) rfl rfl
theorem wm_X8_count : Cond.instanceMethod yX8_count ∈ q_tbl := q_in2 (i := 97) rfl rfl
theorem we_X8_count : Cond.selects RX8 yX8_count yX8_count ∈ q_tbl := q_in2 (i := 98) rfl rfl
theorem wc_X9_count : Cond.code yX9_count cX9_count 4 (some .int) ∈ q_tbl := q_in4 (i := 19) rfl rfl
theorem wm_X9_count : Cond.instanceMethod yX9_count ∈ q_tbl := q_in4 (i := 17) rfl rfl
theorem we_X9_count : Cond.selects RX9 yX9_count yX9_count ∈ q_tbl := q_in4 (i := 18) rfl rfl
theorem wc_X8_set : Cond.code yX8_set cX8_set 5 (some .int) ∈ q_tbl := q_in2 (i := 114) rfl rfl
theorem wm_X8_set : Cond.instanceMethod yX8_set ∈ q_tbl := q_in2 (i := 112) rfl rfl
theorem we_X8_set : Cond.selects RX8 yX8_set yX8_set ∈ q_tbl := q_in2 (i := 113) rfl rfl
theorem wc_X9_set : Cond.code yX9_set cX9_set 5 (some .int) ∈ q_tbl := q_in4 (i := 23) rfl rfl
theorem wm_X9_set : Cond.instanceMethod yX9_set ∈ q_tbl := q_in4 (i := 21) rfl rfl
theorem we_X9_set : Cond.selects RX9 yX9_set yX9_set ∈ q_tbl := q_in4 (i := 22) rfl rfl
theorem wc_X8_clear : Cond.code yX8_clear cX8_clear 5 (some .int) ∈ q_tbl := q_in2 (i := 141) rfl rfl
theorem wm_X8_clear : Cond.instanceMethod yX8_clear ∈ q_tbl := q_in2 (i := 139) rfl rfl
theorem we_X8_clear : Cond.selects RX8 yX8_clear yX8_clear ∈ q_tbl := q_in2 (i := 140) rfl rfl
theorem wc_X9_clear : Cond.code yX9_clear cX9_clear 5 (some .int) ∈ q_tbl := q_in4 (i := 46) rfl rfl
theorem wm_X9_clear : Cond.instanceMethod yX9_clear ∈ q_tbl := q_in4 (i := 44) rfl rfl
theorem we_X9_clear : Cond.selects RX9 yX9_clear yX9_clear ∈ q_tbl := q_in4 (i := 45) rfl rfl
theorem wc_X8_record : Cond.code yX8_record cX8_record 6 (some .int) ∈ q_tbl := q_in2 (i := 151) rfl rfl
theorem wm_X8_record : Cond.instanceMethod yX8_record ∈ q_tbl := q_in2 (i := 149) rfl rfl
theorem we_X8_record : Cond.selects RX8 yX8_record yX8_record ∈ q_tbl := q_in2 (i := 150) rfl rfl
theorem wc_X9_record : Cond.code yX9_record cX9_record 6 (some .int) ∈ q_tbl := q_in4 (i := 50) rfl rfl
theorem wm_X9_record : Cond.instanceMethod yX9_record ∈ q_tbl := q_in4 (i := 48) rfl rfl
theorem we_X9_record : Cond.selects RX9 yX9_record yX9_record ∈ q_tbl := q_in4 (i := 49) rfl rfl
theorem wc_X8_serial : Cond.code yX8_serial cX8_serial 3 (some .int) ∈ q_tbl := q_in2 (i := 155) rfl rfl
theorem wm_X8_serial : Cond.instanceMethod yX8_serial ∈ q_tbl := q_in2 (i := 153) rfl rfl
theorem we_X8_serial : Cond.selects RX8 yX8_serial yX8_serial ∈ q_tbl := q_in2 (i := 154) rfl rfl
theorem wc_X9_serial : Cond.code yX9_serial cX9_serial 5 (some .int) ∈ q_tbl := q_in4 (i := 58) rfl rfl
theorem wm_X9_serial : Cond.instanceMethod yX9_serial ∈ q_tbl := q_in4 (i := 56) rfl rfl
theorem we_X9_serial : Cond.selects RX9 yX9_serial yX9_serial ∈ q_tbl := q_in4 (i := 57) rfl rfl
theorem wc_X8_change : Cond.code yX8_change cX8_change 5 (some .int) ∈ q_tbl := q_in2 (i := 163) rfl rfl
theorem wm_X8_change : Cond.instanceMethod yX8_change ∈ q_tbl := q_in2 (i := 161) rfl rfl
theorem we_X8_change : Cond.selects RX8 yX8_change yX8_change ∈ q_tbl := q_in2 (i := 162) rfl rfl
theorem wc_X9_change : Cond.code yX9_change cX9_change 6 (some .int) ∈ q_tbl := q_in4 (i := 62) rfl rfl
theorem wm_X9_change : Cond.instanceMethod yX9_change ∈ q_tbl := q_in4 (i := 60) rfl rfl
theorem we_X9_change : Cond.selects RX9 yX9_change yX9_change ∈ q_tbl := q_in4 (i := 61) rfl rfl
theorem wc_X8_lay : Cond.code yX8_lay cX8_lay 2 (some .int) ∈ q_tbl := q_in2 (i := 171) rfl rfl
theorem wm_X8_lay : Cond.instanceMethod yX8_lay ∈ q_tbl := q_in2 (i := 169) rfl rfl
theorem we_X8_lay : Cond.selects RX8 yX8_lay yX8_lay ∈ q_tbl := q_in2 (i := 170) rfl rfl
theorem wc_X9_lay : Cond.code yX9_lay cX9_lay 5 (some .int) ∈ q_tbl := q_in4 (i := 192) rfl rfl
theorem wm_X9_lay : Cond.instanceMethod yX9_lay ∈ q_tbl := q_in4 (i := 190) rfl rfl
theorem we_X9_lay : Cond.selects RX9 yX9_lay yX9_lay ∈ q_tbl := q_in4 (i := 191) rfl rfl
theorem wc_X8_answer : Cond.code yX8_answer cX8_answer 5 (some .int) ∈ q_tbl := q_in2 (i := 214) rfl rfl
theorem wm_X8_answer : Cond.instanceMethod yX8_answer ∈ q_tbl := q_in2 (i := 212) rfl rfl
theorem we_X8_answer : Cond.selects RX8 yX8_answer yX8_answer ∈ q_tbl := q_in2 (i := 213) rfl rfl
theorem wc_X9_answer : Cond.code yX9_answer cX9_answer 5 (some .int) ∈ q_tbl := q_in4 (i := 66) rfl rfl
theorem wm_X9_answer : Cond.instanceMethod yX9_answer ∈ q_tbl := q_in4 (i := 64) rfl rfl
theorem we_X9_answer : Cond.selects RX9 yX9_answer yX9_answer ∈ q_tbl := q_in4 (i := 65) rfl rfl
theorem wc_X8_viewAnswer : Cond.code yX8_viewAnswer cX8_viewAnswer 5 (some .int) ∈ q_tbl := q_in3 (i := 23) rfl rfl
theorem wm_X8_viewAnswer : Cond.instanceMethod yX8_viewAnswer ∈ q_tbl := q_in3 (i := 21) rfl rfl
theorem we_X8_viewAnswer : Cond.selects RX8 yX8_viewAnswer yX8_viewAnswer ∈ q_tbl := q_in3 (i := 22) rfl rfl
theorem wc_X9_viewAnswer : Cond.code yX9_viewAnswer cX9_viewAnswer 5 (some .int) ∈ q_tbl := q_in4 (i := 96) rfl rfl
theorem wm_X9_viewAnswer : Cond.instanceMethod yX9_viewAnswer ∈ q_tbl := q_in4 (i := 94) rfl rfl
theorem we_X9_viewAnswer : Cond.selects RX9 yX9_viewAnswer yX9_viewAnswer ∈ q_tbl := q_in4 (i := 95) rfl rfl
theorem wc_X8_zoneFor : Cond.code yX8_zoneFor cX8_zoneFor 5 (some .int) ∈ q_tbl := q_in3 (i := 27) rfl rfl
theorem wm_X8_zoneFor : Cond.instanceMethod yX8_zoneFor ∈ q_tbl := q_in3 (i := 25) rfl rfl
theorem we_X8_zoneFor : Cond.selects RX8 yX8_zoneFor yX8_zoneFor ∈ q_tbl := q_in3 (i := 26) rfl rfl
theorem wc_X9_zoneFor : Cond.code yX9_zoneFor cX9_zoneFor 4 (some .int) ∈ q_tbl := q_in4 (i := 100) rfl rfl
theorem wm_X9_zoneFor : Cond.instanceMethod yX9_zoneFor ∈ q_tbl := q_in4 (i := 98) rfl rfl
theorem we_X9_zoneFor : Cond.selects RX9 yX9_zoneFor yX9_zoneFor ∈ q_tbl := q_in4 (i := 99) rfl rfl
theorem wc_X8_source : Cond.code yX8_source cX8_source 6 (some .int) ∈ q_tbl := q_in3 (i := 32) rfl rfl
theorem wm_X8_source : Cond.instanceMethod yX8_source ∈ q_tbl := q_in3 (i := 30) rfl rfl
theorem we_X8_source : Cond.selects RX8 yX8_source yX8_source ∈ q_tbl := q_in3 (i := 31) rfl rfl
theorem wc_X9_source : Cond.code yX9_source cX9_source 5 (some .int) ∈ q_tbl := q_in4 (i := 104) rfl rfl
theorem wm_X9_source : Cond.instanceMethod yX9_source ∈ q_tbl := q_in4 (i := 102) rfl rfl
theorem we_X9_source : Cond.selects RX9 yX9_source yX9_source ∈ q_tbl := q_in4 (i := 103) rfl rfl
theorem wc_X8_differences : Cond.code yX8_differences cX8_differences 5 (some .int) ∈ q_tbl := q_in3 (i := 37) rfl rfl
theorem wm_X8_differences : Cond.instanceMethod yX8_differences ∈ q_tbl := q_in3 (i := 35) rfl rfl
theorem we_X8_differences : Cond.selects RX8 yX8_differences yX8_differences ∈ q_tbl := q_in3 (i := 36) rfl rfl
theorem wc_X9_differences : Cond.code yX9_differences cX9_differences 5 (some .int) ∈ q_tbl := q_in4 (i := 108) rfl rfl
theorem wm_X9_differences : Cond.instanceMethod yX9_differences ∈ q_tbl := q_in4 (i := 106) rfl rfl
theorem we_X9_differences : Cond.selects RX9 yX9_differences yX9_differences ∈ q_tbl := q_in4 (i := 107) rfl rfl
theorem wc_X8_difference : Cond.code yX8_difference cX8_difference 8 (some .int) ∈ q_tbl := q_in3 (i := 45) rfl rfl
theorem wm_X8_difference : Cond.instanceMethod yX8_difference ∈ q_tbl := q_in3 (i := 43) rfl rfl
theorem we_X8_difference : Cond.selects RX8 yX8_difference yX8_difference ∈ q_tbl := q_in3 (i := 44) rfl rfl
theorem wc_X9_difference : Cond.code yX9_difference cX9_difference 6 (some .int) ∈ q_tbl := q_in4 (i := 116) rfl rfl
theorem wm_X9_difference : Cond.instanceMethod yX9_difference ∈ q_tbl := q_in4 (i := 114) rfl rfl
theorem we_X9_difference : Cond.selects RX9 yX9_difference yX9_difference ∈ q_tbl := q_in4 (i := 115) rfl rfl
theorem wc_X8_split : Cond.code yX8_split cX8_split 5 (some .int) ∈ q_tbl := q_in3 (i := 49) rfl rfl
theorem wm_X8_split : Cond.instanceMethod yX8_split ∈ q_tbl := q_in3 (i := 47) rfl rfl
theorem we_X8_split : Cond.selects RX8 yX8_split yX8_split ∈ q_tbl := q_in3 (i := 48) rfl rfl
theorem wc_X9_split : Cond.code yX9_split cX9_split 5 (some .int) ∈ q_tbl := q_in4 (i := 120) rfl rfl
theorem wm_X9_split : Cond.instanceMethod yX9_split ∈ q_tbl := q_in4 (i := 118) rfl rfl
theorem we_X9_split : Cond.selects RX9 yX9_split yX9_split ∈ q_tbl := q_in4 (i := 119) rfl rfl
theorem wc_X8_since : Cond.code yX8_since cX8_since 7 (some .int) ∈ q_tbl := q_in3 (i := 53) rfl rfl
theorem wm_X8_since : Cond.instanceMethod yX8_since ∈ q_tbl := q_in3 (i := 51) rfl rfl
theorem we_X8_since : Cond.selects RX8 yX8_since yX8_since ∈ q_tbl := q_in3 (i := 52) rfl rfl
theorem wc_X9_since : Cond.code yX9_since cX9_since 6 (some .int) ∈ q_tbl := q_in4 (i := 124) rfl rfl
theorem wm_X9_since : Cond.instanceMethod yX9_since ∈ q_tbl := q_in4 (i := 122) rfl rfl
theorem we_X9_since : Cond.selects RX9 yX9_since yX9_since ∈ q_tbl := q_in4 (i := 123) rfl rfl
theorem wc_X8_seenBy : Cond.code yX8_seenBy cX8_seenBy 7 (some .int) ∈ q_tbl := q_in3 (i := 65) rfl rfl
theorem wm_X8_seenBy : Cond.instanceMethod yX8_seenBy ∈ q_tbl := q_in3 (i := 63) rfl rfl
theorem we_X8_seenBy : Cond.selects RX8 yX8_seenBy yX8_seenBy ∈ q_tbl := q_in3 (i := 64) rfl rfl
theorem wc_X9_seenBy : Cond.code yX9_seenBy cX9_seenBy 8 (some .int) ∈ q_tbl := q_in4 (i := 132) rfl rfl
theorem wm_X9_seenBy : Cond.instanceMethod yX9_seenBy ∈ q_tbl := q_in4 (i := 130) rfl rfl
theorem we_X9_seenBy : Cond.selects RX9 yX9_seenBy yX9_seenBy ∈ q_tbl := q_in4 (i := 131) rfl rfl
theorem wc_X8_setKeeping : Cond.code yX8_setKeeping cX8_setKeeping 3 (some .int) ∈ q_tbl := q_in3 (i := 74) rfl rfl
theorem wm_X8_setKeeping : Cond.instanceMethod yX8_setKeeping ∈ q_tbl := q_in3 (i := 72) rfl rfl
theorem we_X8_setKeeping : Cond.selects RX8 yX8_setKeeping yX8_setKeeping ∈ q_tbl := q_in3 (i := 73) rfl rfl
theorem wc_X9_setKeeping : Cond.code yX9_setKeeping cX9_setKeeping 3 (some .int) ∈ q_tbl := q_in4 (i := 136) rfl rfl
theorem wm_X9_setKeeping : Cond.instanceMethod yX9_setKeeping ∈ q_tbl := q_in4 (i := 134) rfl rfl
theorem we_X9_setKeeping : Cond.selects RX9 yX9_setKeeping yX9_setKeeping ∈ q_tbl := q_in4 (i := 135) rfl rfl
theorem wc_X8_ask : Cond.code yX8_ask cX8_ask 6 (some .int) ∈ q_tbl := q_in3 (i := 78) rfl rfl
theorem wm_X8_ask : Cond.instanceMethod yX8_ask ∈ q_tbl := q_in3 (i := 76) rfl rfl
theorem we_X8_ask : Cond.selects RX8 yX8_ask yX8_ask ∈ q_tbl := q_in3 (i := 77) rfl rfl
theorem wc_X9_ask : Cond.code yX9_ask cX9_ask 6 (some .int) ∈ q_tbl := q_in4 (i := 140) rfl rfl
theorem wm_X9_ask : Cond.instanceMethod yX9_ask ∈ q_tbl := q_in4 (i := 138) rfl rfl
theorem we_X9_ask : Cond.selects RX9 yX9_ask yX9_ask ∈ q_tbl := q_in4 (i := 139) rfl rfl
theorem wc_X8_stale : Cond.code yX8_stale cX8_stale 3 (some .int) ∈ q_tbl := q_in3 (i := 99) rfl rfl
theorem wm_X8_stale : Cond.instanceMethod yX8_stale ∈ q_tbl := q_in3 (i := 97) rfl rfl
theorem we_X8_stale : Cond.selects RX8 yX8_stale yX8_stale ∈ q_tbl := q_in3 (i := 98) rfl rfl
theorem wc_X9_stale : Cond.code yX9_stale cX9_stale 4 (some .int) ∈ q_tbl := q_in4 (i := 152) rfl rfl
theorem wm_X9_stale : Cond.instanceMethod yX9_stale ∈ q_tbl := q_in4 (i := 150) rfl rfl
theorem we_X9_stale : Cond.selects RX9 yX9_stale yX9_stale ∈ q_tbl := q_in4 (i := 151) rfl rfl
theorem wc_X8_type : Cond.code yX8_type cX8_type 2 (some .int) ∈ q_tbl := q_in3 (i := 103) rfl rfl
theorem wm_X8_type : Cond.instanceMethod yX8_type ∈ q_tbl := q_in3 (i := 101) rfl rfl
theorem we_X8_type : Cond.selects RX8 yX8_type yX8_type ∈ q_tbl := q_in3 (i := 102) rfl rfl
theorem wc_X9_type : Cond.code yX9_type cX9_type 2 (some .int) ∈ q_tbl := q_in4 (i := 156) rfl rfl
theorem wm_X9_type : Cond.instanceMethod yX9_type ∈ q_tbl := q_in4 (i := 154) rfl rfl
theorem we_X9_type : Cond.selects RX9 yX9_type yX9_type ∈ q_tbl := q_in4 (i := 155) rfl rfl
theorem wc_X8_clearText : Cond.code yX8_clearText cX8_clearText 2 (some .int) ∈ q_tbl := q_in3 (i := 111) rfl rfl
theorem wm_X8_clearText : Cond.instanceMethod yX8_clearText ∈ q_tbl := q_in3 (i := 109) rfl rfl
theorem we_X8_clearText : Cond.selects RX8 yX8_clearText yX8_clearText ∈ q_tbl := q_in3 (i := 110) rfl rfl
theorem wc_X9_clearText : Cond.code yX9_clearText cX9_clearText 2 (some .int) ∈ q_tbl := q_in4 (i := 160) rfl rfl
theorem wm_X9_clearText : Cond.instanceMethod yX9_clearText ∈ q_tbl := q_in4 (i := 158) rfl rfl
theorem we_X9_clearText : Cond.selects RX9 yX9_clearText yX9_clearText ∈ q_tbl := q_in4 (i := 159) rfl rfl
theorem wc_X8_fault : Cond.code yX8_fault cX8_fault 1 (some .int) ∈ q_tbl := q_in3 (i := 115) rfl rfl
theorem wm_X8_fault : Cond.instanceMethod yX8_fault ∈ q_tbl := q_in3 (i := 113) rfl rfl
theorem we_X8_fault : Cond.selects RX8 yX8_fault yX8_fault ∈ q_tbl := q_in3 (i := 114) rfl rfl
theorem wc_X9_fault : Cond.code yX9_fault cX9_fault 1 (some .int) ∈ q_tbl := q_in4 (i := 164) rfl rfl
theorem wm_X9_fault : Cond.instanceMethod yX9_fault ∈ q_tbl := q_in4 (i := 162) rfl rfl
theorem we_X9_fault : Cond.selects RX9 yX9_fault yX9_fault ∈ q_tbl := q_in4 (i := 163) rfl rfl
theorem wc_X0_recordBehind : Cond.code yX0_recordBehind cX0_recordBehind 11 (some .int) ∈ q_tbl := q_in2 (i := 229) rfl rfl
theorem wi_X0 : Cond.initialized RX0 ∈ q_tbl := q_in1 (i := 5) rfl rfl
theorem wm_X0_recordBehind : Cond.instanceMethod yX0_recordBehind ∈ q_tbl := q_in2 (i := 227) rfl rfl
theorem we_X0_recordBehind : Cond.selects RX0 yX0_recordBehind yX0_recordBehind ∈ q_tbl := q_in2 (i := 228) rfl rfl
theorem cl_X0_25 : q_CV RX0 25 0 yX0_recordBehind cX0_recordBehind 11 (some .int) 4 := ⟨RX0, TX0, 2, rfl, rfl, q_in2 (i := 226) rfl rfl, wm_X0_recordBehind, we_X0_recordBehind, wi_X0, wc_X0_recordBehind, ⟨by decide +kernel, by decide +kernel, by decide +kernel⟩, by decide⟩
theorem wc_X7_responsible : Cond.code yX7_responsible cX7_responsible 7 (some .int) ∈ q_tbl := q_in2 (i := 233) rfl rfl
theorem wi_X7 : Cond.initialized RX7 ∈ q_tbl := q_in1 (i := 6) rfl rfl
theorem wm_X7_responsible : Cond.instanceMethod yX7_responsible ∈ q_tbl := q_in2 (i := 231) rfl rfl
theorem we_X7_responsible : Cond.selects RX7 yX7_responsible yX7_responsible ∈ q_tbl := q_in2 (i := 232) rfl rfl
theorem cl_X0_33 : q_CV RX0 33 6 yX7_responsible cX7_responsible 7 (some .int) 3 := ⟨RX7, TX7, 3, rfl, rfl, q_in2 (i := 230) rfl rfl, wm_X7_responsible, we_X7_responsible, wi_X7, wc_X7_responsible, ⟨by decide +kernel, by decide +kernel, by decide +kernel⟩, by decide⟩
theorem wc_X0_standingFor : Cond.code yX0_standingFor cX0_standingFor 6 (some .int) ∈ q_tbl := q_in3 (i := 5) rfl rfl
theorem wm_X0_standingFor : Cond.instanceMethod yX0_standingFor ∈ q_tbl := q_in3 (i := 3) rfl rfl
theorem we_X0_standingFor : Cond.selects RX0 yX0_standingFor yX0_standingFor ∈ q_tbl := q_in3 (i := 4) rfl rfl
theorem cl_X0_37 : q_CV RX0 37 0 yX0_standingFor cX0_standingFor 6 (some .int) 3 := ⟨RX0, TX0, 2, rfl, rfl, q_in3 (i := 2) rfl rfl, wm_X0_standingFor, we_X0_standingFor, wi_X0, wc_X0_standingFor, ⟨by decide +kernel, by decide +kernel, by decide +kernel⟩, by decide⟩
theorem wc_X4_find : Cond.code yX4_find cX4_find 6 (some .int) ∈ q_tbl := q_in2 (i := 131) rfl rfl
theorem wi_X4 : Cond.initialized RX4 ∈ q_tbl := q_in1 (i := 7) rfl rfl
theorem wm_X4_find : Cond.instanceMethod yX4_find ∈ q_tbl := q_in2 (i := 129) rfl rfl
theorem we_X4_find : Cond.selects RX4 yX4_find yX4_find ∈ q_tbl := q_in2 (i := 130) rfl rfl
theorem cl_X0_40 : q_CV RX0 40 3 yX4_find cX4_find 6 (some .int) 4 := ⟨RX4, TX4, 5, rfl, rfl, q_in3 (i := 19) rfl rfl, wm_X4_find, we_X4_find, wi_X4, wc_X4_find, ⟨by decide +kernel, by decide +kernel, by decide +kernel⟩, by decide⟩
theorem wc_X4_exists : Cond.code yX4_exists cX4_exists 5 (some .boolean) ∈ q_tbl := q_in3 (i := 9) rfl rfl
theorem wm_X4_exists : Cond.instanceMethod yX4_exists ∈ q_tbl := q_in3 (i := 7) rfl rfl
theorem we_X4_exists : Cond.selects RX4 yX4_exists yX4_exists ∈ q_tbl := q_in3 (i := 8) rfl rfl
theorem cl_X0_43 : q_CV RX0 43 3 yX4_exists cX4_exists 5 (some .boolean) 3 := ⟨RX4, TX4, 5, rfl, rfl, q_in3 (i := 6) rfl rfl, wm_X4_exists, we_X4_exists, wi_X4, wc_X4_exists, ⟨by decide +kernel, by decide +kernel, by decide +kernel⟩, by decide⟩
theorem wc_X2_isPattern : Cond.code yX2_isPattern cX2_isPattern 1 (some .boolean) ∈ q_tbl := q_in2 (i := 69) rfl rfl
theorem wi_X2 : Cond.initialized RX2 ∈ q_tbl := q_in1 (i := 11) rfl rfl
theorem wt_X2_isPattern : Cond.static yX2_isPattern ∈ q_tbl := q_in2 (i := 68) rfl rfl
theorem cl_X0_47 : q_CS RX0 47 yX2_isPattern cX2_isPattern 1 (some .boolean) 1 := ⟨q_in3 (i := 11) rfl rfl, wt_X2_isPattern, wi_X2, wc_X2_isPattern, ⟨by decide +kernel, by decide +kernel, by decide +kernel⟩, by decide⟩
theorem wc_X2_patternFor : Cond.code yX2_patternFor cX2_patternFor 2 (some .int) ∈ q_tbl := q_in3 (i := 14) rfl rfl
theorem wt_X2_patternFor : Cond.static yX2_patternFor ∈ q_tbl := q_in3 (i := 13) rfl rfl
theorem cl_X0_53 : q_CS RX0 53 yX2_patternFor cX2_patternFor 2 (some .int) 1 := ⟨q_in3 (i := 12) rfl rfl, wt_X2_patternFor, wi_X2, wc_X2_patternFor, ⟨by decide +kernel, by decide +kernel, by decide +kernel⟩, by decide⟩
theorem wc_X2_isBelow : Cond.code yX2_isBelow cX2_isBelow 2 (some .boolean) ∈ q_tbl := q_in3 (i := 17) rfl rfl
theorem wt_X2_isBelow : Cond.static yX2_isBelow ∈ q_tbl := q_in3 (i := 16) rfl rfl
theorem cl_X0_60 : q_CS RX0 60 yX2_isBelow cX2_isBelow 2 (some .boolean) 2 := ⟨q_in3 (i := 15) rfl rfl, wt_X2_isBelow, wi_X2, wc_X2_isBelow, ⟨by decide +kernel, by decide +kernel, by decide +kernel⟩, by decide⟩
theorem wc_X5_isThere : Cond.code yX5_isThere cX5_isThere 3 (some .boolean) ∈ q_tbl := q_in2 (i := 37) rfl rfl
theorem wi_X5 : Cond.initialized RX5 ∈ q_tbl := q_in1 (i := 3) rfl rfl
theorem wm_X5_isThere : Cond.instanceMethod yX5_isThere ∈ q_tbl := q_in2 (i := 35) rfl rfl
theorem we_X5_isThere : Cond.selects RX5 yX5_isThere yX5_isThere ∈ q_tbl := q_in2 (i := 36) rfl rfl
theorem cl_X0_74 : q_CV RX0 74 4 yX5_isThere cX5_isThere 3 (some .boolean) 2 := ⟨RX5, TX5, 4, rfl, rfl, q_in2 (i := 109) rfl rfl, wm_X5_isThere, we_X5_isThere, wi_X5, wc_X5_isThere, ⟨by decide +kernel, by decide +kernel, by decide +kernel⟩, by decide⟩
theorem wc_X4_countIn : Cond.code yX4_countIn cX4_countIn 5 (some .int) ∈ q_tbl := q_in2 (i := 90) rfl rfl
theorem wm_X4_countIn : Cond.instanceMethod yX4_countIn ∈ q_tbl := q_in2 (i := 88) rfl rfl
theorem we_X4_countIn : Cond.selects RX4 yX4_countIn yX4_countIn ∈ q_tbl := q_in2 (i := 89) rfl rfl
theorem cl_X0_77 : q_CV RX0 77 3 yX4_countIn cX4_countIn 5 (some .int) 2 := ⟨RX4, TX4, 5, rfl, rfl, q_in2 (i := 110) rfl rfl, wm_X4_countIn, we_X4_countIn, wi_X4, wc_X4_countIn, ⟨by decide +kernel, by decide +kernel, by decide +kernel⟩, by decide⟩
theorem wc_X0_laterUpTo : Cond.code yX0_laterUpTo cX0_laterUpTo 3 (some .int) ∈ q_tbl := q_in3 (i := 60) rfl rfl
theorem wt_X0_laterUpTo : Cond.static yX0_laterUpTo ∈ q_tbl := q_in3 (i := 59) rfl rfl
theorem cl_X0_84 : q_CS RX0 84 yX0_laterUpTo cX0_laterUpTo 3 (some .int) 3 := ⟨q_in3 (i := 58) rfl rfl, wt_X0_laterUpTo, wi_X0, wc_X0_laterUpTo, ⟨by decide +kernel, by decide +kernel, by decide +kernel⟩, by decide⟩
theorem ml_X0_91 : Cond.methodLink RX0 91 Lib.Math.max.name ∈ q_tbl := q_in3 (i := 61) rfl rfl
theorem wc_X1_find : Cond.code yX1_find cX1_find 5 (some .int) ∈ q_tbl := q_in3 (i := 82) rfl rfl
theorem wi_X1 : Cond.initialized RX1 ∈ q_tbl := q_in1 (i := 8) rfl rfl
theorem wm_X1_find : Cond.instanceMethod yX1_find ∈ q_tbl := q_in3 (i := 80) rfl rfl
theorem we_X1_find : Cond.selects RX1 yX1_find yX1_find ∈ q_tbl := q_in3 (i := 81) rfl rfl
theorem cl_X1_37 : q_CV RX1 37 1 yX1_find cX1_find 5 (some .int) 3 := ⟨RX1, TX1, 8, rfl, rfl, q_in3 (i := 91) rfl rfl, wm_X1_find, we_X1_find, wi_X1, wc_X1_find, ⟨by decide +kernel, by decide +kernel, by decide +kernel⟩, by decide⟩
theorem wc_X1_forget : Cond.code yX1_forget cX1_forget 3 none ∈ q_tbl := q_in3 (i := 95) rfl rfl
theorem wm_X1_forget : Cond.instanceMethod yX1_forget ∈ q_tbl := q_in3 (i := 94) rfl rfl
theorem we_X1_forget : Cond.selects RX1 yX1_forget yX1_forget ∈ q_tbl := q_in0 (i := 10) rfl rfl
theorem cl_X1_41 : q_CV RX1 41 1 yX1_forget cX1_forget 3 none 1 := ⟨RX1, TX1, 8, rfl, rfl, q_in3 (i := 92) rfl rfl, wm_X1_forget, we_X1_forget, wi_X1, wc_X1_forget, ⟨by decide +kernel, by decide +kernel, by decide +kernel⟩, by decide⟩
theorem wc_X2_lastWeight : Cond.code yX2_lastWeight cX2_lastWeight 1 (some .int) ∈ q_tbl := q_in2 (i := 72) rfl rfl
theorem wt_X2_lastWeight : Cond.static yX2_lastWeight ∈ q_tbl := q_in2 (i := 71) rfl rfl
theorem cl_X2_9 : q_CS RX2 9 yX2_lastWeight cX2_lastWeight 1 (some .int) 1 := ⟨q_in2 (i := 70) rfl rfl, wt_X2_lastWeight, wi_X2, wc_X2_lastWeight, ⟨by decide +kernel, by decide +kernel, by decide +kernel⟩, by decide⟩
theorem wc_X2_isAt : Cond.code yX2_isAt cX2_isAt 2 (some .boolean) ∈ q_tbl := q_in2 (i := 123) rfl rfl
theorem wt_X2_isAt : Cond.static yX2_isAt ∈ q_tbl := q_in2 (i := 122) rfl rfl
theorem cl_X2_13 : q_CS RX2 13 yX2_isAt cX2_isAt 2 (some .boolean) 2 := ⟨q_in3 (i := 18) rfl rfl, wt_X2_isAt, wi_X2, wc_X2_isAt, ⟨by decide +kernel, by decide +kernel, by decide +kernel⟩, by decide⟩
theorem wc_X5_begin : Cond.code yX5_begin cX5_begin 3 (some .int) ∈ q_tbl := q_in2 (i := 24) rfl rfl
theorem wm_X5_begin : Cond.instanceMethod yX5_begin ∈ q_tbl := q_in2 (i := 22) rfl rfl
theorem we_X5_begin : Cond.selects RX5 yX5_begin yX5_begin ∈ q_tbl := q_in2 (i := 23) rfl rfl
theorem cl_X3_30 : q_CV RX3 30 4 yX5_begin cX5_begin 3 (some .int) 1 := ⟨RX5, TX5, 4, rfl, rfl, q_in2 (i := 21) rfl rfl, wm_X5_begin, we_X5_begin, wi_X5, wc_X5_begin, ⟨by decide +kernel, by decide +kernel, by decide +kernel⟩, by decide⟩
theorem wc_X3_contains : Cond.code yX3_contains cX3_contains 4 (some .boolean) ∈ q_tbl := q_in2 (i := 58) rfl rfl
theorem wi_X3 : Cond.initialized RX3 ∈ q_tbl := q_in1 (i := 2) rfl rfl
theorem wm_X3_contains : Cond.instanceMethod yX3_contains ∈ q_tbl := q_in2 (i := 56) rfl rfl
theorem we_X3_contains : Cond.selects RX3 yX3_contains yX3_contains ∈ q_tbl := q_in2 (i := 57) rfl rfl
theorem cl_X3_38 : q_CV RX3 38 2 yX3_contains cX3_contains 4 (some .boolean) 2 := ⟨RX3, TX3, 4, rfl, rfl, q_in2 (i := 55) rfl rfl, wm_X3_contains, we_X3_contains, wi_X3, wc_X3_contains, ⟨by decide +kernel, by decide +kernel, by decide +kernel⟩, by decide⟩
theorem cl_X3_42 : q_CV RX3 42 4 yX5_isThere cX5_isThere 3 (some .boolean) 2 := ⟨RX5, TX5, 4, rfl, rfl, q_in2 (i := 59) rfl rfl, wm_X5_isThere, we_X5_isThere, wi_X5, wc_X5_isThere, ⟨by decide +kernel, by decide +kernel, by decide +kernel⟩, by decide⟩
theorem wc_X3_viewAt : Cond.code yX3_viewAt cX3_viewAt 6 (some .int) ∈ q_tbl := q_in2 (i := 54) rfl rfl
theorem wm_X3_viewAt : Cond.instanceMethod yX3_viewAt ∈ q_tbl := q_in2 (i := 52) rfl rfl
theorem we_X3_viewAt : Cond.selects RX3 yX3_viewAt yX3_viewAt ∈ q_tbl := q_in2 (i := 53) rfl rfl
theorem cl_X3_45 : q_CV RX3 45 2 yX3_viewAt cX3_viewAt 6 (some .int) 2 := ⟨RX3, TX3, 4, rfl, rfl, q_in3 (i := 70) rfl rfl, wm_X3_viewAt, we_X3_viewAt, wi_X3, wc_X3_viewAt, ⟨by decide +kernel, by decide +kernel, by decide +kernel⟩, by decide⟩
theorem cl_X4_37 : q_CV RX4 37 4 yX5_isThere cX5_isThere 3 (some .boolean) 2 := ⟨RX5, TX5, 4, rfl, rfl, q_in2 (i := 91) rfl rfl, wm_X5_isThere, we_X5_isThere, wi_X5, wc_X5_isThere, ⟨by decide +kernel, by decide +kernel, by decide +kernel⟩, by decide⟩
theorem cl_X4_41 : q_CS RX4 41 yX2_isAt cX2_isAt 2 (some .boolean) 2 := ⟨q_in3 (i := 10) rfl rfl, wt_X2_isAt, wi_X2, wc_X2_isAt, ⟨by decide +kernel, by decide +kernel, by decide +kernel⟩, by decide⟩
theorem cl_X4_46 : q_CV RX4 46 3 yX4_find cX4_find 6 (some .int) 4 := ⟨RX4, TX4, 5, rfl, rfl, q_in2 (i := 128) rfl rfl, wm_X4_find, we_X4_find, wi_X4, wc_X4_find, ⟨by decide +kernel, by decide +kernel, by decide +kernel⟩, by decide⟩
theorem wc_X5_end : Cond.code yX5_end cX5_end 3 none ∈ q_tbl := q_in2 (i := 41) rfl rfl
theorem wm_X5_end : Cond.instanceMethod yX5_end ∈ q_tbl := q_in2 (i := 39) rfl rfl
theorem we_X5_end : Cond.selects RX5 yX5_end yX5_end ∈ q_tbl := q_in2 (i := 40) rfl rfl
theorem cl_X4_50 : q_CV RX4 50 4 yX5_end cX5_end 3 none 2 := ⟨RX5, TX5, 4, rfl, rfl, q_in2 (i := 132) rfl rfl, wm_X5_end, we_X5_end, wi_X5, wc_X5_end, ⟨by decide +kernel, by decide +kernel, by decide +kernel⟩, by decide⟩
theorem wc_X4_note : Cond.code yX4_note cX4_note 7 (some .int) ∈ q_tbl := q_in2 (i := 136) rfl rfl
theorem wm_X4_note : Cond.instanceMethod yX4_note ∈ q_tbl := q_in2 (i := 135) rfl rfl
theorem we_X4_note : Cond.selects RX4 yX4_note yX4_note ∈ q_tbl := q_in0 (i := 1) rfl rfl
theorem cl_X4_54 : q_CV RX4 54 3 yX4_note cX4_note 7 (some .int) 5 := ⟨RX4, TX4, 5, rfl, rfl, q_in2 (i := 133) rfl rfl, wm_X4_note, we_X4_note, wi_X4, wc_X4_note, ⟨by decide +kernel, by decide +kernel, by decide +kernel⟩, by decide⟩
theorem wc_X5_isMade : Cond.code yX5_isMade cX5_isMade 2 (some .boolean) ∈ q_tbl := q_in2 (i := 33) rfl rfl
theorem wm_X5_isMade : Cond.instanceMethod yX5_isMade ∈ q_tbl := q_in2 (i := 31) rfl rfl
theorem we_X5_isMade : Cond.selects RX5 yX5_isMade yX5_isMade ∈ q_tbl := q_in2 (i := 32) rfl rfl
theorem cl_X4_58 : q_CV RX4 58 4 yX5_isMade cX5_isMade 2 (some .boolean) 1 := ⟨RX5, TX5, 4, rfl, rfl, q_in2 (i := 147) rfl rfl, wm_X5_isMade, we_X5_isMade, wi_X5, wc_X5_isMade, ⟨by decide +kernel, by decide +kernel, by decide +kernel⟩, by decide⟩
theorem cl_X4_62 : q_CV RX4 62 4 yX5_begin cX5_begin 3 (some .int) 1 := ⟨RX5, TX5, 4, rfl, rfl, q_in2 (i := 137) rfl rfl, wm_X5_begin, we_X5_begin, wi_X5, wc_X5_begin, ⟨by decide +kernel, by decide +kernel, by decide +kernel⟩, by decide⟩
theorem ml_X5_9 : Cond.methodLink RX5 9 Lib.Math.max.name ∈ q_tbl := q_in1 (i := 32) rfl rfl
theorem cl_X5_31 : q_CV RX5 31 4 yX5_isThere cX5_isThere 3 (some .boolean) 2 := ⟨RX5, TX5, 4, rfl, rfl, q_in2 (i := 104) rfl rfl, wm_X5_isThere, we_X5_isThere, wi_X5, wc_X5_isThere, ⟨by decide +kernel, by decide +kernel, by decide +kernel⟩, by decide⟩
theorem wc_X5_isFull : Cond.code yX5_isFull cX5_isFull 1 (some .boolean) ∈ q_tbl := q_in2 (i := 16) rfl rfl
theorem wm_X5_isFull : Cond.instanceMethod yX5_isFull ∈ q_tbl := q_in2 (i := 14) rfl rfl
theorem we_X5_isFull : Cond.selects RX5 yX5_isFull yX5_isFull ∈ q_tbl := q_in2 (i := 15) rfl rfl
theorem cl_X5_35 : q_CV RX5 35 4 yX5_isFull cX5_isFull 1 (some .boolean) 0 := ⟨RX5, TX5, 4, rfl, rfl, q_in2 (i := 25) rfl rfl, wm_X5_isFull, we_X5_isFull, wi_X5, wc_X5_isFull, ⟨by decide +kernel, by decide +kernel, by decide +kernel⟩, by decide⟩
theorem cl_X5_39 : q_CV RX5 39 4 yX5_isMade cX5_isMade 2 (some .boolean) 1 := ⟨RX5, TX5, 4, rfl, rfl, q_in2 (i := 42) rfl rfl, wm_X5_isMade, we_X5_isMade, wi_X5, wc_X5_isMade, ⟨by decide +kernel, by decide +kernel, by decide +kernel⟩, by decide⟩
theorem wc_X6_readChange : Cond.code yX6_readChange cX6_readChange 7 (some .int) ∈ q_tbl := q_in2 (i := 179) rfl rfl
theorem wi_X6 : Cond.initialized RX6 ∈ q_tbl := q_in1 (i := 9) rfl rfl
theorem wm_X6_readChange : Cond.instanceMethod yX6_readChange ∈ q_tbl := q_in2 (i := 178) rfl rfl
theorem we_X6_readChange : Cond.selects RX6 yX6_readChange yX6_readChange ∈ q_tbl := q_in0 (i := 2) rfl rfl
theorem cl_X6_31 : q_CV RX6 31 5 yX6_readChange cX6_readChange 7 (some .int) 1 := ⟨RX6, TX6, 6, rfl, rfl, q_in2 (i := 176) rfl rfl, wm_X6_readChange, we_X6_readChange, wi_X6, wc_X6_readChange, ⟨by decide +kernel, by decide +kernel, by decide +kernel⟩, by decide⟩
theorem cl_X6_35 : q_CS RX6 35 yX2_isAt cX2_isAt 2 (some .boolean) 2 := ⟨q_in2 (i := 202) rfl rfl, wt_X2_isAt, wi_X2, wc_X2_isAt, ⟨by decide +kernel, by decide +kernel, by decide +kernel⟩, by decide⟩
theorem wc_X6_digits : Cond.code yX6_digits cX6_digits 5 (some .int) ∈ q_tbl := q_in2 (i := 183) rfl rfl
theorem wm_X6_digits : Cond.instanceMethod yX6_digits ∈ q_tbl := q_in2 (i := 182) rfl rfl
theorem we_X6_digits : Cond.selects RX6 yX6_digits yX6_digits ∈ q_tbl := q_in0 (i := 3) rfl rfl
theorem cl_X6_41 : q_CV RX6 41 5 yX6_digits cX6_digits 5 (some .int) 3 := ⟨RX6, TX6, 6, rfl, rfl, q_in2 (i := 180) rfl rfl, wm_X6_digits, we_X6_digits, wi_X6, wc_X6_digits, ⟨by decide +kernel, by decide +kernel, by decide +kernel⟩, by decide⟩
theorem wc_X6_characterAt : Cond.code yX6_characterAt cX6_characterAt 2 (some .int) ∈ q_tbl := q_in2 (i := 187) rfl rfl
theorem wm_X6_characterAt : Cond.instanceMethod yX6_characterAt ∈ q_tbl := q_in2 (i := 186) rfl rfl
theorem we_X6_characterAt : Cond.selects RX6 yX6_characterAt yX6_characterAt ∈ q_tbl := q_in0 (i := 4) rfl rfl
theorem cl_X6_45 : q_CV RX6 45 5 yX6_characterAt cX6_characterAt 2 (some .int) 1 := ⟨RX6, TX6, 6, rfl, rfl, q_in2 (i := 184) rfl rfl, wm_X6_characterAt, we_X6_characterAt, wi_X6, wc_X6_characterAt, ⟨by decide +kernel, by decide +kernel, by decide +kernel⟩, by decide⟩
theorem wc_X8_isType : Cond.code yX8_isType cX8_isType 1 (some .boolean) ∈ q_tbl := q_in2 (i := 120) rfl rfl
theorem wt_X8_isType : Cond.static yX8_isType ∈ q_tbl := q_in2 (i := 119) rfl rfl
theorem cl_X6_48 : (Cond.methodLinkNest RX6 48 yX8_isType RX8 = Cond.methodLinkNest RX6 48 yX8_isType RX8 ∨ Cond.methodLinkNest RX6 48 yX8_isType RX8 = Cond.methodLinkNest RX6 61 yX8_isValue RX8) ∧ Cond.static yX8_isType ∈ q_tbl ∧ Cond.initialized (yX8_isType).cls ∈ q_tbl ∧ Cond.code yX8_isType cX8_isType 1 (some .boolean) ∈ q_tbl ∧ ((yX8_isType).cls ≠ "java/lang/invoke/MethodHandle" ∧ (yX8_isType).cls ≠ "java/lang/invoke/VarHandle" ∧ (parseMethodDescriptor (yX8_isType).desc).map (fun d => d.parameters.length) = some 1) ∧ 1 ≤ 11 := ⟨Or.inl rfl, wt_X8_isType, wi_X8, wc_X8_isType, ⟨by decide +kernel, by decide +kernel, by decide +kernel⟩, by decide⟩
theorem wc_X6_nameIn : Cond.code yX6_nameIn cX6_nameIn 5 (some .int) ∈ q_tbl := q_in2 (i := 192) rfl rfl
theorem wm_X6_nameIn : Cond.instanceMethod yX6_nameIn ∈ q_tbl := q_in2 (i := 191) rfl rfl
theorem we_X6_nameIn : Cond.selects RX6 yX6_nameIn yX6_nameIn ∈ q_tbl := q_in0 (i := 5) rfl rfl
theorem cl_X6_54 : q_CV RX6 54 5 yX6_nameIn cX6_nameIn 5 (some .int) 2 := ⟨RX6, TX6, 6, rfl, rfl, q_in2 (i := 189) rfl rfl, wm_X6_nameIn, we_X6_nameIn, wi_X6, wc_X6_nameIn, ⟨by decide +kernel, by decide +kernel, by decide +kernel⟩, by decide⟩
theorem wc_X6_numberIn : Cond.code yX6_numberIn cX6_numberIn 5 (some .int) ∈ q_tbl := q_in2 (i := 196) rfl rfl
theorem wm_X6_numberIn : Cond.instanceMethod yX6_numberIn ∈ q_tbl := q_in2 (i := 195) rfl rfl
theorem we_X6_numberIn : Cond.selects RX6 yX6_numberIn yX6_numberIn ∈ q_tbl := q_in0 (i := 6) rfl rfl
theorem cl_X6_58 : q_CV RX6 58 5 yX6_numberIn cX6_numberIn 5 (some .int) 2 := ⟨RX6, TX6, 6, rfl, rfl, q_in2 (i := 193) rfl rfl, wm_X6_numberIn, we_X6_numberIn, wi_X6, wc_X6_numberIn, ⟨by decide +kernel, by decide +kernel, by decide +kernel⟩, by decide⟩
theorem wc_X8_isValue : Cond.code yX8_isValue cX8_isValue 2 (some .boolean) ∈ q_tbl := q_in2 (i := 117) rfl rfl
theorem wt_X8_isValue : Cond.static yX8_isValue ∈ q_tbl := q_in2 (i := 116) rfl rfl
theorem cl_X6_61 : (Cond.methodLinkNest RX6 61 yX8_isValue RX8 = Cond.methodLinkNest RX6 48 yX8_isType RX8 ∨ Cond.methodLinkNest RX6 61 yX8_isValue RX8 = Cond.methodLinkNest RX6 61 yX8_isValue RX8) ∧ Cond.static yX8_isValue ∈ q_tbl ∧ Cond.initialized (yX8_isValue).cls ∈ q_tbl ∧ Cond.code yX8_isValue cX8_isValue 2 (some .boolean) ∈ q_tbl ∧ ((yX8_isValue).cls ≠ "java/lang/invoke/MethodHandle" ∧ (yX8_isValue).cls ≠ "java/lang/invoke/VarHandle" ∧ (parseMethodDescriptor (yX8_isValue).desc).map (fun d => d.parameters.length) = some 2) ∧ 2 ≤ 11 := ⟨Or.inr rfl, wt_X8_isValue, wi_X8, wc_X8_isValue, ⟨by decide +kernel, by decide +kernel, by decide +kernel⟩, by decide⟩
theorem cl_X7_27 : q_CV RX7 27 4 yX5_begin cX5_begin 3 (some .int) 1 := ⟨RX5, TX5, 4, rfl, rfl, q_in2 (i := 82) rfl rfl, wm_X5_begin, we_X5_begin, wi_X5, wc_X5_begin, ⟨by decide +kernel, by decide +kernel, by decide +kernel⟩, by decide⟩
theorem cl_X7_35 : q_CV RX7 35 4 yX5_isThere cX5_isThere 3 (some .boolean) 2 := ⟨RX5, TX5, 4, rfl, rfl, q_in2 (i := 77) rfl rfl, wm_X5_isThere, we_X5_isThere, wi_X5, wc_X5_isThere, ⟨by decide +kernel, by decide +kernel, by decide +kernel⟩, by decide⟩
theorem cl_X7_39 : q_CS RX7 39 yX2_isAt cX2_isAt 2 (some .boolean) 2 := ⟨q_in2 (i := 234) rfl rfl, wt_X2_isAt, wi_X2, wc_X2_isAt, ⟨by decide +kernel, by decide +kernel, by decide +kernel⟩, by decide⟩
theorem wc_X7_hides : Cond.code yX7_hides cX7_hides 3 (some .boolean) ∈ q_tbl := q_in2 (i := 238) rfl rfl
theorem wm_X7_hides : Cond.instanceMethod yX7_hides ∈ q_tbl := q_in2 (i := 236) rfl rfl
theorem we_X7_hides : Cond.selects RX7 yX7_hides yX7_hides ∈ q_tbl := q_in2 (i := 237) rfl rfl
theorem cl_X7_44 : q_CV RX7 44 6 yX7_hides cX7_hides 3 (some .boolean) 2 := ⟨RX7, TX7, 3, rfl, rfl, q_in2 (i := 235) rfl rfl, wm_X7_hides, we_X7_hides, wi_X7, wc_X7_hides, ⟨by decide +kernel, by decide +kernel, by decide +kernel⟩, by decide⟩
theorem wc_X2_isLonger : Cond.code yX2_isLonger cX2_isLonger 2 (some .boolean) ∈ q_tbl := q_in3 (i := 1) rfl rfl
theorem wt_X2_isLonger : Cond.static yX2_isLonger ∈ q_tbl := q_in3 (i := 0) rfl rfl
theorem cl_X7_47 : q_CS RX7 47 yX2_isLonger cX2_isLonger 2 (some .boolean) 2 := ⟨q_in2 (i := 239) rfl rfl, wt_X2_isLonger, wi_X2, wc_X2_isLonger, ⟨by decide +kernel, by decide +kernel, by decide +kernel⟩, by decide⟩
theorem wc_X8_isView : Cond.code yX8_isView cX8_isView 1 (some .boolean) ∈ q_tbl := q_in2 (i := 6) rfl rfl
theorem wt_X8_isView : Cond.static yX8_isView ∈ q_tbl := q_in2 (i := 5) rfl rfl
theorem cl_X8_51 : q_CS RX8 51 yX8_isView cX8_isView 1 (some .boolean) 1 := ⟨q_in2 (i := 4) rfl rfl, wt_X8_isView, wi_X8, wc_X8_isView, ⟨by decide +kernel, by decide +kernel, by decide +kernel⟩, by decide⟩
theorem wc_X8_isAddress : Cond.code yX8_isAddress cX8_isAddress 1 (some .boolean) ∈ q_tbl := q_in2 (i := 9) rfl rfl
theorem wt_X8_isAddress : Cond.static yX8_isAddress ∈ q_tbl := q_in2 (i := 8) rfl rfl
theorem cl_X8_55 : q_CS RX8 55 yX8_isAddress cX8_isAddress 1 (some .boolean) 1 := ⟨q_in2 (i := 7) rfl rfl, wt_X8_isAddress, wi_X8, wc_X8_isAddress, ⟨by decide +kernel, by decide +kernel, by decide +kernel⟩, by decide⟩
theorem wc_X3_isLength : Cond.code yX3_isLength cX3_isLength 1 (some .boolean) ∈ q_tbl := q_in2 (i := 12) rfl rfl
theorem wt_X3_isLength : Cond.static yX3_isLength ∈ q_tbl := q_in2 (i := 11) rfl rfl
theorem cl_X8_58 : q_CS RX8 58 yX3_isLength cX3_isLength 1 (some .boolean) 1 := ⟨q_in2 (i := 10) rfl rfl, wt_X3_isLength, wi_X3, wc_X3_isLength, ⟨by decide +kernel, by decide +kernel, by decide +kernel⟩, by decide⟩
theorem cl_X8_65 : q_CV RX8 65 4 yX5_isFull cX5_isFull 1 (some .boolean) 0 := ⟨RX5, TX5, 4, rfl, rfl, q_in2 (i := 13) rfl rfl, wm_X5_isFull, we_X5_isFull, wi_X5, wc_X5_isFull, ⟨by decide +kernel, by decide +kernel, by decide +kernel⟩, by decide⟩
theorem wc_X3_make : Cond.code yX3_make cX3_make 6 (some .int) ∈ q_tbl := q_in2 (i := 20) rfl rfl
theorem wm_X3_make : Cond.instanceMethod yX3_make ∈ q_tbl := q_in2 (i := 18) rfl rfl
theorem we_X3_make : Cond.selects RX3 yX3_make yX3_make ∈ q_tbl := q_in2 (i := 19) rfl rfl
theorem cl_X8_71 : q_CV RX8 71 2 yX3_make cX3_make 6 (some .int) 4 := ⟨RX3, TX3, 4, rfl, rfl, q_in2 (i := 17) rfl rfl, wm_X3_make, we_X3_make, wi_X3, wc_X3_make, ⟨by decide +kernel, by decide +kernel, by decide +kernel⟩, by decide⟩
theorem cl_X8_75 : q_CV RX8 75 4 yX5_isMade cX5_isMade 2 (some .boolean) 1 := ⟨RX5, TX5, 4, rfl, rfl, q_in2 (i := 30) rfl rfl, wm_X5_isMade, we_X5_isMade, wi_X5, wc_X5_isMade, ⟨by decide +kernel, by decide +kernel, by decide +kernel⟩, by decide⟩
theorem cl_X8_78 : q_CV RX8 78 4 yX5_isThere cX5_isThere 3 (some .boolean) 2 := ⟨RX5, TX5, 4, rfl, rfl, q_in2 (i := 34) rfl rfl, wm_X5_isThere, we_X5_isThere, wi_X5, wc_X5_isThere, ⟨by decide +kernel, by decide +kernel, by decide +kernel⟩, by decide⟩
theorem cl_X8_82 : q_CV RX8 82 4 yX5_end cX5_end 3 none 2 := ⟨RX5, TX5, 4, rfl, rfl, q_in2 (i := 38) rfl rfl, wm_X5_end, we_X5_end, wi_X5, wc_X5_end, ⟨by decide +kernel, by decide +kernel, by decide +kernel⟩, by decide⟩
theorem wc_X8_isTick : Cond.code yX8_isTick cX8_isTick 2 (some .boolean) ∈ q_tbl := q_in2 (i := 50) rfl rfl
theorem wm_X8_isTick : Cond.instanceMethod yX8_isTick ∈ q_tbl := q_in2 (i := 49) rfl rfl
theorem we_X8_isTick : Cond.selects RX8 yX8_isTick yX8_isTick ∈ q_tbl := q_in0 (i := 0) rfl rfl
theorem cl_X8_90 : q_CV RX8 90 7 yX8_isTick cX8_isTick 2 (some .boolean) 1 := ⟨RX8, TX8, 7, rfl, rfl, q_in2 (i := 47) rfl rfl, wm_X8_isTick, we_X8_isTick, wi_X8, wc_X8_isTick, ⟨by decide +kernel, by decide +kernel, by decide +kernel⟩, by decide⟩
theorem cl_X8_93 : q_CV RX8 93 2 yX3_viewAt cX3_viewAt 6 (some .int) 2 := ⟨RX3, TX3, 4, rfl, rfl, q_in2 (i := 51) rfl rfl, wm_X3_viewAt, we_X3_viewAt, wi_X3, wc_X3_viewAt, ⟨by decide +kernel, by decide +kernel, by decide +kernel⟩, by decide⟩
theorem wc_X2_isName : Cond.code yX2_isName cX2_isName 3 (some .boolean) ∈ q_tbl := q_in2 (i := 66) rfl rfl
theorem wt_X2_isName : Cond.static yX2_isName ∈ q_tbl := q_in2 (i := 65) rfl rfl
theorem cl_X8_97 : q_CS RX8 97 yX2_isName cX2_isName 3 (some .boolean) 1 := ⟨q_in2 (i := 64) rfl rfl, wt_X2_isName, wi_X2, wc_X2_isName, ⟨by decide +kernel, by decide +kernel, by decide +kernel⟩, by decide⟩
theorem cl_X8_102 : q_CS RX8 102 yX2_isPattern cX2_isPattern 1 (some .boolean) 1 := ⟨q_in2 (i := 67) rfl rfl, wt_X2_isPattern, wi_X2, wc_X2_isPattern, ⟨by decide +kernel, by decide +kernel, by decide +kernel⟩, by decide⟩
theorem wc_X7_find : Cond.code yX7_find cX7_find 5 (some .int) ∈ q_tbl := q_in2 (i := 76) rfl rfl
theorem wm_X7_find : Cond.instanceMethod yX7_find ∈ q_tbl := q_in2 (i := 74) rfl rfl
theorem we_X7_find : Cond.selects RX7 yX7_find yX7_find ∈ q_tbl := q_in2 (i := 75) rfl rfl
theorem cl_X8_105 : q_CV RX8 105 6 yX7_find cX7_find 5 (some .int) 3 := ⟨RX7, TX7, 3, rfl, rfl, q_in2 (i := 73) rfl rfl, wm_X7_find, we_X7_find, wi_X7, wc_X7_find, ⟨by decide +kernel, by decide +kernel, by decide +kernel⟩, by decide⟩
theorem wc_X7_make : Cond.code yX7_make cX7_make 5 (some .int) ∈ q_tbl := q_in2 (i := 81) rfl rfl
theorem wm_X7_make : Cond.instanceMethod yX7_make ∈ q_tbl := q_in2 (i := 79) rfl rfl
theorem we_X7_make : Cond.selects RX7 yX7_make yX7_make ∈ q_tbl := q_in2 (i := 80) rfl rfl
theorem cl_X8_112 : q_CV RX8 112 6 yX7_make cX7_make 5 (some .int) 3 := ⟨RX7, TX7, 3, rfl, rfl, q_in2 (i := 78) rfl rfl, wm_X7_make, we_X7_make, wi_X7, wc_X7_make, ⟨by decide +kernel, by decide +kernel, by decide +kernel⟩, by decide⟩
theorem cl_X8_114 : q_CV RX8 114 3 yX4_countIn cX4_countIn 5 (some .int) 2 := ⟨RX4, TX4, 5, rfl, rfl, q_in2 (i := 87) rfl rfl, wm_X4_countIn, we_X4_countIn, wi_X4, wc_X4_countIn, ⟨by decide +kernel, by decide +kernel, by decide +kernel⟩, by decide⟩
theorem wc_X5_countThere : Cond.code yX5_countThere cX5_countThere 4 (some .int) ∈ q_tbl := q_in2 (i := 103) rfl rfl
theorem wm_X5_countThere : Cond.instanceMethod yX5_countThere ∈ q_tbl := q_in2 (i := 101) rfl rfl
theorem we_X5_countThere : Cond.selects RX5 yX5_countThere yX5_countThere ∈ q_tbl := q_in2 (i := 102) rfl rfl
theorem cl_X8_129 : q_CV RX8 129 4 yX5_countThere cX5_countThere 4 (some .int) 1 := ⟨RX5, TX5, 4, rfl, rfl, q_in2 (i := 100) rfl rfl, wm_X5_countThere, we_X5_countThere, wi_X5, wc_X5_countThere, ⟨by decide +kernel, by decide +kernel, by decide +kernel⟩, by decide⟩
theorem wc_X0_countRecords : Cond.code yX0_countRecords cX0_countRecords 4 (some .int) ∈ q_tbl := q_in2 (i := 108) rfl rfl
theorem wm_X0_countRecords : Cond.instanceMethod yX0_countRecords ∈ q_tbl := q_in2 (i := 106) rfl rfl
theorem we_X0_countRecords : Cond.selects RX0 yX0_countRecords yX0_countRecords ∈ q_tbl := q_in2 (i := 107) rfl rfl
theorem cl_X8_133 : q_CV RX8 133 0 yX0_countRecords cX0_countRecords 4 (some .int) 1 := ⟨RX0, TX0, 2, rfl, rfl, q_in2 (i := 105) rfl rfl, wm_X0_countRecords, we_X0_countRecords, wi_X0, wc_X0_countRecords, ⟨by decide +kernel, by decide +kernel, by decide +kernel⟩, by decide⟩
theorem cl_X8_146 : q_CS RX8 146 yX8_isValue cX8_isValue 2 (some .boolean) 2 := ⟨q_in2 (i := 115) rfl rfl, wt_X8_isValue, wi_X8, wc_X8_isValue, ⟨by decide +kernel, by decide +kernel, by decide +kernel⟩, by decide⟩
theorem cl_X8_149 : q_CS RX8 149 yX2_isAt cX2_isAt 2 (some .boolean) 2 := ⟨q_in2 (i := 121) rfl rfl, wt_X2_isAt, wi_X2, wc_X2_isAt, ⟨by decide +kernel, by decide +kernel, by decide +kernel⟩, by decide⟩
theorem wc_X4_put : Cond.code yX4_put cX4_put 6 none ∈ q_tbl := q_in2 (i := 127) rfl rfl
theorem wm_X4_put : Cond.instanceMethod yX4_put ∈ q_tbl := q_in2 (i := 125) rfl rfl
theorem we_X4_put : Cond.selects RX4 yX4_put yX4_put ∈ q_tbl := q_in2 (i := 126) rfl rfl
theorem cl_X8_152 : q_CV RX8 152 3 yX4_put cX4_put 6 none 5 := ⟨RX4, TX4, 5, rfl, rfl, q_in2 (i := 124) rfl rfl, wm_X4_put, we_X4_put, wi_X4, wc_X4_put, ⟨by decide +kernel, by decide +kernel, by decide +kernel⟩, by decide⟩
theorem cl_X8_156 : q_CS RX8 156 yX8_isType cX8_isType 1 (some .boolean) 1 := ⟨q_in2 (i := 118) rfl rfl, wt_X8_isType, wi_X8, wc_X8_isType, ⟨by decide +kernel, by decide +kernel, by decide +kernel⟩, by decide⟩
theorem cl_X8_159 : q_CV RX8 159 3 yX4_find cX4_find 6 (some .int) 4 := ⟨RX4, TX4, 5, rfl, rfl, q_in2 (i := 142) rfl rfl, wm_X4_find, we_X4_find, wi_X4, wc_X4_find, ⟨by decide +kernel, by decide +kernel, by decide +kernel⟩, by decide⟩
theorem wc_X4_drop : Cond.code yX4_drop cX4_drop 3 none ∈ q_tbl := q_in2 (i := 146) rfl rfl
theorem wm_X4_drop : Cond.instanceMethod yX4_drop ∈ q_tbl := q_in2 (i := 144) rfl rfl
theorem we_X4_drop : Cond.selects RX4 yX4_drop yX4_drop ∈ q_tbl := q_in2 (i := 145) rfl rfl
theorem cl_X8_161 : q_CV RX8 161 3 yX4_drop cX4_drop 3 none 2 := ⟨RX4, TX4, 5, rfl, rfl, q_in2 (i := 143) rfl rfl, wm_X4_drop, we_X4_drop, wi_X4, wc_X4_drop, ⟨by decide +kernel, by decide +kernel, by decide +kernel⟩, by decide⟩
theorem wc_X4_countChanges : Cond.code yX4_countChanges cX4_countChanges 5 (some .int) ∈ q_tbl := q_in2 (i := 159) rfl rfl
theorem wm_X4_countChanges : Cond.instanceMethod yX4_countChanges ∈ q_tbl := q_in2 (i := 157) rfl rfl
theorem we_X4_countChanges : Cond.selects RX4 yX4_countChanges yX4_countChanges ∈ q_tbl := q_in2 (i := 158) rfl rfl
theorem cl_X8_167 : q_CV RX8 167 3 yX4_countChanges cX4_countChanges 5 (some .int) 2 := ⟨RX4, TX4, 5, rfl, rfl, q_in2 (i := 156) rfl rfl, wm_X4_countChanges, we_X4_countChanges, wi_X4, wc_X4_countChanges, ⟨by decide +kernel, by decide +kernel, by decide +kernel⟩, by decide⟩
theorem wc_X4_findChange : Cond.code yX4_findChange cX4_findChange 5 (some .int) ∈ q_tbl := q_in2 (i := 167) rfl rfl
theorem wm_X4_findChange : Cond.instanceMethod yX4_findChange ∈ q_tbl := q_in2 (i := 165) rfl rfl
theorem we_X4_findChange : Cond.selects RX4 yX4_findChange yX4_findChange ∈ q_tbl := q_in2 (i := 166) rfl rfl
theorem cl_X8_170 : q_CV RX8 170 3 yX4_findChange cX4_findChange 5 (some .int) 2 := ⟨RX4, TX4, 5, rfl, rfl, q_in2 (i := 164) rfl rfl, wm_X4_findChange, we_X4_findChange, wi_X4, wc_X4_findChange, ⟨by decide +kernel, by decide +kernel, by decide +kernel⟩, by decide⟩
theorem wc_X6_read : Cond.code yX6_read cX6_read 4 (some .int) ∈ q_tbl := q_in2 (i := 175) rfl rfl
theorem wm_X6_read : Cond.instanceMethod yX6_read ∈ q_tbl := q_in2 (i := 173) rfl rfl
theorem we_X6_read : Cond.selects RX6 yX6_read yX6_read ∈ q_tbl := q_in2 (i := 174) rfl rfl
theorem cl_X8_179 : q_CV RX8 179 5 yX6_read cX6_read 4 (some .int) 0 := ⟨RX6, TX6, 6, rfl, rfl, q_in2 (i := 172) rfl rfl, wm_X6_read, we_X6_read, wi_X6, wc_X6_read, ⟨by decide +kernel, by decide +kernel, by decide +kernel⟩, by decide⟩
theorem wc_X6_isAllAt : Cond.code yX6_isAllAt cX6_isAllAt 3 (some .boolean) ∈ q_tbl := q_in2 (i := 201) rfl rfl
theorem wm_X6_isAllAt : Cond.instanceMethod yX6_isAllAt ∈ q_tbl := q_in2 (i := 199) rfl rfl
theorem we_X6_isAllAt : Cond.selects RX6 yX6_isAllAt yX6_isAllAt ∈ q_tbl := q_in2 (i := 200) rfl rfl
theorem cl_X8_183 : q_CV RX8 183 5 yX6_isAllAt cX6_isAllAt 3 (some .boolean) 1 := ⟨RX6, TX6, 6, rfl, rfl, q_in2 (i := 198) rfl rfl, wm_X6_isAllAt, we_X6_isAllAt, wi_X6, wc_X6_isAllAt, ⟨by decide +kernel, by decide +kernel, by decide +kernel⟩, by decide⟩
theorem wc_X5_hasRoomFor : Cond.code yX5_hasRoomFor cX5_hasRoomFor 2 (some .boolean) ∈ q_tbl := q_in2 (i := 206) rfl rfl
theorem wm_X5_hasRoomFor : Cond.instanceMethod yX5_hasRoomFor ∈ q_tbl := q_in2 (i := 204) rfl rfl
theorem we_X5_hasRoomFor : Cond.selects RX5 yX5_hasRoomFor yX5_hasRoomFor ∈ q_tbl := q_in2 (i := 205) rfl rfl
theorem cl_X8_189 : q_CV RX8 189 4 yX5_hasRoomFor cX5_hasRoomFor 2 (some .boolean) 1 := ⟨RX5, TX5, 4, rfl, rfl, q_in2 (i := 203) rfl rfl, wm_X5_hasRoomFor, we_X5_hasRoomFor, wi_X5, wc_X5_hasRoomFor, ⟨by decide +kernel, by decide +kernel, by decide +kernel⟩, by decide⟩
theorem wc_X8_layChanges : Cond.code yX8_layChanges cX8_layChanges 4 none ∈ q_tbl := q_in2 (i := 210) rfl rfl
theorem wm_X8_layChanges : Cond.instanceMethod yX8_layChanges ∈ q_tbl := q_in2 (i := 209) rfl rfl
theorem we_X8_layChanges : Cond.selects RX8 yX8_layChanges yX8_layChanges ∈ q_tbl := q_in0 (i := 7) rfl rfl
theorem cl_X8_192 : q_CV RX8 192 7 yX8_layChanges cX8_layChanges 4 none 1 := ⟨RX8, TX8, 7, rfl, rfl, q_in2 (i := 207) rfl rfl, wm_X8_layChanges, we_X8_layChanges, wi_X8, wc_X8_layChanges, ⟨by decide +kernel, by decide +kernel, by decide +kernel⟩, by decide⟩
theorem wc_X8_isQuestion : Cond.code yX8_isQuestion cX8_isQuestion 2 (some .boolean) ∈ q_tbl := q_in2 (i := 217) rfl rfl
theorem wt_X8_isQuestion : Cond.static yX8_isQuestion ∈ q_tbl := q_in2 (i := 216) rfl rfl
theorem cl_X8_199 : q_CS RX8 199 yX8_isQuestion cX8_isQuestion 2 (some .boolean) 2 := ⟨q_in2 (i := 215) rfl rfl, wt_X8_isQuestion, wi_X8, wc_X8_isQuestion, ⟨by decide +kernel, by decide +kernel, by decide +kernel⟩, by decide⟩
theorem wc_X8_answerFor : Cond.code yX8_answerFor cX8_answerFor 5 (some .int) ∈ q_tbl := q_in2 (i := 221) rfl rfl
theorem wm_X8_answerFor : Cond.instanceMethod yX8_answerFor ∈ q_tbl := q_in2 (i := 220) rfl rfl
theorem we_X8_answerFor : Cond.selects RX8 yX8_answerFor yX8_answerFor ∈ q_tbl := q_in0 (i := 8) rfl rfl
theorem cl_X8_202 : q_CV RX8 202 7 yX8_answerFor cX8_answerFor 5 (some .int) 4 := ⟨RX8, TX8, 7, rfl, rfl, q_in2 (i := 218) rfl rfl, wm_X8_answerFor, we_X8_answerFor, wi_X8, wc_X8_answerFor, ⟨by decide +kernel, by decide +kernel, by decide +kernel⟩, by decide⟩
theorem wc_X0_lookUp : Cond.code yX0_lookUp cX0_lookUp 6 (some .int) ∈ q_tbl := q_in2 (i := 225) rfl rfl
theorem wm_X0_lookUp : Cond.instanceMethod yX0_lookUp ∈ q_tbl := q_in2 (i := 223) rfl rfl
theorem we_X0_lookUp : Cond.selects RX0 yX0_lookUp yX0_lookUp ∈ q_tbl := q_in2 (i := 224) rfl rfl
theorem cl_X8_205 : q_CV RX8 205 0 yX0_lookUp cX0_lookUp 6 (some .int) 4 := ⟨RX0, TX0, 2, rfl, rfl, q_in2 (i := 222) rfl rfl, wm_X0_lookUp, we_X0_lookUp, wi_X0, wc_X0_lookUp, ⟨by decide +kernel, by decide +kernel, by decide +kernel⟩, by decide⟩
theorem cl_X8_208 : q_CV RX8 208 6 yX7_responsible cX7_responsible 7 (some .int) 3 := ⟨RX7, TX7, 3, rfl, rfl, q_in3 (i := 28) rfl rfl, wm_X7_responsible, we_X7_responsible, wi_X7, wc_X7_responsible, ⟨by decide +kernel, by decide +kernel, by decide +kernel⟩, by decide⟩
theorem cl_X8_211 : q_CV RX8 211 0 yX0_recordBehind cX0_recordBehind 11 (some .int) 4 := ⟨RX0, TX0, 2, rfl, rfl, q_in3 (i := 33) rfl rfl, wm_X0_recordBehind, we_X0_recordBehind, wi_X0, wc_X0_recordBehind, ⟨by decide +kernel, by decide +kernel, by decide +kernel⟩, by decide⟩
theorem wc_X8_countDiffering : Cond.code yX8_countDiffering cX8_countDiffering 8 (some .int) ∈ q_tbl := q_in3 (i := 41) rfl rfl
theorem wm_X8_countDiffering : Cond.instanceMethod yX8_countDiffering ∈ q_tbl := q_in3 (i := 40) rfl rfl
theorem we_X8_countDiffering : Cond.selects RX8 yX8_countDiffering yX8_countDiffering ∈ q_tbl := q_in0 (i := 9) rfl rfl
theorem cl_X8_214 : q_CV RX8 214 7 yX8_countDiffering cX8_countDiffering 8 (some .int) 5 := ⟨RX8, TX8, 7, rfl, rfl, q_in3 (i := 38) rfl rfl, wm_X8_countDiffering, we_X8_countDiffering, wi_X8, wc_X8_countDiffering, ⟨by decide +kernel, by decide +kernel, by decide +kernel⟩, by decide⟩
theorem wc_X0_lastEvent : Cond.code yX0_lastEvent cX0_lastEvent 4 (some .int) ∈ q_tbl := q_in3 (i := 57) rfl rfl
theorem wm_X0_lastEvent : Cond.instanceMethod yX0_lastEvent ∈ q_tbl := q_in3 (i := 55) rfl rfl
theorem we_X0_lastEvent : Cond.selects RX0 yX0_lastEvent yX0_lastEvent ∈ q_tbl := q_in3 (i := 56) rfl rfl
theorem cl_X8_218 : q_CV RX8 218 0 yX0_lastEvent cX0_lastEvent 4 (some .int) 1 := ⟨RX0, TX0, 2, rfl, rfl, q_in3 (i := 54) rfl rfl, wm_X0_lastEvent, we_X0_lastEvent, wi_X0, wc_X0_lastEvent, ⟨by decide +kernel, by decide +kernel, by decide +kernel⟩, by decide⟩
theorem wc_X3_countAddresses : Cond.code yX3_countAddresses cX3_countAddresses 5 (some .int) ∈ q_tbl := q_in3 (i := 69) rfl rfl
theorem wm_X3_countAddresses : Cond.instanceMethod yX3_countAddresses ∈ q_tbl := q_in3 (i := 67) rfl rfl
theorem we_X3_countAddresses : Cond.selects RX3 yX3_countAddresses yX3_countAddresses ∈ q_tbl := q_in3 (i := 68) rfl rfl
theorem cl_X8_221 : q_CV RX8 221 2 yX3_countAddresses cX3_countAddresses 5 (some .int) 2 := ⟨RX3, TX3, 4, rfl, rfl, q_in3 (i := 66) rfl rfl, wm_X3_countAddresses, we_X3_countAddresses, wi_X3, wc_X3_countAddresses, ⟨by decide +kernel, by decide +kernel, by decide +kernel⟩, by decide⟩
theorem cl_X8_227 : q_CV RX8 227 1 yX1_find cX1_find 5 (some .int) 3 := ⟨RX1, TX1, 8, rfl, rfl, q_in3 (i := 79) rfl rfl, wm_X1_find, we_X1_find, wi_X1, wc_X1_find, ⟨by decide +kernel, by decide +kernel, by decide +kernel⟩, by decide⟩
theorem wc_X1_isFresh : Cond.code yX1_isFresh cX1_isFresh 3 (some .boolean) ∈ q_tbl := q_in3 (i := 86) rfl rfl
theorem wm_X1_isFresh : Cond.instanceMethod yX1_isFresh ∈ q_tbl := q_in3 (i := 84) rfl rfl
theorem we_X1_isFresh : Cond.selects RX1 yX1_isFresh yX1_isFresh ∈ q_tbl := q_in3 (i := 85) rfl rfl
theorem cl_X8_228 : q_CV RX8 228 1 yX1_isFresh cX1_isFresh 3 (some .boolean) 2 := ⟨RX1, TX1, 8, rfl, rfl, q_in3 (i := 83) rfl rfl, wm_X1_isFresh, we_X1_isFresh, wi_X1, wc_X1_isFresh, ⟨by decide +kernel, by decide +kernel, by decide +kernel⟩, by decide⟩
theorem wc_X1_keep : Cond.code yX1_keep cX1_keep 7 none ∈ q_tbl := q_in3 (i := 90) rfl rfl
theorem wm_X1_keep : Cond.instanceMethod yX1_keep ∈ q_tbl := q_in3 (i := 88) rfl rfl
theorem we_X1_keep : Cond.selects RX1 yX1_keep yX1_keep ∈ q_tbl := q_in3 (i := 89) rfl rfl
theorem cl_X8_234 : q_CV RX8 234 1 yX1_keep cX1_keep 7 none 5 := ⟨RX1, TX1, 8, rfl, rfl, q_in3 (i := 87) rfl rfl, wm_X1_keep, we_X1_keep, wi_X1, wc_X1_keep, ⟨by decide +kernel, by decide +kernel, by decide +kernel⟩, by decide⟩
theorem wc_X6_append : Cond.code yX6_append cX6_append 2 none ∈ q_tbl := q_in3 (i := 107) rfl rfl
theorem wm_X6_append : Cond.instanceMethod yX6_append ∈ q_tbl := q_in3 (i := 105) rfl rfl
theorem we_X6_append : Cond.selects RX6 yX6_append yX6_append ∈ q_tbl := q_in3 (i := 106) rfl rfl
theorem cl_X8_245 : q_CV RX8 245 5 yX6_append cX6_append 2 none 1 := ⟨RX6, TX6, 6, rfl, rfl, q_in3 (i := 104) rfl rfl, wm_X6_append, we_X6_append, wi_X6, wc_X6_append, ⟨by decide +kernel, by decide +kernel, by decide +kernel⟩, by decide⟩
theorem wc_X9_in : Cond.code yX9_in cX9_in 3 (some .boolean) ∈ q_tbl := q_in3 (i := 180) rfl rfl
theorem wt_X9_in : Cond.static yX9_in ∈ q_tbl := q_in3 (i := 179) rfl rfl
theorem cl_X9_35 : q_CS RX9 35 yX9_in cX9_in 3 (some .boolean) 3 := ⟨q_in3 (i := 178) rfl rfl, wt_X9_in, wi_X9, wc_X9_in, ⟨by decide +kernel, by decide +kernel, by decide +kernel⟩, by decide⟩
theorem wc_X9_lastLabel : Cond.code yX9_lastLabel cX9_lastLabel 1 (some .int) ∈ q_tbl := q_in3 (i := 227) rfl rfl
theorem wt_X9_lastLabel : Cond.static yX9_lastLabel ∈ q_tbl := q_in3 (i := 226) rfl rfl
theorem cl_X9_39 : q_CS RX9 39 yX9_lastLabel cX9_lastLabel 1 (some .int) 1 := ⟨q_in3 (i := 225) rfl rfl, wt_X9_lastLabel, wi_X9, wc_X9_lastLabel, ⟨by decide +kernel, by decide +kernel, by decide +kernel⟩, by decide⟩
theorem wc_X9_labels : Cond.code yX9_labels cX9_labels 1 (some .int) ∈ q_tbl := q_in4 (i := 29) rfl rfl
theorem wt_X9_labels : Cond.static yX9_labels ∈ q_tbl := q_in4 (i := 28) rfl rfl
theorem cl_X9_43 : q_CS RX9 43 yX9_labels cX9_labels 1 (some .int) 1 := ⟨q_in4 (i := 27) rfl rfl, wt_X9_labels, wi_X9, wc_X9_labels, ⟨by decide +kernel, by decide +kernel, by decide +kernel⟩, by decide⟩
theorem wc_X9_first : Cond.code yX9_first cX9_first 2 (some .int) ∈ q_tbl := q_in4 (i := 32) rfl rfl
theorem wt_X9_first : Cond.static yX9_first ∈ q_tbl := q_in4 (i := 31) rfl rfl
theorem cl_X9_46 : q_CS RX9 46 yX9_first cX9_first 2 (some .int) 2 := ⟨q_in4 (i := 30) rfl rfl, wt_X9_first, wi_X9, wc_X9_first, ⟨by decide +kernel, by decide +kernel, by decide +kernel⟩, by decide⟩
theorem wc_X9_isAt : Cond.code yX9_isAt cX9_isAt 2 (some .boolean) ∈ q_tbl := q_in4 (i := 26) rfl rfl
theorem wt_X9_isAt : Cond.static yX9_isAt ∈ q_tbl := q_in4 (i := 25) rfl rfl
theorem cl_X9_50 : q_CS RX9 50 yX9_isAt cX9_isAt 2 (some .boolean) 2 := ⟨q_in4 (i := 24) rfl rfl, wt_X9_isAt, wi_X9, wc_X9_isAt, ⟨by decide +kernel, by decide +kernel, by decide +kernel⟩, by decide⟩
theorem wc_X9_isAddress : Cond.code yX9_isAddress cX9_isAddress 1 (some .boolean) ∈ q_tbl := q_in3 (i := 191) rfl rfl
theorem wt_X9_isAddress : Cond.static yX9_isAddress ∈ q_tbl := q_in3 (i := 190) rfl rfl
theorem cl_X9_54 : q_CS RX9 54 yX9_isAddress cX9_isAddress 1 (some .boolean) 1 := ⟨q_in3 (i := 189) rfl rfl, wt_X9_isAddress, wi_X9, wc_X9_isAddress, ⟨by decide +kernel, by decide +kernel, by decide +kernel⟩, by decide⟩
theorem wc_X9_isNetThere : Cond.code yX9_isNetThere cX9_isNetThere 4 (some .boolean) ∈ q_tbl := q_in3 (i := 211) rfl rfl
theorem wm_X9_isNetThere : Cond.instanceMethod yX9_isNetThere ∈ q_tbl := q_in3 (i := 210) rfl rfl
theorem we_X9_isNetThere : Cond.selects RX9 yX9_isNetThere yX9_isNetThere ∈ q_tbl := q_in0 (i := 13) rfl rfl
theorem cl_X9_61 : q_CV RX9 61 8 yX9_isNetThere cX9_isNetThere 4 (some .boolean) 2 := ⟨RX9, TX9, 17, rfl, rfl, q_in3 (i := 208) rfl rfl, wm_X9_isNetThere, we_X9_isNetThere, wi_X9, wc_X9_isNetThere, ⟨by decide +kernel, by decide +kernel, by decide +kernel⟩, by decide⟩
theorem wc_X9_isTick : Cond.code yX9_isTick cX9_isTick 2 (some .boolean) ∈ q_tbl := q_in3 (i := 203) rfl rfl
theorem wm_X9_isTick : Cond.instanceMethod yX9_isTick ∈ q_tbl := q_in3 (i := 202) rfl rfl
theorem we_X9_isTick : Cond.selects RX9 yX9_isTick yX9_isTick ∈ q_tbl := q_in0 (i := 11) rfl rfl
theorem cl_X9_64 : q_CV RX9 64 8 yX9_isTick cX9_isTick 2 (some .boolean) 1 := ⟨RX9, TX9, 17, rfl, rfl, q_in3 (i := 200) rfl rfl, wm_X9_isTick, we_X9_isTick, wi_X9, wc_X9_isTick, ⟨by decide +kernel, by decide +kernel, by decide +kernel⟩, by decide⟩
theorem wc_X9_viewAt : Cond.code yX9_viewAt cX9_viewAt 8 (some .int) ∈ q_tbl := q_in3 (i := 207) rfl rfl
theorem wm_X9_viewAt : Cond.instanceMethod yX9_viewAt ∈ q_tbl := q_in3 (i := 206) rfl rfl
theorem we_X9_viewAt : Cond.selects RX9 yX9_viewAt yX9_viewAt ∈ q_tbl := q_in0 (i := 12) rfl rfl
theorem cl_X9_67 : q_CV RX9 67 8 yX9_viewAt cX9_viewAt 8 (some .int) 2 := ⟨RX9, TX9, 17, rfl, rfl, q_in3 (i := 204) rfl rfl, wm_X9_viewAt, we_X9_viewAt, wi_X9, wc_X9_viewAt, ⟨by decide +kernel, by decide +kernel, by decide +kernel⟩, by decide⟩
theorem wc_X9_isView : Cond.code yX9_isView cX9_isView 1 (some .boolean) ∈ q_tbl := q_in3 (i := 218) rfl rfl
theorem wt_X9_isView : Cond.static yX9_isView ∈ q_tbl := q_in3 (i := 217) rfl rfl
theorem cl_X9_73 : q_CS RX9 73 yX9_isView cX9_isView 1 (some .boolean) 1 := ⟨q_in3 (i := 216) rfl rfl, wt_X9_isView, wi_X9, wc_X9_isView, ⟨by decide +kernel, by decide +kernel, by decide +kernel⟩, by decide⟩
theorem wc_X9_isName : Cond.code yX9_isName cX9_isName 4 (some .boolean) ∈ q_tbl := q_in3 (i := 221) rfl rfl
theorem wt_X9_isName : Cond.static yX9_isName ∈ q_tbl := q_in3 (i := 220) rfl rfl
theorem cl_X9_76 : q_CS RX9 76 yX9_isName cX9_isName 4 (some .boolean) 1 := ⟨q_in3 (i := 219) rfl rfl, wt_X9_isName, wi_X9, wc_X9_isName, ⟨by decide +kernel, by decide +kernel, by decide +kernel⟩, by decide⟩
theorem wc_X9_isPattern : Cond.code yX9_isPattern cX9_isPattern 1 (some .boolean) ∈ q_tbl := q_in3 (i := 224) rfl rfl
theorem wt_X9_isPattern : Cond.static yX9_isPattern ∈ q_tbl := q_in3 (i := 223) rfl rfl
theorem cl_X9_79 : q_CS RX9 79 yX9_isPattern cX9_isPattern 1 (some .boolean) 1 := ⟨q_in3 (i := 222) rfl rfl, wt_X9_isPattern, wi_X9, wc_X9_isPattern, ⟨by decide +kernel, by decide +kernel, by decide +kernel⟩, by decide⟩
theorem wc_X9_isGone : Cond.code yX9_isGone cX9_isGone 2 (some .boolean) ∈ q_tbl := q_in3 (i := 231) rfl rfl
theorem wm_X9_isGone : Cond.instanceMethod yX9_isGone ∈ q_tbl := q_in3 (i := 230) rfl rfl
theorem we_X9_isGone : Cond.selects RX9 yX9_isGone yX9_isGone ∈ q_tbl := q_in0 (i := 14) rfl rfl
theorem cl_X9_82 : q_CV RX9 82 8 yX9_isGone cX9_isGone 2 (some .boolean) 1 := ⟨RX9, TX9, 17, rfl, rfl, q_in3 (i := 228) rfl rfl, wm_X9_isGone, we_X9_isGone, wi_X9, wc_X9_isGone, ⟨by decide +kernel, by decide +kernel, by decide +kernel⟩, by decide⟩
theorem wc_X9_isZone : Cond.code yX9_isZone cX9_isZone 2 (some .boolean) ∈ q_tbl := q_in3 (i := 239) rfl rfl
theorem wm_X9_isZone : Cond.instanceMethod yX9_isZone ∈ q_tbl := q_in3 (i := 238) rfl rfl
theorem we_X9_isZone : Cond.selects RX9 yX9_isZone yX9_isZone ∈ q_tbl := q_in0 (i := 15) rfl rfl
theorem cl_X9_85 : q_CV RX9 85 8 yX9_isZone cX9_isZone 2 (some .boolean) 1 := ⟨RX9, TX9, 17, rfl, rfl, q_in3 (i := 236) rfl rfl, wm_X9_isZone, we_X9_isZone, wi_X9, wc_X9_isZone, ⟨by decide +kernel, by decide +kernel, by decide +kernel⟩, by decide⟩
theorem wc_X9_records : Cond.code yX9_records cX9_records 5 (some .int) ∈ q_tbl := q_in4 (i := 3) rfl rfl
theorem wm_X9_records : Cond.instanceMethod yX9_records ∈ q_tbl := q_in4 (i := 2) rfl rfl
theorem we_X9_records : Cond.selects RX9 yX9_records yX9_records ∈ q_tbl := q_in0 (i := 16) rfl rfl
theorem cl_X9_88 : q_CV RX9 88 8 yX9_records cX9_records 5 (some .int) 1 := ⟨RX9, TX9, 17, rfl, rfl, q_in4 (i := 0) rfl rfl, wm_X9_records, we_X9_records, wi_X9, wc_X9_records, ⟨by decide +kernel, by decide +kernel, by decide +kernel⟩, by decide⟩
theorem wc_X9_part : Cond.code yX9_part cX9_part 3 (some .int) ∈ q_tbl := q_in4 (i := 11) rfl rfl
theorem wm_X9_part : Cond.instanceMethod yX9_part ∈ q_tbl := q_in4 (i := 10) rfl rfl
theorem we_X9_part : Cond.selects RX9 yX9_part yX9_part ∈ q_tbl := q_in0 (i := 18) rfl rfl
theorem cl_X9_100 : q_CV RX9 100 8 yX9_part cX9_part 3 (some .int) 2 := ⟨RX9, TX9, 17, rfl, rfl, q_in4 (i := 8) rfl rfl, wm_X9_part, we_X9_part, wi_X9, wc_X9_part, ⟨by decide +kernel, by decide +kernel, by decide +kernel⟩, by decide⟩
theorem wc_X9_valueAt : Cond.code yX9_valueAt cX9_valueAt 8 (some .int) ∈ q_tbl := q_in4 (i := 7) rfl rfl
theorem wm_X9_valueAt : Cond.instanceMethod yX9_valueAt ∈ q_tbl := q_in4 (i := 6) rfl rfl
theorem we_X9_valueAt : Cond.selects RX9 yX9_valueAt yX9_valueAt ∈ q_tbl := q_in0 (i := 17) rfl rfl
theorem cl_X9_103 : q_CV RX9 103 8 yX9_valueAt cX9_valueAt 8 (some .int) 4 := ⟨RX9, TX9, 17, rfl, rfl, q_in4 (i := 4) rfl rfl, wm_X9_valueAt, we_X9_valueAt, wi_X9, wc_X9_valueAt, ⟨by decide +kernel, by decide +kernel, by decide +kernel⟩, by decide⟩
theorem wc_X9_hasType : Cond.code yX9_hasType cX9_hasType 4 (some .boolean) ∈ q_tbl := q_in4 (i := 86) rfl rfl
theorem wm_X9_hasType : Cond.instanceMethod yX9_hasType ∈ q_tbl := q_in4 (i := 85) rfl rfl
theorem we_X9_hasType : Cond.selects RX9 yX9_hasType yX9_hasType ∈ q_tbl := q_in0 (i := 25) rfl rfl
theorem cl_X9_107 : q_CV RX9 107 8 yX9_hasType cX9_hasType 4 (some .boolean) 3 := ⟨RX9, TX9, 17, rfl, rfl, q_in4 (i := 83) rfl rfl, wm_X9_hasType, we_X9_hasType, wi_X9, wc_X9_hasType, ⟨by decide +kernel, by decide +kernel, by decide +kernel⟩, by decide⟩
theorem wc_X9_isBelow : Cond.code yX9_isBelow cX9_isBelow 2 (some .boolean) ∈ q_tbl := q_in4 (i := 89) rfl rfl
theorem wt_X9_isBelow : Cond.static yX9_isBelow ∈ q_tbl := q_in4 (i := 88) rfl rfl
theorem cl_X9_110 : q_CS RX9 110 yX9_isBelow cX9_isBelow 2 (some .boolean) 2 := ⟨q_in4 (i := 87) rfl rfl, wt_X9_isBelow, wi_X9, wc_X9_isBelow, ⟨by decide +kernel, by decide +kernel, by decide +kernel⟩, by decide⟩
theorem wc_X9_isType : Cond.code yX9_isType cX9_isType 1 (some .boolean) ∈ q_tbl := q_in4 (i := 35) rfl rfl
theorem wt_X9_isType : Cond.static yX9_isType ∈ q_tbl := q_in4 (i := 34) rfl rfl
theorem cl_X9_113 : q_CS RX9 113 yX9_isType cX9_isType 1 (some .boolean) 1 := ⟨q_in4 (i := 33) rfl rfl, wt_X9_isType, wi_X9, wc_X9_isType, ⟨by decide +kernel, by decide +kernel, by decide +kernel⟩, by decide⟩
theorem wc_X9_isValue : Cond.code yX9_isValue cX9_isValue 2 (some .boolean) ∈ q_tbl := q_in4 (i := 38) rfl rfl
theorem wt_X9_isValue : Cond.static yX9_isValue ∈ q_tbl := q_in4 (i := 37) rfl rfl
theorem cl_X9_116 : q_CS RX9 116 yX9_isValue cX9_isValue 2 (some .boolean) 2 := ⟨q_in4 (i := 36) rfl rfl, wt_X9_isValue, wi_X9, wc_X9_isValue, ⟨by decide +kernel, by decide +kernel, by decide +kernel⟩, by decide⟩
theorem wc_X9_makes : Cond.code yX9_makes cX9_makes 5 none ∈ q_tbl := q_in4 (i := 42) rfl rfl
theorem wm_X9_makes : Cond.instanceMethod yX9_makes ∈ q_tbl := q_in4 (i := 41) rfl rfl
theorem we_X9_makes : Cond.selects RX9 yX9_makes yX9_makes ∈ q_tbl := q_in0 (i := 19) rfl rfl
theorem cl_X9_119 : q_CV RX9 119 8 yX9_makes cX9_makes 5 none 4 := ⟨RX9, TX9, 17, rfl, rfl, q_in4 (i := 39) rfl rfl, wm_X9_makes, we_X9_makes, wi_X9, wc_X9_makes, ⟨by decide +kernel, by decide +kernel, by decide +kernel⟩, by decide⟩
theorem wc_X9_isThere : Cond.code yX9_isThere cX9_isThere 4 (some .boolean) ∈ q_tbl := q_in4 (i := 54) rfl rfl
theorem wm_X9_isThere : Cond.instanceMethod yX9_isThere ∈ q_tbl := q_in4 (i := 53) rfl rfl
theorem we_X9_isThere : Cond.selects RX9 yX9_isThere yX9_isThere ∈ q_tbl := q_in0 (i := 20) rfl rfl
theorem cl_X9_123 : q_CV RX9 123 8 yX9_isThere cX9_isThere 4 (some .boolean) 2 := ⟨RX9, TX9, 17, rfl, rfl, q_in4 (i := 51) rfl rfl, wm_X9_isThere, we_X9_isThere, wi_X9, wc_X9_isThere, ⟨by decide +kernel, by decide +kernel, by decide +kernel⟩, by decide⟩
theorem wc_X9_responsible : Cond.code yX9_responsible cX9_responsible 10 (some .int) ∈ q_tbl := q_in4 (i := 78) rfl rfl
theorem wm_X9_responsible : Cond.instanceMethod yX9_responsible ∈ q_tbl := q_in4 (i := 77) rfl rfl
theorem we_X9_responsible : Cond.selects RX9 yX9_responsible yX9_responsible ∈ q_tbl := q_in0 (i := 23) rfl rfl
theorem cl_X9_126 : q_CV RX9 126 8 yX9_responsible cX9_responsible 10 (some .int) 3 := ⟨RX9, TX9, 17, rfl, rfl, q_in4 (i := 75) rfl rfl, wm_X9_responsible, we_X9_responsible, wi_X9, wc_X9_responsible, ⟨by decide +kernel, by decide +kernel, by decide +kernel⟩, by decide⟩
theorem wc_X9_exists : Cond.code yX9_exists cX9_exists 6 (some .boolean) ∈ q_tbl := q_in4 (i := 82) rfl rfl
theorem wm_X9_exists : Cond.instanceMethod yX9_exists ∈ q_tbl := q_in4 (i := 81) rfl rfl
theorem we_X9_exists : Cond.selects RX9 yX9_exists yX9_exists ∈ q_tbl := q_in0 (i := 24) rfl rfl
theorem cl_X9_133 : q_CV RX9 133 8 yX9_exists cX9_exists 6 (some .boolean) 3 := ⟨RX9, TX9, 17, rfl, rfl, q_in4 (i := 79) rfl rfl, wm_X9_exists, we_X9_exists, wi_X9, wc_X9_exists, ⟨by decide +kernel, by decide +kernel, by decide +kernel⟩, by decide⟩
theorem wc_X9_patternFor : Cond.code yX9_patternFor cX9_patternFor 1 (some .int) ∈ q_tbl := q_in4 (i := 92) rfl rfl
theorem wt_X9_patternFor : Cond.static yX9_patternFor ∈ q_tbl := q_in4 (i := 91) rfl rfl
theorem cl_X9_136 : q_CS RX9 136 yX9_patternFor cX9_patternFor 1 (some .int) 1 := ⟨q_in4 (i := 90) rfl rfl, wt_X9_patternFor, wi_X9, wc_X9_patternFor, ⟨by decide +kernel, by decide +kernel, by decide +kernel⟩, by decide⟩
theorem wc_X9_isQuestion : Cond.code yX9_isQuestion cX9_isQuestion 4 (some .boolean) ∈ q_tbl := q_in4 (i := 70) rfl rfl
theorem wm_X9_isQuestion : Cond.instanceMethod yX9_isQuestion ∈ q_tbl := q_in4 (i := 69) rfl rfl
theorem we_X9_isQuestion : Cond.selects RX9 yX9_isQuestion yX9_isQuestion ∈ q_tbl := q_in0 (i := 21) rfl rfl
theorem cl_X9_139 : q_CV RX9 139 8 yX9_isQuestion cX9_isQuestion 4 (some .boolean) 3 := ⟨RX9, TX9, 17, rfl, rfl, q_in4 (i := 67) rfl rfl, wm_X9_isQuestion, we_X9_isQuestion, wi_X9, wc_X9_isQuestion, ⟨by decide +kernel, by decide +kernel, by decide +kernel⟩, by decide⟩
theorem wc_X9_finds : Cond.code yX9_finds cX9_finds 9 (some .int) ∈ q_tbl := q_in4 (i := 74) rfl rfl
theorem wm_X9_finds : Cond.instanceMethod yX9_finds ∈ q_tbl := q_in4 (i := 73) rfl rfl
theorem we_X9_finds : Cond.selects RX9 yX9_finds yX9_finds ∈ q_tbl := q_in0 (i := 22) rfl rfl
theorem cl_X9_142 : q_CV RX9 142 8 yX9_finds cX9_finds 9 (some .int) 4 := ⟨RX9, TX9, 17, rfl, rfl, q_in4 (i := 71) rfl rfl, wm_X9_finds, we_X9_finds, wi_X9, wc_X9_finds, ⟨by decide +kernel, by decide +kernel, by decide +kernel⟩, by decide⟩
theorem wc_X9_parts : Cond.code yX9_parts cX9_parts 9 (some .int) ∈ q_tbl := q_in4 (i := 112) rfl rfl
theorem wm_X9_parts : Cond.instanceMethod yX9_parts ∈ q_tbl := q_in4 (i := 111) rfl rfl
theorem we_X9_parts : Cond.selects RX9 yX9_parts yX9_parts ∈ q_tbl := q_in0 (i := 26) rfl rfl
theorem cl_X9_145 : q_CV RX9 145 8 yX9_parts cX9_parts 9 (some .int) 6 := ⟨RX9, TX9, 17, rfl, rfl, q_in4 (i := 109) rfl rfl, wm_X9_parts, we_X9_parts, wi_X9, wc_X9_parts, ⟨by decide +kernel, by decide +kernel, by decide +kernel⟩, by decide⟩
theorem wc_X9_latestEvent : Cond.code yX9_latestEvent cX9_latestEvent 6 (some .int) ∈ q_tbl := q_in4 (i := 128) rfl rfl
theorem wm_X9_latestEvent : Cond.instanceMethod yX9_latestEvent ∈ q_tbl := q_in4 (i := 127) rfl rfl
theorem we_X9_latestEvent : Cond.selects RX9 yX9_latestEvent yX9_latestEvent ∈ q_tbl := q_in0 (i := 27) rfl rfl
theorem cl_X9_149 : q_CV RX9 149 8 yX9_latestEvent cX9_latestEvent 6 (some .int) 1 := ⟨RX9, TX9, 17, rfl, rfl, q_in4 (i := 125) rfl rfl, wm_X9_latestEvent, we_X9_latestEvent, wi_X9, wc_X9_latestEvent, ⟨by decide +kernel, by decide +kernel, by decide +kernel⟩, by decide⟩
theorem wc_X9_isYoung : Cond.code yX9_isYoung cX9_isYoung 2 (some .boolean) ∈ q_tbl := q_in4 (i := 144) rfl rfl
theorem wm_X9_isYoung : Cond.instanceMethod yX9_isYoung ∈ q_tbl := q_in4 (i := 143) rfl rfl
theorem we_X9_isYoung : Cond.selects RX9 yX9_isYoung yX9_isYoung ∈ q_tbl := q_in0 (i := 28) rfl rfl
theorem cl_X9_152 : q_CV RX9 152 8 yX9_isYoung cX9_isYoung 2 (some .boolean) 1 := ⟨RX9, TX9, 17, rfl, rfl, q_in4 (i := 141) rfl rfl, wm_X9_isYoung, we_X9_isYoung, wi_X9, wc_X9_isYoung, ⟨by decide +kernel, by decide +kernel, by decide +kernel⟩, by decide⟩
theorem wc_X9_drops : Cond.code yX9_drops cX9_drops 3 none ∈ q_tbl := q_in4 (i := 148) rfl rfl
theorem wm_X9_drops : Cond.instanceMethod yX9_drops ∈ q_tbl := q_in4 (i := 147) rfl rfl
theorem we_X9_drops : Cond.selects RX9 yX9_drops yX9_drops ∈ q_tbl := q_in0 (i := 29) rfl rfl
theorem cl_X9_155 : q_CV RX9 155 8 yX9_drops cX9_drops 3 none 1 := ⟨RX9, TX9, 17, rfl, rfl, q_in4 (i := 145) rfl rfl, wm_X9_drops, we_X9_drops, wi_X9, wc_X9_drops, ⟨by decide +kernel, by decide +kernel, by decide +kernel⟩, by decide⟩
theorem wc_X9_isHere : Cond.code yX9_isHere cX9_isHere 3 (some .boolean) ∈ q_tbl := q_in4 (i := 180) rfl rfl
theorem wm_X9_isHere : Cond.instanceMethod yX9_isHere ∈ q_tbl := q_in4 (i := 179) rfl rfl
theorem we_X9_isHere : Cond.selects RX9 yX9_isHere yX9_isHere ∈ q_tbl := q_in0 (i := 33) rfl rfl
theorem cl_X9_168 : q_CV RX9 168 8 yX9_isHere cX9_isHere 3 (some .boolean) 2 := ⟨RX9, TX9, 17, rfl, rfl, q_in4 (i := 177) rfl rfl, wm_X9_isHere, we_X9_isHere, wi_X9, wc_X9_isHere, ⟨by decide +kernel, by decide +kernel, by decide +kernel⟩, by decide⟩
theorem wc_X9_isLabels : Cond.code yX9_isLabels cX9_isLabels 3 (some .boolean) ∈ q_tbl := q_in4 (i := 176) rfl rfl
theorem wm_X9_isLabels : Cond.instanceMethod yX9_isLabels ∈ q_tbl := q_in4 (i := 175) rfl rfl
theorem we_X9_isLabels : Cond.selects RX9 yX9_isLabels yX9_isLabels ∈ q_tbl := q_in0 (i := 32) rfl rfl
theorem cl_X9_171 : q_CV RX9 171 8 yX9_isLabels cX9_isLabels 3 (some .boolean) 0 := ⟨RX9, TX9, 17, rfl, rfl, q_in4 (i := 173) rfl rfl, wm_X9_isLabels, we_X9_isLabels, wi_X9, wc_X9_isLabels, ⟨by decide +kernel, by decide +kernel, by decide +kernel⟩, by decide⟩
theorem wc_X9_takes : Cond.code yX9_takes cX9_takes 3 (some .boolean) ∈ q_tbl := q_in4 (i := 184) rfl rfl
theorem wm_X9_takes : Cond.instanceMethod yX9_takes ∈ q_tbl := q_in4 (i := 183) rfl rfl
theorem we_X9_takes : Cond.selects RX9 yX9_takes yX9_takes ∈ q_tbl := q_in0 (i := 34) rfl rfl
theorem cl_X9_175 : q_CV RX9 175 8 yX9_takes cX9_takes 3 (some .boolean) 1 := ⟨RX9, TX9, 17, rfl, rfl, q_in4 (i := 181) rfl rfl, wm_X9_takes, we_X9_takes, wi_X9, wc_X9_takes, ⟨by decide +kernel, by decide +kernel, by decide +kernel⟩, by decide⟩
theorem wc_X9_isDigits : Cond.code yX9_isDigits cX9_isDigits 2 (some .boolean) ∈ q_tbl := q_in4 (i := 188) rfl rfl
theorem wm_X9_isDigits : Cond.instanceMethod yX9_isDigits ∈ q_tbl := q_in4 (i := 187) rfl rfl
theorem we_X9_isDigits : Cond.selects RX9 yX9_isDigits yX9_isDigits ∈ q_tbl := q_in0 (i := 35) rfl rfl
theorem cl_X9_178 : q_CV RX9 178 8 yX9_isDigits cX9_isDigits 2 (some .boolean) 0 := ⟨RX9, TX9, 17, rfl, rfl, q_in4 (i := 185) rfl rfl, wm_X9_isDigits, we_X9_isDigits, wi_X9, wc_X9_isDigits, ⟨by decide +kernel, by decide +kernel, by decide +kernel⟩, by decide⟩
theorem wc_X9_isChange : Cond.code yX9_isChange cX9_isChange 1 (some .boolean) ∈ q_tbl := q_in4 (i := 172) rfl rfl
theorem wm_X9_isChange : Cond.instanceMethod yX9_isChange ∈ q_tbl := q_in4 (i := 171) rfl rfl
theorem we_X9_isChange : Cond.selects RX9 yX9_isChange yX9_isChange ∈ q_tbl := q_in0 (i := 31) rfl rfl
theorem cl_X9_181 : q_CV RX9 181 8 yX9_isChange cX9_isChange 1 (some .boolean) 0 := ⟨RX9, TX9, 17, rfl, rfl, q_in4 (i := 169) rfl rfl, wm_X9_isChange, we_X9_isChange, wi_X9, wc_X9_isChange, ⟨by decide +kernel, by decide +kernel, by decide +kernel⟩, by decide⟩
theorem wc_X9_faultAt : Cond.code yX9_faultAt cX9_faultAt 2 (some .int) ∈ q_tbl := q_in4 (i := 168) rfl rfl
theorem wm_X9_faultAt : Cond.instanceMethod yX9_faultAt ∈ q_tbl := q_in4 (i := 167) rfl rfl
theorem we_X9_faultAt : Cond.selects RX9 yX9_faultAt yX9_faultAt ∈ q_tbl := q_in0 (i := 30) rfl rfl
theorem cl_X9_184 : q_CV RX9 184 8 yX9_faultAt cX9_faultAt 2 (some .int) 0 := ⟨RX9, TX9, 17, rfl, rfl, q_in4 (i := 165) rfl rfl, wm_X9_faultAt, we_X9_faultAt, wi_X9, wc_X9_faultAt, ⟨by decide +kernel, by decide +kernel, by decide +kernel⟩, by decide⟩
end
