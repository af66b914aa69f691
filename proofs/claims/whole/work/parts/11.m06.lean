def fX6_readChange (a1 : Int32) (S : qS) : Option (Int32 × qS) := (fX6_digits a1 49 52 S).bind (fun r7 => (fX6_characterAt ((a1 + r7) + 1) S).bind (fun r16 => if (a1 + r7) = a1 then some ((-1), S) else (fX6_characterAt (a1 + r7) S).bind (fun r30 => if r30 = 58 then (fX8_isType (r16 - 48) S).bind (fun r39 => if r39 = true then (fX6_characterAt ((a1 + r7) + 2) S).bind (fun r64 => if r64 = 61 then if (r16 - 48) = 1 then (fX6_digits (((a1 + r7) + 2) + 1) 49 52 S).bind (fun r86 => if (r16 - 48) = 1 then (fX6_nameIn (((a1 + r7) + 2) + 1) ((((a1 + r7) + 2) + 1) + r86) S).bind (fun r117 => if ((((a1 + r7) + 2) + 1) + r86) = (((a1 + r7) + 2) + 1) then some ((-1), S) else (fX8_isValue (r16 - 48) r117 S).bind (fun r147 => if r147 = true then (fX6_characterAt ((((a1 + r7) + 2) + 1) + r86) S).bind (fun r171 => if r171 = 59 then if (S 29 5) < 12 then (fX6_nameIn a1 (a1 + r7) S).bind (fun r201 => if q_inb (S 29 5) 12 = true then if q_inb (S 29 5) 12 = true then if q_inb (S 29 5) 12 = true then some ((((((a1 + r7) + 2) + 1) + r86) + 1), (q_up (q_up (q_up (q_up S 31 ((S 29 5).toNatClampNeg) r201) 32 ((S 29 5).toNatClampNeg) (r16 - 48)) 33 ((S 29 5).toNatClampNeg) r117) 29 5 ((S 29 5) + 1))) else none else none else none) else some ((-1), S) else some ((-1), S)) else some ((-1), S))) else (fX6_numberIn (((a1 + r7) + 2) + 1) ((((a1 + r7) + 2) + 1) + r86) S).bind (fun r130 => if ((((a1 + r7) + 2) + 1) + r86) = (((a1 + r7) + 2) + 1) then some ((-1), S) else (fX8_isValue (r16 - 48) r130 S).bind (fun r147 => if r147 = true then (fX6_characterAt ((((a1 + r7) + 2) + 1) + r86) S).bind (fun r171 => if r171 = 59 then if (S 29 5) < 12 then (fX6_nameIn a1 (a1 + r7) S).bind (fun r201 => if q_inb (S 29 5) 12 = true then if q_inb (S 29 5) 12 = true then if q_inb (S 29 5) 12 = true then some ((((((a1 + r7) + 2) + 1) + r86) + 1), (q_up (q_up (q_up (q_up S 31 ((S 29 5).toNatClampNeg) r201) 32 ((S 29 5).toNatClampNeg) (r16 - 48)) 33 ((S 29 5).toNatClampNeg) r130) 29 5 ((S 29 5) + 1))) else none else none else none) else some ((-1), S) else some ((-1), S)) else some ((-1), S)))) else (fX6_digits (((a1 + r7) + 2) + 1) 48 57 S).bind (fun r99 => if (r16 - 48) = 1 then (fX6_nameIn (((a1 + r7) + 2) + 1) ((((a1 + r7) + 2) + 1) + r99) S).bind (fun r117 => if ((((a1 + r7) + 2) + 1) + r99) = (((a1 + r7) + 2) + 1) then some ((-1), S) else (fX8_isValue (r16 - 48) r117 S).bind (fun r147 => if r147 = true then (fX6_characterAt ((((a1 + r7) + 2) + 1) + r99) S).bind (fun r171 => if r171 = 59 then if (S 29 5) < 12 then (fX6_nameIn a1 (a1 + r7) S).bind (fun r201 => if q_inb (S 29 5) 12 = true then if q_inb (S 29 5) 12 = true then if q_inb (S 29 5) 12 = true then some ((((((a1 + r7) + 2) + 1) + r99) + 1), (q_up (q_up (q_up (q_up S 31 ((S 29 5).toNatClampNeg) r201) 32 ((S 29 5).toNatClampNeg) (r16 - 48)) 33 ((S 29 5).toNatClampNeg) r117) 29 5 ((S 29 5) + 1))) else none else none else none) else some ((-1), S) else some ((-1), S)) else some ((-1), S))) else (fX6_numberIn (((a1 + r7) + 2) + 1) ((((a1 + r7) + 2) + 1) + r99) S).bind (fun r130 => if ((((a1 + r7) + 2) + 1) + r99) = (((a1 + r7) + 2) + 1) then some ((-1), S) else (fX8_isValue (r16 - 48) r130 S).bind (fun r147 => if r147 = true then (fX6_characterAt ((((a1 + r7) + 2) + 1) + r99) S).bind (fun r171 => if r171 = 59 then if (S 29 5) < 12 then (fX6_nameIn a1 (a1 + r7) S).bind (fun r201 => if q_inb (S 29 5) 12 = true then if q_inb (S 29 5) 12 = true then if q_inb (S 29 5) 12 = true then some ((((((a1 + r7) + 2) + 1) + r99) + 1), (q_up (q_up (q_up (q_up S 31 ((S 29 5).toNatClampNeg) r201) 32 ((S 29 5).toNatClampNeg) (r16 - 48)) 33 ((S 29 5).toNatClampNeg) r130) 29 5 ((S 29 5) + 1))) else none else none else none) else some ((-1), S) else some ((-1), S)) else some ((-1), S)))) else (fX6_characterAt ((a1 + r7) + 2) S).bind (fun r158 => if r158 = 45 then (fX6_characterAt (((a1 + r7) + 2) + 1) S).bind (fun r171 => if r171 = 59 then if (S 29 5) < 12 then (fX6_nameIn a1 (a1 + r7) S).bind (fun r201 => if q_inb (S 29 5) 12 = true then if q_inb (S 29 5) 12 = true then if q_inb (S 29 5) 12 = true then some (((((a1 + r7) + 2) + 1) + 1), (q_up (q_up (q_up (q_up S 31 ((S 29 5).toNatClampNeg) r201) 32 ((S 29 5).toNatClampNeg) (r16 - 48)) 33 ((S 29 5).toNatClampNeg) (-1)) 29 5 ((S 29 5) + 1))) else none else none else none) else some ((-1), S) else some ((-1), S)) else some ((-1), S))) else some ((-1), S)) else some ((-1), S))))
set_option maxHeartbeats 4000000 in
set_option maxRecDepth 100000 in
theorem sX6_readChange {l : Launch} {d : Nat} (hd : 2 ≤ d) {S : qS} {a1 : Int32} {r : Int32} {S' : qS} (h : fX6_readChange a1 S = some (r, S')) {Q : Int32 → qS → Prop} (k : Q r S') : q_Mi l d yX6_readChange cX6_readChange 7 (some .int) [.inr 29, .inl a1] S Q := by
  refine q_Mi_of (own := RX6) rfl rfl [some (.inr 29), some (.inl a1), none, none, none, none, none] rfl (Nat.le_of_ble_eq_true rfl) ?_
  unfold fX6_readChange at h
  refine q_iload_n dX6_readChange_0 rfl ?_
  refine q_aload_n dX6_readChange_1 rfl ?_
  refine q_iload_n dX6_readChange_2 rfl ?_
  refine q_bipush (v := 49) dX6_readChange_3 (by decide) ?_
  refine q_bipush (v := 52) dX6_readChange_5 (by decide) ?_
  obtain ⟨r7, h7, h⟩ := q_bnd h
  refine q_callVi3 dX6_readChange_7 cl_X6_41 rfl (Nat.le_of_ble_eq_true rfl) (by omega) (sX6_digits (by omega) h7 ?_)
  refine q_iadd dX6_readChange_10 ?_
  refine q_istore_n dX6_readChange_11 (by decide) ?_
  refine q_aload_n dX6_readChange_12 rfl ?_
  refine q_iload_n dX6_readChange_13 rfl ?_
  refine q_iconst (v := 1) dX6_readChange_14 (by decide) ?_
  refine q_iadd dX6_readChange_15 ?_
  obtain ⟨r16, h16, h⟩ := q_bnd h
  refine q_callVi1 dX6_readChange_16 cl_X6_45 rfl (Nat.le_of_ble_eq_true rfl) (by omega) (sX6_characterAt (by omega) h16 ?_)
  refine q_bipush (v := 48) dX6_readChange_19 (by decide) ?_
  refine q_isub dX6_readChange_21 ?_
  refine q_istore_n dX6_readChange_22 (by decide) ?_
  refine q_iload_n dX6_readChange_23 rfl ?_
  refine q_iload_n dX6_readChange_24 rfl ?_
  refine q_icmp_eq 45 dX6_readChange_25 (by decide) (fun c25 => ?_) (fun c25 => ?_)
  · replace h := q_ift c25 h
    refine q_iconst (v := (-1)) dX6_readChange_45 (by decide) ?_
    exact q_ret dX6_readChange_46 rfl rfl (q_lfiw h k)
  · replace h := q_iff c25 h
    refine q_aload_n dX6_readChange_28 rfl ?_
    refine q_iload_n dX6_readChange_29 rfl ?_
    obtain ⟨r30, h30, h⟩ := q_bnd h
    refine q_callVi1 dX6_readChange_30 cl_X6_45 rfl (Nat.le_of_ble_eq_true rfl) (by omega) (sX6_characterAt (by omega) h30 ?_)
    refine q_bipush (v := 58) dX6_readChange_33 (by decide) ?_
    refine q_icmp_ne 45 dX6_readChange_35 (by decide) (fun c35 => ?_) (fun c35 => ?_)
    · replace h := q_iff c35 h
      refine q_iconst (v := (-1)) dX6_readChange_45 (by decide) ?_
      exact q_ret dX6_readChange_46 rfl rfl (q_lfiw h k)
    · replace h := q_ift c35 h
      refine q_iload_n dX6_readChange_38 rfl ?_
      obtain ⟨r39, h39, h⟩ := q_bnd h
      refine q_callNi1 dX6_readChange_39 cl_X6_48 (Nat.le_of_ble_eq_true rfl) (by omega) (sX8_isType (by omega) h39 ?_)
      refine q_if_ne_b 47 dX6_readChange_42 (by decide) (fun c42 => ?_) (fun c42 => ?_)
      · replace h := q_ift c42 h
        refine q_iload_n dX6_readChange_47 rfl ?_
        refine q_iconst (v := 2) dX6_readChange_48 (by decide) ?_
        refine q_iadd dX6_readChange_49 ?_
        refine q_istore dX6_readChange_50 (by decide) ?_
        refine q_iconst (v := (-1)) dX6_readChange_52 (by decide) ?_
        refine q_istore dX6_readChange_53 (by decide) ?_
        refine q_iload dX6_readChange_55 rfl ?_
        refine q_iconst (v := 1) dX6_readChange_57 (by decide) ?_
        refine q_iadd dX6_readChange_58 ?_
        refine q_istore dX6_readChange_59 (by decide) ?_
        refine q_aload_n dX6_readChange_61 rfl ?_
        refine q_iload dX6_readChange_62 rfl ?_
        obtain ⟨r64, h64, h⟩ := q_bnd h
        refine q_callVi1 dX6_readChange_64 cl_X6_45 rfl (Nat.le_of_ble_eq_true rfl) (by omega) (sX6_characterAt (by omega) h64 ?_)
        refine q_bipush (v := 61) dX6_readChange_67 (by decide) ?_
        refine q_icmp_ne 155 dX6_readChange_69 (by decide) (fun c69 => ?_) (fun c69 => ?_)
        · replace h := q_iff c69 h
          refine q_aload_n dX6_readChange_155 rfl ?_
          refine q_iload dX6_readChange_156 rfl ?_
          obtain ⟨r158, h158, h⟩ := q_bnd h
          refine q_callVi1 dX6_readChange_158 cl_X6_45 rfl (Nat.le_of_ble_eq_true rfl) (by omega) (sX6_characterAt (by omega) h158 ?_)
          refine q_bipush (v := 45) dX6_readChange_161 (by decide) ?_
          refine q_icmp_eq 168 dX6_readChange_163 (by decide) (fun c163 => ?_) (fun c163 => ?_)
          · replace h := q_ift c163 h
            refine q_aload_n dX6_readChange_168 rfl ?_
            refine q_iload dX6_readChange_169 rfl ?_
            obtain ⟨r171, h171, h⟩ := q_bnd h
            refine q_callVi1 dX6_readChange_171 cl_X6_45 rfl (Nat.le_of_ble_eq_true rfl) (by omega) (sX6_characterAt (by omega) h171 ?_)
            refine q_bipush (v := 59) dX6_readChange_174 (by decide) ?_
            refine q_icmp_ne 188 dX6_readChange_176 (by decide) (fun c176 => ?_) (fun c176 => ?_)
            · replace h := q_iff c176 h
              refine q_iconst (v := (-1)) dX6_readChange_188 (by decide) ?_
              exact q_ret dX6_readChange_189 rfl rfl (q_lfiw h k)
            · replace h := q_ift c176 h
              refine q_aload_n dX6_readChange_179 rfl ?_
              refine q_geti dX6_readChange_180 fl_X6_28 rfl rfl ?_
              refine q_bipush (v := 12) dX6_readChange_183 (by decide) ?_
              refine q_icmp_lt 190 dX6_readChange_185 (by decide) (fun c185 => ?_) (fun c185 => ?_)
              · replace h := q_ift c185 h
                refine q_aload_n dX6_readChange_190 rfl ?_
                refine q_getr dX6_readChange_191 fl_X6_19 rfl rfl ?_
                refine q_aload_n dX6_readChange_194 rfl ?_
                refine q_geti dX6_readChange_195 fl_X6_28 rfl rfl ?_
                refine q_aload_n dX6_readChange_198 rfl ?_
                refine q_iload_n dX6_readChange_199 rfl ?_
                refine q_iload_n dX6_readChange_200 rfl ?_
                obtain ⟨r201, h201, h⟩ := q_bnd h
                refine q_callVi2 dX6_readChange_201 cl_X6_54 rfl (Nat.le_of_ble_eq_true rfl) (by omega) (sX6_nameIn (by omega) h201 ?_)
                obtain ⟨g204, h⟩ := q_gd h
                refine q_iast dX6_readChange_204 rfl g204 ?_
                refine q_aload_n dX6_readChange_205 rfl ?_
                refine q_getr dX6_readChange_206 fl_X6_22 rfl rfl ?_
                refine q_aload_n dX6_readChange_209 rfl ?_
                refine q_geti dX6_readChange_210 fl_X6_28 rfl rfl ?_
                refine q_iload_n dX6_readChange_213 rfl ?_
                obtain ⟨g214, h⟩ := q_gd h
                refine q_iast dX6_readChange_214 rfl g214 ?_
                refine q_aload_n dX6_readChange_215 rfl ?_
                refine q_getr dX6_readChange_216 fl_X6_25 rfl rfl ?_
                refine q_aload_n dX6_readChange_219 rfl ?_
                refine q_geti dX6_readChange_220 fl_X6_28 rfl rfl ?_
                refine q_iload dX6_readChange_223 rfl ?_
                obtain ⟨g225, h⟩ := q_gd h
                refine q_iast dX6_readChange_225 rfl g225 ?_
                refine q_aload_n dX6_readChange_226 rfl ?_
                refine q_dup dX6_readChange_227 ?_
                refine q_geti dX6_readChange_228 fl_X6_28 rfl rfl ?_
                refine q_iconst (v := 1) dX6_readChange_231 (by decide) ?_
                refine q_iadd dX6_readChange_232 ?_
                refine q_put dX6_readChange_233 fl_X6_28 fp_5_5 rfl rfl ?_
                refine q_iload dX6_readChange_236 rfl ?_
                refine q_iconst (v := 1) dX6_readChange_238 (by decide) ?_
                refine q_iadd dX6_readChange_239 ?_
                exact q_ret dX6_readChange_240 rfl rfl (q_lfiw h k)
              · replace h := q_iff c185 h
                refine q_iconst (v := (-1)) dX6_readChange_188 (by decide) ?_
                exact q_ret dX6_readChange_189 rfl rfl (q_lfiw h k)
          · replace h := q_iff c163 h
            refine q_iconst (v := (-1)) dX6_readChange_166 (by decide) ?_
            exact q_ret dX6_readChange_167 rfl rfl (q_lfiw h k)
        · replace h := q_ift c69 h
          refine q_iload dX6_readChange_72 rfl ?_
          refine q_iload_n dX6_readChange_74 rfl ?_
          refine q_iconst (v := 1) dX6_readChange_75 (by decide) ?_
          refine q_icmp_ne 92 dX6_readChange_76 (by decide) (fun c76 => ?_) (fun c76 => ?_)
          · replace h := q_iff c76 h
            refine q_aload_n dX6_readChange_92 rfl ?_
            refine q_iload dX6_readChange_93 rfl ?_
            refine q_bipush (v := 48) dX6_readChange_95 (by decide) ?_
            refine q_bipush (v := 57) dX6_readChange_97 (by decide) ?_
            obtain ⟨r99, h99, h⟩ := q_bnd h
            refine q_callVi3 dX6_readChange_99 cl_X6_41 rfl (Nat.le_of_ble_eq_true rfl) (by omega) (sX6_digits (by omega) h99 ?_)
            refine q_iadd dX6_readChange_102 ?_
            refine q_istore dX6_readChange_103 (by decide) ?_
            refine q_iload_n dX6_readChange_105 rfl ?_
            refine q_iconst (v := 1) dX6_readChange_106 (by decide) ?_
            refine q_icmp_ne 123 dX6_readChange_107 (by decide) (fun c107 => ?_) (fun c107 => ?_)
            · replace h := q_iff c107 h
              refine q_aload_n dX6_readChange_123 rfl ?_
              refine q_iload dX6_readChange_124 rfl ?_
              refine q_iconst (v := 1) dX6_readChange_126 (by decide) ?_
              refine q_iadd dX6_readChange_127 ?_
              refine q_iload dX6_readChange_128 rfl ?_
              obtain ⟨r130, h130, h⟩ := q_bnd h
              refine q_callVi2 dX6_readChange_130 cl_X6_58 rfl (Nat.le_of_ble_eq_true rfl) (by omega) (sX6_numberIn (by omega) h130 ?_)
              refine q_istore dX6_readChange_133 (by decide) ?_
              refine q_iload dX6_readChange_135 rfl ?_
              refine q_iload dX6_readChange_137 rfl ?_
              refine q_iconst (v := 1) dX6_readChange_139 (by decide) ?_
              refine q_iadd dX6_readChange_140 ?_
              refine q_icmp_eq 153 dX6_readChange_141 (by decide) (fun c141 => ?_) (fun c141 => ?_)
              · replace h := q_ift c141 h
                refine q_iconst (v := (-1)) dX6_readChange_153 (by decide) ?_
                exact q_ret dX6_readChange_154 rfl rfl (q_lfiw h k)
              · replace h := q_iff c141 h
                refine q_iload_n dX6_readChange_144 rfl ?_
                refine q_iload dX6_readChange_145 rfl ?_
                obtain ⟨r147, h147, h⟩ := q_bnd h
                refine q_callNi2 dX6_readChange_147 cl_X6_61 (Nat.le_of_ble_eq_true rfl) (by omega) (sX8_isValue (by omega) h147 ?_)
                refine q_if_ne_b 168 dX6_readChange_150 (by decide) (fun c150 => ?_) (fun c150 => ?_)
                · replace h := q_ift c150 h
                  refine q_aload_n dX6_readChange_168 rfl ?_
                  refine q_iload dX6_readChange_169 rfl ?_
                  obtain ⟨r171, h171, h⟩ := q_bnd h
                  refine q_callVi1 dX6_readChange_171 cl_X6_45 rfl (Nat.le_of_ble_eq_true rfl) (by omega) (sX6_characterAt (by omega) h171 ?_)
                  refine q_bipush (v := 59) dX6_readChange_174 (by decide) ?_
                  refine q_icmp_ne 188 dX6_readChange_176 (by decide) (fun c176 => ?_) (fun c176 => ?_)
                  · replace h := q_iff c176 h
                    refine q_iconst (v := (-1)) dX6_readChange_188 (by decide) ?_
                    exact q_ret dX6_readChange_189 rfl rfl (q_lfiw h k)
                  · replace h := q_ift c176 h
                    refine q_aload_n dX6_readChange_179 rfl ?_
                    refine q_geti dX6_readChange_180 fl_X6_28 rfl rfl ?_
                    refine q_bipush (v := 12) dX6_readChange_183 (by decide) ?_
                    refine q_icmp_lt 190 dX6_readChange_185 (by decide) (fun c185 => ?_) (fun c185 => ?_)
                    · replace h := q_ift c185 h
                      refine q_aload_n dX6_readChange_190 rfl ?_
                      refine q_getr dX6_readChange_191 fl_X6_19 rfl rfl ?_
                      refine q_aload_n dX6_readChange_194 rfl ?_
                      refine q_geti dX6_readChange_195 fl_X6_28 rfl rfl ?_
                      refine q_aload_n dX6_readChange_198 rfl ?_
                      refine q_iload_n dX6_readChange_199 rfl ?_
                      refine q_iload_n dX6_readChange_200 rfl ?_
                      obtain ⟨r201, h201, h⟩ := q_bnd h
                      refine q_callVi2 dX6_readChange_201 cl_X6_54 rfl (Nat.le_of_ble_eq_true rfl) (by omega) (sX6_nameIn (by omega) h201 ?_)
                      obtain ⟨g204, h⟩ := q_gd h
                      refine q_iast dX6_readChange_204 rfl g204 ?_
                      refine q_aload_n dX6_readChange_205 rfl ?_
                      refine q_getr dX6_readChange_206 fl_X6_22 rfl rfl ?_
                      refine q_aload_n dX6_readChange_209 rfl ?_
                      refine q_geti dX6_readChange_210 fl_X6_28 rfl rfl ?_
                      refine q_iload_n dX6_readChange_213 rfl ?_
                      obtain ⟨g214, h⟩ := q_gd h
                      refine q_iast dX6_readChange_214 rfl g214 ?_
                      refine q_aload_n dX6_readChange_215 rfl ?_
                      refine q_getr dX6_readChange_216 fl_X6_25 rfl rfl ?_
                      refine q_aload_n dX6_readChange_219 rfl ?_
                      refine q_geti dX6_readChange_220 fl_X6_28 rfl rfl ?_
                      refine q_iload dX6_readChange_223 rfl ?_
                      obtain ⟨g225, h⟩ := q_gd h
                      refine q_iast dX6_readChange_225 rfl g225 ?_
                      refine q_aload_n dX6_readChange_226 rfl ?_
                      refine q_dup dX6_readChange_227 ?_
                      refine q_geti dX6_readChange_228 fl_X6_28 rfl rfl ?_
                      refine q_iconst (v := 1) dX6_readChange_231 (by decide) ?_
                      refine q_iadd dX6_readChange_232 ?_
                      refine q_put dX6_readChange_233 fl_X6_28 fp_5_5 rfl rfl ?_
                      refine q_iload dX6_readChange_236 rfl ?_
                      refine q_iconst (v := 1) dX6_readChange_238 (by decide) ?_
                      refine q_iadd dX6_readChange_239 ?_
                      exact q_ret dX6_readChange_240 rfl rfl (q_lfiw h k)
                    · replace h := q_iff c185 h
                      refine q_iconst (v := (-1)) dX6_readChange_188 (by decide) ?_
                      exact q_ret dX6_readChange_189 rfl rfl (q_lfiw h k)
                · replace h := q_ifb c150 h
                  refine q_iconst (v := (-1)) dX6_readChange_153 (by decide) ?_
                  exact q_ret dX6_readChange_154 rfl rfl (q_lfiw h k)
            · replace h := q_ift c107 h
              refine q_aload_n dX6_readChange_110 rfl ?_
              refine q_iload dX6_readChange_111 rfl ?_
              refine q_iconst (v := 1) dX6_readChange_113 (by decide) ?_
              refine q_iadd dX6_readChange_114 ?_
              refine q_iload dX6_readChange_115 rfl ?_
              obtain ⟨r117, h117, h⟩ := q_bnd h
              refine q_callVi2 dX6_readChange_117 cl_X6_54 rfl (Nat.le_of_ble_eq_true rfl) (by omega) (sX6_nameIn (by omega) h117 ?_)
              refine q_goto 133 dX6_readChange_120 (by decide) ?_
              refine q_istore dX6_readChange_133 (by decide) ?_
              refine q_iload dX6_readChange_135 rfl ?_
              refine q_iload dX6_readChange_137 rfl ?_
              refine q_iconst (v := 1) dX6_readChange_139 (by decide) ?_
              refine q_iadd dX6_readChange_140 ?_
              refine q_icmp_eq 153 dX6_readChange_141 (by decide) (fun c141 => ?_) (fun c141 => ?_)
              · replace h := q_ift c141 h
                refine q_iconst (v := (-1)) dX6_readChange_153 (by decide) ?_
                exact q_ret dX6_readChange_154 rfl rfl (q_lfiw h k)
              · replace h := q_iff c141 h
                refine q_iload_n dX6_readChange_144 rfl ?_
                refine q_iload dX6_readChange_145 rfl ?_
                obtain ⟨r147, h147, h⟩ := q_bnd h
                refine q_callNi2 dX6_readChange_147 cl_X6_61 (Nat.le_of_ble_eq_true rfl) (by omega) (sX8_isValue (by omega) h147 ?_)
                refine q_if_ne_b 168 dX6_readChange_150 (by decide) (fun c150 => ?_) (fun c150 => ?_)
                · replace h := q_ift c150 h
                  refine q_aload_n dX6_readChange_168 rfl ?_
                  refine q_iload dX6_readChange_169 rfl ?_
                  obtain ⟨r171, h171, h⟩ := q_bnd h
                  refine q_callVi1 dX6_readChange_171 cl_X6_45 rfl (Nat.le_of_ble_eq_true rfl) (by omega) (sX6_characterAt (by omega) h171 ?_)
                  refine q_bipush (v := 59) dX6_readChange_174 (by decide) ?_
                  refine q_icmp_ne 188 dX6_readChange_176 (by decide) (fun c176 => ?_) (fun c176 => ?_)
                  · replace h := q_iff c176 h
                    refine q_iconst (v := (-1)) dX6_readChange_188 (by decide) ?_
                    exact q_ret dX6_readChange_189 rfl rfl (q_lfiw h k)
                  · replace h := q_ift c176 h
                    refine q_aload_n dX6_readChange_179 rfl ?_
                    refine q_geti dX6_readChange_180 fl_X6_28 rfl rfl ?_
                    refine q_bipush (v := 12) dX6_readChange_183 (by decide) ?_
                    refine q_icmp_lt 190 dX6_readChange_185 (by decide) (fun c185 => ?_) (fun c185 => ?_)
                    · replace h := q_ift c185 h
                      refine q_aload_n dX6_readChange_190 rfl ?_
                      refine q_getr dX6_readChange_191 fl_X6_19 rfl rfl ?_
                      refine q_aload_n dX6_readChange_194 rfl ?_
                      refine q_geti dX6_readChange_195 fl_X6_28 rfl rfl ?_
                      refine q_aload_n dX6_readChange_198 rfl ?_
                      refine q_iload_n dX6_readChange_199 rfl ?_
                      refine q_iload_n dX6_readChange_200 rfl ?_
                      obtain ⟨r201, h201, h⟩ := q_bnd h
                      refine q_callVi2 dX6_readChange_201 cl_X6_54 rfl (Nat.le_of_ble_eq_true rfl) (by omega) (sX6_nameIn (by omega) h201 ?_)
                      obtain ⟨g204, h⟩ := q_gd h
                      refine q_iast dX6_readChange_204 rfl g204 ?_
                      refine q_aload_n dX6_readChange_205 rfl ?_
                      refine q_getr dX6_readChange_206 fl_X6_22 rfl rfl ?_
                      refine q_aload_n dX6_readChange_209 rfl ?_
                      refine q_geti dX6_readChange_210 fl_X6_28 rfl rfl ?_
                      refine q_iload_n dX6_readChange_213 rfl ?_
                      obtain ⟨g214, h⟩ := q_gd h
                      refine q_iast dX6_readChange_214 rfl g214 ?_
                      refine q_aload_n dX6_readChange_215 rfl ?_
                      refine q_getr dX6_readChange_216 fl_X6_25 rfl rfl ?_
                      refine q_aload_n dX6_readChange_219 rfl ?_
                      refine q_geti dX6_readChange_220 fl_X6_28 rfl rfl ?_
                      refine q_iload dX6_readChange_223 rfl ?_
                      obtain ⟨g225, h⟩ := q_gd h
                      refine q_iast dX6_readChange_225 rfl g225 ?_
                      refine q_aload_n dX6_readChange_226 rfl ?_
                      refine q_dup dX6_readChange_227 ?_
                      refine q_geti dX6_readChange_228 fl_X6_28 rfl rfl ?_
                      refine q_iconst (v := 1) dX6_readChange_231 (by decide) ?_
                      refine q_iadd dX6_readChange_232 ?_
                      refine q_put dX6_readChange_233 fl_X6_28 fp_5_5 rfl rfl ?_
                      refine q_iload dX6_readChange_236 rfl ?_
                      refine q_iconst (v := 1) dX6_readChange_238 (by decide) ?_
                      refine q_iadd dX6_readChange_239 ?_
                      exact q_ret dX6_readChange_240 rfl rfl (q_lfiw h k)
                    · replace h := q_iff c185 h
                      refine q_iconst (v := (-1)) dX6_readChange_188 (by decide) ?_
                      exact q_ret dX6_readChange_189 rfl rfl (q_lfiw h k)
                · replace h := q_ifb c150 h
                  refine q_iconst (v := (-1)) dX6_readChange_153 (by decide) ?_
                  exact q_ret dX6_readChange_154 rfl rfl (q_lfiw h k)
          · replace h := q_ift c76 h
            refine q_aload_n dX6_readChange_79 rfl ?_
            refine q_iload dX6_readChange_80 rfl ?_
            refine q_bipush (v := 49) dX6_readChange_82 (by decide) ?_
            refine q_bipush (v := 52) dX6_readChange_84 (by decide) ?_
            obtain ⟨r86, h86, h⟩ := q_bnd h
            refine q_callVi3 dX6_readChange_86 cl_X6_41 rfl (Nat.le_of_ble_eq_true rfl) (by omega) (sX6_digits (by omega) h86 ?_)
            refine q_goto 102 dX6_readChange_89 (by decide) ?_
            refine q_iadd dX6_readChange_102 ?_
            refine q_istore dX6_readChange_103 (by decide) ?_
            refine q_iload_n dX6_readChange_105 rfl ?_
            refine q_iconst (v := 1) dX6_readChange_106 (by decide) ?_
            refine q_icmp_ne 123 dX6_readChange_107 (by decide) (fun c107 => ?_) (fun c107 => ?_)
            · replace h := q_iff c107 h
              refine q_aload_n dX6_readChange_123 rfl ?_
              refine q_iload dX6_readChange_124 rfl ?_
              refine q_iconst (v := 1) dX6_readChange_126 (by decide) ?_
              refine q_iadd dX6_readChange_127 ?_
              refine q_iload dX6_readChange_128 rfl ?_
              obtain ⟨r130, h130, h⟩ := q_bnd h
              refine q_callVi2 dX6_readChange_130 cl_X6_58 rfl (Nat.le_of_ble_eq_true rfl) (by omega) (sX6_numberIn (by omega) h130 ?_)
              refine q_istore dX6_readChange_133 (by decide) ?_
              refine q_iload dX6_readChange_135 rfl ?_
              refine q_iload dX6_readChange_137 rfl ?_
              refine q_iconst (v := 1) dX6_readChange_139 (by decide) ?_
              refine q_iadd dX6_readChange_140 ?_
              refine q_icmp_eq 153 dX6_readChange_141 (by decide) (fun c141 => ?_) (fun c141 => ?_)
              · replace h := q_ift c141 h
                refine q_iconst (v := (-1)) dX6_readChange_153 (by decide) ?_
                exact q_ret dX6_readChange_154 rfl rfl (q_lfiw h k)
              · replace h := q_iff c141 h
                refine q_iload_n dX6_readChange_144 rfl ?_
                refine q_iload dX6_readChange_145 rfl ?_
                obtain ⟨r147, h147, h⟩ := q_bnd h
                refine q_callNi2 dX6_readChange_147 cl_X6_61 (Nat.le_of_ble_eq_true rfl) (by omega) (sX8_isValue (by omega) h147 ?_)
                refine q_if_ne_b 168 dX6_readChange_150 (by decide) (fun c150 => ?_) (fun c150 => ?_)
                · replace h := q_ift c150 h
                  refine q_aload_n dX6_readChange_168 rfl ?_
                  refine q_iload dX6_readChange_169 rfl ?_
                  obtain ⟨r171, h171, h⟩ := q_bnd h
                  refine q_callVi1 dX6_readChange_171 cl_X6_45 rfl (Nat.le_of_ble_eq_true rfl) (by omega) (sX6_characterAt (by omega) h171 ?_)
                  refine q_bipush (v := 59) dX6_readChange_174 (by decide) ?_
                  refine q_icmp_ne 188 dX6_readChange_176 (by decide) (fun c176 => ?_) (fun c176 => ?_)
                  · replace h := q_iff c176 h
                    refine q_iconst (v := (-1)) dX6_readChange_188 (by decide) ?_
                    exact q_ret dX6_readChange_189 rfl rfl (q_lfiw h k)
                  · replace h := q_ift c176 h
                    refine q_aload_n dX6_readChange_179 rfl ?_
                    refine q_geti dX6_readChange_180 fl_X6_28 rfl rfl ?_
                    refine q_bipush (v := 12) dX6_readChange_183 (by decide) ?_
                    refine q_icmp_lt 190 dX6_readChange_185 (by decide) (fun c185 => ?_) (fun c185 => ?_)
                    · replace h := q_ift c185 h
                      refine q_aload_n dX6_readChange_190 rfl ?_
                      refine q_getr dX6_readChange_191 fl_X6_19 rfl rfl ?_
                      refine q_aload_n dX6_readChange_194 rfl ?_
                      refine q_geti dX6_readChange_195 fl_X6_28 rfl rfl ?_
                      refine q_aload_n dX6_readChange_198 rfl ?_
                      refine q_iload_n dX6_readChange_199 rfl ?_
                      refine q_iload_n dX6_readChange_200 rfl ?_
                      obtain ⟨r201, h201, h⟩ := q_bnd h
                      refine q_callVi2 dX6_readChange_201 cl_X6_54 rfl (Nat.le_of_ble_eq_true rfl) (by omega) (sX6_nameIn (by omega) h201 ?_)
                      obtain ⟨g204, h⟩ := q_gd h
                      refine q_iast dX6_readChange_204 rfl g204 ?_
                      refine q_aload_n dX6_readChange_205 rfl ?_
                      refine q_getr dX6_readChange_206 fl_X6_22 rfl rfl ?_
                      refine q_aload_n dX6_readChange_209 rfl ?_
                      refine q_geti dX6_readChange_210 fl_X6_28 rfl rfl ?_
                      refine q_iload_n dX6_readChange_213 rfl ?_
                      obtain ⟨g214, h⟩ := q_gd h
                      refine q_iast dX6_readChange_214 rfl g214 ?_
                      refine q_aload_n dX6_readChange_215 rfl ?_
                      refine q_getr dX6_readChange_216 fl_X6_25 rfl rfl ?_
                      refine q_aload_n dX6_readChange_219 rfl ?_
                      refine q_geti dX6_readChange_220 fl_X6_28 rfl rfl ?_
                      refine q_iload dX6_readChange_223 rfl ?_
                      obtain ⟨g225, h⟩ := q_gd h
                      refine q_iast dX6_readChange_225 rfl g225 ?_
                      refine q_aload_n dX6_readChange_226 rfl ?_
                      refine q_dup dX6_readChange_227 ?_
                      refine q_geti dX6_readChange_228 fl_X6_28 rfl rfl ?_
                      refine q_iconst (v := 1) dX6_readChange_231 (by decide) ?_
                      refine q_iadd dX6_readChange_232 ?_
                      refine q_put dX6_readChange_233 fl_X6_28 fp_5_5 rfl rfl ?_
                      refine q_iload dX6_readChange_236 rfl ?_
                      refine q_iconst (v := 1) dX6_readChange_238 (by decide) ?_
                      refine q_iadd dX6_readChange_239 ?_
                      exact q_ret dX6_readChange_240 rfl rfl (q_lfiw h k)
                    · replace h := q_iff c185 h
                      refine q_iconst (v := (-1)) dX6_readChange_188 (by decide) ?_
                      exact q_ret dX6_readChange_189 rfl rfl (q_lfiw h k)
                · replace h := q_ifb c150 h
                  refine q_iconst (v := (-1)) dX6_readChange_153 (by decide) ?_
                  exact q_ret dX6_readChange_154 rfl rfl (q_lfiw h k)
            · replace h := q_ift c107 h
              refine q_aload_n dX6_readChange_110 rfl ?_
              refine q_iload dX6_readChange_111 rfl ?_
              refine q_iconst (v := 1) dX6_readChange_113 (by decide) ?_
              refine q_iadd dX6_readChange_114 ?_
              refine q_iload dX6_readChange_115 rfl ?_
              obtain ⟨r117, h117, h⟩ := q_bnd h
              refine q_callVi2 dX6_readChange_117 cl_X6_54 rfl (Nat.le_of_ble_eq_true rfl) (by omega) (sX6_nameIn (by omega) h117 ?_)
              refine q_goto 133 dX6_readChange_120 (by decide) ?_
              refine q_istore dX6_readChange_133 (by decide) ?_
              refine q_iload dX6_readChange_135 rfl ?_
              refine q_iload dX6_readChange_137 rfl ?_
              refine q_iconst (v := 1) dX6_readChange_139 (by decide) ?_
              refine q_iadd dX6_readChange_140 ?_
              refine q_icmp_eq 153 dX6_readChange_141 (by decide) (fun c141 => ?_) (fun c141 => ?_)
              · replace h := q_ift c141 h
                refine q_iconst (v := (-1)) dX6_readChange_153 (by decide) ?_
                exact q_ret dX6_readChange_154 rfl rfl (q_lfiw h k)
              · replace h := q_iff c141 h
                refine q_iload_n dX6_readChange_144 rfl ?_
                refine q_iload dX6_readChange_145 rfl ?_
                obtain ⟨r147, h147, h⟩ := q_bnd h
                refine q_callNi2 dX6_readChange_147 cl_X6_61 (Nat.le_of_ble_eq_true rfl) (by omega) (sX8_isValue (by omega) h147 ?_)
                refine q_if_ne_b 168 dX6_readChange_150 (by decide) (fun c150 => ?_) (fun c150 => ?_)
                · replace h := q_ift c150 h
                  refine q_aload_n dX6_readChange_168 rfl ?_
                  refine q_iload dX6_readChange_169 rfl ?_
                  obtain ⟨r171, h171, h⟩ := q_bnd h
                  refine q_callVi1 dX6_readChange_171 cl_X6_45 rfl (Nat.le_of_ble_eq_true rfl) (by omega) (sX6_characterAt (by omega) h171 ?_)
                  refine q_bipush (v := 59) dX6_readChange_174 (by decide) ?_
                  refine q_icmp_ne 188 dX6_readChange_176 (by decide) (fun c176 => ?_) (fun c176 => ?_)
                  · replace h := q_iff c176 h
                    refine q_iconst (v := (-1)) dX6_readChange_188 (by decide) ?_
                    exact q_ret dX6_readChange_189 rfl rfl (q_lfiw h k)
                  · replace h := q_ift c176 h
                    refine q_aload_n dX6_readChange_179 rfl ?_
                    refine q_geti dX6_readChange_180 fl_X6_28 rfl rfl ?_
                    refine q_bipush (v := 12) dX6_readChange_183 (by decide) ?_
                    refine q_icmp_lt 190 dX6_readChange_185 (by decide) (fun c185 => ?_) (fun c185 => ?_)
                    · replace h := q_ift c185 h
                      refine q_aload_n dX6_readChange_190 rfl ?_
                      refine q_getr dX6_readChange_191 fl_X6_19 rfl rfl ?_
                      refine q_aload_n dX6_readChange_194 rfl ?_
                      refine q_geti dX6_readChange_195 fl_X6_28 rfl rfl ?_
                      refine q_aload_n dX6_readChange_198 rfl ?_
                      refine q_iload_n dX6_readChange_199 rfl ?_
                      refine q_iload_n dX6_readChange_200 rfl ?_
                      obtain ⟨r201, h201, h⟩ := q_bnd h
                      refine q_callVi2 dX6_readChange_201 cl_X6_54 rfl (Nat.le_of_ble_eq_true rfl) (by omega) (sX6_nameIn (by omega) h201 ?_)
                      obtain ⟨g204, h⟩ := q_gd h
                      refine q_iast dX6_readChange_204 rfl g204 ?_
                      refine q_aload_n dX6_readChange_205 rfl ?_
                      refine q_getr dX6_readChange_206 fl_X6_22 rfl rfl ?_
                      refine q_aload_n dX6_readChange_209 rfl ?_
                      refine q_geti dX6_readChange_210 fl_X6_28 rfl rfl ?_
                      refine q_iload_n dX6_readChange_213 rfl ?_
                      obtain ⟨g214, h⟩ := q_gd h
                      refine q_iast dX6_readChange_214 rfl g214 ?_
                      refine q_aload_n dX6_readChange_215 rfl ?_
                      refine q_getr dX6_readChange_216 fl_X6_25 rfl rfl ?_
                      refine q_aload_n dX6_readChange_219 rfl ?_
                      refine q_geti dX6_readChange_220 fl_X6_28 rfl rfl ?_
                      refine q_iload dX6_readChange_223 rfl ?_
                      obtain ⟨g225, h⟩ := q_gd h
                      refine q_iast dX6_readChange_225 rfl g225 ?_
                      refine q_aload_n dX6_readChange_226 rfl ?_
                      refine q_dup dX6_readChange_227 ?_
                      refine q_geti dX6_readChange_228 fl_X6_28 rfl rfl ?_
                      refine q_iconst (v := 1) dX6_readChange_231 (by decide) ?_
                      refine q_iadd dX6_readChange_232 ?_
                      refine q_put dX6_readChange_233 fl_X6_28 fp_5_5 rfl rfl ?_
                      refine q_iload dX6_readChange_236 rfl ?_
                      refine q_iconst (v := 1) dX6_readChange_238 (by decide) ?_
                      refine q_iadd dX6_readChange_239 ?_
                      exact q_ret dX6_readChange_240 rfl rfl (q_lfiw h k)
                    · replace h := q_iff c185 h
                      refine q_iconst (v := (-1)) dX6_readChange_188 (by decide) ?_
                      exact q_ret dX6_readChange_189 rfl rfl (q_lfiw h k)
                · replace h := q_ifb c150 h
                  refine q_iconst (v := (-1)) dX6_readChange_153 (by decide) ?_
                  exact q_ret dX6_readChange_154 rfl rfl (q_lfiw h k)
      · replace h := q_ifb c42 h
        refine q_iconst (v := (-1)) dX6_readChange_45 (by decide) ?_
        exact q_ret dX6_readChange_46 rfl rfl (q_lfiw h k)
