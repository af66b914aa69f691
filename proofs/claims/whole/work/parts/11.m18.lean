def fX9_ask_25 (p1 p2 p3 : Int32) : Nat → Int32 → Int32 → qS → Option (Int32 × qS)
  | 0, _, _, _ => none
  | n + 1, v4, v5, S => if (S 34 8) ≤ v5 then if v4 < 0 then if 0 ≤ v4 then if v4 < 0 then (fX9_drops 0 S).bind (fun T154 => (fX9_viewAt p1 (T154 34 0) T154).bind (fun r164 => (fX9_finds r164 p2 p3 (T154 34 0) T154).bind (fun (r173, T173) => if q_inb (5 * (T173 34 8)) 30 = true then if q_inb ((5 * (T173 34 8)) + 1) 30 = true then if q_inb ((5 * (T173 34 8)) + 2) 30 = true then if q_inb ((5 * (T173 34 8)) + 3) 30 = true then if q_inb ((5 * (T173 34 8)) + 4) 30 = true then some (r173, (q_up (q_up (q_up (q_up (q_up (q_up T173 38 ((5 * (T173 34 8)).toNatClampNeg) p1) 38 (((5 * (T173 34 8)) + 1).toNatClampNeg) p2) 38 (((5 * (T173 34 8)) + 2).toNatClampNeg) p3) 38 (((5 * (T173 34 8)) + 3).toNatClampNeg) r173) 38 (((5 * (T173 34 8)) + 4).toNatClampNeg) (T173 34 0)) 34 8 ((T173 34 8) + 1))) else none else none else none else none else none))) else (fX9_drops v4 S).bind (fun T154 => (fX9_viewAt p1 (T154 34 0) T154).bind (fun r164 => (fX9_finds r164 p2 p3 (T154 34 0) T154).bind (fun (r173, T173) => if q_inb (5 * (T173 34 8)) 30 = true then if q_inb ((5 * (T173 34 8)) + 1) 30 = true then if q_inb ((5 * (T173 34 8)) + 2) 30 = true then if q_inb ((5 * (T173 34 8)) + 3) 30 = true then if q_inb ((5 * (T173 34 8)) + 4) 30 = true then some (r173, (q_up (q_up (q_up (q_up (q_up (q_up T173 38 ((5 * (T173 34 8)).toNatClampNeg) p1) 38 (((5 * (T173 34 8)) + 1).toNatClampNeg) p2) 38 (((5 * (T173 34 8)) + 2).toNatClampNeg) p3) 38 (((5 * (T173 34 8)) + 3).toNatClampNeg) r173) 38 (((5 * (T173 34 8)) + 4).toNatClampNeg) (T173 34 0)) 34 8 ((T173 34 8) + 1))) else none else none else none else none else none))) else if (S 34 8) = 6 then if v4 < 0 then (fX9_drops 0 S).bind (fun T154 => (fX9_viewAt p1 (T154 34 0) T154).bind (fun r164 => (fX9_finds r164 p2 p3 (T154 34 0) T154).bind (fun (r173, T173) => if q_inb (5 * (T173 34 8)) 30 = true then if q_inb ((5 * (T173 34 8)) + 1) 30 = true then if q_inb ((5 * (T173 34 8)) + 2) 30 = true then if q_inb ((5 * (T173 34 8)) + 3) 30 = true then if q_inb ((5 * (T173 34 8)) + 4) 30 = true then some (r173, (q_up (q_up (q_up (q_up (q_up (q_up T173 38 ((5 * (T173 34 8)).toNatClampNeg) p1) 38 (((5 * (T173 34 8)) + 1).toNatClampNeg) p2) 38 (((5 * (T173 34 8)) + 2).toNatClampNeg) p3) 38 (((5 * (T173 34 8)) + 3).toNatClampNeg) r173) 38 (((5 * (T173 34 8)) + 4).toNatClampNeg) (T173 34 0)) 34 8 ((T173 34 8) + 1))) else none else none else none else none else none))) else (fX9_drops v4 S).bind (fun T154 => (fX9_viewAt p1 (T154 34 0) T154).bind (fun r164 => (fX9_finds r164 p2 p3 (T154 34 0) T154).bind (fun (r173, T173) => if q_inb (5 * (T173 34 8)) 30 = true then if q_inb ((5 * (T173 34 8)) + 1) 30 = true then if q_inb ((5 * (T173 34 8)) + 2) 30 = true then if q_inb ((5 * (T173 34 8)) + 3) 30 = true then if q_inb ((5 * (T173 34 8)) + 4) 30 = true then some (r173, (q_up (q_up (q_up (q_up (q_up (q_up T173 38 ((5 * (T173 34 8)).toNatClampNeg) p1) 38 (((5 * (T173 34 8)) + 1).toNatClampNeg) p2) 38 (((5 * (T173 34 8)) + 2).toNatClampNeg) p3) 38 (((5 * (T173 34 8)) + 3).toNatClampNeg) r173) 38 (((5 * (T173 34 8)) + 4).toNatClampNeg) (T173 34 0)) 34 8 ((T173 34 8) + 1))) else none else none else none else none else none))) else (fX9_viewAt p1 (S 34 0) S).bind (fun r164 => (fX9_finds r164 p2 p3 (S 34 0) S).bind (fun (r173, T173) => if q_inb (5 * (T173 34 8)) 30 = true then if q_inb ((5 * (T173 34 8)) + 1) 30 = true then if q_inb ((5 * (T173 34 8)) + 2) 30 = true then if q_inb ((5 * (T173 34 8)) + 3) 30 = true then if q_inb ((5 * (T173 34 8)) + 4) 30 = true then some (r173, (q_up (q_up (q_up (q_up (q_up (q_up T173 38 ((5 * (T173 34 8)).toNatClampNeg) p1) 38 (((5 * (T173 34 8)) + 1).toNatClampNeg) p2) 38 (((5 * (T173 34 8)) + 2).toNatClampNeg) p3) 38 (((5 * (T173 34 8)) + 3).toNatClampNeg) r173) 38 (((5 * (T173 34 8)) + 4).toNatClampNeg) (T173 34 0)) 34 8 ((T173 34 8) + 1))) else none else none else none else none else none)) else (fX9_isYoung v4 S).bind (fun r100 => if r100 = true then if q_inb ((5 * v4) + 3) 30 = true then some ((S 38 (((5 * v4) + 3).toNatClampNeg)), (q_up S 34 10 ((S 34 10) + 1))) else none else if 0 ≤ v4 then if v4 < 0 then (fX9_drops 0 S).bind (fun T154 => (fX9_viewAt p1 (T154 34 0) T154).bind (fun r164 => (fX9_finds r164 p2 p3 (T154 34 0) T154).bind (fun (r173, T173) => if q_inb (5 * (T173 34 8)) 30 = true then if q_inb ((5 * (T173 34 8)) + 1) 30 = true then if q_inb ((5 * (T173 34 8)) + 2) 30 = true then if q_inb ((5 * (T173 34 8)) + 3) 30 = true then if q_inb ((5 * (T173 34 8)) + 4) 30 = true then some (r173, (q_up (q_up (q_up (q_up (q_up (q_up T173 38 ((5 * (T173 34 8)).toNatClampNeg) p1) 38 (((5 * (T173 34 8)) + 1).toNatClampNeg) p2) 38 (((5 * (T173 34 8)) + 2).toNatClampNeg) p3) 38 (((5 * (T173 34 8)) + 3).toNatClampNeg) r173) 38 (((5 * (T173 34 8)) + 4).toNatClampNeg) (T173 34 0)) 34 8 ((T173 34 8) + 1))) else none else none else none else none else none))) else (fX9_drops v4 S).bind (fun T154 => (fX9_viewAt p1 (T154 34 0) T154).bind (fun r164 => (fX9_finds r164 p2 p3 (T154 34 0) T154).bind (fun (r173, T173) => if q_inb (5 * (T173 34 8)) 30 = true then if q_inb ((5 * (T173 34 8)) + 1) 30 = true then if q_inb ((5 * (T173 34 8)) + 2) 30 = true then if q_inb ((5 * (T173 34 8)) + 3) 30 = true then if q_inb ((5 * (T173 34 8)) + 4) 30 = true then some (r173, (q_up (q_up (q_up (q_up (q_up (q_up T173 38 ((5 * (T173 34 8)).toNatClampNeg) p1) 38 (((5 * (T173 34 8)) + 1).toNatClampNeg) p2) 38 (((5 * (T173 34 8)) + 2).toNatClampNeg) p3) 38 (((5 * (T173 34 8)) + 3).toNatClampNeg) r173) 38 (((5 * (T173 34 8)) + 4).toNatClampNeg) (T173 34 0)) 34 8 ((T173 34 8) + 1))) else none else none else none else none else none))) else if (S 34 8) = 6 then if v4 < 0 then (fX9_drops 0 S).bind (fun T154 => (fX9_viewAt p1 (T154 34 0) T154).bind (fun r164 => (fX9_finds r164 p2 p3 (T154 34 0) T154).bind (fun (r173, T173) => if q_inb (5 * (T173 34 8)) 30 = true then if q_inb ((5 * (T173 34 8)) + 1) 30 = true then if q_inb ((5 * (T173 34 8)) + 2) 30 = true then if q_inb ((5 * (T173 34 8)) + 3) 30 = true then if q_inb ((5 * (T173 34 8)) + 4) 30 = true then some (r173, (q_up (q_up (q_up (q_up (q_up (q_up T173 38 ((5 * (T173 34 8)).toNatClampNeg) p1) 38 (((5 * (T173 34 8)) + 1).toNatClampNeg) p2) 38 (((5 * (T173 34 8)) + 2).toNatClampNeg) p3) 38 (((5 * (T173 34 8)) + 3).toNatClampNeg) r173) 38 (((5 * (T173 34 8)) + 4).toNatClampNeg) (T173 34 0)) 34 8 ((T173 34 8) + 1))) else none else none else none else none else none))) else (fX9_drops v4 S).bind (fun T154 => (fX9_viewAt p1 (T154 34 0) T154).bind (fun r164 => (fX9_finds r164 p2 p3 (T154 34 0) T154).bind (fun (r173, T173) => if q_inb (5 * (T173 34 8)) 30 = true then if q_inb ((5 * (T173 34 8)) + 1) 30 = true then if q_inb ((5 * (T173 34 8)) + 2) 30 = true then if q_inb ((5 * (T173 34 8)) + 3) 30 = true then if q_inb ((5 * (T173 34 8)) + 4) 30 = true then some (r173, (q_up (q_up (q_up (q_up (q_up (q_up T173 38 ((5 * (T173 34 8)).toNatClampNeg) p1) 38 (((5 * (T173 34 8)) + 1).toNatClampNeg) p2) 38 (((5 * (T173 34 8)) + 2).toNatClampNeg) p3) 38 (((5 * (T173 34 8)) + 3).toNatClampNeg) r173) 38 (((5 * (T173 34 8)) + 4).toNatClampNeg) (T173 34 0)) 34 8 ((T173 34 8) + 1))) else none else none else none else none else none))) else (fX9_viewAt p1 (S 34 0) S).bind (fun r164 => (fX9_finds r164 p2 p3 (S 34 0) S).bind (fun (r173, T173) => if q_inb (5 * (T173 34 8)) 30 = true then if q_inb ((5 * (T173 34 8)) + 1) 30 = true then if q_inb ((5 * (T173 34 8)) + 2) 30 = true then if q_inb ((5 * (T173 34 8)) + 3) 30 = true then if q_inb ((5 * (T173 34 8)) + 4) 30 = true then some (r173, (q_up (q_up (q_up (q_up (q_up (q_up T173 38 ((5 * (T173 34 8)).toNatClampNeg) p1) 38 (((5 * (T173 34 8)) + 1).toNatClampNeg) p2) 38 (((5 * (T173 34 8)) + 2).toNatClampNeg) p3) 38 (((5 * (T173 34 8)) + 3).toNatClampNeg) r173) 38 (((5 * (T173 34 8)) + 4).toNatClampNeg) (T173 34 0)) 34 8 ((T173 34 8) + 1))) else none else none else none else none else none))) else if q_inb (5 * v5) 30 = true then if (S 38 ((5 * v5).toNatClampNeg)) = p1 then if q_inb ((5 * v5) + 1) 30 = true then if (S 38 (((5 * v5) + 1).toNatClampNeg)) = p2 then if q_inb ((5 * v5) + 2) 30 = true then if (S 38 (((5 * v5) + 2).toNatClampNeg)) = p3 then fX9_ask_25 p1 p2 p3 n v5 (v5 + 1) S else fX9_ask_25 p1 p2 p3 n v4 (v5 + 1) S else none else fX9_ask_25 p1 p2 p3 n v4 (v5 + 1) S else none else fX9_ask_25 p1 p2 p3 n v4 (v5 + 1) S else none
set_option maxHeartbeats 4000000 in
set_option maxRecDepth 100000 in
theorem sX9_ask_25 {l : Launch} {d : Nat} (hd : 5 ≤ d) {p1 p2 p3 : Int32} {r : Int32} {S' : qS} {Q : Int32 → qS → Prop} (k : Q r S') : ∀ (n : Nat) (v4 : Int32) (v5 : Int32) (S : qS), fX9_ask_25 p1 p2 p3 n v4 v5 S = some (r, S') → q_E l cX9_ask 6 (some .int) RX9 d S 25 [some (.inr 34), some (.inl p1), some (.inl p2), some (.inl p3), some (.inl v4), some (.inl v5)] [] (q_Qi Q) := by
  intro n
  induction n with
  | zero => intro v4 v5 S h; exact q_no h
  | succ n ih =>
    intro v4 v5 S h
    rw [fX9_ask_25] at h
    refine q_iload dX9_ask_25 rfl ?_
    refine q_aload_n dX9_ask_27 rfl ?_
    refine q_geti dX9_ask_28 fl_X9_94 rfl rfl ?_
    refine q_icmp_ge 92 dX9_ask_31 (by decide) (fun c31 => ?_) (fun c31 => ?_)
    · replace h := q_ift c31 h
      refine q_iload dX9_ask_92 rfl ?_
      refine q_if_lt 128 dX9_ask_94 (by decide) (fun c94 => ?_) (fun c94 => ?_)
      · replace h := q_ift c94 h
        refine q_iload dX9_ask_128 rfl ?_
        refine q_if_ge 142 dX9_ask_130 (by decide) (fun c130 => ?_) (fun c130 => ?_)
        · replace h := q_ift c130 h
          refine q_aload_n dX9_ask_142 rfl ?_
          refine q_iload dX9_ask_143 rfl ?_
          refine q_if_lt 153 dX9_ask_145 (by decide) (fun c145 => ?_) (fun c145 => ?_)
          · replace h := q_ift c145 h
            refine q_iconst (v := 0) dX9_ask_153 (by decide) ?_
            obtain ⟨T154, h154, h⟩ := q_bnd h
            refine q_callVv1 dX9_ask_154 cl_X9_155 rfl (Nat.le_of_ble_eq_true rfl) (by omega) (sX9_drops (by omega) h154 ?_)
            refine q_aload_n dX9_ask_157 rfl ?_
            refine q_aload_n dX9_ask_158 rfl ?_
            refine q_iload_n dX9_ask_159 rfl ?_
            refine q_aload_n dX9_ask_160 rfl ?_
            refine q_geti dX9_ask_161 fl_X9_32 rfl rfl ?_
            obtain ⟨r164, h164, h⟩ := q_bnd h
            refine q_callVi2 dX9_ask_164 cl_X9_67 rfl (Nat.le_of_ble_eq_true rfl) (by omega) (sX9_viewAt (by omega) h164 ?_)
            refine q_iload_n dX9_ask_167 rfl ?_
            refine q_iload_n dX9_ask_168 rfl ?_
            refine q_aload_n dX9_ask_169 rfl ?_
            refine q_geti dX9_ask_170 fl_X9_32 rfl rfl ?_
            obtain ⟨⟨r173, T173⟩, h173, h⟩ := q_bnd h
            dsimp only at h
            refine q_callVi4 dX9_ask_173 cl_X9_142 rfl (Nat.le_of_ble_eq_true rfl) (by omega) (sX9_finds (by omega) h173 ?_)
            refine q_istore dX9_ask_176 (by decide) ?_
            refine q_aload_n dX9_ask_178 rfl ?_
            refine q_getr dX9_ask_179 fl_X9_19 rfl rfl ?_
            refine q_iconst (v := 5) dX9_ask_182 (by decide) ?_
            refine q_aload_n dX9_ask_183 rfl ?_
            refine q_geti dX9_ask_184 fl_X9_94 rfl rfl ?_
            refine q_imul dX9_ask_187 ?_
            refine q_iload_n dX9_ask_188 rfl ?_
            obtain ⟨g189, h⟩ := q_gd h
            refine q_iast dX9_ask_189 rfl g189 ?_
            refine q_aload_n dX9_ask_190 rfl ?_
            refine q_getr dX9_ask_191 fl_X9_19 rfl rfl ?_
            refine q_iconst (v := 5) dX9_ask_194 (by decide) ?_
            refine q_aload_n dX9_ask_195 rfl ?_
            refine q_geti dX9_ask_196 fl_X9_94 rfl rfl ?_
            refine q_imul dX9_ask_199 ?_
            refine q_iconst (v := 1) dX9_ask_200 (by decide) ?_
            refine q_iadd dX9_ask_201 ?_
            refine q_iload_n dX9_ask_202 rfl ?_
            obtain ⟨g203, h⟩ := q_gd h
            refine q_iast dX9_ask_203 rfl g203 ?_
            refine q_aload_n dX9_ask_204 rfl ?_
            refine q_getr dX9_ask_205 fl_X9_19 rfl rfl ?_
            refine q_iconst (v := 5) dX9_ask_208 (by decide) ?_
            refine q_aload_n dX9_ask_209 rfl ?_
            refine q_geti dX9_ask_210 fl_X9_94 rfl rfl ?_
            refine q_imul dX9_ask_213 ?_
            refine q_iconst (v := 2) dX9_ask_214 (by decide) ?_
            refine q_iadd dX9_ask_215 ?_
            refine q_iload_n dX9_ask_216 rfl ?_
            obtain ⟨g217, h⟩ := q_gd h
            refine q_iast dX9_ask_217 rfl g217 ?_
            refine q_aload_n dX9_ask_218 rfl ?_
            refine q_getr dX9_ask_219 fl_X9_19 rfl rfl ?_
            refine q_iconst (v := 5) dX9_ask_222 (by decide) ?_
            refine q_aload_n dX9_ask_223 rfl ?_
            refine q_geti dX9_ask_224 fl_X9_94 rfl rfl ?_
            refine q_imul dX9_ask_227 ?_
            refine q_iconst (v := 3) dX9_ask_228 (by decide) ?_
            refine q_iadd dX9_ask_229 ?_
            refine q_iload dX9_ask_230 rfl ?_
            obtain ⟨g232, h⟩ := q_gd h
            refine q_iast dX9_ask_232 rfl g232 ?_
            refine q_aload_n dX9_ask_233 rfl ?_
            refine q_getr dX9_ask_234 fl_X9_19 rfl rfl ?_
            refine q_iconst (v := 5) dX9_ask_237 (by decide) ?_
            refine q_aload_n dX9_ask_238 rfl ?_
            refine q_geti dX9_ask_239 fl_X9_94 rfl rfl ?_
            refine q_imul dX9_ask_242 ?_
            refine q_iconst (v := 4) dX9_ask_243 (by decide) ?_
            refine q_iadd dX9_ask_244 ?_
            refine q_aload_n dX9_ask_245 rfl ?_
            refine q_geti dX9_ask_246 fl_X9_32 rfl rfl ?_
            obtain ⟨g249, h⟩ := q_gd h
            refine q_iast dX9_ask_249 rfl g249 ?_
            refine q_aload_n dX9_ask_250 rfl ?_
            refine q_dup dX9_ask_251 ?_
            refine q_geti dX9_ask_252 fl_X9_94 rfl rfl ?_
            refine q_iconst (v := 1) dX9_ask_255 (by decide) ?_
            refine q_iadd dX9_ask_256 ?_
            refine q_put dX9_ask_257 fl_X9_94 fp_8_8 rfl rfl ?_
            refine q_iload dX9_ask_260 rfl ?_
            exact q_ret dX9_ask_262 rfl rfl (q_lfiw h k)
          · replace h := q_iff c145 h
            refine q_iload dX9_ask_148 rfl ?_
            refine q_goto 154 dX9_ask_150 (by decide) ?_
            obtain ⟨T154, h154, h⟩ := q_bnd h
            refine q_callVv1 dX9_ask_154 cl_X9_155 rfl (Nat.le_of_ble_eq_true rfl) (by omega) (sX9_drops (by omega) h154 ?_)
            refine q_aload_n dX9_ask_157 rfl ?_
            refine q_aload_n dX9_ask_158 rfl ?_
            refine q_iload_n dX9_ask_159 rfl ?_
            refine q_aload_n dX9_ask_160 rfl ?_
            refine q_geti dX9_ask_161 fl_X9_32 rfl rfl ?_
            obtain ⟨r164, h164, h⟩ := q_bnd h
            refine q_callVi2 dX9_ask_164 cl_X9_67 rfl (Nat.le_of_ble_eq_true rfl) (by omega) (sX9_viewAt (by omega) h164 ?_)
            refine q_iload_n dX9_ask_167 rfl ?_
            refine q_iload_n dX9_ask_168 rfl ?_
            refine q_aload_n dX9_ask_169 rfl ?_
            refine q_geti dX9_ask_170 fl_X9_32 rfl rfl ?_
            obtain ⟨⟨r173, T173⟩, h173, h⟩ := q_bnd h
            dsimp only at h
            refine q_callVi4 dX9_ask_173 cl_X9_142 rfl (Nat.le_of_ble_eq_true rfl) (by omega) (sX9_finds (by omega) h173 ?_)
            refine q_istore dX9_ask_176 (by decide) ?_
            refine q_aload_n dX9_ask_178 rfl ?_
            refine q_getr dX9_ask_179 fl_X9_19 rfl rfl ?_
            refine q_iconst (v := 5) dX9_ask_182 (by decide) ?_
            refine q_aload_n dX9_ask_183 rfl ?_
            refine q_geti dX9_ask_184 fl_X9_94 rfl rfl ?_
            refine q_imul dX9_ask_187 ?_
            refine q_iload_n dX9_ask_188 rfl ?_
            obtain ⟨g189, h⟩ := q_gd h
            refine q_iast dX9_ask_189 rfl g189 ?_
            refine q_aload_n dX9_ask_190 rfl ?_
            refine q_getr dX9_ask_191 fl_X9_19 rfl rfl ?_
            refine q_iconst (v := 5) dX9_ask_194 (by decide) ?_
            refine q_aload_n dX9_ask_195 rfl ?_
            refine q_geti dX9_ask_196 fl_X9_94 rfl rfl ?_
            refine q_imul dX9_ask_199 ?_
            refine q_iconst (v := 1) dX9_ask_200 (by decide) ?_
            refine q_iadd dX9_ask_201 ?_
            refine q_iload_n dX9_ask_202 rfl ?_
            obtain ⟨g203, h⟩ := q_gd h
            refine q_iast dX9_ask_203 rfl g203 ?_
            refine q_aload_n dX9_ask_204 rfl ?_
            refine q_getr dX9_ask_205 fl_X9_19 rfl rfl ?_
            refine q_iconst (v := 5) dX9_ask_208 (by decide) ?_
            refine q_aload_n dX9_ask_209 rfl ?_
            refine q_geti dX9_ask_210 fl_X9_94 rfl rfl ?_
            refine q_imul dX9_ask_213 ?_
            refine q_iconst (v := 2) dX9_ask_214 (by decide) ?_
            refine q_iadd dX9_ask_215 ?_
            refine q_iload_n dX9_ask_216 rfl ?_
            obtain ⟨g217, h⟩ := q_gd h
            refine q_iast dX9_ask_217 rfl g217 ?_
            refine q_aload_n dX9_ask_218 rfl ?_
            refine q_getr dX9_ask_219 fl_X9_19 rfl rfl ?_
            refine q_iconst (v := 5) dX9_ask_222 (by decide) ?_
            refine q_aload_n dX9_ask_223 rfl ?_
            refine q_geti dX9_ask_224 fl_X9_94 rfl rfl ?_
            refine q_imul dX9_ask_227 ?_
            refine q_iconst (v := 3) dX9_ask_228 (by decide) ?_
            refine q_iadd dX9_ask_229 ?_
            refine q_iload dX9_ask_230 rfl ?_
            obtain ⟨g232, h⟩ := q_gd h
            refine q_iast dX9_ask_232 rfl g232 ?_
            refine q_aload_n dX9_ask_233 rfl ?_
            refine q_getr dX9_ask_234 fl_X9_19 rfl rfl ?_
            refine q_iconst (v := 5) dX9_ask_237 (by decide) ?_
            refine q_aload_n dX9_ask_238 rfl ?_
            refine q_geti dX9_ask_239 fl_X9_94 rfl rfl ?_
            refine q_imul dX9_ask_242 ?_
            refine q_iconst (v := 4) dX9_ask_243 (by decide) ?_
            refine q_iadd dX9_ask_244 ?_
            refine q_aload_n dX9_ask_245 rfl ?_
            refine q_geti dX9_ask_246 fl_X9_32 rfl rfl ?_
            obtain ⟨g249, h⟩ := q_gd h
            refine q_iast dX9_ask_249 rfl g249 ?_
            refine q_aload_n dX9_ask_250 rfl ?_
            refine q_dup dX9_ask_251 ?_
            refine q_geti dX9_ask_252 fl_X9_94 rfl rfl ?_
            refine q_iconst (v := 1) dX9_ask_255 (by decide) ?_
            refine q_iadd dX9_ask_256 ?_
            refine q_put dX9_ask_257 fl_X9_94 fp_8_8 rfl rfl ?_
            refine q_iload dX9_ask_260 rfl ?_
            exact q_ret dX9_ask_262 rfl rfl (q_lfiw h k)
        · replace h := q_iff c130 h
          refine q_aload_n dX9_ask_133 rfl ?_
          refine q_geti dX9_ask_134 fl_X9_94 rfl rfl ?_
          refine q_bipush (v := 6) dX9_ask_137 (by decide) ?_
          refine q_icmp_ne 157 dX9_ask_139 (by decide) (fun c139 => ?_) (fun c139 => ?_)
          · replace h := q_iff c139 h
            refine q_aload_n dX9_ask_157 rfl ?_
            refine q_aload_n dX9_ask_158 rfl ?_
            refine q_iload_n dX9_ask_159 rfl ?_
            refine q_aload_n dX9_ask_160 rfl ?_
            refine q_geti dX9_ask_161 fl_X9_32 rfl rfl ?_
            obtain ⟨r164, h164, h⟩ := q_bnd h
            refine q_callVi2 dX9_ask_164 cl_X9_67 rfl (Nat.le_of_ble_eq_true rfl) (by omega) (sX9_viewAt (by omega) h164 ?_)
            refine q_iload_n dX9_ask_167 rfl ?_
            refine q_iload_n dX9_ask_168 rfl ?_
            refine q_aload_n dX9_ask_169 rfl ?_
            refine q_geti dX9_ask_170 fl_X9_32 rfl rfl ?_
            obtain ⟨⟨r173, T173⟩, h173, h⟩ := q_bnd h
            dsimp only at h
            refine q_callVi4 dX9_ask_173 cl_X9_142 rfl (Nat.le_of_ble_eq_true rfl) (by omega) (sX9_finds (by omega) h173 ?_)
            refine q_istore dX9_ask_176 (by decide) ?_
            refine q_aload_n dX9_ask_178 rfl ?_
            refine q_getr dX9_ask_179 fl_X9_19 rfl rfl ?_
            refine q_iconst (v := 5) dX9_ask_182 (by decide) ?_
            refine q_aload_n dX9_ask_183 rfl ?_
            refine q_geti dX9_ask_184 fl_X9_94 rfl rfl ?_
            refine q_imul dX9_ask_187 ?_
            refine q_iload_n dX9_ask_188 rfl ?_
            obtain ⟨g189, h⟩ := q_gd h
            refine q_iast dX9_ask_189 rfl g189 ?_
            refine q_aload_n dX9_ask_190 rfl ?_
            refine q_getr dX9_ask_191 fl_X9_19 rfl rfl ?_
            refine q_iconst (v := 5) dX9_ask_194 (by decide) ?_
            refine q_aload_n dX9_ask_195 rfl ?_
            refine q_geti dX9_ask_196 fl_X9_94 rfl rfl ?_
            refine q_imul dX9_ask_199 ?_
            refine q_iconst (v := 1) dX9_ask_200 (by decide) ?_
            refine q_iadd dX9_ask_201 ?_
            refine q_iload_n dX9_ask_202 rfl ?_
            obtain ⟨g203, h⟩ := q_gd h
            refine q_iast dX9_ask_203 rfl g203 ?_
            refine q_aload_n dX9_ask_204 rfl ?_
            refine q_getr dX9_ask_205 fl_X9_19 rfl rfl ?_
            refine q_iconst (v := 5) dX9_ask_208 (by decide) ?_
            refine q_aload_n dX9_ask_209 rfl ?_
            refine q_geti dX9_ask_210 fl_X9_94 rfl rfl ?_
            refine q_imul dX9_ask_213 ?_
            refine q_iconst (v := 2) dX9_ask_214 (by decide) ?_
            refine q_iadd dX9_ask_215 ?_
            refine q_iload_n dX9_ask_216 rfl ?_
            obtain ⟨g217, h⟩ := q_gd h
            refine q_iast dX9_ask_217 rfl g217 ?_
            refine q_aload_n dX9_ask_218 rfl ?_
            refine q_getr dX9_ask_219 fl_X9_19 rfl rfl ?_
            refine q_iconst (v := 5) dX9_ask_222 (by decide) ?_
            refine q_aload_n dX9_ask_223 rfl ?_
            refine q_geti dX9_ask_224 fl_X9_94 rfl rfl ?_
            refine q_imul dX9_ask_227 ?_
            refine q_iconst (v := 3) dX9_ask_228 (by decide) ?_
            refine q_iadd dX9_ask_229 ?_
            refine q_iload dX9_ask_230 rfl ?_
            obtain ⟨g232, h⟩ := q_gd h
            refine q_iast dX9_ask_232 rfl g232 ?_
            refine q_aload_n dX9_ask_233 rfl ?_
            refine q_getr dX9_ask_234 fl_X9_19 rfl rfl ?_
            refine q_iconst (v := 5) dX9_ask_237 (by decide) ?_
            refine q_aload_n dX9_ask_238 rfl ?_
            refine q_geti dX9_ask_239 fl_X9_94 rfl rfl ?_
            refine q_imul dX9_ask_242 ?_
            refine q_iconst (v := 4) dX9_ask_243 (by decide) ?_
            refine q_iadd dX9_ask_244 ?_
            refine q_aload_n dX9_ask_245 rfl ?_
            refine q_geti dX9_ask_246 fl_X9_32 rfl rfl ?_
            obtain ⟨g249, h⟩ := q_gd h
            refine q_iast dX9_ask_249 rfl g249 ?_
            refine q_aload_n dX9_ask_250 rfl ?_
            refine q_dup dX9_ask_251 ?_
            refine q_geti dX9_ask_252 fl_X9_94 rfl rfl ?_
            refine q_iconst (v := 1) dX9_ask_255 (by decide) ?_
            refine q_iadd dX9_ask_256 ?_
            refine q_put dX9_ask_257 fl_X9_94 fp_8_8 rfl rfl ?_
            refine q_iload dX9_ask_260 rfl ?_
            exact q_ret dX9_ask_262 rfl rfl (q_lfiw h k)
          · replace h := q_ift c139 h
            refine q_aload_n dX9_ask_142 rfl ?_
            refine q_iload dX9_ask_143 rfl ?_
            refine q_if_lt 153 dX9_ask_145 (by decide) (fun c145 => ?_) (fun c145 => ?_)
            · replace h := q_ift c145 h
              refine q_iconst (v := 0) dX9_ask_153 (by decide) ?_
              obtain ⟨T154, h154, h⟩ := q_bnd h
              refine q_callVv1 dX9_ask_154 cl_X9_155 rfl (Nat.le_of_ble_eq_true rfl) (by omega) (sX9_drops (by omega) h154 ?_)
              refine q_aload_n dX9_ask_157 rfl ?_
              refine q_aload_n dX9_ask_158 rfl ?_
              refine q_iload_n dX9_ask_159 rfl ?_
              refine q_aload_n dX9_ask_160 rfl ?_
              refine q_geti dX9_ask_161 fl_X9_32 rfl rfl ?_
              obtain ⟨r164, h164, h⟩ := q_bnd h
              refine q_callVi2 dX9_ask_164 cl_X9_67 rfl (Nat.le_of_ble_eq_true rfl) (by omega) (sX9_viewAt (by omega) h164 ?_)
              refine q_iload_n dX9_ask_167 rfl ?_
              refine q_iload_n dX9_ask_168 rfl ?_
              refine q_aload_n dX9_ask_169 rfl ?_
              refine q_geti dX9_ask_170 fl_X9_32 rfl rfl ?_
              obtain ⟨⟨r173, T173⟩, h173, h⟩ := q_bnd h
              dsimp only at h
              refine q_callVi4 dX9_ask_173 cl_X9_142 rfl (Nat.le_of_ble_eq_true rfl) (by omega) (sX9_finds (by omega) h173 ?_)
              refine q_istore dX9_ask_176 (by decide) ?_
              refine q_aload_n dX9_ask_178 rfl ?_
              refine q_getr dX9_ask_179 fl_X9_19 rfl rfl ?_
              refine q_iconst (v := 5) dX9_ask_182 (by decide) ?_
              refine q_aload_n dX9_ask_183 rfl ?_
              refine q_geti dX9_ask_184 fl_X9_94 rfl rfl ?_
              refine q_imul dX9_ask_187 ?_
              refine q_iload_n dX9_ask_188 rfl ?_
              obtain ⟨g189, h⟩ := q_gd h
              refine q_iast dX9_ask_189 rfl g189 ?_
              refine q_aload_n dX9_ask_190 rfl ?_
              refine q_getr dX9_ask_191 fl_X9_19 rfl rfl ?_
              refine q_iconst (v := 5) dX9_ask_194 (by decide) ?_
              refine q_aload_n dX9_ask_195 rfl ?_
              refine q_geti dX9_ask_196 fl_X9_94 rfl rfl ?_
              refine q_imul dX9_ask_199 ?_
              refine q_iconst (v := 1) dX9_ask_200 (by decide) ?_
              refine q_iadd dX9_ask_201 ?_
              refine q_iload_n dX9_ask_202 rfl ?_
              obtain ⟨g203, h⟩ := q_gd h
              refine q_iast dX9_ask_203 rfl g203 ?_
              refine q_aload_n dX9_ask_204 rfl ?_
              refine q_getr dX9_ask_205 fl_X9_19 rfl rfl ?_
              refine q_iconst (v := 5) dX9_ask_208 (by decide) ?_
              refine q_aload_n dX9_ask_209 rfl ?_
              refine q_geti dX9_ask_210 fl_X9_94 rfl rfl ?_
              refine q_imul dX9_ask_213 ?_
              refine q_iconst (v := 2) dX9_ask_214 (by decide) ?_
              refine q_iadd dX9_ask_215 ?_
              refine q_iload_n dX9_ask_216 rfl ?_
              obtain ⟨g217, h⟩ := q_gd h
              refine q_iast dX9_ask_217 rfl g217 ?_
              refine q_aload_n dX9_ask_218 rfl ?_
              refine q_getr dX9_ask_219 fl_X9_19 rfl rfl ?_
              refine q_iconst (v := 5) dX9_ask_222 (by decide) ?_
              refine q_aload_n dX9_ask_223 rfl ?_
              refine q_geti dX9_ask_224 fl_X9_94 rfl rfl ?_
              refine q_imul dX9_ask_227 ?_
              refine q_iconst (v := 3) dX9_ask_228 (by decide) ?_
              refine q_iadd dX9_ask_229 ?_
              refine q_iload dX9_ask_230 rfl ?_
              obtain ⟨g232, h⟩ := q_gd h
              refine q_iast dX9_ask_232 rfl g232 ?_
              refine q_aload_n dX9_ask_233 rfl ?_
              refine q_getr dX9_ask_234 fl_X9_19 rfl rfl ?_
              refine q_iconst (v := 5) dX9_ask_237 (by decide) ?_
              refine q_aload_n dX9_ask_238 rfl ?_
              refine q_geti dX9_ask_239 fl_X9_94 rfl rfl ?_
              refine q_imul dX9_ask_242 ?_
              refine q_iconst (v := 4) dX9_ask_243 (by decide) ?_
              refine q_iadd dX9_ask_244 ?_
              refine q_aload_n dX9_ask_245 rfl ?_
              refine q_geti dX9_ask_246 fl_X9_32 rfl rfl ?_
              obtain ⟨g249, h⟩ := q_gd h
              refine q_iast dX9_ask_249 rfl g249 ?_
              refine q_aload_n dX9_ask_250 rfl ?_
              refine q_dup dX9_ask_251 ?_
              refine q_geti dX9_ask_252 fl_X9_94 rfl rfl ?_
              refine q_iconst (v := 1) dX9_ask_255 (by decide) ?_
              refine q_iadd dX9_ask_256 ?_
              refine q_put dX9_ask_257 fl_X9_94 fp_8_8 rfl rfl ?_
              refine q_iload dX9_ask_260 rfl ?_
              exact q_ret dX9_ask_262 rfl rfl (q_lfiw h k)
            · replace h := q_iff c145 h
              refine q_iload dX9_ask_148 rfl ?_
              refine q_goto 154 dX9_ask_150 (by decide) ?_
              obtain ⟨T154, h154, h⟩ := q_bnd h
              refine q_callVv1 dX9_ask_154 cl_X9_155 rfl (Nat.le_of_ble_eq_true rfl) (by omega) (sX9_drops (by omega) h154 ?_)
              refine q_aload_n dX9_ask_157 rfl ?_
              refine q_aload_n dX9_ask_158 rfl ?_
              refine q_iload_n dX9_ask_159 rfl ?_
              refine q_aload_n dX9_ask_160 rfl ?_
              refine q_geti dX9_ask_161 fl_X9_32 rfl rfl ?_
              obtain ⟨r164, h164, h⟩ := q_bnd h
              refine q_callVi2 dX9_ask_164 cl_X9_67 rfl (Nat.le_of_ble_eq_true rfl) (by omega) (sX9_viewAt (by omega) h164 ?_)
              refine q_iload_n dX9_ask_167 rfl ?_
              refine q_iload_n dX9_ask_168 rfl ?_
              refine q_aload_n dX9_ask_169 rfl ?_
              refine q_geti dX9_ask_170 fl_X9_32 rfl rfl ?_
              obtain ⟨⟨r173, T173⟩, h173, h⟩ := q_bnd h
              dsimp only at h
              refine q_callVi4 dX9_ask_173 cl_X9_142 rfl (Nat.le_of_ble_eq_true rfl) (by omega) (sX9_finds (by omega) h173 ?_)
              refine q_istore dX9_ask_176 (by decide) ?_
              refine q_aload_n dX9_ask_178 rfl ?_
              refine q_getr dX9_ask_179 fl_X9_19 rfl rfl ?_
              refine q_iconst (v := 5) dX9_ask_182 (by decide) ?_
              refine q_aload_n dX9_ask_183 rfl ?_
              refine q_geti dX9_ask_184 fl_X9_94 rfl rfl ?_
              refine q_imul dX9_ask_187 ?_
              refine q_iload_n dX9_ask_188 rfl ?_
              obtain ⟨g189, h⟩ := q_gd h
              refine q_iast dX9_ask_189 rfl g189 ?_
              refine q_aload_n dX9_ask_190 rfl ?_
              refine q_getr dX9_ask_191 fl_X9_19 rfl rfl ?_
              refine q_iconst (v := 5) dX9_ask_194 (by decide) ?_
              refine q_aload_n dX9_ask_195 rfl ?_
              refine q_geti dX9_ask_196 fl_X9_94 rfl rfl ?_
              refine q_imul dX9_ask_199 ?_
              refine q_iconst (v := 1) dX9_ask_200 (by decide) ?_
              refine q_iadd dX9_ask_201 ?_
              refine q_iload_n dX9_ask_202 rfl ?_
              obtain ⟨g203, h⟩ := q_gd h
              refine q_iast dX9_ask_203 rfl g203 ?_
              refine q_aload_n dX9_ask_204 rfl ?_
              refine q_getr dX9_ask_205 fl_X9_19 rfl rfl ?_
              refine q_iconst (v := 5) dX9_ask_208 (by decide) ?_
              refine q_aload_n dX9_ask_209 rfl ?_
              refine q_geti dX9_ask_210 fl_X9_94 rfl rfl ?_
              refine q_imul dX9_ask_213 ?_
              refine q_iconst (v := 2) dX9_ask_214 (by decide) ?_
              refine q_iadd dX9_ask_215 ?_
              refine q_iload_n dX9_ask_216 rfl ?_
              obtain ⟨g217, h⟩ := q_gd h
              refine q_iast dX9_ask_217 rfl g217 ?_
              refine q_aload_n dX9_ask_218 rfl ?_
              refine q_getr dX9_ask_219 fl_X9_19 rfl rfl ?_
              refine q_iconst (v := 5) dX9_ask_222 (by decide) ?_
              refine q_aload_n dX9_ask_223 rfl ?_
              refine q_geti dX9_ask_224 fl_X9_94 rfl rfl ?_
              refine q_imul dX9_ask_227 ?_
              refine q_iconst (v := 3) dX9_ask_228 (by decide) ?_
              refine q_iadd dX9_ask_229 ?_
              refine q_iload dX9_ask_230 rfl ?_
              obtain ⟨g232, h⟩ := q_gd h
              refine q_iast dX9_ask_232 rfl g232 ?_
              refine q_aload_n dX9_ask_233 rfl ?_
              refine q_getr dX9_ask_234 fl_X9_19 rfl rfl ?_
              refine q_iconst (v := 5) dX9_ask_237 (by decide) ?_
              refine q_aload_n dX9_ask_238 rfl ?_
              refine q_geti dX9_ask_239 fl_X9_94 rfl rfl ?_
              refine q_imul dX9_ask_242 ?_
              refine q_iconst (v := 4) dX9_ask_243 (by decide) ?_
              refine q_iadd dX9_ask_244 ?_
              refine q_aload_n dX9_ask_245 rfl ?_
              refine q_geti dX9_ask_246 fl_X9_32 rfl rfl ?_
              obtain ⟨g249, h⟩ := q_gd h
              refine q_iast dX9_ask_249 rfl g249 ?_
              refine q_aload_n dX9_ask_250 rfl ?_
              refine q_dup dX9_ask_251 ?_
              refine q_geti dX9_ask_252 fl_X9_94 rfl rfl ?_
              refine q_iconst (v := 1) dX9_ask_255 (by decide) ?_
              refine q_iadd dX9_ask_256 ?_
              refine q_put dX9_ask_257 fl_X9_94 fp_8_8 rfl rfl ?_
              refine q_iload dX9_ask_260 rfl ?_
              exact q_ret dX9_ask_262 rfl rfl (q_lfiw h k)
      · replace h := q_iff c94 h
        refine q_aload_n dX9_ask_97 rfl ?_
        refine q_iload dX9_ask_98 rfl ?_
        obtain ⟨r100, h100, h⟩ := q_bnd h
        refine q_callVi1 dX9_ask_100 cl_X9_152 rfl (Nat.le_of_ble_eq_true rfl) (by omega) (sX9_isYoung (by omega) h100 ?_)
        refine q_if_eq_b 128 dX9_ask_103 (by decide) (fun c103 => ?_) (fun c103 => ?_)
        · replace h := q_ifb c103 h
          refine q_iload dX9_ask_128 rfl ?_
          refine q_if_ge 142 dX9_ask_130 (by decide) (fun c130 => ?_) (fun c130 => ?_)
          · replace h := q_ift c130 h
            refine q_aload_n dX9_ask_142 rfl ?_
            refine q_iload dX9_ask_143 rfl ?_
            refine q_if_lt 153 dX9_ask_145 (by decide) (fun c145 => ?_) (fun c145 => ?_)
            · replace h := q_ift c145 h
              refine q_iconst (v := 0) dX9_ask_153 (by decide) ?_
              obtain ⟨T154, h154, h⟩ := q_bnd h
              refine q_callVv1 dX9_ask_154 cl_X9_155 rfl (Nat.le_of_ble_eq_true rfl) (by omega) (sX9_drops (by omega) h154 ?_)
              refine q_aload_n dX9_ask_157 rfl ?_
              refine q_aload_n dX9_ask_158 rfl ?_
              refine q_iload_n dX9_ask_159 rfl ?_
              refine q_aload_n dX9_ask_160 rfl ?_
              refine q_geti dX9_ask_161 fl_X9_32 rfl rfl ?_
              obtain ⟨r164, h164, h⟩ := q_bnd h
              refine q_callVi2 dX9_ask_164 cl_X9_67 rfl (Nat.le_of_ble_eq_true rfl) (by omega) (sX9_viewAt (by omega) h164 ?_)
              refine q_iload_n dX9_ask_167 rfl ?_
              refine q_iload_n dX9_ask_168 rfl ?_
              refine q_aload_n dX9_ask_169 rfl ?_
              refine q_geti dX9_ask_170 fl_X9_32 rfl rfl ?_
              obtain ⟨⟨r173, T173⟩, h173, h⟩ := q_bnd h
              dsimp only at h
              refine q_callVi4 dX9_ask_173 cl_X9_142 rfl (Nat.le_of_ble_eq_true rfl) (by omega) (sX9_finds (by omega) h173 ?_)
              refine q_istore dX9_ask_176 (by decide) ?_
              refine q_aload_n dX9_ask_178 rfl ?_
              refine q_getr dX9_ask_179 fl_X9_19 rfl rfl ?_
              refine q_iconst (v := 5) dX9_ask_182 (by decide) ?_
              refine q_aload_n dX9_ask_183 rfl ?_
              refine q_geti dX9_ask_184 fl_X9_94 rfl rfl ?_
              refine q_imul dX9_ask_187 ?_
              refine q_iload_n dX9_ask_188 rfl ?_
              obtain ⟨g189, h⟩ := q_gd h
              refine q_iast dX9_ask_189 rfl g189 ?_
              refine q_aload_n dX9_ask_190 rfl ?_
              refine q_getr dX9_ask_191 fl_X9_19 rfl rfl ?_
              refine q_iconst (v := 5) dX9_ask_194 (by decide) ?_
              refine q_aload_n dX9_ask_195 rfl ?_
              refine q_geti dX9_ask_196 fl_X9_94 rfl rfl ?_
              refine q_imul dX9_ask_199 ?_
              refine q_iconst (v := 1) dX9_ask_200 (by decide) ?_
              refine q_iadd dX9_ask_201 ?_
              refine q_iload_n dX9_ask_202 rfl ?_
              obtain ⟨g203, h⟩ := q_gd h
              refine q_iast dX9_ask_203 rfl g203 ?_
              refine q_aload_n dX9_ask_204 rfl ?_
              refine q_getr dX9_ask_205 fl_X9_19 rfl rfl ?_
              refine q_iconst (v := 5) dX9_ask_208 (by decide) ?_
              refine q_aload_n dX9_ask_209 rfl ?_
              refine q_geti dX9_ask_210 fl_X9_94 rfl rfl ?_
              refine q_imul dX9_ask_213 ?_
              refine q_iconst (v := 2) dX9_ask_214 (by decide) ?_
              refine q_iadd dX9_ask_215 ?_
              refine q_iload_n dX9_ask_216 rfl ?_
              obtain ⟨g217, h⟩ := q_gd h
              refine q_iast dX9_ask_217 rfl g217 ?_
              refine q_aload_n dX9_ask_218 rfl ?_
              refine q_getr dX9_ask_219 fl_X9_19 rfl rfl ?_
              refine q_iconst (v := 5) dX9_ask_222 (by decide) ?_
              refine q_aload_n dX9_ask_223 rfl ?_
              refine q_geti dX9_ask_224 fl_X9_94 rfl rfl ?_
              refine q_imul dX9_ask_227 ?_
              refine q_iconst (v := 3) dX9_ask_228 (by decide) ?_
              refine q_iadd dX9_ask_229 ?_
              refine q_iload dX9_ask_230 rfl ?_
              obtain ⟨g232, h⟩ := q_gd h
              refine q_iast dX9_ask_232 rfl g232 ?_
              refine q_aload_n dX9_ask_233 rfl ?_
              refine q_getr dX9_ask_234 fl_X9_19 rfl rfl ?_
              refine q_iconst (v := 5) dX9_ask_237 (by decide) ?_
              refine q_aload_n dX9_ask_238 rfl ?_
              refine q_geti dX9_ask_239 fl_X9_94 rfl rfl ?_
              refine q_imul dX9_ask_242 ?_
              refine q_iconst (v := 4) dX9_ask_243 (by decide) ?_
              refine q_iadd dX9_ask_244 ?_
              refine q_aload_n dX9_ask_245 rfl ?_
              refine q_geti dX9_ask_246 fl_X9_32 rfl rfl ?_
              obtain ⟨g249, h⟩ := q_gd h
              refine q_iast dX9_ask_249 rfl g249 ?_
              refine q_aload_n dX9_ask_250 rfl ?_
              refine q_dup dX9_ask_251 ?_
              refine q_geti dX9_ask_252 fl_X9_94 rfl rfl ?_
              refine q_iconst (v := 1) dX9_ask_255 (by decide) ?_
              refine q_iadd dX9_ask_256 ?_
              refine q_put dX9_ask_257 fl_X9_94 fp_8_8 rfl rfl ?_
              refine q_iload dX9_ask_260 rfl ?_
              exact q_ret dX9_ask_262 rfl rfl (q_lfiw h k)
            · replace h := q_iff c145 h
              refine q_iload dX9_ask_148 rfl ?_
              refine q_goto 154 dX9_ask_150 (by decide) ?_
              obtain ⟨T154, h154, h⟩ := q_bnd h
              refine q_callVv1 dX9_ask_154 cl_X9_155 rfl (Nat.le_of_ble_eq_true rfl) (by omega) (sX9_drops (by omega) h154 ?_)
              refine q_aload_n dX9_ask_157 rfl ?_
              refine q_aload_n dX9_ask_158 rfl ?_
              refine q_iload_n dX9_ask_159 rfl ?_
              refine q_aload_n dX9_ask_160 rfl ?_
              refine q_geti dX9_ask_161 fl_X9_32 rfl rfl ?_
              obtain ⟨r164, h164, h⟩ := q_bnd h
              refine q_callVi2 dX9_ask_164 cl_X9_67 rfl (Nat.le_of_ble_eq_true rfl) (by omega) (sX9_viewAt (by omega) h164 ?_)
              refine q_iload_n dX9_ask_167 rfl ?_
              refine q_iload_n dX9_ask_168 rfl ?_
              refine q_aload_n dX9_ask_169 rfl ?_
              refine q_geti dX9_ask_170 fl_X9_32 rfl rfl ?_
              obtain ⟨⟨r173, T173⟩, h173, h⟩ := q_bnd h
              dsimp only at h
              refine q_callVi4 dX9_ask_173 cl_X9_142 rfl (Nat.le_of_ble_eq_true rfl) (by omega) (sX9_finds (by omega) h173 ?_)
              refine q_istore dX9_ask_176 (by decide) ?_
              refine q_aload_n dX9_ask_178 rfl ?_
              refine q_getr dX9_ask_179 fl_X9_19 rfl rfl ?_
              refine q_iconst (v := 5) dX9_ask_182 (by decide) ?_
              refine q_aload_n dX9_ask_183 rfl ?_
              refine q_geti dX9_ask_184 fl_X9_94 rfl rfl ?_
              refine q_imul dX9_ask_187 ?_
              refine q_iload_n dX9_ask_188 rfl ?_
              obtain ⟨g189, h⟩ := q_gd h
              refine q_iast dX9_ask_189 rfl g189 ?_
              refine q_aload_n dX9_ask_190 rfl ?_
              refine q_getr dX9_ask_191 fl_X9_19 rfl rfl ?_
              refine q_iconst (v := 5) dX9_ask_194 (by decide) ?_
              refine q_aload_n dX9_ask_195 rfl ?_
              refine q_geti dX9_ask_196 fl_X9_94 rfl rfl ?_
              refine q_imul dX9_ask_199 ?_
              refine q_iconst (v := 1) dX9_ask_200 (by decide) ?_
              refine q_iadd dX9_ask_201 ?_
              refine q_iload_n dX9_ask_202 rfl ?_
              obtain ⟨g203, h⟩ := q_gd h
              refine q_iast dX9_ask_203 rfl g203 ?_
              refine q_aload_n dX9_ask_204 rfl ?_
              refine q_getr dX9_ask_205 fl_X9_19 rfl rfl ?_
              refine q_iconst (v := 5) dX9_ask_208 (by decide) ?_
              refine q_aload_n dX9_ask_209 rfl ?_
              refine q_geti dX9_ask_210 fl_X9_94 rfl rfl ?_
              refine q_imul dX9_ask_213 ?_
              refine q_iconst (v := 2) dX9_ask_214 (by decide) ?_
              refine q_iadd dX9_ask_215 ?_
              refine q_iload_n dX9_ask_216 rfl ?_
              obtain ⟨g217, h⟩ := q_gd h
              refine q_iast dX9_ask_217 rfl g217 ?_
              refine q_aload_n dX9_ask_218 rfl ?_
              refine q_getr dX9_ask_219 fl_X9_19 rfl rfl ?_
              refine q_iconst (v := 5) dX9_ask_222 (by decide) ?_
              refine q_aload_n dX9_ask_223 rfl ?_
              refine q_geti dX9_ask_224 fl_X9_94 rfl rfl ?_
              refine q_imul dX9_ask_227 ?_
              refine q_iconst (v := 3) dX9_ask_228 (by decide) ?_
              refine q_iadd dX9_ask_229 ?_
              refine q_iload dX9_ask_230 rfl ?_
              obtain ⟨g232, h⟩ := q_gd h
              refine q_iast dX9_ask_232 rfl g232 ?_
              refine q_aload_n dX9_ask_233 rfl ?_
              refine q_getr dX9_ask_234 fl_X9_19 rfl rfl ?_
              refine q_iconst (v := 5) dX9_ask_237 (by decide) ?_
              refine q_aload_n dX9_ask_238 rfl ?_
              refine q_geti dX9_ask_239 fl_X9_94 rfl rfl ?_
              refine q_imul dX9_ask_242 ?_
              refine q_iconst (v := 4) dX9_ask_243 (by decide) ?_
              refine q_iadd dX9_ask_244 ?_
              refine q_aload_n dX9_ask_245 rfl ?_
              refine q_geti dX9_ask_246 fl_X9_32 rfl rfl ?_
              obtain ⟨g249, h⟩ := q_gd h
              refine q_iast dX9_ask_249 rfl g249 ?_
              refine q_aload_n dX9_ask_250 rfl ?_
              refine q_dup dX9_ask_251 ?_
              refine q_geti dX9_ask_252 fl_X9_94 rfl rfl ?_
              refine q_iconst (v := 1) dX9_ask_255 (by decide) ?_
              refine q_iadd dX9_ask_256 ?_
              refine q_put dX9_ask_257 fl_X9_94 fp_8_8 rfl rfl ?_
              refine q_iload dX9_ask_260 rfl ?_
              exact q_ret dX9_ask_262 rfl rfl (q_lfiw h k)
          · replace h := q_iff c130 h
            refine q_aload_n dX9_ask_133 rfl ?_
            refine q_geti dX9_ask_134 fl_X9_94 rfl rfl ?_
            refine q_bipush (v := 6) dX9_ask_137 (by decide) ?_
            refine q_icmp_ne 157 dX9_ask_139 (by decide) (fun c139 => ?_) (fun c139 => ?_)
            · replace h := q_iff c139 h
              refine q_aload_n dX9_ask_157 rfl ?_
              refine q_aload_n dX9_ask_158 rfl ?_
              refine q_iload_n dX9_ask_159 rfl ?_
              refine q_aload_n dX9_ask_160 rfl ?_
              refine q_geti dX9_ask_161 fl_X9_32 rfl rfl ?_
              obtain ⟨r164, h164, h⟩ := q_bnd h
              refine q_callVi2 dX9_ask_164 cl_X9_67 rfl (Nat.le_of_ble_eq_true rfl) (by omega) (sX9_viewAt (by omega) h164 ?_)
              refine q_iload_n dX9_ask_167 rfl ?_
              refine q_iload_n dX9_ask_168 rfl ?_
              refine q_aload_n dX9_ask_169 rfl ?_
              refine q_geti dX9_ask_170 fl_X9_32 rfl rfl ?_
              obtain ⟨⟨r173, T173⟩, h173, h⟩ := q_bnd h
              dsimp only at h
              refine q_callVi4 dX9_ask_173 cl_X9_142 rfl (Nat.le_of_ble_eq_true rfl) (by omega) (sX9_finds (by omega) h173 ?_)
              refine q_istore dX9_ask_176 (by decide) ?_
              refine q_aload_n dX9_ask_178 rfl ?_
              refine q_getr dX9_ask_179 fl_X9_19 rfl rfl ?_
              refine q_iconst (v := 5) dX9_ask_182 (by decide) ?_
              refine q_aload_n dX9_ask_183 rfl ?_
              refine q_geti dX9_ask_184 fl_X9_94 rfl rfl ?_
              refine q_imul dX9_ask_187 ?_
              refine q_iload_n dX9_ask_188 rfl ?_
              obtain ⟨g189, h⟩ := q_gd h
              refine q_iast dX9_ask_189 rfl g189 ?_
              refine q_aload_n dX9_ask_190 rfl ?_
              refine q_getr dX9_ask_191 fl_X9_19 rfl rfl ?_
              refine q_iconst (v := 5) dX9_ask_194 (by decide) ?_
              refine q_aload_n dX9_ask_195 rfl ?_
              refine q_geti dX9_ask_196 fl_X9_94 rfl rfl ?_
              refine q_imul dX9_ask_199 ?_
              refine q_iconst (v := 1) dX9_ask_200 (by decide) ?_
              refine q_iadd dX9_ask_201 ?_
              refine q_iload_n dX9_ask_202 rfl ?_
              obtain ⟨g203, h⟩ := q_gd h
              refine q_iast dX9_ask_203 rfl g203 ?_
              refine q_aload_n dX9_ask_204 rfl ?_
              refine q_getr dX9_ask_205 fl_X9_19 rfl rfl ?_
              refine q_iconst (v := 5) dX9_ask_208 (by decide) ?_
              refine q_aload_n dX9_ask_209 rfl ?_
              refine q_geti dX9_ask_210 fl_X9_94 rfl rfl ?_
              refine q_imul dX9_ask_213 ?_
              refine q_iconst (v := 2) dX9_ask_214 (by decide) ?_
              refine q_iadd dX9_ask_215 ?_
              refine q_iload_n dX9_ask_216 rfl ?_
              obtain ⟨g217, h⟩ := q_gd h
              refine q_iast dX9_ask_217 rfl g217 ?_
              refine q_aload_n dX9_ask_218 rfl ?_
              refine q_getr dX9_ask_219 fl_X9_19 rfl rfl ?_
              refine q_iconst (v := 5) dX9_ask_222 (by decide) ?_
              refine q_aload_n dX9_ask_223 rfl ?_
              refine q_geti dX9_ask_224 fl_X9_94 rfl rfl ?_
              refine q_imul dX9_ask_227 ?_
              refine q_iconst (v := 3) dX9_ask_228 (by decide) ?_
              refine q_iadd dX9_ask_229 ?_
              refine q_iload dX9_ask_230 rfl ?_
              obtain ⟨g232, h⟩ := q_gd h
              refine q_iast dX9_ask_232 rfl g232 ?_
              refine q_aload_n dX9_ask_233 rfl ?_
              refine q_getr dX9_ask_234 fl_X9_19 rfl rfl ?_
              refine q_iconst (v := 5) dX9_ask_237 (by decide) ?_
              refine q_aload_n dX9_ask_238 rfl ?_
              refine q_geti dX9_ask_239 fl_X9_94 rfl rfl ?_
              refine q_imul dX9_ask_242 ?_
              refine q_iconst (v := 4) dX9_ask_243 (by decide) ?_
              refine q_iadd dX9_ask_244 ?_
              refine q_aload_n dX9_ask_245 rfl ?_
              refine q_geti dX9_ask_246 fl_X9_32 rfl rfl ?_
              obtain ⟨g249, h⟩ := q_gd h
              refine q_iast dX9_ask_249 rfl g249 ?_
              refine q_aload_n dX9_ask_250 rfl ?_
              refine q_dup dX9_ask_251 ?_
              refine q_geti dX9_ask_252 fl_X9_94 rfl rfl ?_
              refine q_iconst (v := 1) dX9_ask_255 (by decide) ?_
              refine q_iadd dX9_ask_256 ?_
              refine q_put dX9_ask_257 fl_X9_94 fp_8_8 rfl rfl ?_
              refine q_iload dX9_ask_260 rfl ?_
              exact q_ret dX9_ask_262 rfl rfl (q_lfiw h k)
            · replace h := q_ift c139 h
              refine q_aload_n dX9_ask_142 rfl ?_
              refine q_iload dX9_ask_143 rfl ?_
              refine q_if_lt 153 dX9_ask_145 (by decide) (fun c145 => ?_) (fun c145 => ?_)
              · replace h := q_ift c145 h
                refine q_iconst (v := 0) dX9_ask_153 (by decide) ?_
                obtain ⟨T154, h154, h⟩ := q_bnd h
                refine q_callVv1 dX9_ask_154 cl_X9_155 rfl (Nat.le_of_ble_eq_true rfl) (by omega) (sX9_drops (by omega) h154 ?_)
                refine q_aload_n dX9_ask_157 rfl ?_
                refine q_aload_n dX9_ask_158 rfl ?_
                refine q_iload_n dX9_ask_159 rfl ?_
                refine q_aload_n dX9_ask_160 rfl ?_
                refine q_geti dX9_ask_161 fl_X9_32 rfl rfl ?_
                obtain ⟨r164, h164, h⟩ := q_bnd h
                refine q_callVi2 dX9_ask_164 cl_X9_67 rfl (Nat.le_of_ble_eq_true rfl) (by omega) (sX9_viewAt (by omega) h164 ?_)
                refine q_iload_n dX9_ask_167 rfl ?_
                refine q_iload_n dX9_ask_168 rfl ?_
                refine q_aload_n dX9_ask_169 rfl ?_
                refine q_geti dX9_ask_170 fl_X9_32 rfl rfl ?_
                obtain ⟨⟨r173, T173⟩, h173, h⟩ := q_bnd h
                dsimp only at h
                refine q_callVi4 dX9_ask_173 cl_X9_142 rfl (Nat.le_of_ble_eq_true rfl) (by omega) (sX9_finds (by omega) h173 ?_)
                refine q_istore dX9_ask_176 (by decide) ?_
                refine q_aload_n dX9_ask_178 rfl ?_
                refine q_getr dX9_ask_179 fl_X9_19 rfl rfl ?_
                refine q_iconst (v := 5) dX9_ask_182 (by decide) ?_
                refine q_aload_n dX9_ask_183 rfl ?_
                refine q_geti dX9_ask_184 fl_X9_94 rfl rfl ?_
                refine q_imul dX9_ask_187 ?_
                refine q_iload_n dX9_ask_188 rfl ?_
                obtain ⟨g189, h⟩ := q_gd h
                refine q_iast dX9_ask_189 rfl g189 ?_
                refine q_aload_n dX9_ask_190 rfl ?_
                refine q_getr dX9_ask_191 fl_X9_19 rfl rfl ?_
                refine q_iconst (v := 5) dX9_ask_194 (by decide) ?_
                refine q_aload_n dX9_ask_195 rfl ?_
                refine q_geti dX9_ask_196 fl_X9_94 rfl rfl ?_
                refine q_imul dX9_ask_199 ?_
                refine q_iconst (v := 1) dX9_ask_200 (by decide) ?_
                refine q_iadd dX9_ask_201 ?_
                refine q_iload_n dX9_ask_202 rfl ?_
                obtain ⟨g203, h⟩ := q_gd h
                refine q_iast dX9_ask_203 rfl g203 ?_
                refine q_aload_n dX9_ask_204 rfl ?_
                refine q_getr dX9_ask_205 fl_X9_19 rfl rfl ?_
                refine q_iconst (v := 5) dX9_ask_208 (by decide) ?_
                refine q_aload_n dX9_ask_209 rfl ?_
                refine q_geti dX9_ask_210 fl_X9_94 rfl rfl ?_
                refine q_imul dX9_ask_213 ?_
                refine q_iconst (v := 2) dX9_ask_214 (by decide) ?_
                refine q_iadd dX9_ask_215 ?_
                refine q_iload_n dX9_ask_216 rfl ?_
                obtain ⟨g217, h⟩ := q_gd h
                refine q_iast dX9_ask_217 rfl g217 ?_
                refine q_aload_n dX9_ask_218 rfl ?_
                refine q_getr dX9_ask_219 fl_X9_19 rfl rfl ?_
                refine q_iconst (v := 5) dX9_ask_222 (by decide) ?_
                refine q_aload_n dX9_ask_223 rfl ?_
                refine q_geti dX9_ask_224 fl_X9_94 rfl rfl ?_
                refine q_imul dX9_ask_227 ?_
                refine q_iconst (v := 3) dX9_ask_228 (by decide) ?_
                refine q_iadd dX9_ask_229 ?_
                refine q_iload dX9_ask_230 rfl ?_
                obtain ⟨g232, h⟩ := q_gd h
                refine q_iast dX9_ask_232 rfl g232 ?_
                refine q_aload_n dX9_ask_233 rfl ?_
                refine q_getr dX9_ask_234 fl_X9_19 rfl rfl ?_
                refine q_iconst (v := 5) dX9_ask_237 (by decide) ?_
                refine q_aload_n dX9_ask_238 rfl ?_
                refine q_geti dX9_ask_239 fl_X9_94 rfl rfl ?_
                refine q_imul dX9_ask_242 ?_
                refine q_iconst (v := 4) dX9_ask_243 (by decide) ?_
                refine q_iadd dX9_ask_244 ?_
                refine q_aload_n dX9_ask_245 rfl ?_
                refine q_geti dX9_ask_246 fl_X9_32 rfl rfl ?_
                obtain ⟨g249, h⟩ := q_gd h
                refine q_iast dX9_ask_249 rfl g249 ?_
                refine q_aload_n dX9_ask_250 rfl ?_
                refine q_dup dX9_ask_251 ?_
                refine q_geti dX9_ask_252 fl_X9_94 rfl rfl ?_
                refine q_iconst (v := 1) dX9_ask_255 (by decide) ?_
                refine q_iadd dX9_ask_256 ?_
                refine q_put dX9_ask_257 fl_X9_94 fp_8_8 rfl rfl ?_
                refine q_iload dX9_ask_260 rfl ?_
                exact q_ret dX9_ask_262 rfl rfl (q_lfiw h k)
              · replace h := q_iff c145 h
                refine q_iload dX9_ask_148 rfl ?_
                refine q_goto 154 dX9_ask_150 (by decide) ?_
                obtain ⟨T154, h154, h⟩ := q_bnd h
                refine q_callVv1 dX9_ask_154 cl_X9_155 rfl (Nat.le_of_ble_eq_true rfl) (by omega) (sX9_drops (by omega) h154 ?_)
                refine q_aload_n dX9_ask_157 rfl ?_
                refine q_aload_n dX9_ask_158 rfl ?_
                refine q_iload_n dX9_ask_159 rfl ?_
                refine q_aload_n dX9_ask_160 rfl ?_
                refine q_geti dX9_ask_161 fl_X9_32 rfl rfl ?_
                obtain ⟨r164, h164, h⟩ := q_bnd h
                refine q_callVi2 dX9_ask_164 cl_X9_67 rfl (Nat.le_of_ble_eq_true rfl) (by omega) (sX9_viewAt (by omega) h164 ?_)
                refine q_iload_n dX9_ask_167 rfl ?_
                refine q_iload_n dX9_ask_168 rfl ?_
                refine q_aload_n dX9_ask_169 rfl ?_
                refine q_geti dX9_ask_170 fl_X9_32 rfl rfl ?_
                obtain ⟨⟨r173, T173⟩, h173, h⟩ := q_bnd h
                dsimp only at h
                refine q_callVi4 dX9_ask_173 cl_X9_142 rfl (Nat.le_of_ble_eq_true rfl) (by omega) (sX9_finds (by omega) h173 ?_)
                refine q_istore dX9_ask_176 (by decide) ?_
                refine q_aload_n dX9_ask_178 rfl ?_
                refine q_getr dX9_ask_179 fl_X9_19 rfl rfl ?_
                refine q_iconst (v := 5) dX9_ask_182 (by decide) ?_
                refine q_aload_n dX9_ask_183 rfl ?_
                refine q_geti dX9_ask_184 fl_X9_94 rfl rfl ?_
                refine q_imul dX9_ask_187 ?_
                refine q_iload_n dX9_ask_188 rfl ?_
                obtain ⟨g189, h⟩ := q_gd h
                refine q_iast dX9_ask_189 rfl g189 ?_
                refine q_aload_n dX9_ask_190 rfl ?_
                refine q_getr dX9_ask_191 fl_X9_19 rfl rfl ?_
                refine q_iconst (v := 5) dX9_ask_194 (by decide) ?_
                refine q_aload_n dX9_ask_195 rfl ?_
                refine q_geti dX9_ask_196 fl_X9_94 rfl rfl ?_
                refine q_imul dX9_ask_199 ?_
                refine q_iconst (v := 1) dX9_ask_200 (by decide) ?_
                refine q_iadd dX9_ask_201 ?_
                refine q_iload_n dX9_ask_202 rfl ?_
                obtain ⟨g203, h⟩ := q_gd h
                refine q_iast dX9_ask_203 rfl g203 ?_
                refine q_aload_n dX9_ask_204 rfl ?_
                refine q_getr dX9_ask_205 fl_X9_19 rfl rfl ?_
                refine q_iconst (v := 5) dX9_ask_208 (by decide) ?_
                refine q_aload_n dX9_ask_209 rfl ?_
                refine q_geti dX9_ask_210 fl_X9_94 rfl rfl ?_
                refine q_imul dX9_ask_213 ?_
                refine q_iconst (v := 2) dX9_ask_214 (by decide) ?_
                refine q_iadd dX9_ask_215 ?_
                refine q_iload_n dX9_ask_216 rfl ?_
                obtain ⟨g217, h⟩ := q_gd h
                refine q_iast dX9_ask_217 rfl g217 ?_
                refine q_aload_n dX9_ask_218 rfl ?_
                refine q_getr dX9_ask_219 fl_X9_19 rfl rfl ?_
                refine q_iconst (v := 5) dX9_ask_222 (by decide) ?_
                refine q_aload_n dX9_ask_223 rfl ?_
                refine q_geti dX9_ask_224 fl_X9_94 rfl rfl ?_
                refine q_imul dX9_ask_227 ?_
                refine q_iconst (v := 3) dX9_ask_228 (by decide) ?_
                refine q_iadd dX9_ask_229 ?_
                refine q_iload dX9_ask_230 rfl ?_
                obtain ⟨g232, h⟩ := q_gd h
                refine q_iast dX9_ask_232 rfl g232 ?_
                refine q_aload_n dX9_ask_233 rfl ?_
                refine q_getr dX9_ask_234 fl_X9_19 rfl rfl ?_
                refine q_iconst (v := 5) dX9_ask_237 (by decide) ?_
                refine q_aload_n dX9_ask_238 rfl ?_
                refine q_geti dX9_ask_239 fl_X9_94 rfl rfl ?_
                refine q_imul dX9_ask_242 ?_
                refine q_iconst (v := 4) dX9_ask_243 (by decide) ?_
                refine q_iadd dX9_ask_244 ?_
                refine q_aload_n dX9_ask_245 rfl ?_
                refine q_geti dX9_ask_246 fl_X9_32 rfl rfl ?_
                obtain ⟨g249, h⟩ := q_gd h
                refine q_iast dX9_ask_249 rfl g249 ?_
                refine q_aload_n dX9_ask_250 rfl ?_
                refine q_dup dX9_ask_251 ?_
                refine q_geti dX9_ask_252 fl_X9_94 rfl rfl ?_
                refine q_iconst (v := 1) dX9_ask_255 (by decide) ?_
                refine q_iadd dX9_ask_256 ?_
                refine q_put dX9_ask_257 fl_X9_94 fp_8_8 rfl rfl ?_
                refine q_iload dX9_ask_260 rfl ?_
                exact q_ret dX9_ask_262 rfl rfl (q_lfiw h k)
        · replace h := q_ift c103 h
          refine q_aload_n dX9_ask_106 rfl ?_
          refine q_dup dX9_ask_107 ?_
          refine q_geti dX9_ask_108 fl_X9_97 rfl rfl ?_
          refine q_iconst (v := 1) dX9_ask_111 (by decide) ?_
          refine q_iadd dX9_ask_112 ?_
          refine q_put dX9_ask_113 fl_X9_97 fp_8_10 rfl rfl ?_
          refine q_aload_n dX9_ask_116 rfl ?_
          refine q_getr dX9_ask_117 fl_X9_19 rfl rfl ?_
          refine q_iconst (v := 5) dX9_ask_120 (by decide) ?_
          refine q_iload dX9_ask_121 rfl ?_
          refine q_imul dX9_ask_123 ?_
          refine q_iconst (v := 3) dX9_ask_124 (by decide) ?_
          refine q_iadd dX9_ask_125 ?_
          obtain ⟨g126, h⟩ := q_gd h
          refine q_iald dX9_ask_126 rfl g126 ?_
          exact q_ret dX9_ask_127 rfl rfl (q_lfiw h k)
    · replace h := q_iff c31 h
      refine q_aload_n dX9_ask_34 rfl ?_
      refine q_getr dX9_ask_35 fl_X9_19 rfl rfl ?_
      refine q_iconst (v := 5) dX9_ask_38 (by decide) ?_
      refine q_iload dX9_ask_39 rfl ?_
      refine q_imul dX9_ask_41 ?_
      obtain ⟨g42, h⟩ := q_gd h
      refine q_iald dX9_ask_42 rfl g42 ?_
      refine q_iload_n dX9_ask_43 rfl ?_
      refine q_icmp_ne 82 dX9_ask_44 (by decide) (fun c44 => ?_) (fun c44 => ?_)
      · replace h := q_iff c44 h
        refine q_iload dX9_ask_82 rfl ?_
        refine q_istore dX9_ask_84 (by decide) ?_
        refine q_iinc (v := (v5 + 1)) dX9_ask_86 rfl rfl (by decide) ?_
        refine q_goto 25 dX9_ask_89 (by decide) ?_
        exact q_sub (ih _ _ _ h) (And.intro rfl (And.intro rfl (And.intro rfl (And.intro rfl (And.intro rfl (And.intro rfl trivial))))))
      · replace h := q_ift c44 h
        refine q_aload_n dX9_ask_47 rfl ?_
        refine q_getr dX9_ask_48 fl_X9_19 rfl rfl ?_
        refine q_iconst (v := 5) dX9_ask_51 (by decide) ?_
        refine q_iload dX9_ask_52 rfl ?_
        refine q_imul dX9_ask_54 ?_
        refine q_iconst (v := 1) dX9_ask_55 (by decide) ?_
        refine q_iadd dX9_ask_56 ?_
        obtain ⟨g57, h⟩ := q_gd h
        refine q_iald dX9_ask_57 rfl g57 ?_
        refine q_iload_n dX9_ask_58 rfl ?_
        refine q_icmp_ne 82 dX9_ask_59 (by decide) (fun c59 => ?_) (fun c59 => ?_)
        · replace h := q_iff c59 h
          refine q_iload dX9_ask_82 rfl ?_
          refine q_istore dX9_ask_84 (by decide) ?_
          refine q_iinc (v := (v5 + 1)) dX9_ask_86 rfl rfl (by decide) ?_
          refine q_goto 25 dX9_ask_89 (by decide) ?_
          exact q_sub (ih _ _ _ h) (And.intro rfl (And.intro rfl (And.intro rfl (And.intro rfl (And.intro rfl (And.intro rfl trivial))))))
        · replace h := q_ift c59 h
          refine q_aload_n dX9_ask_62 rfl ?_
          refine q_getr dX9_ask_63 fl_X9_19 rfl rfl ?_
          refine q_iconst (v := 5) dX9_ask_66 (by decide) ?_
          refine q_iload dX9_ask_67 rfl ?_
          refine q_imul dX9_ask_69 ?_
          refine q_iconst (v := 2) dX9_ask_70 (by decide) ?_
          refine q_iadd dX9_ask_71 ?_
          obtain ⟨g72, h⟩ := q_gd h
          refine q_iald dX9_ask_72 rfl g72 ?_
          refine q_iload_n dX9_ask_73 rfl ?_
          refine q_icmp_ne 82 dX9_ask_74 (by decide) (fun c74 => ?_) (fun c74 => ?_)
          · replace h := q_iff c74 h
            refine q_iload dX9_ask_82 rfl ?_
            refine q_istore dX9_ask_84 (by decide) ?_
            refine q_iinc (v := (v5 + 1)) dX9_ask_86 rfl rfl (by decide) ?_
            refine q_goto 25 dX9_ask_89 (by decide) ?_
            exact q_sub (ih _ _ _ h) (And.intro rfl (And.intro rfl (And.intro rfl (And.intro rfl (And.intro rfl (And.intro rfl trivial))))))
          · replace h := q_ift c74 h
            refine q_iload dX9_ask_77 rfl ?_
            refine q_goto 84 dX9_ask_79 (by decide) ?_
            refine q_istore dX9_ask_84 (by decide) ?_
            refine q_iinc (v := (v5 + 1)) dX9_ask_86 rfl rfl (by decide) ?_
            refine q_goto 25 dX9_ask_89 (by decide) ?_
            exact q_sub (ih _ _ _ h) (And.intro rfl (And.intro rfl (And.intro rfl (And.intro rfl (And.intro rfl (And.intro rfl trivial))))))
def fX9_ask (a1 a2 a3 : Int32) (S : qS) : Option (Int32 × qS) := (fX9_isAddress a1 S).bind (fun r1 => if r1 = true then (fX9_isQuestion 0 a2 a3 S).bind (fun r11 => if r11 = true then fX9_ask_25 a1 a2 a3 20000 (-1) 0 S else some ((-1), S)) else some ((-1), S))
set_option maxHeartbeats 4000000 in
set_option maxRecDepth 100000 in
theorem sX9_ask {l : Launch} {d : Nat} (hd : 5 ≤ d) {S : qS} {a1 a2 a3 : Int32} {r : Int32} {S' : qS} (h : fX9_ask a1 a2 a3 S = some (r, S')) {Q : Int32 → qS → Prop} (k : Q r S') : q_Mi l d yX9_ask cX9_ask 6 (some .int) [.inr 34, .inl a1, .inl a2, .inl a3] S Q := by
  refine q_Mi_of (own := RX9) rfl rfl [some (.inr 34), some (.inl a1), some (.inl a2), some (.inl a3), none, none] rfl (Nat.le_of_ble_eq_true rfl) ?_
  unfold fX9_ask at h
  refine q_iload_n dX9_ask_0 rfl ?_
  obtain ⟨r1, h1, h⟩ := q_bnd h
  refine q_callSi1 dX9_ask_1 cl_X9_54 (Nat.le_of_ble_eq_true rfl) (by omega) (sX9_isAddress (by omega) h1 ?_)
  refine q_if_eq_b 17 dX9_ask_4 (by decide) (fun c4 => ?_) (fun c4 => ?_)
  · replace h := q_ifb c4 h
    refine q_iconst (v := (-1)) dX9_ask_17 (by decide) ?_
    exact q_ret dX9_ask_18 rfl rfl (q_lfiw h k)
  · replace h := q_ift c4 h
    refine q_aload_n dX9_ask_7 rfl ?_
    refine q_iconst (v := 0) dX9_ask_8 (by decide) ?_
    refine q_iload_n dX9_ask_9 rfl ?_
    refine q_iload_n dX9_ask_10 rfl ?_
    obtain ⟨r11, h11, h⟩ := q_bnd h
    refine q_callVi3 dX9_ask_11 cl_X9_139 rfl (Nat.le_of_ble_eq_true rfl) (by omega) (sX9_isQuestion (by omega) h11 ?_)
    refine q_if_ne_b 19 dX9_ask_14 (by decide) (fun c14 => ?_) (fun c14 => ?_)
    · replace h := q_ift c14 h
      refine q_iconst (v := (-1)) dX9_ask_19 (by decide) ?_
      refine q_istore dX9_ask_20 (by decide) ?_
      refine q_iconst (v := 0) dX9_ask_22 (by decide) ?_
      refine q_istore dX9_ask_23 (by decide) ?_
      exact q_sub (sX9_ask_25 hd k 20000 _ _ _ h) (And.intro rfl (And.intro rfl (And.intro rfl (And.intro rfl (And.intro rfl (And.intro rfl trivial))))))
    · replace h := q_ifb c14 h
      refine q_iconst (v := (-1)) dX9_ask_17 (by decide) ?_
      exact q_ret dX9_ask_18 rfl rfl (q_lfiw h k)
