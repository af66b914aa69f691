def fX9_responsible_10 (p1 p2 p3 : Int32) : Nat → Int32 → Int32 → Int32 → qS → Option Int32
  | 0, _, _, _, _ => none
  | n + 1, v4, v5, v6, S => if (S 34 4) ≤ v6 then some v4 else if q_inb (4 * v6) 40 = true then if q_inb ((4 * v6) + 1) 40 = true then if (S 36 ((4 * v6).toNatClampNeg)) = p1 then (fX9_isThere v6 p3 S).bind (fun r58 => if r58 = true then (fX9_isAt p2 (S 36 (((4 * v6) + 1).toNatClampNeg)) S).bind (fun r67 => if r67 = true then (fX9_labels (S 36 (((4 * v6) + 1).toNatClampNeg)) S).bind (fun r76 => if (S 36 ((4 * v6).toNatClampNeg)) = p1 then if ((2 * r76) + 1) ≤ v5 then if ((2 * r76) + 1) ≤ v5 then fX9_responsible_10 p1 p2 p3 n v4 v5 (v6 + 1) S else fX9_responsible_10 p1 p2 p3 n v4 ((2 * r76) + 1) (v6 + 1) S else if ((2 * r76) + 1) ≤ v5 then fX9_responsible_10 p1 p2 p3 n v6 v5 (v6 + 1) S else fX9_responsible_10 p1 p2 p3 n v6 ((2 * r76) + 1) (v6 + 1) S else if ((2 * r76) + 0) ≤ v5 then if ((2 * r76) + 0) ≤ v5 then fX9_responsible_10 p1 p2 p3 n v4 v5 (v6 + 1) S else fX9_responsible_10 p1 p2 p3 n v4 ((2 * r76) + 0) (v6 + 1) S else if ((2 * r76) + 0) ≤ v5 then fX9_responsible_10 p1 p2 p3 n v6 v5 (v6 + 1) S else fX9_responsible_10 p1 p2 p3 n v6 ((2 * r76) + 0) (v6 + 1) S) else fX9_responsible_10 p1 p2 p3 n v4 v5 (v6 + 1) S) else fX9_responsible_10 p1 p2 p3 n v4 v5 (v6 + 1) S) else if (S 36 ((4 * v6).toNatClampNeg)) = 0 then (fX9_isThere v6 p3 S).bind (fun r58 => if r58 = true then (fX9_isAt p2 (S 36 (((4 * v6) + 1).toNatClampNeg)) S).bind (fun r67 => if r67 = true then (fX9_labels (S 36 (((4 * v6) + 1).toNatClampNeg)) S).bind (fun r76 => if (S 36 ((4 * v6).toNatClampNeg)) = p1 then if ((2 * r76) + 1) ≤ v5 then if ((2 * r76) + 1) ≤ v5 then fX9_responsible_10 p1 p2 p3 n v4 v5 (v6 + 1) S else fX9_responsible_10 p1 p2 p3 n v4 ((2 * r76) + 1) (v6 + 1) S else if ((2 * r76) + 1) ≤ v5 then fX9_responsible_10 p1 p2 p3 n v6 v5 (v6 + 1) S else fX9_responsible_10 p1 p2 p3 n v6 ((2 * r76) + 1) (v6 + 1) S else if ((2 * r76) + 0) ≤ v5 then if ((2 * r76) + 0) ≤ v5 then fX9_responsible_10 p1 p2 p3 n v4 v5 (v6 + 1) S else fX9_responsible_10 p1 p2 p3 n v4 ((2 * r76) + 0) (v6 + 1) S else if ((2 * r76) + 0) ≤ v5 then fX9_responsible_10 p1 p2 p3 n v6 v5 (v6 + 1) S else fX9_responsible_10 p1 p2 p3 n v6 ((2 * r76) + 0) (v6 + 1) S) else fX9_responsible_10 p1 p2 p3 n v4 v5 (v6 + 1) S) else fX9_responsible_10 p1 p2 p3 n v4 v5 (v6 + 1) S) else fX9_responsible_10 p1 p2 p3 n v4 v5 (v6 + 1) S else none else none
set_option maxHeartbeats 4000000 in
set_option maxRecDepth 100000 in
theorem sX9_responsible_10 {l : Launch} {d : Nat} (hd : 2 ≤ d) {S : qS} {p1 p2 p3 : Int32} {r : Int32} {Q : Int32 → qS → Prop} (k : Q r S) : ∀ (n : Nat) (v4 : Int32) (v5 : Int32) (v6 : Int32), fX9_responsible_10 p1 p2 p3 n v4 v5 v6 S = some r → q_E l cX9_responsible 10 (some .int) RX9 d S 10 [some (.inr 34), some (.inl p1), some (.inl p2), some (.inl p3), some (.inl v4), some (.inl v5), some (.inl v6), none, none, none] [] (q_Qi Q) := by
  intro n
  induction n with
  | zero => intro v4 v5 v6 h; exact q_no h
  | succ n ih =>
    intro v4 v5 v6 h
    rw [fX9_responsible_10] at h
    refine q_iload dX9_responsible_10 rfl ?_
    refine q_aload_n dX9_responsible_12 rfl ?_
    refine q_geti dX9_responsible_13 fl_X9_70 rfl rfl ?_
    refine q_icmp_ge 132 dX9_responsible_16 (by decide) (fun c16 => ?_) (fun c16 => ?_)
    · replace h := q_ift c16 h
      refine q_iload dX9_responsible_132 rfl ?_
      exact q_ret dX9_responsible_134 rfl rfl (q_lfi h k)
    · replace h := q_iff c16 h
      refine q_aload_n dX9_responsible_19 rfl ?_
      refine q_getr dX9_responsible_20 fl_X9_13 rfl rfl ?_
      refine q_iconst (v := 4) dX9_responsible_23 (by decide) ?_
      refine q_iload dX9_responsible_24 rfl ?_
      refine q_imul dX9_responsible_26 ?_
      obtain ⟨g27, h⟩ := q_gd h
      refine q_iald dX9_responsible_27 rfl g27 ?_
      refine q_istore dX9_responsible_28 (by decide) ?_
      refine q_aload_n dX9_responsible_30 rfl ?_
      refine q_getr dX9_responsible_31 fl_X9_13 rfl rfl ?_
      refine q_iconst (v := 4) dX9_responsible_34 (by decide) ?_
      refine q_iload dX9_responsible_35 rfl ?_
      refine q_imul dX9_responsible_37 ?_
      refine q_iconst (v := 1) dX9_responsible_38 (by decide) ?_
      refine q_iadd dX9_responsible_39 ?_
      obtain ⟨g40, h⟩ := q_gd h
      refine q_iald dX9_responsible_40 rfl g40 ?_
      refine q_istore dX9_responsible_41 (by decide) ?_
      refine q_iload dX9_responsible_43 rfl ?_
      refine q_iload_n dX9_responsible_45 rfl ?_
      refine q_icmp_eq 54 dX9_responsible_46 (by decide) (fun c46 => ?_) (fun c46 => ?_)
      · replace h := q_ift c46 h
        refine q_aload_n dX9_responsible_54 rfl ?_
        refine q_iload dX9_responsible_55 rfl ?_
        refine q_iload_n dX9_responsible_57 rfl ?_
        obtain ⟨r58, h58, h⟩ := q_bnd h
        refine q_callVi2 dX9_responsible_58 cl_X9_123 rfl (Nat.le_of_ble_eq_true rfl) (by omega) (sX9_isThere (by omega) h58 ?_)
        refine q_if_eq_b 126 dX9_responsible_61 (by decide) (fun c61 => ?_) (fun c61 => ?_)
        · replace h := q_ifb c61 h
          refine q_iinc (v := (v6 + 1)) dX9_responsible_126 rfl rfl (by decide) ?_
          refine q_goto 10 dX9_responsible_129 (by decide) ?_
          exact q_sub (ih _ _ _ h) (And.intro rfl (And.intro rfl (And.intro rfl (And.intro rfl (And.intro rfl (And.intro rfl (And.intro rfl trivial)))))))
        · replace h := q_ift c61 h
          refine q_iload_n dX9_responsible_64 rfl ?_
          refine q_iload dX9_responsible_65 rfl ?_
          obtain ⟨r67, h67, h⟩ := q_bnd h
          refine q_callSi2 dX9_responsible_67 cl_X9_50 (Nat.le_of_ble_eq_true rfl) (by omega) (sX9_isAt (by omega) h67 ?_)
          refine q_if_eq_b 126 dX9_responsible_70 (by decide) (fun c70 => ?_) (fun c70 => ?_)
          · replace h := q_ifb c70 h
            refine q_iinc (v := (v6 + 1)) dX9_responsible_126 rfl rfl (by decide) ?_
            refine q_goto 10 dX9_responsible_129 (by decide) ?_
            exact q_sub (ih _ _ _ h) (And.intro rfl (And.intro rfl (And.intro rfl (And.intro rfl (And.intro rfl (And.intro rfl (And.intro rfl trivial)))))))
          · replace h := q_ift c70 h
            refine q_iconst (v := 2) dX9_responsible_73 (by decide) ?_
            refine q_iload dX9_responsible_74 rfl ?_
            obtain ⟨r76, h76, h⟩ := q_bnd h
            refine q_callSi1 dX9_responsible_76 cl_X9_43 (Nat.le_of_ble_eq_true rfl) (by omega) (sX9_labels (by omega) h76 ?_)
            refine q_imul dX9_responsible_79 ?_
            refine q_iload dX9_responsible_80 rfl ?_
            refine q_iload_n dX9_responsible_82 rfl ?_
            refine q_icmp_ne 90 dX9_responsible_83 (by decide) (fun c83 => ?_) (fun c83 => ?_)
            · replace h := q_iff c83 h
              refine q_iconst (v := 0) dX9_responsible_90 (by decide) ?_
              refine q_iadd dX9_responsible_91 ?_
              refine q_istore dX9_responsible_92 (by decide) ?_
              refine q_iload dX9_responsible_94 rfl ?_
              refine q_iload dX9_responsible_96 rfl ?_
              refine q_icmp_le 106 dX9_responsible_98 (by decide) (fun c98 => ?_) (fun c98 => ?_)
              · replace h := q_ift c98 h
                refine q_iload dX9_responsible_106 rfl ?_
                refine q_istore dX9_responsible_108 (by decide) ?_
                refine q_iload dX9_responsible_110 rfl ?_
                refine q_iload dX9_responsible_112 rfl ?_
                refine q_icmp_le 122 dX9_responsible_114 (by decide) (fun c114 => ?_) (fun c114 => ?_)
                · replace h := q_ift c114 h
                  refine q_iload dX9_responsible_122 rfl ?_
                  refine q_istore dX9_responsible_124 (by decide) ?_
                  refine q_iinc (v := (v6 + 1)) dX9_responsible_126 rfl rfl (by decide) ?_
                  refine q_goto 10 dX9_responsible_129 (by decide) ?_
                  exact q_sub (ih _ _ _ h) (And.intro rfl (And.intro rfl (And.intro rfl (And.intro rfl (And.intro rfl (And.intro rfl (And.intro rfl trivial)))))))
                · replace h := q_iff c114 h
                  refine q_iload dX9_responsible_117 rfl ?_
                  refine q_goto 124 dX9_responsible_119 (by decide) ?_
                  refine q_istore dX9_responsible_124 (by decide) ?_
                  refine q_iinc (v := (v6 + 1)) dX9_responsible_126 rfl rfl (by decide) ?_
                  refine q_goto 10 dX9_responsible_129 (by decide) ?_
                  exact q_sub (ih _ _ _ h) (And.intro rfl (And.intro rfl (And.intro rfl (And.intro rfl (And.intro rfl (And.intro rfl (And.intro rfl trivial)))))))
              · replace h := q_iff c98 h
                refine q_iload dX9_responsible_101 rfl ?_
                refine q_goto 108 dX9_responsible_103 (by decide) ?_
                refine q_istore dX9_responsible_108 (by decide) ?_
                refine q_iload dX9_responsible_110 rfl ?_
                refine q_iload dX9_responsible_112 rfl ?_
                refine q_icmp_le 122 dX9_responsible_114 (by decide) (fun c114 => ?_) (fun c114 => ?_)
                · replace h := q_ift c114 h
                  refine q_iload dX9_responsible_122 rfl ?_
                  refine q_istore dX9_responsible_124 (by decide) ?_
                  refine q_iinc (v := (v6 + 1)) dX9_responsible_126 rfl rfl (by decide) ?_
                  refine q_goto 10 dX9_responsible_129 (by decide) ?_
                  exact q_sub (ih _ _ _ h) (And.intro rfl (And.intro rfl (And.intro rfl (And.intro rfl (And.intro rfl (And.intro rfl (And.intro rfl trivial)))))))
                · replace h := q_iff c114 h
                  refine q_iload dX9_responsible_117 rfl ?_
                  refine q_goto 124 dX9_responsible_119 (by decide) ?_
                  refine q_istore dX9_responsible_124 (by decide) ?_
                  refine q_iinc (v := (v6 + 1)) dX9_responsible_126 rfl rfl (by decide) ?_
                  refine q_goto 10 dX9_responsible_129 (by decide) ?_
                  exact q_sub (ih _ _ _ h) (And.intro rfl (And.intro rfl (And.intro rfl (And.intro rfl (And.intro rfl (And.intro rfl (And.intro rfl trivial)))))))
            · replace h := q_ift c83 h
              refine q_iconst (v := 1) dX9_responsible_86 (by decide) ?_
              refine q_goto 91 dX9_responsible_87 (by decide) ?_
              refine q_iadd dX9_responsible_91 ?_
              refine q_istore dX9_responsible_92 (by decide) ?_
              refine q_iload dX9_responsible_94 rfl ?_
              refine q_iload dX9_responsible_96 rfl ?_
              refine q_icmp_le 106 dX9_responsible_98 (by decide) (fun c98 => ?_) (fun c98 => ?_)
              · replace h := q_ift c98 h
                refine q_iload dX9_responsible_106 rfl ?_
                refine q_istore dX9_responsible_108 (by decide) ?_
                refine q_iload dX9_responsible_110 rfl ?_
                refine q_iload dX9_responsible_112 rfl ?_
                refine q_icmp_le 122 dX9_responsible_114 (by decide) (fun c114 => ?_) (fun c114 => ?_)
                · replace h := q_ift c114 h
                  refine q_iload dX9_responsible_122 rfl ?_
                  refine q_istore dX9_responsible_124 (by decide) ?_
                  refine q_iinc (v := (v6 + 1)) dX9_responsible_126 rfl rfl (by decide) ?_
                  refine q_goto 10 dX9_responsible_129 (by decide) ?_
                  exact q_sub (ih _ _ _ h) (And.intro rfl (And.intro rfl (And.intro rfl (And.intro rfl (And.intro rfl (And.intro rfl (And.intro rfl trivial)))))))
                · replace h := q_iff c114 h
                  refine q_iload dX9_responsible_117 rfl ?_
                  refine q_goto 124 dX9_responsible_119 (by decide) ?_
                  refine q_istore dX9_responsible_124 (by decide) ?_
                  refine q_iinc (v := (v6 + 1)) dX9_responsible_126 rfl rfl (by decide) ?_
                  refine q_goto 10 dX9_responsible_129 (by decide) ?_
                  exact q_sub (ih _ _ _ h) (And.intro rfl (And.intro rfl (And.intro rfl (And.intro rfl (And.intro rfl (And.intro rfl (And.intro rfl trivial)))))))
              · replace h := q_iff c98 h
                refine q_iload dX9_responsible_101 rfl ?_
                refine q_goto 108 dX9_responsible_103 (by decide) ?_
                refine q_istore dX9_responsible_108 (by decide) ?_
                refine q_iload dX9_responsible_110 rfl ?_
                refine q_iload dX9_responsible_112 rfl ?_
                refine q_icmp_le 122 dX9_responsible_114 (by decide) (fun c114 => ?_) (fun c114 => ?_)
                · replace h := q_ift c114 h
                  refine q_iload dX9_responsible_122 rfl ?_
                  refine q_istore dX9_responsible_124 (by decide) ?_
                  refine q_iinc (v := (v6 + 1)) dX9_responsible_126 rfl rfl (by decide) ?_
                  refine q_goto 10 dX9_responsible_129 (by decide) ?_
                  exact q_sub (ih _ _ _ h) (And.intro rfl (And.intro rfl (And.intro rfl (And.intro rfl (And.intro rfl (And.intro rfl (And.intro rfl trivial)))))))
                · replace h := q_iff c114 h
                  refine q_iload dX9_responsible_117 rfl ?_
                  refine q_goto 124 dX9_responsible_119 (by decide) ?_
                  refine q_istore dX9_responsible_124 (by decide) ?_
                  refine q_iinc (v := (v6 + 1)) dX9_responsible_126 rfl rfl (by decide) ?_
                  refine q_goto 10 dX9_responsible_129 (by decide) ?_
                  exact q_sub (ih _ _ _ h) (And.intro rfl (And.intro rfl (And.intro rfl (And.intro rfl (And.intro rfl (And.intro rfl (And.intro rfl trivial)))))))
      · replace h := q_iff c46 h
        refine q_iload dX9_responsible_49 rfl ?_
        refine q_if_ne 126 dX9_responsible_51 (by decide) (fun c51 => ?_) (fun c51 => ?_)
        · replace h := q_iff c51 h
          refine q_iinc (v := (v6 + 1)) dX9_responsible_126 rfl rfl (by decide) ?_
          refine q_goto 10 dX9_responsible_129 (by decide) ?_
          exact q_sub (ih _ _ _ h) (And.intro rfl (And.intro rfl (And.intro rfl (And.intro rfl (And.intro rfl (And.intro rfl (And.intro rfl trivial)))))))
        · replace h := q_ift c51 h
          refine q_aload_n dX9_responsible_54 rfl ?_
          refine q_iload dX9_responsible_55 rfl ?_
          refine q_iload_n dX9_responsible_57 rfl ?_
          obtain ⟨r58, h58, h⟩ := q_bnd h
          refine q_callVi2 dX9_responsible_58 cl_X9_123 rfl (Nat.le_of_ble_eq_true rfl) (by omega) (sX9_isThere (by omega) h58 ?_)
          refine q_if_eq_b 126 dX9_responsible_61 (by decide) (fun c61 => ?_) (fun c61 => ?_)
          · replace h := q_ifb c61 h
            refine q_iinc (v := (v6 + 1)) dX9_responsible_126 rfl rfl (by decide) ?_
            refine q_goto 10 dX9_responsible_129 (by decide) ?_
            exact q_sub (ih _ _ _ h) (And.intro rfl (And.intro rfl (And.intro rfl (And.intro rfl (And.intro rfl (And.intro rfl (And.intro rfl trivial)))))))
          · replace h := q_ift c61 h
            refine q_iload_n dX9_responsible_64 rfl ?_
            refine q_iload dX9_responsible_65 rfl ?_
            obtain ⟨r67, h67, h⟩ := q_bnd h
            refine q_callSi2 dX9_responsible_67 cl_X9_50 (Nat.le_of_ble_eq_true rfl) (by omega) (sX9_isAt (by omega) h67 ?_)
            refine q_if_eq_b 126 dX9_responsible_70 (by decide) (fun c70 => ?_) (fun c70 => ?_)
            · replace h := q_ifb c70 h
              refine q_iinc (v := (v6 + 1)) dX9_responsible_126 rfl rfl (by decide) ?_
              refine q_goto 10 dX9_responsible_129 (by decide) ?_
              exact q_sub (ih _ _ _ h) (And.intro rfl (And.intro rfl (And.intro rfl (And.intro rfl (And.intro rfl (And.intro rfl (And.intro rfl trivial)))))))
            · replace h := q_ift c70 h
              refine q_iconst (v := 2) dX9_responsible_73 (by decide) ?_
              refine q_iload dX9_responsible_74 rfl ?_
              obtain ⟨r76, h76, h⟩ := q_bnd h
              refine q_callSi1 dX9_responsible_76 cl_X9_43 (Nat.le_of_ble_eq_true rfl) (by omega) (sX9_labels (by omega) h76 ?_)
              refine q_imul dX9_responsible_79 ?_
              refine q_iload dX9_responsible_80 rfl ?_
              refine q_iload_n dX9_responsible_82 rfl ?_
              refine q_icmp_ne 90 dX9_responsible_83 (by decide) (fun c83 => ?_) (fun c83 => ?_)
              · replace h := q_iff c83 h
                refine q_iconst (v := 0) dX9_responsible_90 (by decide) ?_
                refine q_iadd dX9_responsible_91 ?_
                refine q_istore dX9_responsible_92 (by decide) ?_
                refine q_iload dX9_responsible_94 rfl ?_
                refine q_iload dX9_responsible_96 rfl ?_
                refine q_icmp_le 106 dX9_responsible_98 (by decide) (fun c98 => ?_) (fun c98 => ?_)
                · replace h := q_ift c98 h
                  refine q_iload dX9_responsible_106 rfl ?_
                  refine q_istore dX9_responsible_108 (by decide) ?_
                  refine q_iload dX9_responsible_110 rfl ?_
                  refine q_iload dX9_responsible_112 rfl ?_
                  refine q_icmp_le 122 dX9_responsible_114 (by decide) (fun c114 => ?_) (fun c114 => ?_)
                  · replace h := q_ift c114 h
                    refine q_iload dX9_responsible_122 rfl ?_
                    refine q_istore dX9_responsible_124 (by decide) ?_
                    refine q_iinc (v := (v6 + 1)) dX9_responsible_126 rfl rfl (by decide) ?_
                    refine q_goto 10 dX9_responsible_129 (by decide) ?_
                    exact q_sub (ih _ _ _ h) (And.intro rfl (And.intro rfl (And.intro rfl (And.intro rfl (And.intro rfl (And.intro rfl (And.intro rfl trivial)))))))
                  · replace h := q_iff c114 h
                    refine q_iload dX9_responsible_117 rfl ?_
                    refine q_goto 124 dX9_responsible_119 (by decide) ?_
                    refine q_istore dX9_responsible_124 (by decide) ?_
                    refine q_iinc (v := (v6 + 1)) dX9_responsible_126 rfl rfl (by decide) ?_
                    refine q_goto 10 dX9_responsible_129 (by decide) ?_
                    exact q_sub (ih _ _ _ h) (And.intro rfl (And.intro rfl (And.intro rfl (And.intro rfl (And.intro rfl (And.intro rfl (And.intro rfl trivial)))))))
                · replace h := q_iff c98 h
                  refine q_iload dX9_responsible_101 rfl ?_
                  refine q_goto 108 dX9_responsible_103 (by decide) ?_
                  refine q_istore dX9_responsible_108 (by decide) ?_
                  refine q_iload dX9_responsible_110 rfl ?_
                  refine q_iload dX9_responsible_112 rfl ?_
                  refine q_icmp_le 122 dX9_responsible_114 (by decide) (fun c114 => ?_) (fun c114 => ?_)
                  · replace h := q_ift c114 h
                    refine q_iload dX9_responsible_122 rfl ?_
                    refine q_istore dX9_responsible_124 (by decide) ?_
                    refine q_iinc (v := (v6 + 1)) dX9_responsible_126 rfl rfl (by decide) ?_
                    refine q_goto 10 dX9_responsible_129 (by decide) ?_
                    exact q_sub (ih _ _ _ h) (And.intro rfl (And.intro rfl (And.intro rfl (And.intro rfl (And.intro rfl (And.intro rfl (And.intro rfl trivial)))))))
                  · replace h := q_iff c114 h
                    refine q_iload dX9_responsible_117 rfl ?_
                    refine q_goto 124 dX9_responsible_119 (by decide) ?_
                    refine q_istore dX9_responsible_124 (by decide) ?_
                    refine q_iinc (v := (v6 + 1)) dX9_responsible_126 rfl rfl (by decide) ?_
                    refine q_goto 10 dX9_responsible_129 (by decide) ?_
                    exact q_sub (ih _ _ _ h) (And.intro rfl (And.intro rfl (And.intro rfl (And.intro rfl (And.intro rfl (And.intro rfl (And.intro rfl trivial)))))))
              · replace h := q_ift c83 h
                refine q_iconst (v := 1) dX9_responsible_86 (by decide) ?_
                refine q_goto 91 dX9_responsible_87 (by decide) ?_
                refine q_iadd dX9_responsible_91 ?_
                refine q_istore dX9_responsible_92 (by decide) ?_
                refine q_iload dX9_responsible_94 rfl ?_
                refine q_iload dX9_responsible_96 rfl ?_
                refine q_icmp_le 106 dX9_responsible_98 (by decide) (fun c98 => ?_) (fun c98 => ?_)
                · replace h := q_ift c98 h
                  refine q_iload dX9_responsible_106 rfl ?_
                  refine q_istore dX9_responsible_108 (by decide) ?_
                  refine q_iload dX9_responsible_110 rfl ?_
                  refine q_iload dX9_responsible_112 rfl ?_
                  refine q_icmp_le 122 dX9_responsible_114 (by decide) (fun c114 => ?_) (fun c114 => ?_)
                  · replace h := q_ift c114 h
                    refine q_iload dX9_responsible_122 rfl ?_
                    refine q_istore dX9_responsible_124 (by decide) ?_
                    refine q_iinc (v := (v6 + 1)) dX9_responsible_126 rfl rfl (by decide) ?_
                    refine q_goto 10 dX9_responsible_129 (by decide) ?_
                    exact q_sub (ih _ _ _ h) (And.intro rfl (And.intro rfl (And.intro rfl (And.intro rfl (And.intro rfl (And.intro rfl (And.intro rfl trivial)))))))
                  · replace h := q_iff c114 h
                    refine q_iload dX9_responsible_117 rfl ?_
                    refine q_goto 124 dX9_responsible_119 (by decide) ?_
                    refine q_istore dX9_responsible_124 (by decide) ?_
                    refine q_iinc (v := (v6 + 1)) dX9_responsible_126 rfl rfl (by decide) ?_
                    refine q_goto 10 dX9_responsible_129 (by decide) ?_
                    exact q_sub (ih _ _ _ h) (And.intro rfl (And.intro rfl (And.intro rfl (And.intro rfl (And.intro rfl (And.intro rfl (And.intro rfl trivial)))))))
                · replace h := q_iff c98 h
                  refine q_iload dX9_responsible_101 rfl ?_
                  refine q_goto 108 dX9_responsible_103 (by decide) ?_
                  refine q_istore dX9_responsible_108 (by decide) ?_
                  refine q_iload dX9_responsible_110 rfl ?_
                  refine q_iload dX9_responsible_112 rfl ?_
                  refine q_icmp_le 122 dX9_responsible_114 (by decide) (fun c114 => ?_) (fun c114 => ?_)
                  · replace h := q_ift c114 h
                    refine q_iload dX9_responsible_122 rfl ?_
                    refine q_istore dX9_responsible_124 (by decide) ?_
                    refine q_iinc (v := (v6 + 1)) dX9_responsible_126 rfl rfl (by decide) ?_
                    refine q_goto 10 dX9_responsible_129 (by decide) ?_
                    exact q_sub (ih _ _ _ h) (And.intro rfl (And.intro rfl (And.intro rfl (And.intro rfl (And.intro rfl (And.intro rfl (And.intro rfl trivial)))))))
                  · replace h := q_iff c114 h
                    refine q_iload dX9_responsible_117 rfl ?_
                    refine q_goto 124 dX9_responsible_119 (by decide) ?_
                    refine q_istore dX9_responsible_124 (by decide) ?_
                    refine q_iinc (v := (v6 + 1)) dX9_responsible_126 rfl rfl (by decide) ?_
                    refine q_goto 10 dX9_responsible_129 (by decide) ?_
                    exact q_sub (ih _ _ _ h) (And.intro rfl (And.intro rfl (And.intro rfl (And.intro rfl (And.intro rfl (And.intro rfl (And.intro rfl trivial)))))))
def fX9_responsible (a1 a2 a3 : Int32) (S : qS) : Option Int32 := fX9_responsible_10 a1 a2 a3 20000 (-4) 0 0 S
set_option maxHeartbeats 4000000 in
set_option maxRecDepth 100000 in
theorem sX9_responsible {l : Launch} {d : Nat} (hd : 2 ≤ d) {S : qS} {a1 a2 a3 : Int32} {r : Int32} (h : fX9_responsible a1 a2 a3 S = some r) {Q : Int32 → qS → Prop} (k : Q r S) : q_Mi l d yX9_responsible cX9_responsible 10 (some .int) [.inr 34, .inl a1, .inl a2, .inl a3] S Q := by
  refine q_Mi_of (own := RX9) rfl rfl [some (.inr 34), some (.inl a1), some (.inl a2), some (.inl a3), none, none, none, none, none, none] rfl (Nat.le_of_ble_eq_true rfl) ?_
  unfold fX9_responsible at h
  refine q_bipush (v := (-4)) dX9_responsible_0 (by decide) ?_
  refine q_istore dX9_responsible_2 (by decide) ?_
  refine q_iconst (v := 0) dX9_responsible_4 (by decide) ?_
  refine q_istore dX9_responsible_5 (by decide) ?_
  refine q_iconst (v := 0) dX9_responsible_7 (by decide) ?_
  refine q_istore dX9_responsible_8 (by decide) ?_
  exact q_sub (sX9_responsible_10 hd k 20000 _ _ _ h) (And.intro rfl (And.intro rfl (And.intro rfl (And.intro rfl (And.intro rfl (And.intro rfl (And.intro rfl trivial)))))))
def fX9_finds_6 (p1 p2 p3 p4 : Int32) : Nat → Int32 → Int32 → qS → Option (Int32 × qS)
  | 0, _, _, _ => none
  | n + 1, v5, v6, S => if 5 ≤ v6 then some ((-14), S) else (fX9_responsible p1 v5 p4 S).bind (fun r18 => if 0 ≤ r18 then (fX9_exists r18 v5 p4 (q_up S 34 13 v5)).bind (fun r44 => if r44 = true then (fX9_valueAt r18 v5 p3 p4 (q_up S 34 13 v5)).bind (fun r116 => if r116 < 0 then (fX9_valueAt r18 v5 1 p4 (q_up S 34 13 v5)).bind (fun r139 => if 0 ≤ r139 then fX9_finds_6 p1 p2 p3 p4 n r139 (v6 + 1) (q_up S 34 13 v5) else some ((-13), (q_up S 34 13 v5))) else some (r116, (q_up S 34 13 v5))) else (fX9_patternFor v5 (q_up S 34 13 v5)).bind (fun r53 => (fX9_isPattern v5 (q_up (q_up S 34 13 v5) 34 13 r53)).bind (fun r61 => if r61 = true then some ((-12), (q_up (q_up S 34 13 v5) 34 13 r53)) else if q_inb ((4 * r18) + 1) 40 = true then (fX9_isBelow r53 (S 36 (((4 * r18) + 1).toNatClampNeg)) (q_up (q_up S 34 13 v5) 34 13 r53)).bind (fun r82 => if r82 = true then (fX9_exists r18 r53 p4 (q_up (q_up S 34 13 v5) 34 13 r53)).bind (fun r97 => if r97 = true then (fX9_valueAt r18 r53 p3 p4 (q_up (q_up S 34 13 v5) 34 13 r53)).bind (fun r116 => if r116 < 0 then (fX9_valueAt r18 r53 1 p4 (q_up (q_up S 34 13 v5) 34 13 r53)).bind (fun r139 => if 0 ≤ r139 then fX9_finds_6 p1 p2 p3 p4 n r139 (v6 + 1) (q_up (q_up S 34 13 v5) 34 13 r53) else some ((-13), (q_up (q_up S 34 13 v5) 34 13 r53))) else some (r116, (q_up (q_up S 34 13 v5) 34 13 r53))) else some ((-12), (q_up (q_up S 34 13 v5) 34 13 r53))) else some ((-12), (q_up (q_up S 34 13 v5) 34 13 r53))) else none))) else some ((-11), S))
set_option maxHeartbeats 4000000 in
set_option maxRecDepth 100000 in
theorem sX9_finds_6 {l : Launch} {d : Nat} (hd : 4 ≤ d) {p1 p2 p3 p4 : Int32} {r : Int32} {S' : qS} {Q : Int32 → qS → Prop} (k : Q r S') : ∀ (n : Nat) (v5 : Int32) (v6 : Int32) (S : qS), fX9_finds_6 p1 p2 p3 p4 n v5 v6 S = some (r, S') → q_E l cX9_finds 9 (some .int) RX9 d S 6 [some (.inr 34), some (.inl p1), some (.inl p2), some (.inl p3), some (.inl p4), some (.inl v5), some (.inl v6), none, none] [] (q_Qi Q) := by
  intro n
  induction n with
  | zero => intro v5 v6 S h; exact q_no h
  | succ n ih =>
    intro v5 v6 S h
    rw [fX9_finds_6] at h
    refine q_iload dX9_finds_6 rfl ?_
    refine q_iconst (v := 5) dX9_finds_8 (by decide) ?_
    refine q_icmp_ge 158 dX9_finds_9 (by decide) (fun c9 => ?_) (fun c9 => ?_)
    · replace h := q_ift c9 h
      refine q_bipush (v := (-14)) dX9_finds_158 (by decide) ?_
      exact q_ret dX9_finds_160 rfl rfl (q_lfiw h k)
    · replace h := q_iff c9 h
      refine q_aload_n dX9_finds_12 rfl ?_
      refine q_iload_n dX9_finds_13 rfl ?_
      refine q_iload dX9_finds_14 rfl ?_
      refine q_iload dX9_finds_16 rfl ?_
      obtain ⟨r18, h18, h⟩ := q_bnd h
      refine q_callVi3 dX9_finds_18 cl_X9_126 rfl (Nat.le_of_ble_eq_true rfl) (by omega) (sX9_responsible (by omega) h18 ?_)
      refine q_istore dX9_finds_21 (by decide) ?_
      refine q_iload dX9_finds_23 rfl ?_
      refine q_if_ge 31 dX9_finds_25 (by decide) (fun c25 => ?_) (fun c25 => ?_)
      · replace h := q_ift c25 h
        refine q_aload_n dX9_finds_31 rfl ?_
        refine q_iload dX9_finds_32 rfl ?_
        refine q_put dX9_finds_34 fl_X9_130 fp_8_13 rfl rfl ?_
        refine q_aload_n dX9_finds_37 rfl ?_
        refine q_iload dX9_finds_38 rfl ?_
        refine q_iload dX9_finds_40 rfl ?_
        refine q_iload dX9_finds_42 rfl ?_
        obtain ⟨r44, h44, h⟩ := q_bnd h
        refine q_callVi3 dX9_finds_44 cl_X9_133 rfl (Nat.le_of_ble_eq_true rfl) (by omega) (sX9_exists (by omega) h44 ?_)
        refine q_if_ne_b 106 dX9_finds_47 (by decide) (fun c47 => ?_) (fun c47 => ?_)
        · replace h := q_ift c47 h
          refine q_aload_n dX9_finds_106 rfl ?_
          refine q_iload dX9_finds_107 rfl ?_
          refine q_aload_n dX9_finds_109 rfl ?_
          refine q_geti dX9_finds_110 fl_X9_130 rfl rfl ?_
          refine q_iload_n dX9_finds_113 rfl ?_
          refine q_iload dX9_finds_114 rfl ?_
          obtain ⟨r116, h116, h⟩ := q_bnd h
          refine q_callVi4 dX9_finds_116 cl_X9_103 rfl (Nat.le_of_ble_eq_true rfl) (by omega) (sX9_valueAt (by omega) h116 ?_)
          refine q_istore dX9_finds_119 (by decide) ?_
          refine q_iload dX9_finds_121 rfl ?_
          refine q_if_lt 129 dX9_finds_123 (by decide) (fun c123 => ?_) (fun c123 => ?_)
          · replace h := q_ift c123 h
            refine q_aload_n dX9_finds_129 rfl ?_
            refine q_iload dX9_finds_130 rfl ?_
            refine q_aload_n dX9_finds_132 rfl ?_
            refine q_geti dX9_finds_133 fl_X9_130 rfl rfl ?_
            refine q_iconst (v := 1) dX9_finds_136 (by decide) ?_
            refine q_iload dX9_finds_137 rfl ?_
            obtain ⟨r139, h139, h⟩ := q_bnd h
            refine q_callVi4 dX9_finds_139 cl_X9_103 rfl (Nat.le_of_ble_eq_true rfl) (by omega) (sX9_valueAt (by omega) h139 ?_)
            refine q_istore dX9_finds_142 (by decide) ?_
            refine q_iload dX9_finds_144 rfl ?_
            refine q_if_ge 152 dX9_finds_146 (by decide) (fun c146 => ?_) (fun c146 => ?_)
            · replace h := q_ift c146 h
              refine q_iinc (v := (v6 + 1)) dX9_finds_152 rfl rfl (by decide) ?_
              refine q_goto 6 dX9_finds_155 (by decide) ?_
              exact q_sub (ih _ _ _ h) (And.intro rfl (And.intro rfl (And.intro rfl (And.intro rfl (And.intro rfl (And.intro rfl (And.intro rfl trivial)))))))
            · replace h := q_iff c146 h
              refine q_bipush (v := (-13)) dX9_finds_149 (by decide) ?_
              exact q_ret dX9_finds_151 rfl rfl (q_lfiw h k)
          · replace h := q_iff c123 h
            refine q_iload dX9_finds_126 rfl ?_
            exact q_ret dX9_finds_128 rfl rfl (q_lfiw h k)
        · replace h := q_ifb c47 h
          refine q_aload_n dX9_finds_50 rfl ?_
          refine q_iload dX9_finds_51 rfl ?_
          obtain ⟨r53, h53, h⟩ := q_bnd h
          refine q_callSi1 dX9_finds_53 cl_X9_136 (Nat.le_of_ble_eq_true rfl) (by omega) (sX9_patternFor (by omega) h53 ?_)
          refine q_put dX9_finds_56 fl_X9_130 fp_8_13 rfl rfl ?_
          refine q_iload dX9_finds_59 rfl ?_
          obtain ⟨r61, h61, h⟩ := q_bnd h
          refine q_callSi1 dX9_finds_61 cl_X9_79 (Nat.le_of_ble_eq_true rfl) (by omega) (sX9_isPattern (by omega) h61 ?_)
          refine q_if_ne_b 103 dX9_finds_64 (by decide) (fun c64 => ?_) (fun c64 => ?_)
          · replace h := q_ift c64 h
            refine q_bipush (v := (-12)) dX9_finds_103 (by decide) ?_
            exact q_ret dX9_finds_105 rfl rfl (q_lfiw h k)
          · replace h := q_ifb c64 h
            refine q_aload_n dX9_finds_67 rfl ?_
            refine q_geti dX9_finds_68 fl_X9_130 rfl rfl ?_
            refine q_aload_n dX9_finds_71 rfl ?_
            refine q_getr dX9_finds_72 fl_X9_13 rfl rfl ?_
            refine q_iconst (v := 4) dX9_finds_75 (by decide) ?_
            refine q_iload dX9_finds_76 rfl ?_
            refine q_imul dX9_finds_78 ?_
            refine q_iconst (v := 1) dX9_finds_79 (by decide) ?_
            refine q_iadd dX9_finds_80 ?_
            obtain ⟨g81, h⟩ := q_gd h
            refine q_iald dX9_finds_81 rfl g81 ?_
            obtain ⟨r82, h82, h⟩ := q_bnd h
            refine q_callSi2 dX9_finds_82 cl_X9_110 (Nat.le_of_ble_eq_true rfl) (by omega) (sX9_isBelow (by omega) h82 ?_)
            refine q_if_eq_b 103 dX9_finds_85 (by decide) (fun c85 => ?_) (fun c85 => ?_)
            · replace h := q_ifb c85 h
              refine q_bipush (v := (-12)) dX9_finds_103 (by decide) ?_
              exact q_ret dX9_finds_105 rfl rfl (q_lfiw h k)
            · replace h := q_ift c85 h
              refine q_aload_n dX9_finds_88 rfl ?_
              refine q_iload dX9_finds_89 rfl ?_
              refine q_aload_n dX9_finds_91 rfl ?_
              refine q_geti dX9_finds_92 fl_X9_130 rfl rfl ?_
              refine q_iload dX9_finds_95 rfl ?_
              obtain ⟨r97, h97, h⟩ := q_bnd h
              refine q_callVi3 dX9_finds_97 cl_X9_133 rfl (Nat.le_of_ble_eq_true rfl) (by omega) (sX9_exists (by omega) h97 ?_)
              refine q_if_ne_b 106 dX9_finds_100 (by decide) (fun c100 => ?_) (fun c100 => ?_)
              · replace h := q_ift c100 h
                refine q_aload_n dX9_finds_106 rfl ?_
                refine q_iload dX9_finds_107 rfl ?_
                refine q_aload_n dX9_finds_109 rfl ?_
                refine q_geti dX9_finds_110 fl_X9_130 rfl rfl ?_
                refine q_iload_n dX9_finds_113 rfl ?_
                refine q_iload dX9_finds_114 rfl ?_
                obtain ⟨r116, h116, h⟩ := q_bnd h
                refine q_callVi4 dX9_finds_116 cl_X9_103 rfl (Nat.le_of_ble_eq_true rfl) (by omega) (sX9_valueAt (by omega) h116 ?_)
                refine q_istore dX9_finds_119 (by decide) ?_
                refine q_iload dX9_finds_121 rfl ?_
                refine q_if_lt 129 dX9_finds_123 (by decide) (fun c123 => ?_) (fun c123 => ?_)
                · replace h := q_ift c123 h
                  refine q_aload_n dX9_finds_129 rfl ?_
                  refine q_iload dX9_finds_130 rfl ?_
                  refine q_aload_n dX9_finds_132 rfl ?_
                  refine q_geti dX9_finds_133 fl_X9_130 rfl rfl ?_
                  refine q_iconst (v := 1) dX9_finds_136 (by decide) ?_
                  refine q_iload dX9_finds_137 rfl ?_
                  obtain ⟨r139, h139, h⟩ := q_bnd h
                  refine q_callVi4 dX9_finds_139 cl_X9_103 rfl (Nat.le_of_ble_eq_true rfl) (by omega) (sX9_valueAt (by omega) h139 ?_)
                  refine q_istore dX9_finds_142 (by decide) ?_
                  refine q_iload dX9_finds_144 rfl ?_
                  refine q_if_ge 152 dX9_finds_146 (by decide) (fun c146 => ?_) (fun c146 => ?_)
                  · replace h := q_ift c146 h
                    refine q_iinc (v := (v6 + 1)) dX9_finds_152 rfl rfl (by decide) ?_
                    refine q_goto 6 dX9_finds_155 (by decide) ?_
                    exact q_sub (ih _ _ _ h) (And.intro rfl (And.intro rfl (And.intro rfl (And.intro rfl (And.intro rfl (And.intro rfl (And.intro rfl trivial)))))))
                  · replace h := q_iff c146 h
                    refine q_bipush (v := (-13)) dX9_finds_149 (by decide) ?_
                    exact q_ret dX9_finds_151 rfl rfl (q_lfiw h k)
                · replace h := q_iff c123 h
                  refine q_iload dX9_finds_126 rfl ?_
                  exact q_ret dX9_finds_128 rfl rfl (q_lfiw h k)
              · replace h := q_ifb c100 h
                refine q_bipush (v := (-12)) dX9_finds_103 (by decide) ?_
                exact q_ret dX9_finds_105 rfl rfl (q_lfiw h k)
      · replace h := q_iff c25 h
        refine q_bipush (v := (-11)) dX9_finds_28 (by decide) ?_
        exact q_ret dX9_finds_30 rfl rfl (q_lfiw h k)
def fX9_finds (a1 a2 a3 a4 : Int32) (S : qS) : Option (Int32 × qS) := fX9_finds_6 a1 a2 a3 a4 20000 a2 0 S
set_option maxHeartbeats 4000000 in
set_option maxRecDepth 100000 in
theorem sX9_finds {l : Launch} {d : Nat} (hd : 4 ≤ d) {S : qS} {a1 a2 a3 a4 : Int32} {r : Int32} {S' : qS} (h : fX9_finds a1 a2 a3 a4 S = some (r, S')) {Q : Int32 → qS → Prop} (k : Q r S') : q_Mi l d yX9_finds cX9_finds 9 (some .int) [.inr 34, .inl a1, .inl a2, .inl a3, .inl a4] S Q := by
  refine q_Mi_of (own := RX9) rfl rfl [some (.inr 34), some (.inl a1), some (.inl a2), some (.inl a3), some (.inl a4), none, none, none, none] rfl (Nat.le_of_ble_eq_true rfl) ?_
  unfold fX9_finds at h
  refine q_iload_n dX9_finds_0 rfl ?_
  refine q_istore dX9_finds_1 (by decide) ?_
  refine q_iconst (v := 0) dX9_finds_3 (by decide) ?_
  refine q_istore dX9_finds_4 (by decide) ?_
  exact q_sub (sX9_finds_6 hd k 20000 _ _ _ h) (And.intro rfl (And.intro rfl (And.intro rfl (And.intro rfl (And.intro rfl (And.intro rfl (And.intro rfl trivial)))))))
def fX9_isQuestion (a1 a2 a3 : Int32) (S : qS) : Option Bool := (fX9_isView a1 S).bind (fun r1 => if r1 = true then (fX9_isName a2 S).bind (fun r8 => if r8 = true then (fX9_isType a3 S).bind (fun r15 => if r15 = true then some true else some false) else some false) else some false)
set_option maxHeartbeats 4000000 in
set_option maxRecDepth 100000 in
theorem sX9_isQuestion {l : Launch} {d : Nat} (hd : 2 ≤ d) {S : qS} {a1 a2 a3 : Int32} {r : Bool} (h : fX9_isQuestion a1 a2 a3 S = some r) {Q : Int32 → qS → Prop} (k : Q (q_b r) S) : q_Mi l d yX9_isQuestion cX9_isQuestion 4 (some .boolean) [.inr 34, .inl a1, .inl a2, .inl a3] S Q := by
  refine q_Mi_of (own := RX9) rfl rfl [some (.inr 34), some (.inl a1), some (.inl a2), some (.inl a3)] rfl (Nat.le_of_ble_eq_true rfl) ?_
  unfold fX9_isQuestion at h
  refine q_iload_n dX9_isQuestion_0 rfl ?_
  obtain ⟨r1, h1, h⟩ := q_bnd h
  refine q_callSi1 dX9_isQuestion_1 cl_X9_73 (Nat.le_of_ble_eq_true rfl) (by omega) (sX9_isView (by omega) h1 ?_)
  refine q_if_eq_b 25 dX9_isQuestion_4 (by decide) (fun c4 => ?_) (fun c4 => ?_)
  · replace h := q_ifb c4 h
    refine q_iconst (v := 0) dX9_isQuestion_25 (by decide) ?_
    exact q_ret (v := q_b false) dX9_isQuestion_26 rfl (q_b_nar false) (q_lfb h k)
  · replace h := q_ift c4 h
    refine q_iload_n dX9_isQuestion_7 rfl ?_
    obtain ⟨r8, h8, h⟩ := q_bnd h
    refine q_callSi1 dX9_isQuestion_8 cl_X9_76 (Nat.le_of_ble_eq_true rfl) (by omega) (sX9_isName (by omega) h8 ?_)
    refine q_if_eq_b 25 dX9_isQuestion_11 (by decide) (fun c11 => ?_) (fun c11 => ?_)
    · replace h := q_ifb c11 h
      refine q_iconst (v := 0) dX9_isQuestion_25 (by decide) ?_
      exact q_ret (v := q_b false) dX9_isQuestion_26 rfl (q_b_nar false) (q_lfb h k)
    · replace h := q_ift c11 h
      refine q_iload_n dX9_isQuestion_14 rfl ?_
      obtain ⟨r15, h15, h⟩ := q_bnd h
      refine q_callSi1 dX9_isQuestion_15 cl_X9_113 (Nat.le_of_ble_eq_true rfl) (by omega) (sX9_isType (by omega) h15 ?_)
      refine q_if_eq_b 25 dX9_isQuestion_18 (by decide) (fun c18 => ?_) (fun c18 => ?_)
      · replace h := q_ifb c18 h
        refine q_iconst (v := 0) dX9_isQuestion_25 (by decide) ?_
        exact q_ret (v := q_b false) dX9_isQuestion_26 rfl (q_b_nar false) (q_lfb h k)
      · replace h := q_ift c18 h
        refine q_iconst (v := 1) dX9_isQuestion_21 (by decide) ?_
        refine q_goto 26 dX9_isQuestion_22 (by decide) ?_
        exact q_ret (v := q_b true) dX9_isQuestion_26 rfl (q_b_nar true) (q_lfb h k)
