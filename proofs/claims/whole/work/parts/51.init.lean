theorem ff_0_0 : n_FF RX0 0 0 (.object "ViewedNames$Zones") := by
  intro C T N h
  cases h
  exact ⟨tyX0, tyX0_ok, nmX0, rfl, rfl, by decide +kernel⟩
theorem ff_0_1 : n_FF RX0 0 1 (.object "ViewedNames$Records") := by
  intro C T N h
  cases h
  exact ⟨tyX0, tyX0_ok, nmX0, rfl, rfl, by decide +kernel⟩
theorem ff_1_0 : n_FF RX1 1 0 (.array .int) := by
  intro C T N h
  cases h
  exact ⟨tyX1, tyX1_ok, nmX1, rfl, rfl, by decide +kernel⟩
theorem ff_1_1 : n_FF RX1 1 1 (.array .int) := by
  intro C T N h
  cases h
  exact ⟨tyX1, tyX1_ok, nmX1, rfl, rfl, by decide +kernel⟩
theorem ff_1_2 : n_FF RX1 1 2 (.array .int) := by
  intro C T N h
  cases h
  exact ⟨tyX1, tyX1_ok, nmX1, rfl, rfl, by decide +kernel⟩
theorem ff_1_3 : n_FF RX1 1 3 (.array .int) := by
  intro C T N h
  cases h
  exact ⟨tyX1, tyX1_ok, nmX1, rfl, rfl, by decide +kernel⟩
theorem ff_1_4 : n_FF RX1 1 4 (.array .int) := by
  intro C T N h
  cases h
  exact ⟨tyX1, tyX1_ok, nmX1, rfl, rfl, by decide +kernel⟩
theorem ff_2_0 : n_FF RX3 2 0 (.object "ViewedNames$Spans") := by
  intro C T N h
  cases h
  exact ⟨tyX3, tyX3_ok, nmX3, rfl, rfl, by decide +kernel⟩
theorem ff_2_1 : n_FF RX3 2 1 (.array .int) := by
  intro C T N h
  cases h
  exact ⟨tyX3, tyX3_ok, nmX3, rfl, rfl, by decide +kernel⟩
theorem ff_2_2 : n_FF RX3 2 2 (.array .int) := by
  intro C T N h
  cases h
  exact ⟨tyX3, tyX3_ok, nmX3, rfl, rfl, by decide +kernel⟩
theorem ff_2_3 : n_FF RX3 2 3 (.array .int) := by
  intro C T N h
  cases h
  exact ⟨tyX3, tyX3_ok, nmX3, rfl, rfl, by decide +kernel⟩
theorem ff_3_0 : n_FF RX4 3 0 (.object "ViewedNames$Spans") := by
  intro C T N h
  cases h
  exact ⟨tyX4, tyX4_ok, nmX4, rfl, rfl, by decide +kernel⟩
theorem ff_3_1 : n_FF RX4 3 1 (.array .int) := by
  intro C T N h
  cases h
  exact ⟨tyX4, tyX4_ok, nmX4, rfl, rfl, by decide +kernel⟩
theorem ff_3_2 : n_FF RX4 3 2 (.array .int) := by
  intro C T N h
  cases h
  exact ⟨tyX4, tyX4_ok, nmX4, rfl, rfl, by decide +kernel⟩
theorem ff_3_3 : n_FF RX4 3 3 (.array .int) := by
  intro C T N h
  cases h
  exact ⟨tyX4, tyX4_ok, nmX4, rfl, rfl, by decide +kernel⟩
theorem ff_3_4 : n_FF RX4 3 4 (.array .int) := by
  intro C T N h
  cases h
  exact ⟨tyX4, tyX4_ok, nmX4, rfl, rfl, by decide +kernel⟩
theorem ff_4_2 : n_FF RX5 4 2 .int := by
  intro C T N h
  cases h
  exact ⟨tyX5, tyX5_ok, nmX5, rfl, rfl, by decide +kernel⟩
theorem ff_4_0 : n_FF RX5 4 0 (.array .int) := by
  intro C T N h
  cases h
  exact ⟨tyX5, tyX5_ok, nmX5, rfl, rfl, by decide +kernel⟩
theorem ff_4_1 : n_FF RX5 4 1 (.array .int) := by
  intro C T N h
  cases h
  exact ⟨tyX5, tyX5_ok, nmX5, rfl, rfl, by decide +kernel⟩
theorem ff_5_0 : n_FF RX6 5 0 (.array .int) := by
  intro C T N h
  cases h
  exact ⟨tyX6, tyX6_ok, nmX6, rfl, rfl, by decide +kernel⟩
theorem ff_5_2 : n_FF RX6 5 2 (.array .int) := by
  intro C T N h
  cases h
  exact ⟨tyX6, tyX6_ok, nmX6, rfl, rfl, by decide +kernel⟩
theorem ff_5_3 : n_FF RX6 5 3 (.array .int) := by
  intro C T N h
  cases h
  exact ⟨tyX6, tyX6_ok, nmX6, rfl, rfl, by decide +kernel⟩
theorem ff_5_4 : n_FF RX6 5 4 (.array .int) := by
  intro C T N h
  cases h
  exact ⟨tyX6, tyX6_ok, nmX6, rfl, rfl, by decide +kernel⟩
theorem ff_6_0 : n_FF RX7 6 0 (.object "ViewedNames$Spans") := by
  intro C T N h
  cases h
  exact ⟨tyX7, tyX7_ok, nmX7, rfl, rfl, by decide +kernel⟩
theorem ff_6_1 : n_FF RX7 6 1 (.array .int) := by
  intro C T N h
  cases h
  exact ⟨tyX7, tyX7_ok, nmX7, rfl, rfl, by decide +kernel⟩
theorem ff_6_2 : n_FF RX7 6 2 (.array .int) := by
  intro C T N h
  cases h
  exact ⟨tyX7, tyX7_ok, nmX7, rfl, rfl, by decide +kernel⟩
theorem ff_7_0 : n_FF RX8 7 0 (.object "ViewedNames$Nets") := by
  intro C T N h
  cases h
  exact ⟨tyX8, tyX8_ok, nmX8, rfl, rfl, by decide +kernel⟩
theorem ff_7_1 : n_FF RX8 7 1 (.object "ViewedNames$Catalog") := by
  intro C T N h
  cases h
  exact ⟨tyX8, tyX8_ok, nmX8, rfl, rfl, by decide +kernel⟩
theorem ff_7_2 : n_FF RX8 7 2 (.object "ViewedNames$Zones") := by
  intro C T N h
  cases h
  exact ⟨tyX8, tyX8_ok, nmX8, rfl, rfl, by decide +kernel⟩
theorem ff_7_3 : n_FF RX8 7 3 (.object "ViewedNames$Records") := by
  intro C T N h
  cases h
  exact ⟨tyX8, tyX8_ok, nmX8, rfl, rfl, by decide +kernel⟩
theorem ff_7_4 : n_FF RX8 7 4 (.object "ViewedNames$KeptAnswers") := by
  intro C T N h
  cases h
  exact ⟨tyX8, tyX8_ok, nmX8, rfl, rfl, by decide +kernel⟩
theorem ff_7_5 : n_FF RX8 7 5 (.object "ViewedNames$Text") := by
  intro C T N h
  cases h
  exact ⟨tyX8, tyX8_ok, nmX8, rfl, rfl, by decide +kernel⟩
theorem ff_8_1 : n_FF RX9 8 1 (.array .int) := by
  intro C T N h
  cases h
  exact ⟨tyX9, tyX9_ok, nmX9, rfl, rfl, by decide +kernel⟩
theorem ff_8_3 : n_FF RX9 8 3 (.array .int) := by
  intro C T N h
  cases h
  exact ⟨tyX9, tyX9_ok, nmX9, rfl, rfl, by decide +kernel⟩
theorem ff_8_5 : n_FF RX9 8 5 (.array .int) := by
  intro C T N h
  cases h
  exact ⟨tyX9, tyX9_ok, nmX9, rfl, rfl, by decide +kernel⟩
theorem ff_8_7 : n_FF RX9 8 7 (.array .int) := by
  intro C T N h
  cases h
  exact ⟨tyX9, tyX9_ok, nmX9, rfl, rfl, by decide +kernel⟩
theorem ff_8_11 : n_FF RX9 8 11 (.array .int) := by
  intro C T N h
  cases h
  exact ⟨tyX9, tyX9_ok, nmX9, rfl, rfl, by decide +kernel⟩
theorem ff_8_15 : n_FF RX9 8 15 (.array .int) := by
  intro C T N h
  cases h
  exact ⟨tyX9, tyX9_ok, nmX9, rfl, rfl, by decide +kernel⟩
set_option maxHeartbeats 4000000 in
set_option maxRecDepth 100000 in
theorem kX5_init (l : Launch) (D : va_G) (cA : ClassId) (h0 : Nat) (N : Nat) (hN : N < 1000) : n_M l 1 2 (2 * N) yX5_init cX5_init 2 D cA [.ref h0, .int (nI N)] [(h0, .inr (4, [.null, .null, .int 0, .int 0]))] (fun w => ∃ (q1 q2 : Nat), w = [(h0, .inr (4, [.ref q1, .ref q2, .int (nI N), .int (nI 0)])), (q1, .inl (cA, N, .inl (fun _ => 0))), (q2, .inl (cA, N, .inl (fun _ => 0)))]) := by
  refine n_of (own := RX5) [(0, .ref h0), (1, .int (nI N))] (by decide) rfl rfl rfl (Nat.le_of_ble_eq_true rfl) ?_
  refine n_aload 0 dX5_init_0 rfl ?_
  refine n_obj dX5_init_1 (q_in1 (i := 31) rfl rfl) (by omega) ?_
  refine n_aload 0 dX5_init_4 rfl ?_
  refine n_iload 1 dX5_init_5 rfl ?_
  refine n_iconst (v := nI 0) dX5_init_6 (by decide) ?_
  refine n_max dX5_init_7 ml_X5_9 (Nat.le_of_ble_eq_true rfl) (by omega) (by omega) (by omega) ?_
  rw [show (if nI N < nI 0 then nI 0 else nI N) = nI N from if_neg (nI_pos (by omega))]
  refine n_putF (q0 := 0) (w' := [(h0, .inr (4, [.null, .null, .int (nI N), .int 0]))]) dX5_init_10 fl_X5_15 ff_4_2 rfl (Nat.le_of_ble_eq_true rfl) rfl rfl rfl ?_
  refine n_aload 0 dX5_init_13 rfl ?_
  refine n_aload 0 dX5_init_14 rfl ?_
  refine n_get (q0 := 0) dX5_init_15 fl_X5_15 rfl rfl ?_
  refine n_newa (N := N) (by omega) dX5_init_18 (by omega) (by omega) (fun q1 => ?_)
  refine n_putF (q0 := 0) (w' := [(h0, .inr (4, [.ref q1, .null, .int (nI N), .int 0])), (q1, .inl (cA, N, .inl (fun _ => 0)))]) dX5_init_20 fl_X5_21 ff_4_0 rfl (Nat.le_of_ble_eq_true rfl) rfl rfl rfl ?_
  refine n_aload 0 dX5_init_23 rfl ?_
  refine n_aload 0 dX5_init_24 rfl ?_
  refine n_get (q0 := 0) dX5_init_25 fl_X5_15 rfl rfl ?_
  refine n_newa (N := N) (by omega) dX5_init_28 (by omega) (by omega) (fun q2 => ?_)
  refine n_putF (q0 := 0) (w' := [(h0, .inr (4, [.ref q1, .ref q2, .int (nI N), .int 0])), (q1, .inl (cA, N, .inl (fun _ => 0))), (q2, .inl (cA, N, .inl (fun _ => 0)))]) dX5_init_30 fl_X5_25 ff_4_1 rfl (Nat.le_of_ble_eq_true rfl) rfl rfl rfl ?_
  refine n_aload 0 dX5_init_33 rfl ?_
  refine n_iconst (v := nI 0) dX5_init_34 (by decide) ?_
  refine n_put (q0 := 0) (w' := [(h0, .inr (4, [.ref q1, .ref q2, .int (nI N), .int (nI 0)])), (q1, .inl (cA, N, .inl (fun _ => 0))), (q2, .inl (cA, N, .inl (fun _ => 0)))]) dX5_init_35 fl_X5_28 fp_4_3 rfl (Nat.le_of_ble_eq_true rfl) rfl ?_
  exact n_ret dX5_init_38 (by omega) (by omega) ⟨q1, q2, rfl⟩
set_option maxHeartbeats 4000000 in
set_option maxRecDepth 100000 in
theorem kX3_init (l : Launch) (D : va_G) (cA : ClassId) (h0 : Nat) : n_M l 2 6 (54) yX3_init cX3_init 1 D cA [.ref h0] [(h0, .inr (2, [.null, .null, .null, .null]))] (fun w => ∃ (q1 q2 q3 q4 q5 q6 : Nat), w = [(h0, .inr (2, [.ref q1, .ref q4, .ref q5, .ref q6])), (q1, .inr (4, [.ref q2, .ref q3, .int (nI 10), .int (nI 0)])), (q2, .inl (cA, 10, .inl (fun _ => 0))), (q3, .inl (cA, 10, .inl (fun _ => 0))), (q4, .inl (cA, 10, .inl (fun _ => 0))), (q5, .inl (cA, 10, .inl (fun _ => 0))), (q6, .inl (cA, 10, .inl (fun _ => 0)))]) := by
  refine n_of (own := RX3) [(0, .ref h0)] (by decide) rfl rfl rfl (Nat.le_of_ble_eq_true rfl) ?_
  refine n_aload 0 dX3_init_0 rfl ?_
  refine n_obj dX3_init_1 (q_in1 (i := 25) rfl rfl) (by omega) ?_
  refine n_aload 0 dX3_init_4 rfl ?_
  refine n_new (ci := 4) (N := 4) (CC := RX5) (T := TX5) (fs := [.null, .null, .int 0, .int 0]) tyX5 dX3_init_5 rfl q_uX5 tyX5_ok (q_in1 (i := 26) rfl rfl) (q_in1 (i := 27) rfl rfl) (q_in1 (i := 3) rfl rfl) (fun j hj => by rcases (show j = 0 ∨ j = 1 ∨ j = 2 ∨ j = 3 by omega) with rfl | rfl | rfl | rfl <;> rfl) (by omega) (by omega) (fun q1 => ?_)
  refine n_dup dX3_init_8 ?_
  refine n_bipush (v := nI 10) dX3_init_9 (by decide) ?_
  refine n_call (b := q1) (As := [.int (nI 10)]) (rest := [.ref q1, .ref h0]) (nA := 1) (wr := [(h0, .inr (2, [.null, .null, .null, .null]))]) [1] [0] dX3_init_11 (Or.inl (q_in1 (i := 28) rfl rfl)) (q_in1 (i := 30) rfl rfl) (q_in1 (i := 3) rfl rfl) (q_in1 (i := 29) rfl rfl) rfl ⟨by decide +kernel, by decide +kernel, by decide +kernel⟩ rfl (by omega) (by omega) (kX5_init l D cA q1 10 (by omega)) rfl (by decide) rfl (by decide) (by decide) (Nat.le_of_ble_eq_true rfl) (by omega) (by omega) (fun w1 hw1 => ?_)
  obtain ⟨q2, q3, rfl⟩ := hw1
  refine n_eq (w' := [(h0, .inr (2, [.null, .null, .null, .null])), (q1, .inr (4, [.ref q2, .ref q3, .int (nI 10), .int (nI 0)])), (q2, .inl (cA, 10, .inl (fun _ => 0))), (q3, .inl (cA, 10, .inl (fun _ => 0)))]) rfl ?_
  refine n_putF (q0 := 0) (w' := [(h0, .inr (2, [.ref q1, .null, .null, .null])), (q1, .inr (4, [.ref q2, .ref q3, .int (nI 10), .int (nI 0)])), (q2, .inl (cA, 10, .inl (fun _ => 0))), (q3, .inl (cA, 10, .inl (fun _ => 0)))]) dX3_init_14 fl_X3_16 ff_2_0 rfl (Nat.le_of_ble_eq_true rfl) rfl rfl rfl ?_
  refine n_aload 0 dX3_init_17 rfl ?_
  refine n_bipush (v := nI 10) dX3_init_18 (by decide) ?_
  refine n_newa (N := 10) (by omega) dX3_init_20 (by omega) (by omega) (fun q4 => ?_)
  refine n_putF (q0 := 0) (w' := [(h0, .inr (2, [.ref q1, .ref q4, .null, .null])), (q1, .inr (4, [.ref q2, .ref q3, .int (nI 10), .int (nI 0)])), (q2, .inl (cA, 10, .inl (fun _ => 0))), (q3, .inl (cA, 10, .inl (fun _ => 0))), (q4, .inl (cA, 10, .inl (fun _ => 0)))]) dX3_init_22 fl_X3_20 ff_2_1 rfl (Nat.le_of_ble_eq_true rfl) rfl rfl rfl ?_
  refine n_aload 0 dX3_init_25 rfl ?_
  refine n_bipush (v := nI 10) dX3_init_26 (by decide) ?_
  refine n_newa (N := 10) (by omega) dX3_init_28 (by omega) (by omega) (fun q5 => ?_)
  refine n_putF (q0 := 0) (w' := [(h0, .inr (2, [.ref q1, .ref q4, .ref q5, .null])), (q1, .inr (4, [.ref q2, .ref q3, .int (nI 10), .int (nI 0)])), (q2, .inl (cA, 10, .inl (fun _ => 0))), (q3, .inl (cA, 10, .inl (fun _ => 0))), (q4, .inl (cA, 10, .inl (fun _ => 0))), (q5, .inl (cA, 10, .inl (fun _ => 0)))]) dX3_init_30 fl_X3_24 ff_2_2 rfl (Nat.le_of_ble_eq_true rfl) rfl rfl rfl ?_
  refine n_aload 0 dX3_init_33 rfl ?_
  refine n_bipush (v := nI 10) dX3_init_34 (by decide) ?_
  refine n_newa (N := 10) (by omega) dX3_init_36 (by omega) (by omega) (fun q6 => ?_)
  refine n_putF (q0 := 0) (w' := [(h0, .inr (2, [.ref q1, .ref q4, .ref q5, .ref q6])), (q1, .inr (4, [.ref q2, .ref q3, .int (nI 10), .int (nI 0)])), (q2, .inl (cA, 10, .inl (fun _ => 0))), (q3, .inl (cA, 10, .inl (fun _ => 0))), (q4, .inl (cA, 10, .inl (fun _ => 0))), (q5, .inl (cA, 10, .inl (fun _ => 0))), (q6, .inl (cA, 10, .inl (fun _ => 0)))]) dX3_init_38 fl_X3_27 ff_2_3 rfl (Nat.le_of_ble_eq_true rfl) rfl rfl rfl ?_
  exact n_ret dX3_init_41 (by omega) (by omega) ⟨q1, q2, q3, q4, q5, q6, rfl⟩
set_option maxHeartbeats 4000000 in
set_option maxRecDepth 100000 in
theorem kX7_init (l : Launch) (D : va_G) (cA : ClassId) (h0 : Nat) : n_M l 2 5 (44) yX7_init cX7_init 1 D cA [.ref h0] [(h0, .inr (6, [.null, .null, .null]))] (fun w => ∃ (q1 q2 q3 q4 q5 : Nat), w = [(h0, .inr (6, [.ref q1, .ref q4, .ref q5])), (q1, .inr (4, [.ref q2, .ref q3, .int (nI 10), .int (nI 0)])), (q2, .inl (cA, 10, .inl (fun _ => 0))), (q3, .inl (cA, 10, .inl (fun _ => 0))), (q4, .inl (cA, 10, .inl (fun _ => 0))), (q5, .inl (cA, 10, .inl (fun _ => 0)))]) := by
  refine n_of (own := RX7) [(0, .ref h0)] (by decide) rfl rfl rfl (Nat.le_of_ble_eq_true rfl) ?_
  refine n_aload 0 dX7_init_0 rfl ?_
  refine n_obj dX7_init_1 (q_in1 (i := 85) rfl rfl) (by omega) ?_
  refine n_aload 0 dX7_init_4 rfl ?_
  refine n_new (ci := 4) (N := 4) (CC := RX5) (T := TX5) (fs := [.null, .null, .int 0, .int 0]) tyX5 dX7_init_5 rfl q_uX5 tyX5_ok (q_in1 (i := 86) rfl rfl) (q_in1 (i := 27) rfl rfl) (q_in1 (i := 3) rfl rfl) (fun j hj => by rcases (show j = 0 ∨ j = 1 ∨ j = 2 ∨ j = 3 by omega) with rfl | rfl | rfl | rfl <;> rfl) (by omega) (by omega) (fun q1 => ?_)
  refine n_dup dX7_init_8 ?_
  refine n_bipush (v := nI 10) dX7_init_9 (by decide) ?_
  refine n_call (b := q1) (As := [.int (nI 10)]) (rest := [.ref q1, .ref h0]) (nA := 1) (wr := [(h0, .inr (6, [.null, .null, .null]))]) [1] [0] dX7_init_11 (Or.inl (q_in1 (i := 87) rfl rfl)) (q_in1 (i := 30) rfl rfl) (q_in1 (i := 3) rfl rfl) (q_in1 (i := 29) rfl rfl) rfl ⟨by decide +kernel, by decide +kernel, by decide +kernel⟩ rfl (by omega) (by omega) (kX5_init l D cA q1 10 (by omega)) rfl (by decide) rfl (by decide) (by decide) (Nat.le_of_ble_eq_true rfl) (by omega) (by omega) (fun w1 hw1 => ?_)
  obtain ⟨q2, q3, rfl⟩ := hw1
  refine n_eq (w' := [(h0, .inr (6, [.null, .null, .null])), (q1, .inr (4, [.ref q2, .ref q3, .int (nI 10), .int (nI 0)])), (q2, .inl (cA, 10, .inl (fun _ => 0))), (q3, .inl (cA, 10, .inl (fun _ => 0)))]) rfl ?_
  refine n_putF (q0 := 0) (w' := [(h0, .inr (6, [.ref q1, .null, .null])), (q1, .inr (4, [.ref q2, .ref q3, .int (nI 10), .int (nI 0)])), (q2, .inl (cA, 10, .inl (fun _ => 0))), (q3, .inl (cA, 10, .inl (fun _ => 0)))]) dX7_init_14 fl_X7_16 ff_6_0 rfl (Nat.le_of_ble_eq_true rfl) rfl rfl rfl ?_
  refine n_aload 0 dX7_init_17 rfl ?_
  refine n_bipush (v := nI 10) dX7_init_18 (by decide) ?_
  refine n_newa (N := 10) (by omega) dX7_init_20 (by omega) (by omega) (fun q4 => ?_)
  refine n_putF (q0 := 0) (w' := [(h0, .inr (6, [.ref q1, .ref q4, .null])), (q1, .inr (4, [.ref q2, .ref q3, .int (nI 10), .int (nI 0)])), (q2, .inl (cA, 10, .inl (fun _ => 0))), (q3, .inl (cA, 10, .inl (fun _ => 0))), (q4, .inl (cA, 10, .inl (fun _ => 0)))]) dX7_init_22 fl_X7_20 ff_6_1 rfl (Nat.le_of_ble_eq_true rfl) rfl rfl rfl ?_
  refine n_aload 0 dX7_init_25 rfl ?_
  refine n_bipush (v := nI 10) dX7_init_26 (by decide) ?_
  refine n_newa (N := 10) (by omega) dX7_init_28 (by omega) (by omega) (fun q5 => ?_)
  refine n_putF (q0 := 0) (w' := [(h0, .inr (6, [.ref q1, .ref q4, .ref q5])), (q1, .inr (4, [.ref q2, .ref q3, .int (nI 10), .int (nI 0)])), (q2, .inl (cA, 10, .inl (fun _ => 0))), (q3, .inl (cA, 10, .inl (fun _ => 0))), (q4, .inl (cA, 10, .inl (fun _ => 0))), (q5, .inl (cA, 10, .inl (fun _ => 0)))]) dX7_init_30 fl_X7_24 ff_6_2 rfl (Nat.le_of_ble_eq_true rfl) rfl rfl rfl ?_
  exact n_ret dX7_init_33 (by omega) (by omega) ⟨q1, q2, q3, q4, q5, rfl⟩
set_option maxHeartbeats 4000000 in
set_option maxRecDepth 100000 in
theorem kX4_init (l : Launch) (D : va_G) (cA : ClassId) (h0 : Nat) : n_M l 2 7 (424) yX4_init cX4_init 1 D cA [.ref h0] [(h0, .inr (3, [.null, .null, .null, .null, .null]))] (fun w => ∃ (q1 q2 q3 q4 q5 q6 q7 : Nat), w = [(h0, .inr (3, [.ref q1, .ref q4, .ref q5, .ref q6, .ref q7])), (q1, .inr (4, [.ref q2, .ref q3, .int (nI 70), .int (nI 0)])), (q2, .inl (cA, 70, .inl (fun _ => 0))), (q3, .inl (cA, 70, .inl (fun _ => 0))), (q4, .inl (cA, 70, .inl (fun _ => 0))), (q5, .inl (cA, 70, .inl (fun _ => 0))), (q6, .inl (cA, 70, .inl (fun _ => 0))), (q7, .inl (cA, 70, .inl (fun _ => 0)))]) := by
  refine n_of (own := RX4) [(0, .ref h0)] (by decide) rfl rfl rfl (Nat.le_of_ble_eq_true rfl) ?_
  refine n_aload 0 dX4_init_0 rfl ?_
  refine n_obj dX4_init_1 (q_in1 (i := 108) rfl rfl) (by omega) ?_
  refine n_aload 0 dX4_init_4 rfl ?_
  refine n_new (ci := 4) (N := 4) (CC := RX5) (T := TX5) (fs := [.null, .null, .int 0, .int 0]) tyX5 dX4_init_5 rfl q_uX5 tyX5_ok (q_in1 (i := 109) rfl rfl) (q_in1 (i := 27) rfl rfl) (q_in1 (i := 3) rfl rfl) (fun j hj => by rcases (show j = 0 ∨ j = 1 ∨ j = 2 ∨ j = 3 by omega) with rfl | rfl | rfl | rfl <;> rfl) (by omega) (by omega) (fun q1 => ?_)
  refine n_dup dX4_init_8 ?_
  refine n_bipush (v := nI 70) dX4_init_9 (by decide) ?_
  refine n_call (b := q1) (As := [.int (nI 70)]) (rest := [.ref q1, .ref h0]) (nA := 1) (wr := [(h0, .inr (3, [.null, .null, .null, .null, .null]))]) [1] [0] dX4_init_11 (Or.inl (q_in1 (i := 110) rfl rfl)) (q_in1 (i := 30) rfl rfl) (q_in1 (i := 3) rfl rfl) (q_in1 (i := 29) rfl rfl) rfl ⟨by decide +kernel, by decide +kernel, by decide +kernel⟩ rfl (by omega) (by omega) (kX5_init l D cA q1 70 (by omega)) rfl (by decide) rfl (by decide) (by decide) (Nat.le_of_ble_eq_true rfl) (by omega) (by omega) (fun w1 hw1 => ?_)
  obtain ⟨q2, q3, rfl⟩ := hw1
  refine n_eq (w' := [(h0, .inr (3, [.null, .null, .null, .null, .null])), (q1, .inr (4, [.ref q2, .ref q3, .int (nI 70), .int (nI 0)])), (q2, .inl (cA, 70, .inl (fun _ => 0))), (q3, .inl (cA, 70, .inl (fun _ => 0)))]) rfl ?_
  refine n_putF (q0 := 0) (w' := [(h0, .inr (3, [.ref q1, .null, .null, .null, .null])), (q1, .inr (4, [.ref q2, .ref q3, .int (nI 70), .int (nI 0)])), (q2, .inl (cA, 70, .inl (fun _ => 0))), (q3, .inl (cA, 70, .inl (fun _ => 0)))]) dX4_init_14 fl_X4_16 ff_3_0 rfl (Nat.le_of_ble_eq_true rfl) rfl rfl rfl ?_
  refine n_aload 0 dX4_init_17 rfl ?_
  refine n_bipush (v := nI 70) dX4_init_18 (by decide) ?_
  refine n_newa (N := 70) (by omega) dX4_init_20 (by omega) (by omega) (fun q4 => ?_)
  refine n_putF (q0 := 0) (w' := [(h0, .inr (3, [.ref q1, .ref q4, .null, .null, .null])), (q1, .inr (4, [.ref q2, .ref q3, .int (nI 70), .int (nI 0)])), (q2, .inl (cA, 70, .inl (fun _ => 0))), (q3, .inl (cA, 70, .inl (fun _ => 0))), (q4, .inl (cA, 70, .inl (fun _ => 0)))]) dX4_init_22 fl_X4_20 ff_3_1 rfl (Nat.le_of_ble_eq_true rfl) rfl rfl rfl ?_
  refine n_aload 0 dX4_init_25 rfl ?_
  refine n_bipush (v := nI 70) dX4_init_26 (by decide) ?_
  refine n_newa (N := 70) (by omega) dX4_init_28 (by omega) (by omega) (fun q5 => ?_)
  refine n_putF (q0 := 0) (w' := [(h0, .inr (3, [.ref q1, .ref q4, .ref q5, .null, .null])), (q1, .inr (4, [.ref q2, .ref q3, .int (nI 70), .int (nI 0)])), (q2, .inl (cA, 70, .inl (fun _ => 0))), (q3, .inl (cA, 70, .inl (fun _ => 0))), (q4, .inl (cA, 70, .inl (fun _ => 0))), (q5, .inl (cA, 70, .inl (fun _ => 0)))]) dX4_init_30 fl_X4_24 ff_3_2 rfl (Nat.le_of_ble_eq_true rfl) rfl rfl rfl ?_
  refine n_aload 0 dX4_init_33 rfl ?_
  refine n_bipush (v := nI 70) dX4_init_34 (by decide) ?_
  refine n_newa (N := 70) (by omega) dX4_init_36 (by omega) (by omega) (fun q6 => ?_)
  refine n_putF (q0 := 0) (w' := [(h0, .inr (3, [.ref q1, .ref q4, .ref q5, .ref q6, .null])), (q1, .inr (4, [.ref q2, .ref q3, .int (nI 70), .int (nI 0)])), (q2, .inl (cA, 70, .inl (fun _ => 0))), (q3, .inl (cA, 70, .inl (fun _ => 0))), (q4, .inl (cA, 70, .inl (fun _ => 0))), (q5, .inl (cA, 70, .inl (fun _ => 0))), (q6, .inl (cA, 70, .inl (fun _ => 0)))]) dX4_init_38 fl_X4_27 ff_3_3 rfl (Nat.le_of_ble_eq_true rfl) rfl rfl rfl ?_
  refine n_aload 0 dX4_init_41 rfl ?_
  refine n_bipush (v := nI 70) dX4_init_42 (by decide) ?_
  refine n_newa (N := 70) (by omega) dX4_init_44 (by omega) (by omega) (fun q7 => ?_)
  refine n_putF (q0 := 0) (w' := [(h0, .inr (3, [.ref q1, .ref q4, .ref q5, .ref q6, .ref q7])), (q1, .inr (4, [.ref q2, .ref q3, .int (nI 70), .int (nI 0)])), (q2, .inl (cA, 70, .inl (fun _ => 0))), (q3, .inl (cA, 70, .inl (fun _ => 0))), (q4, .inl (cA, 70, .inl (fun _ => 0))), (q5, .inl (cA, 70, .inl (fun _ => 0))), (q6, .inl (cA, 70, .inl (fun _ => 0))), (q7, .inl (cA, 70, .inl (fun _ => 0)))]) dX4_init_46 fl_X4_30 ff_3_4 rfl (Nat.le_of_ble_eq_true rfl) rfl rfl rfl ?_
  exact n_ret dX4_init_49 (by omega) (by omega) ⟨q1, q2, q3, q4, q5, q6, q7, rfl⟩
set_option maxHeartbeats 4000000 in
set_option maxRecDepth 100000 in
theorem kX0_init (l : Launch) (D : va_G) (cA : ClassId) (h0 : Nat) : n_M l 3 14 (476) yX0_init cX0_init 1 D cA [.ref h0] [(h0, .inr (0, [.null, .null]))] (fun w => ∃ (q1 q2 q3 q4 q5 q6 q7 q8 q9 q10 q11 q12 q13 q14 : Nat), w = [(h0, .inr (0, [.ref q1, .ref q7])), (q1, .inr (6, [.ref q2, .ref q5, .ref q6])), (q2, .inr (4, [.ref q3, .ref q4, .int (nI 10), .int (nI 0)])), (q3, .inl (cA, 10, .inl (fun _ => 0))), (q4, .inl (cA, 10, .inl (fun _ => 0))), (q5, .inl (cA, 10, .inl (fun _ => 0))), (q6, .inl (cA, 10, .inl (fun _ => 0))), (q7, .inr (3, [.ref q8, .ref q11, .ref q12, .ref q13, .ref q14])), (q8, .inr (4, [.ref q9, .ref q10, .int (nI 70), .int (nI 0)])), (q9, .inl (cA, 70, .inl (fun _ => 0))), (q10, .inl (cA, 70, .inl (fun _ => 0))), (q11, .inl (cA, 70, .inl (fun _ => 0))), (q12, .inl (cA, 70, .inl (fun _ => 0))), (q13, .inl (cA, 70, .inl (fun _ => 0))), (q14, .inl (cA, 70, .inl (fun _ => 0)))]) := by
  refine n_of (own := RX0) [(0, .ref h0)] (by decide) rfl rfl rfl (Nat.le_of_ble_eq_true rfl) ?_
  refine n_aload 0 dX0_init_0 rfl ?_
  refine n_obj dX0_init_1 (q_in1 (i := 79) rfl rfl) (by omega) ?_
  refine n_aload 0 dX0_init_4 rfl ?_
  refine n_new (ci := 6) (N := 3) (CC := RX7) (T := TX7) (fs := [.null, .null, .null]) tyX7 dX0_init_5 rfl q_uX7 tyX7_ok (q_in1 (i := 80) rfl rfl) (q_in1 (i := 81) rfl rfl) (q_in1 (i := 6) rfl rfl) (fun j hj => by rcases (show j = 0 ∨ j = 1 ∨ j = 2 by omega) with rfl | rfl | rfl <;> rfl) (by omega) (by omega) (fun q1 => ?_)
  refine n_dup dX0_init_8 ?_
  refine n_call (b := q1) (As := []) (rest := [.ref q1, .ref h0]) (nA := 0) (wr := [(h0, .inr (0, [.null, .null]))]) [1] [0] dX0_init_9 (Or.inr (fun _ hN => hN.2.2.2.2.1)) (q_in1 (i := 84) rfl rfl) (q_in1 (i := 6) rfl rfl) (q_in1 (i := 83) rfl rfl) rfl ⟨by decide +kernel, by decide +kernel, by decide +kernel⟩ rfl (by omega) (by omega) (kX7_init l D cA q1) rfl (by decide) rfl (by decide) (by decide) (Nat.le_of_ble_eq_true rfl) (by omega) (by omega) (fun w1 hw1 => ?_)
  obtain ⟨q2, q3, q4, q5, q6, rfl⟩ := hw1
  refine n_eq (w' := [(h0, .inr (0, [.null, .null])), (q1, .inr (6, [.ref q2, .ref q5, .ref q6])), (q2, .inr (4, [.ref q3, .ref q4, .int (nI 10), .int (nI 0)])), (q3, .inl (cA, 10, .inl (fun _ => 0))), (q4, .inl (cA, 10, .inl (fun _ => 0))), (q5, .inl (cA, 10, .inl (fun _ => 0))), (q6, .inl (cA, 10, .inl (fun _ => 0)))]) rfl ?_
  refine n_putF (q0 := 0) (w' := [(h0, .inr (0, [.ref q1, .null])), (q1, .inr (6, [.ref q2, .ref q5, .ref q6])), (q2, .inr (4, [.ref q3, .ref q4, .int (nI 10), .int (nI 0)])), (q3, .inl (cA, 10, .inl (fun _ => 0))), (q4, .inl (cA, 10, .inl (fun _ => 0))), (q5, .inl (cA, 10, .inl (fun _ => 0))), (q6, .inl (cA, 10, .inl (fun _ => 0)))]) dX0_init_12 fl_X0_12 ff_0_0 rfl (Nat.le_of_ble_eq_true rfl) rfl rfl rfl ?_
  refine n_aload 0 dX0_init_15 rfl ?_
  refine n_new (ci := 3) (N := 5) (CC := RX4) (T := TX4) (fs := [.null, .null, .null, .null, .null]) tyX4 dX0_init_16 rfl q_uX4 tyX4_ok (q_in1 (i := 103) rfl rfl) (q_in1 (i := 104) rfl rfl) (q_in1 (i := 7) rfl rfl) (fun j hj => by rcases (show j = 0 ∨ j = 1 ∨ j = 2 ∨ j = 3 ∨ j = 4 by omega) with rfl | rfl | rfl | rfl | rfl <;> rfl) (by omega) (by omega) (fun q7 => ?_)
  refine n_dup dX0_init_19 ?_
  refine n_call (b := q7) (As := []) (rest := [.ref q7, .ref h0]) (nA := 0) (wr := [(h0, .inr (0, [.ref q1, .null])), (q1, .inr (6, [.ref q2, .ref q5, .ref q6])), (q2, .inr (4, [.ref q3, .ref q4, .int (nI 10), .int (nI 0)])), (q3, .inl (cA, 10, .inl (fun _ => 0))), (q4, .inl (cA, 10, .inl (fun _ => 0))), (q5, .inl (cA, 10, .inl (fun _ => 0))), (q6, .inl (cA, 10, .inl (fun _ => 0)))]) [7] [0, 1, 2, 3, 4, 5, 6] dX0_init_20 (Or.inr (fun _ hN => hN.2.2.2.2.2)) (q_in1 (i := 107) rfl rfl) (q_in1 (i := 7) rfl rfl) (q_in1 (i := 106) rfl rfl) rfl ⟨by decide +kernel, by decide +kernel, by decide +kernel⟩ rfl (by omega) (by omega) (kX4_init l D cA q7) rfl (by decide) rfl (by decide) (by decide) (Nat.le_of_ble_eq_true rfl) (by omega) (by omega) (fun w1 hw1 => ?_)
  obtain ⟨q8, q9, q10, q11, q12, q13, q14, rfl⟩ := hw1
  refine n_eq (w' := [(h0, .inr (0, [.ref q1, .null])), (q1, .inr (6, [.ref q2, .ref q5, .ref q6])), (q2, .inr (4, [.ref q3, .ref q4, .int (nI 10), .int (nI 0)])), (q3, .inl (cA, 10, .inl (fun _ => 0))), (q4, .inl (cA, 10, .inl (fun _ => 0))), (q5, .inl (cA, 10, .inl (fun _ => 0))), (q6, .inl (cA, 10, .inl (fun _ => 0))), (q7, .inr (3, [.ref q8, .ref q11, .ref q12, .ref q13, .ref q14])), (q8, .inr (4, [.ref q9, .ref q10, .int (nI 70), .int (nI 0)])), (q9, .inl (cA, 70, .inl (fun _ => 0))), (q10, .inl (cA, 70, .inl (fun _ => 0))), (q11, .inl (cA, 70, .inl (fun _ => 0))), (q12, .inl (cA, 70, .inl (fun _ => 0))), (q13, .inl (cA, 70, .inl (fun _ => 0))), (q14, .inl (cA, 70, .inl (fun _ => 0)))]) rfl ?_
  refine n_putF (q0 := 0) (w' := [(h0, .inr (0, [.ref q1, .ref q7])), (q1, .inr (6, [.ref q2, .ref q5, .ref q6])), (q2, .inr (4, [.ref q3, .ref q4, .int (nI 10), .int (nI 0)])), (q3, .inl (cA, 10, .inl (fun _ => 0))), (q4, .inl (cA, 10, .inl (fun _ => 0))), (q5, .inl (cA, 10, .inl (fun _ => 0))), (q6, .inl (cA, 10, .inl (fun _ => 0))), (q7, .inr (3, [.ref q8, .ref q11, .ref q12, .ref q13, .ref q14])), (q8, .inr (4, [.ref q9, .ref q10, .int (nI 70), .int (nI 0)])), (q9, .inl (cA, 70, .inl (fun _ => 0))), (q10, .inl (cA, 70, .inl (fun _ => 0))), (q11, .inl (cA, 70, .inl (fun _ => 0))), (q12, .inl (cA, 70, .inl (fun _ => 0))), (q13, .inl (cA, 70, .inl (fun _ => 0))), (q14, .inl (cA, 70, .inl (fun _ => 0)))]) dX0_init_23 fl_X0_21 ff_0_1 rfl (Nat.le_of_ble_eq_true rfl) rfl rfl rfl ?_
  exact n_ret dX0_init_26 (by omega) (by omega) ⟨q1, q2, q3, q4, q5, q6, q7, q8, q9, q10, q11, q12, q13, q14, rfl⟩
set_option maxHeartbeats 4000000 in
set_option maxRecDepth 100000 in
theorem kX1_init (l : Launch) (D : va_G) (cA : ClassId) (h0 : Nat) : n_M l 1 5 (30) yX1_init cX1_init 1 D cA [.ref h0] [(h0, .inr (1, [.null, .null, .null, .null, .null, .int 0, .int 0, .int 0]))] (fun w => ∃ (q1 q2 q3 q4 q5 : Nat), w = [(h0, .inr (1, [.ref q1, .ref q2, .ref q3, .ref q4, .ref q5, .int (nI 0), .int (nI 0), .int (nI 3)])), (q1, .inl (cA, 6, .inl (fun _ => 0))), (q2, .inl (cA, 6, .inl (fun _ => 0))), (q3, .inl (cA, 6, .inl (fun _ => 0))), (q4, .inl (cA, 6, .inl (fun _ => 0))), (q5, .inl (cA, 6, .inl (fun _ => 0)))]) := by
  refine n_of (own := RX1) [(0, .ref h0)] (by decide) rfl rfl rfl (Nat.le_of_ble_eq_true rfl) ?_
  refine n_aload 0 dX1_init_0 rfl ?_
  refine n_obj dX1_init_1 (q_in1 (i := 147) rfl rfl) (by omega) ?_
  refine n_aload 0 dX1_init_4 rfl ?_
  refine n_bipush (v := nI 6) dX1_init_5 (by decide) ?_
  refine n_newa (N := 6) (by omega) dX1_init_7 (by omega) (by omega) (fun q1 => ?_)
  refine n_putF (q0 := 0) (w' := [(h0, .inr (1, [.ref q1, .null, .null, .null, .null, .int 0, .int 0, .int 0])), (q1, .inl (cA, 6, .inl (fun _ => 0)))]) dX1_init_9 fl_X1_11 ff_1_0 rfl (Nat.le_of_ble_eq_true rfl) rfl rfl rfl ?_
  refine n_aload 0 dX1_init_12 rfl ?_
  refine n_bipush (v := nI 6) dX1_init_13 (by decide) ?_
  refine n_newa (N := 6) (by omega) dX1_init_15 (by omega) (by omega) (fun q2 => ?_)
  refine n_putF (q0 := 0) (w' := [(h0, .inr (1, [.ref q1, .ref q2, .null, .null, .null, .int 0, .int 0, .int 0])), (q1, .inl (cA, 6, .inl (fun _ => 0))), (q2, .inl (cA, 6, .inl (fun _ => 0)))]) dX1_init_17 fl_X1_15 ff_1_1 rfl (Nat.le_of_ble_eq_true rfl) rfl rfl rfl ?_
  refine n_aload 0 dX1_init_20 rfl ?_
  refine n_bipush (v := nI 6) dX1_init_21 (by decide) ?_
  refine n_newa (N := 6) (by omega) dX1_init_23 (by omega) (by omega) (fun q3 => ?_)
  refine n_putF (q0 := 0) (w' := [(h0, .inr (1, [.ref q1, .ref q2, .ref q3, .null, .null, .int 0, .int 0, .int 0])), (q1, .inl (cA, 6, .inl (fun _ => 0))), (q2, .inl (cA, 6, .inl (fun _ => 0))), (q3, .inl (cA, 6, .inl (fun _ => 0)))]) dX1_init_25 fl_X1_18 ff_1_2 rfl (Nat.le_of_ble_eq_true rfl) rfl rfl rfl ?_
  refine n_aload 0 dX1_init_28 rfl ?_
  refine n_bipush (v := nI 6) dX1_init_29 (by decide) ?_
  refine n_newa (N := 6) (by omega) dX1_init_31 (by omega) (by omega) (fun q4 => ?_)
  refine n_putF (q0 := 0) (w' := [(h0, .inr (1, [.ref q1, .ref q2, .ref q3, .ref q4, .null, .int 0, .int 0, .int 0])), (q1, .inl (cA, 6, .inl (fun _ => 0))), (q2, .inl (cA, 6, .inl (fun _ => 0))), (q3, .inl (cA, 6, .inl (fun _ => 0))), (q4, .inl (cA, 6, .inl (fun _ => 0)))]) dX1_init_33 fl_X1_21 ff_1_3 rfl (Nat.le_of_ble_eq_true rfl) rfl rfl rfl ?_
  refine n_aload 0 dX1_init_36 rfl ?_
  refine n_bipush (v := nI 6) dX1_init_37 (by decide) ?_
  refine n_newa (N := 6) (by omega) dX1_init_39 (by omega) (by omega) (fun q5 => ?_)
  refine n_putF (q0 := 0) (w' := [(h0, .inr (1, [.ref q1, .ref q2, .ref q3, .ref q4, .ref q5, .int 0, .int 0, .int 0])), (q1, .inl (cA, 6, .inl (fun _ => 0))), (q2, .inl (cA, 6, .inl (fun _ => 0))), (q3, .inl (cA, 6, .inl (fun _ => 0))), (q4, .inl (cA, 6, .inl (fun _ => 0))), (q5, .inl (cA, 6, .inl (fun _ => 0)))]) dX1_init_41 fl_X1_24 ff_1_4 rfl (Nat.le_of_ble_eq_true rfl) rfl rfl rfl ?_
  refine n_aload 0 dX1_init_44 rfl ?_
  refine n_iconst (v := nI 0) dX1_init_45 (by decide) ?_
  refine n_put (q0 := 0) (w' := [(h0, .inr (1, [.ref q1, .ref q2, .ref q3, .ref q4, .ref q5, .int (nI 0), .int 0, .int 0])), (q1, .inl (cA, 6, .inl (fun _ => 0))), (q2, .inl (cA, 6, .inl (fun _ => 0))), (q3, .inl (cA, 6, .inl (fun _ => 0))), (q4, .inl (cA, 6, .inl (fun _ => 0))), (q5, .inl (cA, 6, .inl (fun _ => 0)))]) dX1_init_46 fl_X1_27 fp_1_5 rfl (Nat.le_of_ble_eq_true rfl) rfl ?_
  refine n_aload 0 dX1_init_49 rfl ?_
  refine n_iconst (v := nI 0) dX1_init_50 (by decide) ?_
  refine n_put (q0 := 0) (w' := [(h0, .inr (1, [.ref q1, .ref q2, .ref q3, .ref q4, .ref q5, .int (nI 0), .int (nI 0), .int 0])), (q1, .inl (cA, 6, .inl (fun _ => 0))), (q2, .inl (cA, 6, .inl (fun _ => 0))), (q3, .inl (cA, 6, .inl (fun _ => 0))), (q4, .inl (cA, 6, .inl (fun _ => 0))), (q5, .inl (cA, 6, .inl (fun _ => 0)))]) dX1_init_51 fl_X1_31 fp_1_6 rfl (Nat.le_of_ble_eq_true rfl) rfl ?_
  refine n_aload 0 dX1_init_54 rfl ?_
  refine n_iconst (v := nI 3) dX1_init_55 (by decide) ?_
  refine n_put (q0 := 0) (w' := [(h0, .inr (1, [.ref q1, .ref q2, .ref q3, .ref q4, .ref q5, .int (nI 0), .int (nI 0), .int (nI 3)])), (q1, .inl (cA, 6, .inl (fun _ => 0))), (q2, .inl (cA, 6, .inl (fun _ => 0))), (q3, .inl (cA, 6, .inl (fun _ => 0))), (q4, .inl (cA, 6, .inl (fun _ => 0))), (q5, .inl (cA, 6, .inl (fun _ => 0)))]) dX1_init_56 fl_X1_34 fp_1_7 rfl (Nat.le_of_ble_eq_true rfl) rfl ?_
  exact n_ret dX1_init_59 (by omega) (by omega) ⟨q1, q2, q3, q4, q5, rfl⟩
set_option maxHeartbeats 4000000 in
set_option maxRecDepth 100000 in
theorem kX6_init (l : Launch) (D : va_G) (cA : ClassId) (h0 : Nat) : n_M l 1 4 (96) yX6_init cX6_init 1 D cA [.ref h0] [(h0, .inr (5, [.null, .int 0, .null, .null, .null, .int 0]))] (fun w => ∃ (q1 q2 q3 q4 : Nat), w = [(h0, .inr (5, [.ref q1, .int (nI 0), .ref q2, .ref q3, .ref q4, .int (nI 0)])), (q1, .inl (cA, 60, .inl (fun _ => 0))), (q2, .inl (cA, 12, .inl (fun _ => 0))), (q3, .inl (cA, 12, .inl (fun _ => 0))), (q4, .inl (cA, 12, .inl (fun _ => 0)))]) := by
  refine n_of (own := RX6) [(0, .ref h0)] (by decide) rfl rfl rfl (Nat.le_of_ble_eq_true rfl) ?_
  refine n_aload 0 dX6_init_0 rfl ?_
  refine n_obj dX6_init_1 (q_in1 (i := 185) rfl rfl) (by omega) ?_
  refine n_aload 0 dX6_init_4 rfl ?_
  refine n_bipush (v := nI 60) dX6_init_5 (by decide) ?_
  refine n_newa (N := 60) (by omega) dX6_init_7 (by omega) (by omega) (fun q1 => ?_)
  refine n_putF (q0 := 0) (w' := [(h0, .inr (5, [.ref q1, .int 0, .null, .null, .null, .int 0])), (q1, .inl (cA, 60, .inl (fun _ => 0)))]) dX6_init_9 fl_X6_11 ff_5_0 rfl (Nat.le_of_ble_eq_true rfl) rfl rfl rfl ?_
  refine n_aload 0 dX6_init_12 rfl ?_
  refine n_iconst (v := nI 0) dX6_init_13 (by decide) ?_
  refine n_put (q0 := 0) (w' := [(h0, .inr (5, [.ref q1, .int (nI 0), .null, .null, .null, .int 0])), (q1, .inl (cA, 60, .inl (fun _ => 0)))]) dX6_init_14 fl_X6_15 fp_5_1 rfl (Nat.le_of_ble_eq_true rfl) rfl ?_
  refine n_aload 0 dX6_init_17 rfl ?_
  refine n_bipush (v := nI 12) dX6_init_18 (by decide) ?_
  refine n_newa (N := 12) (by omega) dX6_init_20 (by omega) (by omega) (fun q2 => ?_)
  refine n_putF (q0 := 0) (w' := [(h0, .inr (5, [.ref q1, .int (nI 0), .ref q2, .null, .null, .int 0])), (q1, .inl (cA, 60, .inl (fun _ => 0))), (q2, .inl (cA, 12, .inl (fun _ => 0)))]) dX6_init_22 fl_X6_19 ff_5_2 rfl (Nat.le_of_ble_eq_true rfl) rfl rfl rfl ?_
  refine n_aload 0 dX6_init_25 rfl ?_
  refine n_bipush (v := nI 12) dX6_init_26 (by decide) ?_
  refine n_newa (N := 12) (by omega) dX6_init_28 (by omega) (by omega) (fun q3 => ?_)
  refine n_putF (q0 := 0) (w' := [(h0, .inr (5, [.ref q1, .int (nI 0), .ref q2, .ref q3, .null, .int 0])), (q1, .inl (cA, 60, .inl (fun _ => 0))), (q2, .inl (cA, 12, .inl (fun _ => 0))), (q3, .inl (cA, 12, .inl (fun _ => 0)))]) dX6_init_30 fl_X6_22 ff_5_3 rfl (Nat.le_of_ble_eq_true rfl) rfl rfl rfl ?_
  refine n_aload 0 dX6_init_33 rfl ?_
  refine n_bipush (v := nI 12) dX6_init_34 (by decide) ?_
  refine n_newa (N := 12) (by omega) dX6_init_36 (by omega) (by omega) (fun q4 => ?_)
  refine n_putF (q0 := 0) (w' := [(h0, .inr (5, [.ref q1, .int (nI 0), .ref q2, .ref q3, .ref q4, .int 0])), (q1, .inl (cA, 60, .inl (fun _ => 0))), (q2, .inl (cA, 12, .inl (fun _ => 0))), (q3, .inl (cA, 12, .inl (fun _ => 0))), (q4, .inl (cA, 12, .inl (fun _ => 0)))]) dX6_init_38 fl_X6_25 ff_5_4 rfl (Nat.le_of_ble_eq_true rfl) rfl rfl rfl ?_
  refine n_aload 0 dX6_init_41 rfl ?_
  refine n_iconst (v := nI 0) dX6_init_42 (by decide) ?_
  refine n_put (q0 := 0) (w' := [(h0, .inr (5, [.ref q1, .int (nI 0), .ref q2, .ref q3, .ref q4, .int (nI 0)])), (q1, .inl (cA, 60, .inl (fun _ => 0))), (q2, .inl (cA, 12, .inl (fun _ => 0))), (q3, .inl (cA, 12, .inl (fun _ => 0))), (q4, .inl (cA, 12, .inl (fun _ => 0)))]) dX6_init_43 fl_X6_28 fp_5_5 rfl (Nat.le_of_ble_eq_true rfl) rfl ?_
  exact n_ret dX6_init_46 (by omega) (by omega) ⟨q1, q2, q3, q4, rfl⟩
set_option maxHeartbeats 4000000 in
set_option maxRecDepth 100000 in
theorem kX9_init (l : Launch) (D : va_G) (cA : ClassId) (h0 : Nat) : n_M l 1 6 (533) yX9_init cX9_init 1 D cA [.ref h0] [(h0, .inr (8, [.int 0, .null, .int 0, .null, .int 0, .null, .int 0, .null, .int 0, .int 0, .int 0, .null, .int 0, .int 0, .int 0, .null, .int 0]))] (fun w => ∃ (q1 q2 q3 q4 q5 q6 : Nat), w = [(h0, .inr (8, [.int (nI 0), .ref q1, .int 0, .ref q2, .int 0, .ref q3, .int 0, .ref q4, .int 0, .int (nI 3), .int 0, .ref q5, .int 0, .int 0, .int 0, .ref q6, .int 0])), (q1, .inl (cA, 50, .inl (fun _ => 0))), (q2, .inl (cA, 40, .inl (fun _ => 0))), (q3, .inl (cA, 350, .inl (fun _ => 0))), (q4, .inl (cA, 30, .inl (fun _ => 0))), (q5, .inl (cA, 60, .inl (fun _ => 0))), (q6, .inl (cA, 3, .inl (fun _ => 0)))]) := by
  refine n_of (own := RX9) [(0, .ref h0)] (by decide) rfl rfl rfl (Nat.le_of_ble_eq_true rfl) ?_
  refine n_aload 0 dX9_init_0 rfl ?_
  refine n_obj dX9_init_1 (q_in3 (i := 121) rfl rfl) (by omega) ?_
  refine n_aload 0 dX9_init_4 rfl ?_
  refine n_bipush (v := nI 50) dX9_init_5 (by decide) ?_
  refine n_newa (N := 50) (by omega) dX9_init_7 (by omega) (by omega) (fun q1 => ?_)
  refine n_putF (q0 := 0) (w' := [(h0, .inr (8, [.int 0, .ref q1, .int 0, .null, .int 0, .null, .int 0, .null, .int 0, .int 0, .int 0, .null, .int 0, .int 0, .int 0, .null, .int 0])), (q1, .inl (cA, 50, .inl (fun _ => 0)))]) dX9_init_9 fl_X9_7 ff_8_1 rfl (Nat.le_of_ble_eq_true rfl) rfl rfl rfl ?_
  refine n_aload 0 dX9_init_12 rfl ?_
  refine n_bipush (v := nI 40) dX9_init_13 (by decide) ?_
  refine n_newa (N := 40) (by omega) dX9_init_15 (by omega) (by omega) (fun q2 => ?_)
  refine n_putF (q0 := 0) (w' := [(h0, .inr (8, [.int 0, .ref q1, .int 0, .ref q2, .int 0, .null, .int 0, .null, .int 0, .int 0, .int 0, .null, .int 0, .int 0, .int 0, .null, .int 0])), (q1, .inl (cA, 50, .inl (fun _ => 0))), (q2, .inl (cA, 40, .inl (fun _ => 0)))]) dX9_init_17 fl_X9_13 ff_8_3 rfl (Nat.le_of_ble_eq_true rfl) rfl rfl rfl ?_
  refine n_aload 0 dX9_init_20 rfl ?_
  refine n_sipush (v := nI 350) dX9_init_21 (by decide) ?_
  refine n_newa (N := 350) (by omega) dX9_init_24 (by omega) (by omega) (fun q3 => ?_)
  refine n_putF (q0 := 0) (w' := [(h0, .inr (8, [.int 0, .ref q1, .int 0, .ref q2, .int 0, .ref q3, .int 0, .null, .int 0, .int 0, .int 0, .null, .int 0, .int 0, .int 0, .null, .int 0])), (q1, .inl (cA, 50, .inl (fun _ => 0))), (q2, .inl (cA, 40, .inl (fun _ => 0))), (q3, .inl (cA, 350, .inl (fun _ => 0)))]) dX9_init_26 fl_X9_16 ff_8_5 rfl (Nat.le_of_ble_eq_true rfl) rfl rfl rfl ?_
  refine n_aload 0 dX9_init_29 rfl ?_
  refine n_bipush (v := nI 30) dX9_init_30 (by decide) ?_
  refine n_newa (N := 30) (by omega) dX9_init_32 (by omega) (by omega) (fun q4 => ?_)
  refine n_putF (q0 := 0) (w' := [(h0, .inr (8, [.int 0, .ref q1, .int 0, .ref q2, .int 0, .ref q3, .int 0, .ref q4, .int 0, .int 0, .int 0, .null, .int 0, .int 0, .int 0, .null, .int 0])), (q1, .inl (cA, 50, .inl (fun _ => 0))), (q2, .inl (cA, 40, .inl (fun _ => 0))), (q3, .inl (cA, 350, .inl (fun _ => 0))), (q4, .inl (cA, 30, .inl (fun _ => 0)))]) dX9_init_34 fl_X9_19 ff_8_7 rfl (Nat.le_of_ble_eq_true rfl) rfl rfl rfl ?_
  refine n_aload 0 dX9_init_37 rfl ?_
  refine n_iconst (v := nI 3) dX9_init_38 (by decide) ?_
  refine n_put (q0 := 0) (w' := [(h0, .inr (8, [.int 0, .ref q1, .int 0, .ref q2, .int 0, .ref q3, .int 0, .ref q4, .int 0, .int (nI 3), .int 0, .null, .int 0, .int 0, .int 0, .null, .int 0])), (q1, .inl (cA, 50, .inl (fun _ => 0))), (q2, .inl (cA, 40, .inl (fun _ => 0))), (q3, .inl (cA, 350, .inl (fun _ => 0))), (q4, .inl (cA, 30, .inl (fun _ => 0)))]) dX9_init_39 fl_X9_22 fp_8_9 rfl (Nat.le_of_ble_eq_true rfl) rfl ?_
  refine n_aload 0 dX9_init_42 rfl ?_
  refine n_bipush (v := nI 60) dX9_init_43 (by decide) ?_
  refine n_newa (N := 60) (by omega) dX9_init_45 (by omega) (by omega) (fun q5 => ?_)
  refine n_putF (q0 := 0) (w' := [(h0, .inr (8, [.int 0, .ref q1, .int 0, .ref q2, .int 0, .ref q3, .int 0, .ref q4, .int 0, .int (nI 3), .int 0, .ref q5, .int 0, .int 0, .int 0, .null, .int 0])), (q1, .inl (cA, 50, .inl (fun _ => 0))), (q2, .inl (cA, 40, .inl (fun _ => 0))), (q3, .inl (cA, 350, .inl (fun _ => 0))), (q4, .inl (cA, 30, .inl (fun _ => 0))), (q5, .inl (cA, 60, .inl (fun _ => 0)))]) dX9_init_47 fl_X9_26 ff_8_11 rfl (Nat.le_of_ble_eq_true rfl) rfl rfl rfl ?_
  refine n_aload 0 dX9_init_50 rfl ?_
  refine n_iconst (v := nI 3) dX9_init_51 (by decide) ?_
  refine n_newa (N := 3) (by omega) dX9_init_52 (by omega) (by omega) (fun q6 => ?_)
  refine n_putF (q0 := 0) (w' := [(h0, .inr (8, [.int 0, .ref q1, .int 0, .ref q2, .int 0, .ref q3, .int 0, .ref q4, .int 0, .int (nI 3), .int 0, .ref q5, .int 0, .int 0, .int 0, .ref q6, .int 0])), (q1, .inl (cA, 50, .inl (fun _ => 0))), (q2, .inl (cA, 40, .inl (fun _ => 0))), (q3, .inl (cA, 350, .inl (fun _ => 0))), (q4, .inl (cA, 30, .inl (fun _ => 0))), (q5, .inl (cA, 60, .inl (fun _ => 0))), (q6, .inl (cA, 3, .inl (fun _ => 0)))]) dX9_init_54 fl_X9_29 ff_8_15 rfl (Nat.le_of_ble_eq_true rfl) rfl rfl rfl ?_
  refine n_aload 0 dX9_init_57 rfl ?_
  refine n_iconst (v := nI 0) dX9_init_58 (by decide) ?_
  refine n_put (q0 := 0) (w' := [(h0, .inr (8, [.int (nI 0), .ref q1, .int 0, .ref q2, .int 0, .ref q3, .int 0, .ref q4, .int 0, .int (nI 3), .int 0, .ref q5, .int 0, .int 0, .int 0, .ref q6, .int 0])), (q1, .inl (cA, 50, .inl (fun _ => 0))), (q2, .inl (cA, 40, .inl (fun _ => 0))), (q3, .inl (cA, 350, .inl (fun _ => 0))), (q4, .inl (cA, 30, .inl (fun _ => 0))), (q5, .inl (cA, 60, .inl (fun _ => 0))), (q6, .inl (cA, 3, .inl (fun _ => 0)))]) dX9_init_59 fl_X9_32 fp_8_0 rfl (Nat.le_of_ble_eq_true rfl) rfl ?_
  exact n_ret dX9_init_62 (by omega) (by omega) ⟨q1, q2, q3, q4, q5, q6, rfl⟩
set_option maxHeartbeats 4000000 in
set_option maxRecDepth 100000 in
theorem kX8_init (l : Launch) (D : va_G) (cA : ClassId) (h0 : Nat) : n_M l 4 33 (676) yX8_init cX8_init 1 D cA [.ref h0] [(h0, .inr (7, [.null, .null, .null, .null, .null, .null, .int 0]))] (fun w => ∃ (q1 q2 q3 q4 q5 q6 q7 q8 q9 q10 q11 q12 q13 q14 q15 q16 q17 q18 q19 q20 q21 q22 q23 q24 q25 q26 q27 q28 q29 q30 q31 q32 q33 : Nat), w = [(h0, .inr (7, [.ref q1, .ref q8, .ref q9, .ref q15, .ref q23, .ref q29, .int (nI 0)])), (q1, .inr (2, [.ref q2, .ref q5, .ref q6, .ref q7])), (q2, .inr (4, [.ref q3, .ref q4, .int (nI 10), .int (nI 0)])), (q3, .inl (cA, 10, .inl (fun _ => 0))), (q4, .inl (cA, 10, .inl (fun _ => 0))), (q5, .inl (cA, 10, .inl (fun _ => 0))), (q6, .inl (cA, 10, .inl (fun _ => 0))), (q7, .inl (cA, 10, .inl (fun _ => 0))), (q8, .inr (0, [.ref q9, .ref q15])), (q9, .inr (6, [.ref q10, .ref q13, .ref q14])), (q10, .inr (4, [.ref q11, .ref q12, .int (nI 10), .int (nI 0)])), (q11, .inl (cA, 10, .inl (fun _ => 0))), (q12, .inl (cA, 10, .inl (fun _ => 0))), (q13, .inl (cA, 10, .inl (fun _ => 0))), (q14, .inl (cA, 10, .inl (fun _ => 0))), (q15, .inr (3, [.ref q16, .ref q19, .ref q20, .ref q21, .ref q22])), (q16, .inr (4, [.ref q17, .ref q18, .int (nI 70), .int (nI 0)])), (q17, .inl (cA, 70, .inl (fun _ => 0))), (q18, .inl (cA, 70, .inl (fun _ => 0))), (q19, .inl (cA, 70, .inl (fun _ => 0))), (q20, .inl (cA, 70, .inl (fun _ => 0))), (q21, .inl (cA, 70, .inl (fun _ => 0))), (q22, .inl (cA, 70, .inl (fun _ => 0))), (q23, .inr (1, [.ref q24, .ref q25, .ref q26, .ref q27, .ref q28, .int (nI 0), .int (nI 0), .int (nI 3)])), (q24, .inl (cA, 6, .inl (fun _ => 0))), (q25, .inl (cA, 6, .inl (fun _ => 0))), (q26, .inl (cA, 6, .inl (fun _ => 0))), (q27, .inl (cA, 6, .inl (fun _ => 0))), (q28, .inl (cA, 6, .inl (fun _ => 0))), (q29, .inr (5, [.ref q30, .int (nI 0), .ref q31, .ref q32, .ref q33, .int (nI 0)])), (q30, .inl (cA, 60, .inl (fun _ => 0))), (q31, .inl (cA, 12, .inl (fun _ => 0))), (q32, .inl (cA, 12, .inl (fun _ => 0))), (q33, .inl (cA, 12, .inl (fun _ => 0)))]) := by
  refine n_of (own := RX8) [(0, .ref h0)] (by decide) rfl rfl rfl (Nat.le_of_ble_eq_true rfl) ?_
  refine n_aload 0 dX8_init_0 rfl ?_
  refine n_obj dX8_init_1 (q_in1 (i := 17) rfl rfl) (by omega) ?_
  refine n_aload 0 dX8_init_4 rfl ?_
  refine n_new (ci := 2) (N := 4) (CC := RX3) (T := TX3) (fs := [.null, .null, .null, .null]) tyX3 dX8_init_5 rfl q_uX3 tyX3_ok (q_in1 (i := 20) rfl rfl) (q_in1 (i := 21) rfl rfl) (q_in1 (i := 2) rfl rfl) (fun j hj => by rcases (show j = 0 ∨ j = 1 ∨ j = 2 ∨ j = 3 by omega) with rfl | rfl | rfl | rfl <;> rfl) (by omega) (by omega) (fun q1 => ?_)
  refine n_dup dX8_init_8 ?_
  refine n_call (b := q1) (As := []) (rest := [.ref q1, .ref h0]) (nA := 0) (wr := [(h0, .inr (7, [.null, .null, .null, .null, .null, .null, .int 0]))]) [1] [0] dX8_init_9 (Or.inr (fun _ hN => hN.1)) (q_in1 (i := 24) rfl rfl) (q_in1 (i := 2) rfl rfl) (q_in1 (i := 23) rfl rfl) rfl ⟨by decide +kernel, by decide +kernel, by decide +kernel⟩ rfl (by omega) (by omega) (kX3_init l D cA q1) rfl (by decide) rfl (by decide) (by decide) (Nat.le_of_ble_eq_true rfl) (by omega) (by omega) (fun w1 hw1 => ?_)
  obtain ⟨q2, q3, q4, q5, q6, q7, rfl⟩ := hw1
  refine n_eq (w' := [(h0, .inr (7, [.null, .null, .null, .null, .null, .null, .int 0])), (q1, .inr (2, [.ref q2, .ref q5, .ref q6, .ref q7])), (q2, .inr (4, [.ref q3, .ref q4, .int (nI 10), .int (nI 0)])), (q3, .inl (cA, 10, .inl (fun _ => 0))), (q4, .inl (cA, 10, .inl (fun _ => 0))), (q5, .inl (cA, 10, .inl (fun _ => 0))), (q6, .inl (cA, 10, .inl (fun _ => 0))), (q7, .inl (cA, 10, .inl (fun _ => 0)))]) rfl ?_
  refine n_putF (q0 := 0) (w' := [(h0, .inr (7, [.ref q1, .null, .null, .null, .null, .null, .int 0])), (q1, .inr (2, [.ref q2, .ref q5, .ref q6, .ref q7])), (q2, .inr (4, [.ref q3, .ref q4, .int (nI 10), .int (nI 0)])), (q3, .inl (cA, 10, .inl (fun _ => 0))), (q4, .inl (cA, 10, .inl (fun _ => 0))), (q5, .inl (cA, 10, .inl (fun _ => 0))), (q6, .inl (cA, 10, .inl (fun _ => 0))), (q7, .inl (cA, 10, .inl (fun _ => 0)))]) dX8_init_12 fl_X8_10 ff_7_0 rfl (Nat.le_of_ble_eq_true rfl) rfl rfl rfl ?_
  refine n_aload 0 dX8_init_15 rfl ?_
  refine n_new (ci := 0) (N := 2) (CC := RX0) (T := TX0) (fs := [.null, .null]) tyX0 dX8_init_16 rfl q_uX0 tyX0_ok (q_in1 (i := 74) rfl rfl) (q_in1 (i := 75) rfl rfl) (q_in1 (i := 5) rfl rfl) (fun j hj => by rcases (show j = 0 ∨ j = 1 by omega) with rfl | rfl <;> rfl) (by omega) (by omega) (fun q8 => ?_)
  refine n_dup dX8_init_19 ?_
  refine n_call (b := q8) (As := []) (rest := [.ref q8, .ref h0]) (nA := 0) (wr := [(h0, .inr (7, [.ref q1, .null, .null, .null, .null, .null, .int 0])), (q1, .inr (2, [.ref q2, .ref q5, .ref q6, .ref q7])), (q2, .inr (4, [.ref q3, .ref q4, .int (nI 10), .int (nI 0)])), (q3, .inl (cA, 10, .inl (fun _ => 0))), (q4, .inl (cA, 10, .inl (fun _ => 0))), (q5, .inl (cA, 10, .inl (fun _ => 0))), (q6, .inl (cA, 10, .inl (fun _ => 0))), (q7, .inl (cA, 10, .inl (fun _ => 0)))]) [8] [0, 1, 2, 3, 4, 5, 6, 7] dX8_init_20 (Or.inr (fun _ hN => hN.2.1)) (q_in1 (i := 78) rfl rfl) (q_in1 (i := 5) rfl rfl) (q_in1 (i := 77) rfl rfl) rfl ⟨by decide +kernel, by decide +kernel, by decide +kernel⟩ rfl (by omega) (by omega) (kX0_init l D cA q8) rfl (by decide) rfl (by decide) (by decide) (Nat.le_of_ble_eq_true rfl) (by omega) (by omega) (fun w1 hw1 => ?_)
  obtain ⟨q9, q10, q11, q12, q13, q14, q15, q16, q17, q18, q19, q20, q21, q22, rfl⟩ := hw1
  refine n_eq (w' := [(h0, .inr (7, [.ref q1, .null, .null, .null, .null, .null, .int 0])), (q1, .inr (2, [.ref q2, .ref q5, .ref q6, .ref q7])), (q2, .inr (4, [.ref q3, .ref q4, .int (nI 10), .int (nI 0)])), (q3, .inl (cA, 10, .inl (fun _ => 0))), (q4, .inl (cA, 10, .inl (fun _ => 0))), (q5, .inl (cA, 10, .inl (fun _ => 0))), (q6, .inl (cA, 10, .inl (fun _ => 0))), (q7, .inl (cA, 10, .inl (fun _ => 0))), (q8, .inr (0, [.ref q9, .ref q15])), (q9, .inr (6, [.ref q10, .ref q13, .ref q14])), (q10, .inr (4, [.ref q11, .ref q12, .int (nI 10), .int (nI 0)])), (q11, .inl (cA, 10, .inl (fun _ => 0))), (q12, .inl (cA, 10, .inl (fun _ => 0))), (q13, .inl (cA, 10, .inl (fun _ => 0))), (q14, .inl (cA, 10, .inl (fun _ => 0))), (q15, .inr (3, [.ref q16, .ref q19, .ref q20, .ref q21, .ref q22])), (q16, .inr (4, [.ref q17, .ref q18, .int (nI 70), .int (nI 0)])), (q17, .inl (cA, 70, .inl (fun _ => 0))), (q18, .inl (cA, 70, .inl (fun _ => 0))), (q19, .inl (cA, 70, .inl (fun _ => 0))), (q20, .inl (cA, 70, .inl (fun _ => 0))), (q21, .inl (cA, 70, .inl (fun _ => 0))), (q22, .inl (cA, 70, .inl (fun _ => 0)))]) rfl ?_
  refine n_putF (q0 := 0) (w' := [(h0, .inr (7, [.ref q1, .ref q8, .null, .null, .null, .null, .int 0])), (q1, .inr (2, [.ref q2, .ref q5, .ref q6, .ref q7])), (q2, .inr (4, [.ref q3, .ref q4, .int (nI 10), .int (nI 0)])), (q3, .inl (cA, 10, .inl (fun _ => 0))), (q4, .inl (cA, 10, .inl (fun _ => 0))), (q5, .inl (cA, 10, .inl (fun _ => 0))), (q6, .inl (cA, 10, .inl (fun _ => 0))), (q7, .inl (cA, 10, .inl (fun _ => 0))), (q8, .inr (0, [.ref q9, .ref q15])), (q9, .inr (6, [.ref q10, .ref q13, .ref q14])), (q10, .inr (4, [.ref q11, .ref q12, .int (nI 10), .int (nI 0)])), (q11, .inl (cA, 10, .inl (fun _ => 0))), (q12, .inl (cA, 10, .inl (fun _ => 0))), (q13, .inl (cA, 10, .inl (fun _ => 0))), (q14, .inl (cA, 10, .inl (fun _ => 0))), (q15, .inr (3, [.ref q16, .ref q19, .ref q20, .ref q21, .ref q22])), (q16, .inr (4, [.ref q17, .ref q18, .int (nI 70), .int (nI 0)])), (q17, .inl (cA, 70, .inl (fun _ => 0))), (q18, .inl (cA, 70, .inl (fun _ => 0))), (q19, .inl (cA, 70, .inl (fun _ => 0))), (q20, .inl (cA, 70, .inl (fun _ => 0))), (q21, .inl (cA, 70, .inl (fun _ => 0))), (q22, .inl (cA, 70, .inl (fun _ => 0)))]) dX8_init_23 fl_X8_19 ff_7_1 rfl (Nat.le_of_ble_eq_true rfl) rfl rfl rfl ?_
  refine n_aload 0 dX8_init_26 rfl ?_
  refine n_aload 0 dX8_init_27 rfl ?_
  refine n_get (q0 := 0) dX8_init_28 fl_X8_19 rfl rfl ?_
  refine n_get (q0 := 8) dX8_init_31 fl_X8_23 rfl rfl ?_
  refine n_putF (q0 := 0) (w' := [(h0, .inr (7, [.ref q1, .ref q8, .ref q9, .null, .null, .null, .int 0])), (q1, .inr (2, [.ref q2, .ref q5, .ref q6, .ref q7])), (q2, .inr (4, [.ref q3, .ref q4, .int (nI 10), .int (nI 0)])), (q3, .inl (cA, 10, .inl (fun _ => 0))), (q4, .inl (cA, 10, .inl (fun _ => 0))), (q5, .inl (cA, 10, .inl (fun _ => 0))), (q6, .inl (cA, 10, .inl (fun _ => 0))), (q7, .inl (cA, 10, .inl (fun _ => 0))), (q8, .inr (0, [.ref q9, .ref q15])), (q9, .inr (6, [.ref q10, .ref q13, .ref q14])), (q10, .inr (4, [.ref q11, .ref q12, .int (nI 10), .int (nI 0)])), (q11, .inl (cA, 10, .inl (fun _ => 0))), (q12, .inl (cA, 10, .inl (fun _ => 0))), (q13, .inl (cA, 10, .inl (fun _ => 0))), (q14, .inl (cA, 10, .inl (fun _ => 0))), (q15, .inr (3, [.ref q16, .ref q19, .ref q20, .ref q21, .ref q22])), (q16, .inr (4, [.ref q17, .ref q18, .int (nI 70), .int (nI 0)])), (q17, .inl (cA, 70, .inl (fun _ => 0))), (q18, .inl (cA, 70, .inl (fun _ => 0))), (q19, .inl (cA, 70, .inl (fun _ => 0))), (q20, .inl (cA, 70, .inl (fun _ => 0))), (q21, .inl (cA, 70, .inl (fun _ => 0))), (q22, .inl (cA, 70, .inl (fun _ => 0)))]) dX8_init_34 fl_X8_27 ff_7_2 rfl (Nat.le_of_ble_eq_true rfl) rfl rfl rfl ?_
  refine n_aload 0 dX8_init_37 rfl ?_
  refine n_aload 0 dX8_init_38 rfl ?_
  refine n_get (q0 := 0) dX8_init_39 fl_X8_19 rfl rfl ?_
  refine n_get (q0 := 8) dX8_init_42 fl_X8_28 rfl rfl ?_
  refine n_putF (q0 := 0) (w' := [(h0, .inr (7, [.ref q1, .ref q8, .ref q9, .ref q15, .null, .null, .int 0])), (q1, .inr (2, [.ref q2, .ref q5, .ref q6, .ref q7])), (q2, .inr (4, [.ref q3, .ref q4, .int (nI 10), .int (nI 0)])), (q3, .inl (cA, 10, .inl (fun _ => 0))), (q4, .inl (cA, 10, .inl (fun _ => 0))), (q5, .inl (cA, 10, .inl (fun _ => 0))), (q6, .inl (cA, 10, .inl (fun _ => 0))), (q7, .inl (cA, 10, .inl (fun _ => 0))), (q8, .inr (0, [.ref q9, .ref q15])), (q9, .inr (6, [.ref q10, .ref q13, .ref q14])), (q10, .inr (4, [.ref q11, .ref q12, .int (nI 10), .int (nI 0)])), (q11, .inl (cA, 10, .inl (fun _ => 0))), (q12, .inl (cA, 10, .inl (fun _ => 0))), (q13, .inl (cA, 10, .inl (fun _ => 0))), (q14, .inl (cA, 10, .inl (fun _ => 0))), (q15, .inr (3, [.ref q16, .ref q19, .ref q20, .ref q21, .ref q22])), (q16, .inr (4, [.ref q17, .ref q18, .int (nI 70), .int (nI 0)])), (q17, .inl (cA, 70, .inl (fun _ => 0))), (q18, .inl (cA, 70, .inl (fun _ => 0))), (q19, .inl (cA, 70, .inl (fun _ => 0))), (q20, .inl (cA, 70, .inl (fun _ => 0))), (q21, .inl (cA, 70, .inl (fun _ => 0))), (q22, .inl (cA, 70, .inl (fun _ => 0)))]) dX8_init_45 fl_X8_32 ff_7_3 rfl (Nat.le_of_ble_eq_true rfl) rfl rfl rfl ?_
  refine n_aload 0 dX8_init_48 rfl ?_
  refine n_new (ci := 1) (N := 8) (CC := RX1) (T := TX1) (fs := [.null, .null, .null, .null, .null, .int 0, .int 0, .int 0]) tyX1 dX8_init_49 rfl q_uX1 tyX1_ok (q_in1 (i := 142) rfl rfl) (q_in1 (i := 143) rfl rfl) (q_in1 (i := 8) rfl rfl) (fun j hj => by rcases (show j = 0 ∨ j = 1 ∨ j = 2 ∨ j = 3 ∨ j = 4 ∨ j = 5 ∨ j = 6 ∨ j = 7 by omega) with rfl | rfl | rfl | rfl | rfl | rfl | rfl | rfl <;> rfl) (by omega) (by omega) (fun q23 => ?_)
  refine n_dup dX8_init_52 ?_
  refine n_call (b := q23) (As := []) (rest := [.ref q23, .ref h0]) (nA := 0) (wr := [(h0, .inr (7, [.ref q1, .ref q8, .ref q9, .ref q15, .null, .null, .int 0])), (q1, .inr (2, [.ref q2, .ref q5, .ref q6, .ref q7])), (q2, .inr (4, [.ref q3, .ref q4, .int (nI 10), .int (nI 0)])), (q3, .inl (cA, 10, .inl (fun _ => 0))), (q4, .inl (cA, 10, .inl (fun _ => 0))), (q5, .inl (cA, 10, .inl (fun _ => 0))), (q6, .inl (cA, 10, .inl (fun _ => 0))), (q7, .inl (cA, 10, .inl (fun _ => 0))), (q8, .inr (0, [.ref q9, .ref q15])), (q9, .inr (6, [.ref q10, .ref q13, .ref q14])), (q10, .inr (4, [.ref q11, .ref q12, .int (nI 10), .int (nI 0)])), (q11, .inl (cA, 10, .inl (fun _ => 0))), (q12, .inl (cA, 10, .inl (fun _ => 0))), (q13, .inl (cA, 10, .inl (fun _ => 0))), (q14, .inl (cA, 10, .inl (fun _ => 0))), (q15, .inr (3, [.ref q16, .ref q19, .ref q20, .ref q21, .ref q22])), (q16, .inr (4, [.ref q17, .ref q18, .int (nI 70), .int (nI 0)])), (q17, .inl (cA, 70, .inl (fun _ => 0))), (q18, .inl (cA, 70, .inl (fun _ => 0))), (q19, .inl (cA, 70, .inl (fun _ => 0))), (q20, .inl (cA, 70, .inl (fun _ => 0))), (q21, .inl (cA, 70, .inl (fun _ => 0))), (q22, .inl (cA, 70, .inl (fun _ => 0)))]) [23] [0, 1, 2, 3, 4, 5, 6, 7, 8, 9, 10, 11, 12, 13, 14, 15, 16, 17, 18, 19, 20, 21, 22] dX8_init_53 (Or.inr (fun _ hN => hN.2.2.1)) (q_in1 (i := 146) rfl rfl) (q_in1 (i := 8) rfl rfl) (q_in1 (i := 145) rfl rfl) rfl ⟨by decide +kernel, by decide +kernel, by decide +kernel⟩ rfl (by omega) (by omega) (kX1_init l D cA q23) rfl (by decide) rfl (by decide) (by decide) (Nat.le_of_ble_eq_true rfl) (by omega) (by omega) (fun w1 hw1 => ?_)
  obtain ⟨q24, q25, q26, q27, q28, rfl⟩ := hw1
  refine n_eq (w' := [(h0, .inr (7, [.ref q1, .ref q8, .ref q9, .ref q15, .null, .null, .int 0])), (q1, .inr (2, [.ref q2, .ref q5, .ref q6, .ref q7])), (q2, .inr (4, [.ref q3, .ref q4, .int (nI 10), .int (nI 0)])), (q3, .inl (cA, 10, .inl (fun _ => 0))), (q4, .inl (cA, 10, .inl (fun _ => 0))), (q5, .inl (cA, 10, .inl (fun _ => 0))), (q6, .inl (cA, 10, .inl (fun _ => 0))), (q7, .inl (cA, 10, .inl (fun _ => 0))), (q8, .inr (0, [.ref q9, .ref q15])), (q9, .inr (6, [.ref q10, .ref q13, .ref q14])), (q10, .inr (4, [.ref q11, .ref q12, .int (nI 10), .int (nI 0)])), (q11, .inl (cA, 10, .inl (fun _ => 0))), (q12, .inl (cA, 10, .inl (fun _ => 0))), (q13, .inl (cA, 10, .inl (fun _ => 0))), (q14, .inl (cA, 10, .inl (fun _ => 0))), (q15, .inr (3, [.ref q16, .ref q19, .ref q20, .ref q21, .ref q22])), (q16, .inr (4, [.ref q17, .ref q18, .int (nI 70), .int (nI 0)])), (q17, .inl (cA, 70, .inl (fun _ => 0))), (q18, .inl (cA, 70, .inl (fun _ => 0))), (q19, .inl (cA, 70, .inl (fun _ => 0))), (q20, .inl (cA, 70, .inl (fun _ => 0))), (q21, .inl (cA, 70, .inl (fun _ => 0))), (q22, .inl (cA, 70, .inl (fun _ => 0))), (q23, .inr (1, [.ref q24, .ref q25, .ref q26, .ref q27, .ref q28, .int (nI 0), .int (nI 0), .int (nI 3)])), (q24, .inl (cA, 6, .inl (fun _ => 0))), (q25, .inl (cA, 6, .inl (fun _ => 0))), (q26, .inl (cA, 6, .inl (fun _ => 0))), (q27, .inl (cA, 6, .inl (fun _ => 0))), (q28, .inl (cA, 6, .inl (fun _ => 0)))]) rfl ?_
  refine n_putF (q0 := 0) (w' := [(h0, .inr (7, [.ref q1, .ref q8, .ref q9, .ref q15, .ref q23, .null, .int 0])), (q1, .inr (2, [.ref q2, .ref q5, .ref q6, .ref q7])), (q2, .inr (4, [.ref q3, .ref q4, .int (nI 10), .int (nI 0)])), (q3, .inl (cA, 10, .inl (fun _ => 0))), (q4, .inl (cA, 10, .inl (fun _ => 0))), (q5, .inl (cA, 10, .inl (fun _ => 0))), (q6, .inl (cA, 10, .inl (fun _ => 0))), (q7, .inl (cA, 10, .inl (fun _ => 0))), (q8, .inr (0, [.ref q9, .ref q15])), (q9, .inr (6, [.ref q10, .ref q13, .ref q14])), (q10, .inr (4, [.ref q11, .ref q12, .int (nI 10), .int (nI 0)])), (q11, .inl (cA, 10, .inl (fun _ => 0))), (q12, .inl (cA, 10, .inl (fun _ => 0))), (q13, .inl (cA, 10, .inl (fun _ => 0))), (q14, .inl (cA, 10, .inl (fun _ => 0))), (q15, .inr (3, [.ref q16, .ref q19, .ref q20, .ref q21, .ref q22])), (q16, .inr (4, [.ref q17, .ref q18, .int (nI 70), .int (nI 0)])), (q17, .inl (cA, 70, .inl (fun _ => 0))), (q18, .inl (cA, 70, .inl (fun _ => 0))), (q19, .inl (cA, 70, .inl (fun _ => 0))), (q20, .inl (cA, 70, .inl (fun _ => 0))), (q21, .inl (cA, 70, .inl (fun _ => 0))), (q22, .inl (cA, 70, .inl (fun _ => 0))), (q23, .inr (1, [.ref q24, .ref q25, .ref q26, .ref q27, .ref q28, .int (nI 0), .int (nI 0), .int (nI 3)])), (q24, .inl (cA, 6, .inl (fun _ => 0))), (q25, .inl (cA, 6, .inl (fun _ => 0))), (q26, .inl (cA, 6, .inl (fun _ => 0))), (q27, .inl (cA, 6, .inl (fun _ => 0))), (q28, .inl (cA, 6, .inl (fun _ => 0)))]) dX8_init_56 fl_X8_36 ff_7_4 rfl (Nat.le_of_ble_eq_true rfl) rfl rfl rfl ?_
  refine n_aload 0 dX8_init_59 rfl ?_
  refine n_new (ci := 5) (N := 6) (CC := RX6) (T := TX6) (fs := [.null, .int 0, .null, .null, .null, .int 0]) tyX6 dX8_init_60 rfl q_uX6 tyX6_ok (q_in1 (i := 180) rfl rfl) (q_in1 (i := 181) rfl rfl) (q_in1 (i := 9) rfl rfl) (fun j hj => by rcases (show j = 0 ∨ j = 1 ∨ j = 2 ∨ j = 3 ∨ j = 4 ∨ j = 5 by omega) with rfl | rfl | rfl | rfl | rfl | rfl <;> rfl) (by omega) (by omega) (fun q29 => ?_)
  refine n_dup dX8_init_63 ?_
  refine n_call (b := q29) (As := []) (rest := [.ref q29, .ref h0]) (nA := 0) (wr := [(h0, .inr (7, [.ref q1, .ref q8, .ref q9, .ref q15, .ref q23, .null, .int 0])), (q1, .inr (2, [.ref q2, .ref q5, .ref q6, .ref q7])), (q2, .inr (4, [.ref q3, .ref q4, .int (nI 10), .int (nI 0)])), (q3, .inl (cA, 10, .inl (fun _ => 0))), (q4, .inl (cA, 10, .inl (fun _ => 0))), (q5, .inl (cA, 10, .inl (fun _ => 0))), (q6, .inl (cA, 10, .inl (fun _ => 0))), (q7, .inl (cA, 10, .inl (fun _ => 0))), (q8, .inr (0, [.ref q9, .ref q15])), (q9, .inr (6, [.ref q10, .ref q13, .ref q14])), (q10, .inr (4, [.ref q11, .ref q12, .int (nI 10), .int (nI 0)])), (q11, .inl (cA, 10, .inl (fun _ => 0))), (q12, .inl (cA, 10, .inl (fun _ => 0))), (q13, .inl (cA, 10, .inl (fun _ => 0))), (q14, .inl (cA, 10, .inl (fun _ => 0))), (q15, .inr (3, [.ref q16, .ref q19, .ref q20, .ref q21, .ref q22])), (q16, .inr (4, [.ref q17, .ref q18, .int (nI 70), .int (nI 0)])), (q17, .inl (cA, 70, .inl (fun _ => 0))), (q18, .inl (cA, 70, .inl (fun _ => 0))), (q19, .inl (cA, 70, .inl (fun _ => 0))), (q20, .inl (cA, 70, .inl (fun _ => 0))), (q21, .inl (cA, 70, .inl (fun _ => 0))), (q22, .inl (cA, 70, .inl (fun _ => 0))), (q23, .inr (1, [.ref q24, .ref q25, .ref q26, .ref q27, .ref q28, .int (nI 0), .int (nI 0), .int (nI 3)])), (q24, .inl (cA, 6, .inl (fun _ => 0))), (q25, .inl (cA, 6, .inl (fun _ => 0))), (q26, .inl (cA, 6, .inl (fun _ => 0))), (q27, .inl (cA, 6, .inl (fun _ => 0))), (q28, .inl (cA, 6, .inl (fun _ => 0)))]) [29] [0, 1, 2, 3, 4, 5, 6, 7, 8, 9, 10, 11, 12, 13, 14, 15, 16, 17, 18, 19, 20, 21, 22, 23, 24, 25, 26, 27, 28] dX8_init_64 (Or.inr (fun _ hN => hN.2.2.2.1)) (q_in1 (i := 184) rfl rfl) (q_in1 (i := 9) rfl rfl) (q_in1 (i := 183) rfl rfl) rfl ⟨by decide +kernel, by decide +kernel, by decide +kernel⟩ rfl (by omega) (by omega) (kX6_init l D cA q29) rfl (by decide) rfl (by decide) (by decide) (Nat.le_of_ble_eq_true rfl) (by omega) (by omega) (fun w1 hw1 => ?_)
  obtain ⟨q30, q31, q32, q33, rfl⟩ := hw1
  refine n_eq (w' := [(h0, .inr (7, [.ref q1, .ref q8, .ref q9, .ref q15, .ref q23, .null, .int 0])), (q1, .inr (2, [.ref q2, .ref q5, .ref q6, .ref q7])), (q2, .inr (4, [.ref q3, .ref q4, .int (nI 10), .int (nI 0)])), (q3, .inl (cA, 10, .inl (fun _ => 0))), (q4, .inl (cA, 10, .inl (fun _ => 0))), (q5, .inl (cA, 10, .inl (fun _ => 0))), (q6, .inl (cA, 10, .inl (fun _ => 0))), (q7, .inl (cA, 10, .inl (fun _ => 0))), (q8, .inr (0, [.ref q9, .ref q15])), (q9, .inr (6, [.ref q10, .ref q13, .ref q14])), (q10, .inr (4, [.ref q11, .ref q12, .int (nI 10), .int (nI 0)])), (q11, .inl (cA, 10, .inl (fun _ => 0))), (q12, .inl (cA, 10, .inl (fun _ => 0))), (q13, .inl (cA, 10, .inl (fun _ => 0))), (q14, .inl (cA, 10, .inl (fun _ => 0))), (q15, .inr (3, [.ref q16, .ref q19, .ref q20, .ref q21, .ref q22])), (q16, .inr (4, [.ref q17, .ref q18, .int (nI 70), .int (nI 0)])), (q17, .inl (cA, 70, .inl (fun _ => 0))), (q18, .inl (cA, 70, .inl (fun _ => 0))), (q19, .inl (cA, 70, .inl (fun _ => 0))), (q20, .inl (cA, 70, .inl (fun _ => 0))), (q21, .inl (cA, 70, .inl (fun _ => 0))), (q22, .inl (cA, 70, .inl (fun _ => 0))), (q23, .inr (1, [.ref q24, .ref q25, .ref q26, .ref q27, .ref q28, .int (nI 0), .int (nI 0), .int (nI 3)])), (q24, .inl (cA, 6, .inl (fun _ => 0))), (q25, .inl (cA, 6, .inl (fun _ => 0))), (q26, .inl (cA, 6, .inl (fun _ => 0))), (q27, .inl (cA, 6, .inl (fun _ => 0))), (q28, .inl (cA, 6, .inl (fun _ => 0))), (q29, .inr (5, [.ref q30, .int (nI 0), .ref q31, .ref q32, .ref q33, .int (nI 0)])), (q30, .inl (cA, 60, .inl (fun _ => 0))), (q31, .inl (cA, 12, .inl (fun _ => 0))), (q32, .inl (cA, 12, .inl (fun _ => 0))), (q33, .inl (cA, 12, .inl (fun _ => 0)))]) rfl ?_
  refine n_putF (q0 := 0) (w' := [(h0, .inr (7, [.ref q1, .ref q8, .ref q9, .ref q15, .ref q23, .ref q29, .int 0])), (q1, .inr (2, [.ref q2, .ref q5, .ref q6, .ref q7])), (q2, .inr (4, [.ref q3, .ref q4, .int (nI 10), .int (nI 0)])), (q3, .inl (cA, 10, .inl (fun _ => 0))), (q4, .inl (cA, 10, .inl (fun _ => 0))), (q5, .inl (cA, 10, .inl (fun _ => 0))), (q6, .inl (cA, 10, .inl (fun _ => 0))), (q7, .inl (cA, 10, .inl (fun _ => 0))), (q8, .inr (0, [.ref q9, .ref q15])), (q9, .inr (6, [.ref q10, .ref q13, .ref q14])), (q10, .inr (4, [.ref q11, .ref q12, .int (nI 10), .int (nI 0)])), (q11, .inl (cA, 10, .inl (fun _ => 0))), (q12, .inl (cA, 10, .inl (fun _ => 0))), (q13, .inl (cA, 10, .inl (fun _ => 0))), (q14, .inl (cA, 10, .inl (fun _ => 0))), (q15, .inr (3, [.ref q16, .ref q19, .ref q20, .ref q21, .ref q22])), (q16, .inr (4, [.ref q17, .ref q18, .int (nI 70), .int (nI 0)])), (q17, .inl (cA, 70, .inl (fun _ => 0))), (q18, .inl (cA, 70, .inl (fun _ => 0))), (q19, .inl (cA, 70, .inl (fun _ => 0))), (q20, .inl (cA, 70, .inl (fun _ => 0))), (q21, .inl (cA, 70, .inl (fun _ => 0))), (q22, .inl (cA, 70, .inl (fun _ => 0))), (q23, .inr (1, [.ref q24, .ref q25, .ref q26, .ref q27, .ref q28, .int (nI 0), .int (nI 0), .int (nI 3)])), (q24, .inl (cA, 6, .inl (fun _ => 0))), (q25, .inl (cA, 6, .inl (fun _ => 0))), (q26, .inl (cA, 6, .inl (fun _ => 0))), (q27, .inl (cA, 6, .inl (fun _ => 0))), (q28, .inl (cA, 6, .inl (fun _ => 0))), (q29, .inr (5, [.ref q30, .int (nI 0), .ref q31, .ref q32, .ref q33, .int (nI 0)])), (q30, .inl (cA, 60, .inl (fun _ => 0))), (q31, .inl (cA, 12, .inl (fun _ => 0))), (q32, .inl (cA, 12, .inl (fun _ => 0))), (q33, .inl (cA, 12, .inl (fun _ => 0)))]) dX8_init_67 fl_X8_43 ff_7_5 rfl (Nat.le_of_ble_eq_true rfl) rfl rfl rfl ?_
  refine n_aload 0 dX8_init_70 rfl ?_
  refine n_iconst (v := nI 0) dX8_init_71 (by decide) ?_
  refine n_put (q0 := 0) (w' := [(h0, .inr (7, [.ref q1, .ref q8, .ref q9, .ref q15, .ref q23, .ref q29, .int (nI 0)])), (q1, .inr (2, [.ref q2, .ref q5, .ref q6, .ref q7])), (q2, .inr (4, [.ref q3, .ref q4, .int (nI 10), .int (nI 0)])), (q3, .inl (cA, 10, .inl (fun _ => 0))), (q4, .inl (cA, 10, .inl (fun _ => 0))), (q5, .inl (cA, 10, .inl (fun _ => 0))), (q6, .inl (cA, 10, .inl (fun _ => 0))), (q7, .inl (cA, 10, .inl (fun _ => 0))), (q8, .inr (0, [.ref q9, .ref q15])), (q9, .inr (6, [.ref q10, .ref q13, .ref q14])), (q10, .inr (4, [.ref q11, .ref q12, .int (nI 10), .int (nI 0)])), (q11, .inl (cA, 10, .inl (fun _ => 0))), (q12, .inl (cA, 10, .inl (fun _ => 0))), (q13, .inl (cA, 10, .inl (fun _ => 0))), (q14, .inl (cA, 10, .inl (fun _ => 0))), (q15, .inr (3, [.ref q16, .ref q19, .ref q20, .ref q21, .ref q22])), (q16, .inr (4, [.ref q17, .ref q18, .int (nI 70), .int (nI 0)])), (q17, .inl (cA, 70, .inl (fun _ => 0))), (q18, .inl (cA, 70, .inl (fun _ => 0))), (q19, .inl (cA, 70, .inl (fun _ => 0))), (q20, .inl (cA, 70, .inl (fun _ => 0))), (q21, .inl (cA, 70, .inl (fun _ => 0))), (q22, .inl (cA, 70, .inl (fun _ => 0))), (q23, .inr (1, [.ref q24, .ref q25, .ref q26, .ref q27, .ref q28, .int (nI 0), .int (nI 0), .int (nI 3)])), (q24, .inl (cA, 6, .inl (fun _ => 0))), (q25, .inl (cA, 6, .inl (fun _ => 0))), (q26, .inl (cA, 6, .inl (fun _ => 0))), (q27, .inl (cA, 6, .inl (fun _ => 0))), (q28, .inl (cA, 6, .inl (fun _ => 0))), (q29, .inr (5, [.ref q30, .int (nI 0), .ref q31, .ref q32, .ref q33, .int (nI 0)])), (q30, .inl (cA, 60, .inl (fun _ => 0))), (q31, .inl (cA, 12, .inl (fun _ => 0))), (q32, .inl (cA, 12, .inl (fun _ => 0))), (q33, .inl (cA, 12, .inl (fun _ => 0)))]) dX8_init_72 fl_X8_47 fp_7_6 rfl (Nat.le_of_ble_eq_true rfl) rfl ?_
  exact n_ret dX8_init_75 (by omega) (by omega) ⟨q1, q2, q3, q4, q5, q6, q7, q8, q9, q10, q11, q12, q13, q14, q15, q16, q17, q18, q19, q20, q21, q22, q23, q24, q25, q26, q27, q28, q29, q30, q31, q32, q33, rfl⟩
