set_option maxHeartbeats 4000000 in
set_option maxRecDepth 100000 in
theorem l_setup {p : Program} {s : State} {m : MethodId} {meth : Method} {c : Code} {b L : Nat} {xs : Nat → Int32} (hL : L ≤ 3072) (C0 : lw_At p s m meth c b L xs) : ∃ (D : va_G) (cA : ClassId), l_C p s m meth c b L xs D cA ∧ n_N s := by
  obtain ⟨hx, hb, hr, hml, hown, hts, hX, hbl, hlocks, hgv⟩ := id C0
  have hq : ∀ w ∈ q_tbl, w.before #[Value.ref b] s = true := fun w hw => hts w (List.mem_filter.mp hw).1
  obtain ⟨c0, iS0, hKn0⟩ := u_known (C := RX0) (T := TX0) (N := 2) (n := 2) hq q_uX0 (hq _ (q_in1 (i := 75) rfl rfl))
  obtain ⟨c1, iS1, hKn1⟩ := u_known (C := RX1) (T := TX1) (N := 8) (n := 8) hq q_uX1 (hq _ (q_in1 (i := 143) rfl rfl))
  obtain ⟨c2, iS2, hKn2⟩ := u_known (C := RX3) (T := TX3) (N := 4) (n := 4) hq q_uX3 (hq _ (q_in1 (i := 21) rfl rfl))
  obtain ⟨c3, iS3, hKn3⟩ := u_known (C := RX4) (T := TX4) (N := 5) (n := 5) hq q_uX4 (hq _ (q_in1 (i := 104) rfl rfl))
  obtain ⟨c4, iS4, hKn4⟩ := u_known (C := RX5) (T := TX5) (N := 4) (n := 4) hq q_uX5 (hq _ (q_in1 (i := 27) rfl rfl))
  obtain ⟨c5, iS5, hKn5⟩ := u_known (C := RX6) (T := TX6) (N := 6) (n := 6) hq q_uX6 (hq _ (q_in1 (i := 181) rfl rfl))
  obtain ⟨c6, iS6, hKn6⟩ := u_known (C := RX7) (T := TX7) (N := 3) (n := 3) hq q_uX7 (hq _ (q_in1 (i := 81) rfl rfl))
  obtain ⟨c7, iS7, hKn7⟩ := u_known (C := RX8) (T := TX8) (N := 7) (n := 7) hq q_uX8 (hq _ (q_in1 (i := 13) rfl rfl))
  obtain ⟨c8, iS8, hKn8⟩ := u_known (C := RX9) (T := TX9) (N := 17) (n := 17) hq q_uX9 (hq _ (q_in3 (i := 117) rfl rfl))
  obtain ⟨cA, kA, comp, hcA, hkA, hkind⟩ := Cond.arrayClass_spec (hq _ q_ar)
  obtain ⟨D, hKc⟩ : ∃ D : va_G, ∀ (k : Nat) (q : vw_C), vwCl[k]? = some q → u_Kn s q.1 q.2.1 q.2.2 (D.1 k) (D.2 k) := by
    refine ⟨(fun k => ([c0, c1, c2, c3, c4, c5, c6, c7, c8] : List ClassId).getD k c0, fun k => ([iS0, iS1, iS2, iS3, iS4, iS5, iS6, iS7, iS8] : List (Nat → Nat)).getD k iS0), ?_⟩
    intro k q hq9
    match k, hq9 with
    | 0, hq9 => cases hq9; exact hKn0
    | 1, hq9 => cases hq9; exact hKn1
    | 2, hq9 => cases hq9; exact hKn2
    | 3, hq9 => cases hq9; exact hKn3
    | 4, hq9 => cases hq9; exact hKn4
    | 5, hq9 => cases hq9; exact hKn5
    | 6, hq9 => cases hq9; exact hKn6
    | 7, hq9 => cases hq9; exact hKn7
    | 8, hq9 => cases hq9; exact hKn8
    | k + 9, hq9 => simp [vwCl] at hq9
  have hK : va_K D vwCl [(cA, .int)] s := by
    refine ⟨hKc, fun k q h => ?_⟩
    match k, h with
    | 0, h => cases h; exact ⟨fun n z => ⟨fun k h => (by cases h), kA, hkA, comp, hkind⟩, hcA⟩
    | k + 1, h => simp at h
  have hnN : n_N s := ⟨va_Nw.of rfl (hts (.methodLinkNest RX8 9 yX3_init RX8) (List.mem_append_right _ (List.mem_append_left _ (List.mem_of_getElem? (i := 22) rfl)))), va_Nw.of rfl (hts (.methodLinkNest RX8 18 yX0_init RX8) (List.mem_append_right _ (List.mem_append_left _ (List.mem_of_getElem? (i := 76) rfl)))), va_Nw.of rfl (hts (.methodLinkNest RX8 35 yX1_init RX8) (List.mem_append_right _ (List.mem_append_left _ (List.mem_of_getElem? (i := 144) rfl)))), va_Nw.of rfl (hts (.methodLinkNest RX8 42 yX6_init RX8) (List.mem_append_right _ (List.mem_append_left _ (List.mem_of_getElem? (i := 182) rfl)))), va_Nw.of rfl (hts (.methodLinkNest RX0 11 yX7_init RX8) (List.mem_append_right _ (List.mem_append_left _ (List.mem_of_getElem? (i := 82) rfl)))), va_Nw.of rfl (hts (.methodLinkNest RX0 20 yX4_init RX8) (List.mem_append_right _ (List.mem_append_left _ (List.mem_of_getElem? (i := 105) rfl))))⟩
  have hqN : q_N s := ⟨va_Nw.of rfl (hts (.methodLinkNest RX6 48 yX8_isType RX8) (List.mem_append_right _ (List.mem_append_right _ (List.mem_append_left _ (List.mem_of_getElem? (i := 188) rfl))))), va_Nw.of rfl (hts (.methodLinkNest RX6 61 yX8_isValue RX8) (List.mem_append_right _ (List.mem_append_right _ (List.mem_append_left _ (List.mem_of_getElem? (i := 197) rfl)))))⟩
  exact ⟨D, cA, ⟨C0, hq, hK, hqN, hL⟩, hnN⟩
