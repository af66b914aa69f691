theorem l_isR (w0 : va_W) (x : Nat × va_E) : (List.range w0.length).map (fun i => (w0 ++ [x])[i]?) = w0.map some := by
  apply List.ext_getElem?
  intro i
  by_cases h : i < w0.length
  · rw [List.getElem?_map, List.getElem?_map, List.getElem?_range h, List.getElem?_eq_getElem h]
    simp [List.getElem?_append_left h, List.getElem?_eq_getElem h]
  · rw [List.getElem?_eq_none (by simpa using h), List.getElem?_eq_none (by simpa using h)]
theorem l_isC (w0 : va_W) (x : Nat × va_E) : [w0.length].map (fun i => (w0 ++ [x])[i]?) = [x].map some := by simp
theorem l_isF (w0 : va_W) (x : Nat × va_E) : [w0.length].filterMap (fun i => (w0 ++ [x])[i]?) = [x] := by simp
theorem l_wX_len (cA : ClassId) (ad : Nat → Nat) : (l_wX cA ad).length = 34 := rfl
set_option maxHeartbeats 4000000 in
set_option maxRecDepth 100000 in
theorem l_start3 {l : Launch} {p : Program} {e : Env} {s : State} {m : MethodId} {below : List Frame} {meth : Method} {c : Code} {b L : Nat} {xs : Nat → Int32} {D : va_G} {cA : ClassId} {ad bd : Nat → Nat} (C : l_C p s m meth c b L xs D cA) {H : Heap} {locs : List Loc} {ls : Array Slot} (hP : va_P D vwCl (l_wX cA ad ++ l_wM cA bd) H) (hD : va_D (fun q : Nat => s.heap.size ≤ q) (l_wX cA ad ++ l_wM cA bd)) (hS : va_S (fun q : Nat => s.heap.size ≤ q) s.heap H locs) (hl : lv_has ls 4 [(1, .ref (ad 0)), (0, .ref b)]) : W p l e room_1 s m #[Value.ref b] below meth c H locs 41 1233 (lw_Z below #[Value.ref b] s) (F0 m 15 ls [.ref (bd 34)]) := by
  obtain ⟨hx, hb, hr, hml, hown, hts, hX, hbl, hlocks, hgv⟩ := C.1
  refine lv_astore_n (lv' := [(2, .ref (bd 34)), (1, .ref (ad 0)), (0, .ref b)]) hx hb dL_law_15 rfl hl (by decide) rfl (fun ls hl => ?_)
  refine lv_iconst (v := nI 0) hx hb dL_law_16 (by decide) ?_
  refine lv_istore_n (lv' := [(3, .int (nI 0)), (2, .ref (bd 34)), (1, .ref (ad 0)), (0, .ref b)]) hx hb dL_law_17 rfl hl (by decide) rfl (fun ls hl => ?_)
  obtain ⟨cd, hcd⟩ : ∃ cd : Nat → Nat, cd = fun k => if k < 34 then ad k else bd k := ⟨_, rfl⟩
  have e1 : l_wX cA ad = l_wX cA cd := l_wX_c (fun k hk => by rw [hcd]; exact (if_pos hk).symm)
  have e2 : l_wM cA bd = l_wM cA cd := l_wM_c (fun k hk => by rw [hcd]; exact (if_neg (by omega)).symm)
  have e3 : ad 0 = cd 0 := by rw [hcd]; rfl
  have e4 : bd 34 = cd 34 := by rw [hcd]; rfl
  rw [e1, e2, l_w_eq] at hP hD
  rw [e3, e4] at hl
  exact law_loop (ad := cd) C (L + 1) 0 l_S0 (by omega) (by omega) l_rl0 H locs ls hP hD hS (lv_sub hl [3, 2, 1, 0] rfl)
set_option maxHeartbeats 4000000 in
set_option maxRecDepth 100000 in
theorem l_start2 {l : Launch} {p : Program} {e : Env} {s : State} {m : MethodId} {below : List Frame} {meth : Method} {c : Code} {b L : Nat} {xs : Nat → Int32} {D : va_G} {cA : ClassId} {ad : Nat → Nat} (C : l_C p s m meth c b L xs D cA) (hnN : n_N s) {H : Heap} {locs : List Loc} {ls : Array Slot} (hP : va_P D vwCl (l_wX cA ad) H) (hD : va_D (fun q : Nat => s.heap.size ≤ q) (l_wX cA ad)) (hS : va_S (fun q : Nat => s.heap.size ≤ q) s.heap H locs) (hl : lv_has ls 4 [(1, .ref (ad 0)), (0, .ref b)]) : W p l e room_1 s m #[Value.ref b] below meth c H locs 34 683 (lw_Z below #[Value.ref b] s) (F0 m 8 ls []) := by
  obtain ⟨hx, hb, hr, hml, hown, hts, hX, hbl, hlocks, hgv⟩ := C.1
  have hq := C.2.1
  have hK := C.2.2.1
  have hA : ∀ q : Nat, s.heap.size ≤ q → (fun q : Nat => s.heap.size ≤ q) q := fun _ h => h
  refine va_new (ci := 8) (fs := [.int 0, .null, .int 0, .null, .int 0, .null, .int 0, .null, .int 0, .int 0, .int 0, .null, .int 0, .int 0, .int 0, .null, .int 0]) (C := RX9) (T := TX9) (N := 17) hx hb hq q_uX9 tyX9 tyX9_ok hown (hq _ (q_in3 (i := 116) rfl rfl)) (hq _ (q_in3 (i := 117) rfl rfl)) (hq _ (q_in1 (i := 10) rfl rfl)) hK hP hD hS hA rfl (fun j hj => by rcases (show j = 0 ∨ j = 1 ∨ j = 2 ∨ j = 3 ∨ j = 4 ∨ j = 5 ∨ j = 6 ∨ j = 7 ∨ j = 8 ∨ j = 9 ∨ j = 10 ∨ j = 11 ∨ j = 12 ∨ j = 13 ∨ j = 14 ∨ j = 15 ∨ j = 16 by omega) with rfl | rfl | rfl | rfl | rfl | rfl | rfl | rfl | rfl | rfl | rfl | rfl | rfl | rfl | rfl | rfl | rfl <;> rfl) (Nat.le_of_ble_eq_true rfl) (Nat.le_of_ble_eq_true rfl) dL_law_8 (fun b0 H hP hD hS => ?_)
  refine lv_dup hx hb dL_law_11 rfl ?_
  have hPc := hP.sub (ws' := [(b0, .inr (8, [.int 0, .null, .int 0, .null, .int 0, .null, .int 0, .null, .int 0, .int 0, .int 0, .null, .int 0, .int 0, .int 0, .null, .int 0]))]) [(l_wX cA ad).length] (l_isF _ _)
  have hDc := hD.sub (ws' := [(b0, .inr (8, [.int 0, .null, .int 0, .null, .int 0, .null, .int 0, .null, .int 0, .int 0, .int 0, .null, .int 0, .int 0, .int 0, .null, .int 0]))]) [(l_wX cA ad).length] rfl (l_isC _ _)
  have hFc := va_free (wc := [(b0, .inr (8, [.int 0, .null, .int 0, .null, .int 0, .null, .int 0, .null, .int 0, .int 0, .int 0, .null, .int 0, .int 0, .int 0, .null, .int 0]))]) hD hS hA [(l_wX cA ad).length] (l_isC _ _)
  refine va_callv (va_runI (As := []) (rest := [.ref b0]) ⟨hx, hb, hml, hown, hq⟩ (kX9_init l D cA b0 H.size) (cwI 0 hq (q_goodIn (q_in3 (i := 120) rfl rfl)) rfl rfl rfl (hq _ (q_in1 (i := 10) rfl rfl)) (hq _ (q_in3 (i := 118) rfl rfl)) (hq _ (q_in3 (i := 119) rfl rfl)) rfl (by decide +kernel) ⟨Nat.le_of_ble_eq_true rfl, Nat.le_of_ble_eq_true rfl⟩) ⟨n_Pc_blind, n_Pc_in (as := [.ref b0]) hPc hDc hK hnN⟩ rfl rfl hl.1 rfl (lv_room (Nat.le_of_ble_eq_true rfl)) dL_law_12 ⟨Nat.le_of_ble_eq_true rfl, Nat.le_of_ble_eq_true rfl⟩) hS (fun q _ h => hFc q h) hFc (fun u t H1 locs ht hvm hw hB hz1 hk1 hS => ?_)
  obtain ⟨bd, hbd, rfl⟩ := l_M_of hw
  subst hbd
  obtain ⟨hP1, hD1⟩ := hB
  rw [ht] at hP1
  obtain ⟨hP, hD⟩ := va_join (wr := l_wX cA ad) (w1 := l_wM cA bd) hP hD [(l_wX cA ad).length] (List.range (l_wX cA ad).length) (l_isC _ _) (l_isR _ _) (by rw [l_wX_len]; decide) (by rw [l_wX_len]; decide) hk1 hFc hP1 hD1
  exact l_start3 C hP hD hS hl
set_option maxHeartbeats 4000000 in
set_option maxRecDepth 100000 in
theorem l_start1 {l : Launch} {p : Program} {e : Env} {s : State} {m : MethodId} {below : List Frame} {meth : Method} {c : Code} {b L : Nat} {xs : Nat → Int32} {D : va_G} {cA : ClassId} (C : l_C p s m meth c b L xs D cA) (hnN : n_N s) {ls : Array Slot} (hl : lv_has ls 4 [(0, .ref b)]) : W p l e room_1 s m #[Value.ref b] below meth c s.heap [] 0 0 (lw_Z below #[Value.ref b] s) (F0 m 0 ls []) := by
  obtain ⟨hx, hb, hr, hml, hown, hts, hX, hbl, hlocks, hgv⟩ := C.1
  have hq := C.2.1
  have hK := C.2.2.1
  have hA : ∀ q : Nat, s.heap.size ≤ q → (fun q : Nat => s.heap.size ≤ q) q := fun _ h => h
  have hS : va_S (fun q : Nat => s.heap.size ≤ q) s.heap s.heap [] := va_S.rf
  have hP : va_P D vwCl [] s.heap := fun k q h => by simp at h
  have hD : va_D (fun q : Nat => s.heap.size ≤ q) [] := ⟨fun i j p q h => by simp at h, fun k q h => by simp at h⟩
  refine va_new (ci := 7) (fs := [.null, .null, .null, .null, .null, .null, .int 0]) (C := RX8) (T := TX8) (N := 7) hx hb hq q_uX8 tyX8 tyX8_ok hown (hq _ (q_in1 (i := 12) rfl rfl)) (hq _ (q_in1 (i := 13) rfl rfl)) (hq _ (q_in1 (i := 1) rfl rfl)) hK hP hD hS hA rfl (fun j hj => by rcases (show j = 0 ∨ j = 1 ∨ j = 2 ∨ j = 3 ∨ j = 4 ∨ j = 5 ∨ j = 6 by omega) with rfl | rfl | rfl | rfl | rfl | rfl | rfl <;> rfl) (Nat.le_of_ble_eq_true rfl) (Nat.le_of_ble_eq_true rfl) dL_law_0 (fun a0 H hP hD hS => ?_)
  refine lv_dup hx hb dL_law_3 rfl ?_
  have hPc := hP.sub (ws' := [(a0, .inr (7, [.null, .null, .null, .null, .null, .null, .int 0]))]) [0] rfl
  have hDc := hD.sub (ws' := [(a0, .inr (7, [.null, .null, .null, .null, .null, .null, .int 0]))]) [0] (by decide) rfl
  have hFc := va_free (wc := [(a0, .inr (7, [.null, .null, .null, .null, .null, .null, .int 0]))]) hD hS hA [0] rfl
  refine va_callv (va_runI (As := []) (rest := [.ref a0]) ⟨hx, hb, hml, hown, hq⟩ (kX8_init l D cA a0 H.size) (cwI 0 hq (q_goodIn (q_in1 (i := 16) rfl rfl)) rfl rfl rfl (hq _ (q_in1 (i := 1) rfl rfl)) (hq _ (q_in1 (i := 14) rfl rfl)) (hq _ (q_in1 (i := 15) rfl rfl)) rfl (by decide +kernel) ⟨Nat.le_of_ble_eq_true rfl, Nat.le_of_ble_eq_true rfl⟩) ⟨n_Pc_blind, n_Pc_in (as := [.ref a0]) hPc hDc hK hnN⟩ rfl rfl hl.1 rfl (lv_room (Nat.le_of_ble_eq_true rfl)) dL_law_4 ⟨Nat.le_of_ble_eq_true rfl, Nat.le_of_ble_eq_true rfl⟩) hS (fun q _ h => hFc q h) hFc (fun u t H1 locs ht hvm hw hB hz1 hk1 hS => ?_)
  obtain ⟨ad, had, rfl⟩ := l_X_of hw
  subst had
  obtain ⟨hP1, hD1⟩ := hB
  rw [ht] at hP1
  obtain ⟨hP, hD⟩ := va_join (wr := []) (w1 := l_wX cA ad) hP hD [0] [] rfl rfl (by decide) (by decide) hk1 hFc hP1 hD1
  refine lv_astore_n (lv' := [(1, .ref (ad 0)), (0, .ref b)]) hx hb dL_law_7 rfl hl (by decide) rfl (fun ls hl => ?_)
  exact l_start2 C hnN hP hD hS hl
/-- THE LAW, from its entry -/
theorem whole_start {p : Program} {e : Env} {s : State} {m : MethodId} {below : List Frame} {meth : Method} {c : Code} (l : Launch) (hflags : l.flags = flags0) {b L : Nat} {xs : Nat → Int32} (hL : L ≤ 3072) (C0 : lw_At p s m meth c b L xs) : W p l e room_1 s m #[Value.ref b] below meth c s.heap [] 0 0 (lw_Z below #[Value.ref b] s) (entryFrame m ([Value.ref b] : List Value).toArray 4) := by
  obtain ⟨D, cA, C, hnN⟩ := l_setup hL C0
  have hl := lv_entry ([.ref b]) (n := 4) (Nat.le_of_ble_eq_true rfl)
  rw [lg_entry_eq]
  generalize (lg_sl ([.ref b]) ++ List.replicate (4 - (lg_sl ([.ref b])).length) Slot.unset).toArray = ls at hl ⊢
  exact l_start1 C hnN hl
