/-! the start: nothing is made yet -/
def l_S0 : qS := fun k => match k with
  | 2 => fun j => if j = 2 then 10 else 0
  | 10 => fun j => if j = 2 then 10 else 0
  | 16 => fun j => if j = 2 then 70 else 0
  | 23 => fun j => if j = 7 then 3 else 0
  | 34 => fun j => if j = 9 then 3 else 0
  | _ => fun _ => 0
theorem l_rl0 : Rl l_S0 l_S0 := by
  have z : ∀ k j, l_S0 k j = nI 0 → nr (l_S0 k) j = 0 := fun k j h => nr_mk (k := 0) h (by omega)
  refine ⟨⟨?_, ⟨rfl, ?_, ?_⟩, ⟨rfl, ?_, ?_, ?_⟩, ⟨rfl, ?_, ?_, ?_, ?_, ?_, ?_⟩, ⟨?_, ?_, ?_⟩, ?_⟩, ⟨rfl, rfl, rfl, rfl, rfl, rfl, rfl, rfl⟩, ?_, ?_, ?_, ?_, ?_⟩
  · exact isN_mk (k := 0) rfl (by omega) (by omega)
  · exact isN_mk (k := 0) rfl (by omega) (by omega)
  · intro i hi; rw [z 2 3 rfl] at hi; omega
  · exact isN_mk (k := 0) rfl (by omega) (by omega)
  · intro i hi; rw [z 10 3 rfl] at hi; omega
  · intro i j _ hi; rw [z 10 3 rfl] at hi; omega
  · exact isN_mk (k := 0) rfl (by omega) (by omega)
  · intro i hi; rw [z 16 3 rfl] at hi; omega
  · intro i j _ hi; rw [z 16 3 rfl] at hi; omega
  · intro i j _ hi; rw [z 16 3 rfl] at hi; omega
  · intro i hi; rw [z 16 3 rfl] at hi; omega
  · intro i hi; rw [z 16 3 rfl] at hi; omega
  · exact isN_mk (k := 0) rfl (by omega) (by omega)
  · intro i hi; rw [z 23 5 rfl] at hi; omega
  · intro i j _ hi; rw [z 23 5 rfl] at hi; omega
  · exact isN_mk (k := 0) rfl (by omega) (by omega)
  · intro i hi; rw [z 2 3 rfl] at hi; omega
  · intro i hi; rw [z 10 3 rfl] at hi; omega
  · intro i hi; rw [z 16 3 rfl] at hi; omega
  · intro i hi; rw [z 23 5 rfl] at hi; omega
  · intro i hi; rw [z 29 1 rfl] at hi; omega
section LL
variable {l : Launch} {p : Program} {e : Env} {s : State} {m : MethodId} {below : List Frame} {meth : Method} {c : Code} {b L : Nat} {xs : Nat → Int32} {D : va_G} {cA : ClassId} {ad : Nat → Nat} {S : qS} {i : Nat}
theorem l_len {i : Nat} (hL : L ≤ 3072) (hi : i ≤ 4000) : Int32.ofNat L - 6 < nI i ↔ L < i + 6 := by
  rw [z_lt, nI_toInt (by omega)]
  by_cases q : 6 ≤ L
  · have e : Int32.ofNat L - 6 = nI (L - 6) := pk_sub (b := 6) q
    rw [e, nI_toInt (by omega)]
    omega
  · have e : ∀ n, n < 6 → (Int32.ofNat n - 6).toInt = (n : Int) - 6 := by decide +kernel
    rw [e L (by omega)]
    omega
theorem l_head (C : l_C p s m meth c b L xs D cA) (hi : i ≤ 4000) (hout : L < i + 6 → l_E l p e s m below meth c b D cA ad S 1264 (nI i) []) (hin : i + 6 ≤ L → l_E l p e s m below meth c b D cA ad S 27 (nI i) []) : l_E l p e s m below meth c b D cA ad S 18 (nI i) [] := by
  intro H locs lsa hP hD hS hl
  have hL := C.2.2.2.2
  have hb := C.1.2.2.2.2.2.2.2.1
  refine lv_iload_n C.1.1 C.1.2.1 dL_law_18 rfl (lv_at hl 3 rfl) ?_
  refine lv_aload_n C.1.1 C.1.2.1 dL_law_19 rfl (lv_at hl 0 rfl) ?_
  refine va_slen C.1.1 C.1.2.1 C.1.2.2.2.2.2.2.1 hb (Nat.not_le.mpr hb) hS dL_law_20 ?_
  refine lv_bipush (v := 6) C.1.1 C.1.2.1 dL_law_21 (by decide) ?_
  refine lv_isub C.1.1 C.1.2.1 dL_law_23 ?_
  refine lv_icmp_gt (tgt := 1264) C.1.1 C.1.2.1 dL_law_24 (by decide) (fun h => ?_) (fun h => ?_)
  · exact hout ((l_len hL hi).mp h) H locs lsa hP hD hS hl
  · exact hin (by have := mt (l_len hL hi).mpr h; omega) H locs lsa hP hD hS hl
theorem l_end (C : l_C p s m meth c b L xs D cA) : l_E l p e s m below meth c b D cA ad S 1264 (nI i) [] := by
  intro H locs lsa hP hD hS hl
  refine lv_iconst (v := 1) C.1.1 C.1.2.1 dL_law_1264 (by decide) ?_
  refine va_forget (fun q hq => hS.2.2 q hq) ?_
  refine W.widen (k := 600000) (n := 7302250) (Nat.le_of_ble_eq_true rfl) (Nat.le_of_ble_eq_true rfl) ?_
  exact lw_ret C.1.1 C.1.2.1 C.1.2.2.1 C.1.2.2.2.2.2.2.2.2.1 dL_law_1265
theorem l_next (C : l_C p s m meth c b L xs D cA) (k : l_E l p e s m below meth c b D cA ad S 18 (nI (i + 6)) []) : l_E l p e s m below meth c b D cA ad S 1258 (nI i) [] := by
  intro H locs lsa hP hD hS hl
  refine lv_iinc (v := nI (i + 6)) (lv' := [(3, .int (nI (i + 6))), (0, .ref b), (1, .ref (ad 0)), (2, .ref (ad 34))]) C.1.1 C.1.2.1 dL_law_1258 hl (k := 3) rfl (nI_add i 6) (by decide) rfl (fun lsa hl => ?_)
  refine lv_goto (tgt := 18) C.1.1 C.1.2.1 dL_law_1261 (by decide) ?_
  exact k H locs lsa hP hD hS (lv_sub hl [1, 2, 3, 0] rfl)
theorem l_tab {k : Nat} {off : Int} (tgt : Nat) (C : l_C p s m meth c b L xs D cA) (h1 : ¬ (nI k).toInt < 0) (h2 : ¬ 29 < (nI k).toInt) (ho : (#[135, 158, 171, 214, 237, 270, 303, 326, 359, 382, 435, 478, 531, 564, 607, 630, 683, 736, 779, 832, 885, 948, 1001, 1044, 1097, 1120, 1163, 1176, 1199, 1212] : Array Int)[((nI k).toInt - 0).toNat]? = some off) (ht : ((33 : Nat) : Int) + off = (tgt : Int)) (kk : l_E l p e s m below meth c b D cA ad S tgt (nI i) []) : l_E l p e s m below meth c b D cA ad S 33 (nI i) [.int (nI k)] := by
  intro H locs lsa hP hD hS hl
  exact lv_tableIn C.1.1 C.1.2.1 dL_law_33 h1 h2 ho ht (kk H locs lsa hP hD hS hl)
theorem l_tabO {k : Nat} (C : l_C p s m meth c b L xs D cA) (h : (nI k).toInt < 0 ∨ 29 < (nI k).toInt) (kk : l_E l p e s m below meth c b D cA ad S 1258 (nI i) []) : l_E l p e s m below meth c b D cA ad S 33 (nI i) [.int (nI k)] := by
  intro H locs lsa hP hD hS hl
  exact lv_tableOut (tgt := 1258) C.1.1 C.1.2.1 dL_law_33 h (by decide) (kk H locs lsa hP hD hS hl)
theorem l_switch (C : l_C p s m meth c b L xs D cA) (hi : i + 6 ≤ L) (kk : ∀ k, k < 32 → l_E l p e s m below meth c b D cA ad S 33 (nI i) [.int (nI k)]) : l_E l p e s m below meth c b D cA ad S 27 (nI i) [] := by
  refine l_arg0 C (by omega) dL_law_27 dL_law_28 dL_law_29 ?_
  intro H locs lsa hP hD hS hl
  refine lv_bipush (v := 31) C.1.1 C.1.2.1 dL_law_30 (by decide) ?_
  refine lv_iand C.1.1 C.1.2.1 dL_law_32 ?_
  obtain ⟨k, hk, ek⟩ := pk_andE (xs i) (m := 31) 5 (by decide)
  rw [ek]
  exact kk k hk H locs lsa hP hD hS hl
/-- one turn of the law's loop -/
theorem l_turn (C : l_C p s m meth c b L xs D cA) (h : Rl S S) (hi : i + 6 ≤ L) (kk : ∀ S2, Rl S2 S2 → l_E l p e s m below meth c b D cA ad S2 1258 (nI i) []) : l_E l p e s m below meth c b D cA ad S 27 (nI i) [] := by
  refine l_switch C hi (fun k hk => ?_)
  rcases (show k = 0 ∨ k = 1 ∨ k = 2 ∨ k = 3 ∨ k = 4 ∨ k = 5 ∨ k = 6 ∨ k = 7 ∨ k = 8 ∨ k = 9 ∨ k = 10 ∨ k = 11 ∨ k = 12 ∨ k = 13 ∨ k = 14 ∨ k = 15 ∨ k = 16 ∨ k = 17 ∨ k = 18 ∨ k = 19 ∨ k = 20 ∨ k = 21 ∨ k = 22 ∨ k = 23 ∨ k = 24 ∨ k = 25 ∨ k = 26 ∨ k = 27 ∨ k = 28 ∨ k = 29 ∨ k = 30 ∨ k = 31 by omega) with rfl | rfl | rfl | rfl | rfl | rfl | rfl | rfl | rfl | rfl | rfl | rfl | rfl | rfl | rfl | rfl | rfl | rfl | rfl | rfl | rfl | rfl | rfl | rfl | rfl | rfl | rfl | rfl | rfl | rfl | rfl | rfl
  · exact l_tab (off := 135) 168 C (by decide) (by decide) (by decide) (by decide) (law_c0 C h hi kk)
  · exact l_tab (off := 158) 191 C (by decide) (by decide) (by decide) (by decide) (law_c1 C h hi kk)
  · exact l_tab (off := 171) 204 C (by decide) (by decide) (by decide) (by decide) (law_c2 C h hi kk)
  · exact l_tab (off := 214) 247 C (by decide) (by decide) (by decide) (by decide) (law_c3 C h hi kk)
  · exact l_tab (off := 237) 270 C (by decide) (by decide) (by decide) (by decide) (law_c4 C h hi kk)
  · exact l_tab (off := 270) 303 C (by decide) (by decide) (by decide) (by decide) (law_c5 C h hi kk)
  · exact l_tab (off := 303) 336 C (by decide) (by decide) (by decide) (by decide) (law_c6 C h hi kk)
  · exact l_tab (off := 326) 359 C (by decide) (by decide) (by decide) (by decide) (law_c7 C h hi kk)
  · exact l_tab (off := 359) 392 C (by decide) (by decide) (by decide) (by decide) (law_c8 C h hi kk)
  · exact l_tab (off := 382) 415 C (by decide) (by decide) (by decide) (by decide) (law_c9 C h hi kk)
  · exact l_tab (off := 435) 468 C (by decide) (by decide) (by decide) (by decide) (law_c10 C h hi kk)
  · exact l_tab (off := 478) 511 C (by decide) (by decide) (by decide) (by decide) (law_c11 C h hi kk)
  · exact l_tab (off := 531) 564 C (by decide) (by decide) (by decide) (by decide) (law_c12 C h hi kk)
  · exact l_tab (off := 564) 597 C (by decide) (by decide) (by decide) (by decide) (law_c13 C h hi kk)
  · exact l_tab (off := 607) 640 C (by decide) (by decide) (by decide) (by decide) (law_c14 C h hi kk)
  · exact l_tab (off := 630) 663 C (by decide) (by decide) (by decide) (by decide) (law_c15 C h hi kk)
  · exact l_tab (off := 683) 716 C (by decide) (by decide) (by decide) (by decide) (law_c16 C h hi kk)
  · exact l_tab (off := 736) 769 C (by decide) (by decide) (by decide) (by decide) (law_c17 C h hi kk)
  · exact l_tab (off := 779) 812 C (by decide) (by decide) (by decide) (by decide) (law_c18 C h hi kk)
  · exact l_tab (off := 832) 865 C (by decide) (by decide) (by decide) (by decide) (law_c19 C h hi kk)
  · exact l_tab (off := 885) 918 C (by decide) (by decide) (by decide) (by decide) (law_c20 C h hi kk)
  · exact l_tab (off := 948) 981 C (by decide) (by decide) (by decide) (by decide) (law_c21 C h hi kk)
  · exact l_tab (off := 1001) 1034 C (by decide) (by decide) (by decide) (by decide) (law_c22 C h hi kk)
  · exact l_tab (off := 1044) 1077 C (by decide) (by decide) (by decide) (by decide) (law_c23 C h hi kk)
  · exact l_tab (off := 1097) 1130 C (by decide) (by decide) (by decide) (by decide) (law_c24 C h hi kk)
  · exact l_tab (off := 1120) 1153 C (by decide) (by decide) (by decide) (by decide) (law_c25 C h hi kk)
  · exact l_tab (off := 1163) 1196 C (by decide) (by decide) (by decide) (by decide) (law_c26 C h hi kk)
  · exact l_tab (off := 1176) 1209 C (by decide) (by decide) (by decide) (by decide) (law_c27 C h hi kk)
  · exact l_tab (off := 1199) 1232 C (by decide) (by decide) (by decide) (by decide) (law_c28 C h hi kk)
  · exact l_tab (off := 1212) 1245 C (by decide) (by decide) (by decide) (by decide) (law_c29 C h hi kk)
  · exact l_tabO C (by decide) (kk S h)
  · exact l_tabO C (by decide) (kk S h)
theorem law_loop (C : l_C p s m meth c b L xs D cA) : ∀ n i S, L < i + 6 * n + 6 → i ≤ L + 6 → Rl S S → l_E l p e s m below meth c b D cA ad S 18 (nI i) [] := by
  have hL := C.2.2.2.2
  intro n
  induction n with
  | zero =>
    intro i S h1 h2 hR
    exact l_head C (by omega) (fun _ => l_end C) (fun h => absurd h (by omega))
  | succ n ih =>
    intro i S h1 h2 hR
    exact l_head C (by omega) (fun _ => l_end C) (fun h => l_turn C hR h (fun S2 hS2 => l_next C (ih (i + 6) S2 (by omega) (by omega) hS2)))
end LL
