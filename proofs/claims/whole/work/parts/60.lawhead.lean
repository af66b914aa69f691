/-! THE CLAIM OUT OF ONE WALK OF THE LAW'S BODY. Your part is whole_start (and what it stands on); all else here is the same for every law, but numbers. -/
def R_law : String := "ViewedNamesLaw"
def lw_P (b : Addr) (xs : List Int32) (args : Array Value) (s : State) : Prop := args = #[.ref b] ∧ s.IntsAt b xs ∧ xs.length ≤ 3072 ∧ (Jvm.Cond.and given_1 narrow_1).before args s = true
def lw_Q (_ : Array Value) (s : State) (o : Outcome) (t : State) : Prop := o = .returned (some (.int 1)) ∧ Framed s o t [] 600000 7302250
def lw_Z (below : List Frame) (a : Array Value) (s : State) : State → Prop := fun t => ∃ o, t.status = .running ∧ Ended t below o ∧ lw_Q a s o t
/-- the law's own end, with 1 on the stack, nothing written that was there before, its room as the claim has it -/
theorem lw_ret {p : Program} {l : Launch} {e : Env} {s : State} {m : MethodId} {below : List Frame} {meth : Method} {c : Code} {b : Nat} (hx : p.tables.exec = Jvm.exec) (hb : c.code = code) (hr : meth.sig.returnType = ret) (hlocks : meth.locks = false) {pc : Nat} {H : Heap} {ls : Array Slot} (hdg : decode code pc = .ok (.ireturn, 1)) : W p l e room_1 s m #[Value.ref b] below meth c H [] 600000 7302250 (lw_Z below #[Value.ref b] s) (F0 m pc ls [.int 1]) := by
  intro T hT X
  obtain ⟨fs, hret, hrun, hended, hW, hframe⟩ := X.leave (v := some (.int 1)) (hlocks := hlocks) (fun h => by rw [hr] at h; cases h)
  have hmeth' : T.vm.method? m = some meth := X.method'
  refine ⟨T.setFrames fs, ?_, .returned (some (.int 1)), hrun, hended, rfl, ⟨_, rfl⟩, hW, hframe⟩
  jvm_step X.here [X.here.top, hx, hb, hdg, hmeth', hr, ret, narrow_b1]
  (try refine ⟨rfl, ?_⟩); (try refine ⟨rfl, ?_⟩)
  first | (intro acts; rw [hret _ acts rfl rfl rfl]) | rw [hret _ _ rfl rfl rfl]
  exact Steps.refl _
/-- what holds at the law's entry: the machine, the code, the tables' words (any of lw_tbl by 'hts w (by decide +kernel)'), the script of L ints xs at the cell b, what the Statement gives of the start (any of its parts by flat_of_before) -/
def lw_At (p : Program) (s : State) (m : MethodId) (meth : Method) (c : Code) (b L : Nat) (xs : Nat → Int32) : Prop :=
  p.tables.exec = Jvm.exec ∧ c.code = code ∧ meth.sig.returnType = ret ∧ c.maxLocals = 4 ∧ s.vm.findClass R_law = some m.cls ∧ (∀ w ∈ lw_tbl, w.before #[Value.ref b] s = true) ∧ va_X b L xs s s.heap ∧ b < s.heap.size ∧ meth.locks = false ∧ (Jvm.Cond.and given_1 narrow_1).before #[Value.ref b] s = true
/-! the law's own judgement -/
def l_C (p : Program) (s : State) (m : MethodId) (meth : Method) (c : Code) (b L : Nat) (xs : Nat → Int32) (D : va_G) (cA : ClassId) : Prop :=
  lw_At p s m meth c b L xs ∧ (∀ w ∈ q_tbl, w.before #[Value.ref b] s = true) ∧ va_K D vwCl [(cA, .int)] s ∧ q_N s ∧ L ≤ 3072
def l_E (l : Launch) (p : Program) (e : Env) (s : State) (m : MethodId) (below : List Frame) (meth : Method) (c : Code) (b : Nat) (D : va_G) (cA : ClassId) (ad : Nat → Nat) (S : qS) (pc : Nat) (x3 : Int32) (st : List Value) : Prop :=
  ∀ (H : Heap) (locs : List Loc) (lsa : Array Slot), va_P D vwCl (q_w cA ad S) H → va_D (fun q : Nat => s.heap.size ≤ q) (q_w cA ad S) → va_S (fun q : Nat => s.heap.size ≤ q) s.heap H locs → lv_has lsa 4 [(0, .ref b), (1, .ref (ad 0)), (2, .ref (ad 34)), (3, .int x3)] →
    W p l e room_1 s m #[Value.ref b] below meth c H locs 41 1233 (lw_Z below #[Value.ref b] s) (F0 m pc lsa st)
section LR
variable {l : Launch} {p : Program} {e : Env} {s : State} {m : MethodId} {below : List Frame} {meth : Method} {c : Code} {b L : Nat} {xs : Nat → Int32} {D : va_G} {cA : ClassId} {ad : Nat → Nat} {S : qS} {pc : Nat} {x3 : Int32} {st : List Value}
theorem l_x (C : l_C p s m meth c b L xs D cA) (hd : decode code pc = .ok (.aload_n 1, 1)) (k : l_E l p e s m below meth c b D cA ad S (pc + 1) x3 (.ref (ad 0) :: st)) : l_E l p e s m below meth c b D cA ad S pc x3 st := by
  intro H locs lsa hP hD hS hl
  exact lv_aload_n C.1.1 C.1.2.1 hd rfl (lv_at hl 1 rfl) (k H locs lsa hP hD hS hl)
theorem l_m (C : l_C p s m meth c b L xs D cA) (hd : decode code pc = .ok (.aload_n 2, 1)) (k : l_E l p e s m below meth c b D cA ad S (pc + 1) x3 (.ref (ad 34) :: st)) : l_E l p e s m below meth c b D cA ad S pc x3 st := by
  intro H locs lsa hP hD hS hl
  exact lv_aload_n C.1.1 C.1.2.1 hd rfl (lv_at hl 2 rfl) (k H locs lsa hP hD hS hl)
theorem l_arg {i j : Nat} {jc : Int} (C : l_C p s m meth c b L xs D cA) (hj : i + j < L) (hc : Int32.ofInt jc = nI j) (d1 : decode code pc = .ok (.aload_n 0, 1)) (d2 : decode code (pc + 1) = .ok (.iload_n 3, 1)) (d3 : decode code (pc + 2) = .ok (.iconst jc, 1)) (d4 : decode code (pc + 3) = .ok (.iadd, 1)) (d5 : decode code (pc + 4) = .ok (.iaload, 1)) (k : l_E l p e s m below meth c b D cA ad S (pc + 5) (nI i) (.int (xs (i + j)) :: st)) : l_E l p e s m below meth c b D cA ad S pc (nI i) st := by
  intro H locs lsa hP hD hS hl
  have hL := C.2.2.2.2
  have hb := C.1.2.2.2.2.2.2.2.1
  refine lv_aload_n C.1.1 C.1.2.1 d1 rfl (lv_at hl 0 rfl) ?_
  refine lv_iload_n C.1.1 C.1.2.1 d2 rfl (lv_at hl 3 rfl) ?_
  refine lv_iconst (v := nI j) C.1.1 C.1.2.1 d3 hc ?_
  refine lv_iadd C.1.1 C.1.2.1 d4 ?_
  rw [nI_add]
  refine va_sld C.1.1 C.1.2.1 C.1.2.2.2.2.2.2.1 hb (Nat.not_le.mpr hb) hS (vp_in_nI hj (by omega)) d5 ?_
  rw [nI_clamp (by omega)]
  exact k H locs lsa hP hD hS hl
theorem l_arg0 {i : Nat} (C : l_C p s m meth c b L xs D cA) (hj : i < L) (d1 : decode code pc = .ok (.aload_n 0, 1)) (d2 : decode code (pc + 1) = .ok (.iload_n 3, 1)) (d5 : decode code (pc + 2) = .ok (.iaload, 1)) (k : l_E l p e s m below meth c b D cA ad S (pc + 3) (nI i) (.int (xs i) :: st)) : l_E l p e s m below meth c b D cA ad S pc (nI i) st := by
  intro H locs lsa hP hD hS hl
  have hL := C.2.2.2.2
  have hb := C.1.2.2.2.2.2.2.2.1
  refine lv_aload_n C.1.1 C.1.2.1 d1 rfl (lv_at hl 0 rfl) ?_
  refine lv_iload_n C.1.1 C.1.2.1 d2 rfl (lv_at hl 3 rfl) ?_
  refine va_sld C.1.1 C.1.2.1 C.1.2.2.2.2.2.2.1 hb (Nat.not_le.mpr hb) hS (vp_in_nI hj (by omega)) d5 ?_
  rw [nI_clamp (by omega)]
  exact k H locs lsa hP hD hS hl
theorem l_call {idx ci kk : Nat} {fs : List (Option Nat)} {y : MethodName} {c2 : ByteArray} {n2 n : Nat} {r2 : Option FieldType} {As : List qV} {rest : List Value} (C : l_C p s m meth c b L xs D cA) (hd : decode code pc = .ok (.invokevirtual idx, 3)) (hc : q_CV RL idx ci y c2 n2 r2 n) (hy : q_lay[kk]? = some (.inr (ci, fs))) (hn : As.length = n) (hr : (rest.map fun v => v.category).sum ≤ 8) (hM : q_Mi l 7 y c2 n2 r2 (.inr kk :: As) S (fun v S2 => l_E l p e s m below meth c b D cA ad S2 (pc + 3) x3 (.int v :: rest))) : l_E l p e s m below meth c b D cA ad S pc x3 ((As.map (q_v ad)).reverse ++ .ref (ad kk) :: rest) := by
  intro H locs lsa hP hD hS hl
  have hts := C.2.1
  have hK := C.2.2.1
  have a3 : n2 ≤ 11 := by obtain ⟨_, _, _, _, _, _, _, _, _, _, _, h9⟩ := hc; exact h9
  have hrm : (q_rm 7).frames + 1 ≤ room_1.frames ∧ 8 + (n2 + 11) + (q_rm 7).locals ≤ room_1.locals := by
    show 7 + 1 ≤ 10 ∧ 8 + (n2 + 11) + 30 * 7 ≤ 392
    omega
  obtain ⟨CC, T, N, g1, g2, g3, g4, g5, g6, g7, g8, g9⟩ := hc
  have hcw : CallW room_1 s #[Value.ref b] RL CC idx y c2 n2 r2 (q_ws y c2 n2 r2) (q_rm 7) 0 0 n := ⟨callB_of n hts (q_goodIn g7) rfl rfl rfl (by rw [g2]; exact hts _ g6) (hts _ g3) g8 hrm, hts _ g4, hts _ g5⟩
  have hFc : ∀ q : Nat, va_A (q_w cA ad S) H.size q → s.heap.size ≤ q := q_A_in hD hS (fun _ h => h)
  refine va_calli (va_runV (As := As.map (q_v ad)) (rest := rest) ⟨C.1.1, C.1.2.1, C.1.2.2.2.1, C.1.2.2.2.2.1, hts⟩ (hM D cA ad H.size) hcw ⟨q_Pc_blind, va_recv hK hP (ci := ci) (q0 := kk) g1 (q_w_get hy), q_Pc_in (as := .inr kk :: As) hP hD hK C.2.2.2.1⟩ rfl (by rw [List.length_map]; exact hn) hl.1 rfl (lv_room hr) hd ⟨Nat.le_of_ble_eq_true rfl, Nat.le_of_ble_eq_true rfl⟩) hS (fun q _ h => hFc q h) hFc (fun r u t H1 locs1 ht hvm hw hB hz1 hk1 hS1 => ?_)
  obtain ⟨hP1, hD1⟩ := hB
  rw [ht] at hP1
  exact hw H1 locs1 lsa hP1 (hD1.weaken (fun _ q _ h => hFc q.1 h)) hS1 hl
theorem l_eq {off : Int} {v : Int32} (tgt : Nat) (C : l_C p s m meth c b L xs D cA) (hd : decode code pc = .ok (.if_icmp .eq off, 3)) (ht : (pc : Int) + off = (tgt : Int)) (k : l_E l p e s m below meth c b D cA ad S tgt x3 st) : l_E l p e s m below meth c b D cA ad S pc x3 (.int v :: .int v :: st) := by
  intro H locs lsa hP hD hS hl
  exact lv_icmp_eq C.1.1 C.1.2.1 hd ht (fun _ => k H locs lsa hP hD hS hl) (fun h => absurd rfl h)
end LR
