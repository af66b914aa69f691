/-! the constructors: a judgement over a list of cells -/
theorem q_o1 : Cond.instanceMethod Lib.objectInit ∈ q_tbl := q_in1 (i := 18) rfl rfl
theorem q_o2 : Cond.code Lib.objectInit ⟨#[0xb1]⟩ 1 none ∈ q_tbl := q_in1 (i := 19) (by decide +kernel) rfl
theorem q_ar : Cond.arrayClass .int ∈ q_tbl := q_in1 (i := 58) rfl rfl
def n_N (U : State) : Prop := va_Nw (.methodLinkNest RX8 9 yX3_init RX8) U ∧ va_Nw (.methodLinkNest RX8 18 yX0_init RX8) U ∧ va_Nw (.methodLinkNest RX8 35 yX1_init RX8) U ∧ va_Nw (.methodLinkNest RX8 42 yX6_init RX8) U ∧ va_Nw (.methodLinkNest RX0 11 yX7_init RX8) U ∧ va_Nw (.methodLinkNest RX0 20 yX4_init RX8) U
def n_rm (d mc ms : Nat) : Room := { frames := d, cells := mc, slots := ms, locals := 30 * d }
def n_Cx (cc : ByteArray) (nL : Nat) (own : String) (p : Program) (s : State) (m : MethodId) (args : Array Value) (meth : Method) (c : Code) (D : va_G) (cA : ClassId) (A0 : Nat → Prop) : Prop :=
  p.tables.exec = Jvm.exec ∧ c.code = cc ∧ c.maxLocals = nL ∧ meth.sig.returnType = none ∧ s.vm.findClass own = some m.cls ∧ (∀ w ∈ q_tbl, w.before args s = true) ∧ va_K D vwCl [(cA, .int)] s ∧ meth.locks = false ∧ meth.name = "<init>" ∧ (∀ q : Nat, s.heap.size ≤ q → A0 q) ∧ n_N s
def n_B (D : va_G) (A0 : Nat → Prop) (w : va_W) (t : State) : Prop := va_P D vwCl w t.heap ∧ va_D A0 w
def n_E (l : Launch) (cc : ByteArray) (nL : Nat) (own : String) (d mc ms : Nat) (D : va_G) (cA : ClassId) (Fw : va_W → Prop) (k n : Nat) (w : va_W) (pc : Nat) (ls : List (Nat × Value)) (st : List Value) : Prop :=
  ∀ (p : Program) (e : Env) (s : State) (m : MethodId) (args : Array Value) (below : List Frame) (meth : Method) (c : Code) (A0 : Nat → Prop) (H : Heap) (locs : List Loc) (lsa : Array Slot),
    n_Cx cc nL own p s m args meth c D cA A0 → va_P D vwCl w H → va_D A0 w → va_S A0 s.heap H locs → lv_has lsa nL ls →
    W p l e (n_rm d mc ms) s m args below meth c H locs k n (MQ below (va_Qv Fw (n_B D A0) A0) args s mc ms A0) (F0 m pc lsa st)
def n_Pc (D : va_G) (cA : ClassId) (sz : Nat) (as : List Value) (w0 : va_W) : Array Value → State → Prop := va_Pc as (fun U => U.heap.size = sz ∧ va_P D vwCl w0 U.heap ∧ va_K D vwCl [(cA, .int)] U ∧ va_D (fun _ => True) w0 ∧ n_N U)
def n_M (l : Launch) (d mc ms : Nat) (y : MethodName) (cc : ByteArray) (nL : Nat) (D : va_G) (cA : ClassId) (as : List Value) (w0 : va_W) (Fw : va_W → Prop) : Prop :=
  ∀ sz : Nat, Met l y (q_ws y cc nL none) (n_rm d mc ms) (n_Pc D cA sz as w0) (va_Qv Fw (n_B D (va_A w0 sz)) (va_A w0 sz)) mc ms (va_A w0 sz)
theorem n_N_same {U V : State} (h : U.vm = V.vm) (k : n_N U) : n_N V := ⟨va_Nw.same rfl h k.1, va_Nw.same rfl h k.2.1, va_Nw.same rfl h k.2.2.1, va_Nw.same rfl h k.2.2.2.1, va_Nw.same rfl h k.2.2.2.2.1, va_Nw.same rfl h k.2.2.2.2.2⟩
theorem n_N_warm {s U : State} (h : s.WarmedH U.vm) (k : n_N s) : n_N U := ⟨va_Nw.warmM h k.1, va_Nw.warmM h k.2.1, va_Nw.warmM h k.2.2.1, va_Nw.warmM h k.2.2.2.1, va_Nw.warmM h k.2.2.2.2.1, va_Nw.warmM h k.2.2.2.2.2⟩
theorem n_Pc_blind {D : va_G} {cA : ClassId} {sz : Nat} {as : List Value} {w0 : va_W} : FrameBlind (n_Pc D cA sz as w0) := by
  intro a U g mk ⟨q0, q1, qP, qK, qD, qN⟩
  exact ⟨q0, q1, qP, va_K.moved (u := U) (U := U.calling g mk a) (Vm.Alike.refl U.vm) qK, qD, n_N_same rfl qN⟩
theorem n_Pc_in {D : va_G} {cA : ClassId} {as : List Value} {s : State} {H : Heap} {A0 : Nat → Prop} {w0 : va_W} (hP : va_P D vwCl w0 H) (hD : va_D A0 w0) (hK : va_K D vwCl [(cA, .int)] s) (hN : n_N s) : ∀ U : State, U.heap = H → s.WarmedH U.vm → n_Pc D cA H.size as w0 as.toArray U := by
  intro U hU hW
  exact ⟨rfl, by rw [hU], by rw [hU]; exact hP, va_K.moved hW.alike hK, hD.weaken (fun _ _ _ _ => trivial), n_N_warm hW hN⟩
section NR
variable {l : Launch} {cc : ByteArray} {nL : Nat} {own : String} {d mc ms : Nat} {D : va_G} {cA : ClassId} {Fw : va_W → Prop} {k n : Nat} {w : va_W} {pc : Nat} {ls : List (Nat × Value)} {st : List Value}
theorem n_eq {w' : va_W} (e : w = w') (kk : n_E l cc nL own d mc ms D cA Fw k n w' pc ls st) : n_E l cc nL own d mc ms D cA Fw k n w pc ls st := by rw [e]; exact kk
theorem n_iconst {i : Int} {v : Int32} (hd : decode cc pc = .ok (.iconst i, 1)) (hv : Int32.ofInt i = v) (kk : n_E l cc nL own d mc ms D cA Fw k n w (pc + 1) ls (.int v :: st)) : n_E l cc nL own d mc ms D cA Fw k n w pc ls st := by
  intro p e s m args below meth c A0 H locs lsa C hP hD hS hl
  exact lv_iconst C.1 C.2.1 hd hv (kk p e s m args below meth c A0 H locs lsa C hP hD hS hl)
theorem n_bipush {i : Int} {v : Int32} (hd : decode cc pc = .ok (.bipush i, 2)) (hv : (Int8.ofInt i).toInt32 = v) (kk : n_E l cc nL own d mc ms D cA Fw k n w (pc + 2) ls (.int v :: st)) : n_E l cc nL own d mc ms D cA Fw k n w pc ls st := by
  intro p e s m args below meth c A0 H locs lsa C hP hD hS hl
  exact lv_bipush C.1 C.2.1 hd hv (kk p e s m args below meth c A0 H locs lsa C hP hD hS hl)
theorem n_sipush {i : Int} {v : Int32} (hd : decode cc pc = .ok (.sipush i, 3)) (hv : (Int16.ofInt i).toInt32 = v) (kk : n_E l cc nL own d mc ms D cA Fw k n w (pc + 3) ls (.int v :: st)) : n_E l cc nL own d mc ms D cA Fw k n w pc ls st := by
  intro p e s m args below meth c A0 H locs lsa C hP hD hS hl
  exact lv_sipush C.1 C.2.1 hd hv (kk p e s m args below meth c A0 H locs lsa C hP hD hS hl)
theorem n_aload {i : Fin 4} {x : Nat} (j : Nat) (hd : decode cc pc = .ok (.aload_n i, 1)) (hx : ls[j]? = some ((i : Nat), .ref x)) (kk : n_E l cc nL own d mc ms D cA Fw k n w (pc + 1) ls (.ref x :: st)) : n_E l cc nL own d mc ms D cA Fw k n w pc ls st := by
  intro p e s m args below meth c A0 H locs lsa C hP hD hS hl
  exact lv_aload_n C.1 C.2.1 hd rfl (lv_at hl j hx) (kk p e s m args below meth c A0 H locs lsa C hP hD hS hl)
theorem n_iload {i : Fin 4} {x : Int32} (j : Nat) (hd : decode cc pc = .ok (.iload_n i, 1)) (hx : ls[j]? = some ((i : Nat), .int x)) (kk : n_E l cc nL own d mc ms D cA Fw k n w (pc + 1) ls (.int x :: st)) : n_E l cc nL own d mc ms D cA Fw k n w pc ls st := by
  intro p e s m args below meth c A0 H locs lsa C hP hD hS hl
  exact lv_iload_n C.1 C.2.1 hd rfl (lv_at hl j hx) (kk p e s m args below meth c A0 H locs lsa C hP hD hS hl)
theorem n_dup {x : Nat} (hd : decode cc pc = .ok (.dup, 1)) (kk : n_E l cc nL own d mc ms D cA Fw k n w (pc + 1) ls (.ref x :: .ref x :: st)) : n_E l cc nL own d mc ms D cA Fw k n w pc ls (.ref x :: st) := by
  intro p e s m args below meth c A0 H locs lsa C hP hD hS hl
  exact lv_dup C.1 C.2.1 hd rfl (kk p e s m args below meth c A0 H locs lsa C hP hD hS hl)
theorem n_obj {idx : Nat} {a : Nat} (hd : decode cc pc = .ok (.invokespecial idx, 3)) (hk : Cond.methodLink own idx Lib.objectInit ∈ q_tbl) (h1 : 1 ≤ d) (kk : n_E l cc nL own d mc ms D cA Fw k n w (pc + 3) ls []) : n_E l cc nL own d mc ms D cA Fw k n w pc ls [.ref a] := by
  intro p e s m args below meth c A0 H locs lsa C hP hD hS hl
  refine W.objInit C.1 C.2.1 C.2.2.2.2.1 (C.2.2.2.2.2.1 _ hk) (C.2.2.2.2.2.1 _ q_o1) (C.2.2.2.2.2.1 _ q_o2) rfl (by rw [C.2.2.1]; exact hl.1) rfl hd h1 ?_ ?_
  · show 2 * 0 + 0 + 12 ≤ 30 * d
    omega
  · exact W.eq (g2 := F0 m (pc + 3) lsa []) rfl (kk p e s m args below meth c A0 H locs lsa C hP hD hS hl)
theorem n_max {idx : Nat} {x y : Int32} (hd : decode cc pc = .ok (.invokestatic idx, 3)) (hk : Cond.methodLink own idx Lib.Math.max.name ∈ q_tbl) (hr : (st.map fun v => v.category).sum ≤ 8) (h1 : 1 ≤ d) (hkc : k ≤ mc) (hkn : n ≤ ms) (kk : n_E l cc nL own d mc ms D cA Fw k n w (pc + 3) ls (.int (if x < y then y else x) :: st)) : n_E l cc nL own d mc ms D cA Fw k n w pc ls (.int y :: .int x :: st) := by
  intro p e s m args below meth c A0 H locs lsa C hP hD hS hl
  refine va_mmax C.1 C.2.1 (by rw [C.2.2.1, hl.1]) C.2.2.2.2.1 (C.2.2.2.2.2.1 _ hk) (C.2.2.2.2.2.1 _ q_mx1) (C.2.2.2.2.2.1 _ q_mx2) (C.2.2.2.2.2.1 _ q_mx3) h1 ?_ hkc hkn hd (kk p e s m args below meth c A0 H locs lsa C hP hD hS hl)
  show _ + 13 ≤ 30 * d
  omega
theorem n_get {idx ci j q0 a : Nat} {fs : List Value} {v : Value} (hd : decode cc pc = .ok (.getfield idx, 3)) (hf : q_FL own idx ci j) (hw : w[q0]? = some (a, .inr (ci, fs))) (hv : fs[j]? = some v) (kk : n_E l cc nL own d mc ms D cA Fw k n w (pc + 3) ls (v :: st)) : n_E l cc nL own d mc ms D cA Fw k n w pc ls (.ref a :: st) := by
  intro p e s m args below meth c A0 H locs lsa C hP hD hS hl
  obtain ⟨CC, T, N, h1, h2, h3, h4⟩ := hf
  exact va_get (D := D) (ci := ci) (v := v) (C := CC) (T := T) (N := N) C.1 C.2.1 C.2.2.2.2.2.1 h4 C.2.2.2.2.1 C.2.2.2.2.2.2.1 hP q0 hw h1 j h2 (C.2.2.2.2.2.1 _ h3) (fun _ h9 => h9) hv hd (kk p e s m args below meth c A0 H locs lsa C hP hD hS hl)
theorem n_put {idx ci j q0 a : Nat} {fs : List Value} {x : Int32} {w' : va_W} (hd : decode cc pc = .ok (.putfield idx, 3)) (hf : q_FL own idx ci j) (hp : q_FP ci j) (hw : w[q0]? = some (a, .inr (ci, fs))) (hl0 : j < fs.length) (e0 : w.set q0 (a, .inr (ci, fs.set j (.int x))) = w') (kk : n_E l cc nL own d mc ms D cA Fw k n w' (pc + 3) ls st) : n_E l cc nL own d mc ms D cA Fw k n w pc ls (.int x :: .ref a :: st) := by
  intro p e s m args below meth c A0 H locs lsa C hP hD hS hl
  obtain ⟨CC, T, N, h1, h2, h3, h4⟩ := hf
  obtain ⟨ty0, g1, g2, g3, g4⟩ := hp CC T N h1
  subst e0
  exact va_put (D := D) (ci := ci) (v := .int x) (ty := .int) (C := CC) (T := T) (N := N) C.1 C.2.1 C.2.2.2.2.2.1 h4 ty0 g1 g2 C.2.2.2.2.1 C.2.2.2.2.2.2.1 hP hD hS q0 hw h1 j h2 (C.2.2.2.2.2.1 _ h3) (fun _ h9 => h9) g3 g4 rfl rfl hl0 hd (fun H1 locs1 hP1 hD1 hS1 => kk p e s m args below meth c A0 H1 locs1 lsa C hP1 hD1 hS1 hl)
/-- a field that is final -/
def n_FF (own : String) (ci j : Nat) (ty : FieldType) : Prop := ∀ (C : String) (T : u_T) (N : Nat), vwCl[ci]? = some (C, T, N) → ∃ ty0 : Nat → FieldType, (∀ k, k < N → parseFieldDescriptor (T k).2.2.1 = some (ty0 k)) ∧ (∀ a, a < N → ∀ b, b < N → a ≠ b → (T a).2.1 ≠ (T b).2.1) ∧ (T j).2.2.2 = true ∧ (T j).1 = own ∧ parseFieldDescriptor (T j).2.2.1 = some ty
theorem n_putF {idx ci j q0 a : Nat} {fs : List Value} {v : Value} {ty : FieldType} {w' : va_W} (hd : decode cc pc = .ok (.putfield idx, 3)) (hf : q_FL own idx ci j) (hp : n_FF own ci j ty) (hw : w[q0]? = some (a, .inr (ci, fs))) (hl0 : j < fs.length) (hn : narrow ty v = v) (hfit : fits ty v = true) (e0 : w.set q0 (a, .inr (ci, fs.set j v)) = w') (kk : n_E l cc nL own d mc ms D cA Fw k n w' (pc + 3) ls st) : n_E l cc nL own d mc ms D cA Fw k n w pc ls (v :: .ref a :: st) := by
  intro p e s m args below meth c A0 H locs lsa C hP hD hS hl
  obtain ⟨CC, T, N, h1, h2, h3, h4⟩ := hf
  obtain ⟨ty0, g1, g2, g3, g5, g4⟩ := hp CC T N h1
  subst e0
  exact va_putF (D := D) (ci := ci) (v := v) (ty := ty) (C := CC) (T := T) (N := N) C.1 C.2.1 C.2.2.2.2.2.1 h4 ty0 g1 g2 C.2.2.2.2.1 C.2.2.2.2.2.2.1 hP hD hS q0 hw h1 j h2 (C.2.2.2.2.2.1 _ h3) (fun _ h9 => h9) g3 C.2.2.2.2.2.2.2.2.1 g5 g4 hn hfit hl0 hd (fun H1 locs1 hP1 hD1 hS1 => kk p e s m args below meth c A0 H1 locs1 lsa C hP1 hD1 hS1 hl)
theorem n_new {idx ci N : Nat} {CC : String} {T : u_T} {fs : List Value} (ty : Nat → FieldType) (hd : decode cc pc = .ok (.new idx, 3)) (h1 : vwCl[ci]? = some (CC, T, N)) (h2 : ∀ w ∈ u_ws CC T N, w ∈ q_tbl) (hty : ∀ k, k < N → parseFieldDescriptor (T k).2.2.1 = some (ty k)) (hcl : Cond.classLink own idx CC ∈ q_tbl) (hin : Cond.instantiable CC N ∈ q_tbl) (hini : Cond.initialized CC ∈ q_tbl) (hfs : ∀ j, j < N → defaultValue (ty j) = vp_V fs j) (hk : k + 1 ≤ mc) (hn : n + N ≤ ms) (kk : ∀ q : Nat, n_E l cc nL own d mc ms D cA Fw (k + 1) (n + N) (w ++ [(q, .inr (ci, fs))]) (pc + 3) ls (.ref q :: st)) : n_E l cc nL own d mc ms D cA Fw k n w pc ls st := by
  intro p e s m args below meth c A0 H locs lsa C hP hD hS hl
  exact va_new (ci := ci) (fs := fs) (C := CC) (T := T) (N := N) C.1 C.2.1 C.2.2.2.2.2.1 h2 ty hty C.2.2.2.2.1 (C.2.2.2.2.2.1 _ hcl) (C.2.2.2.2.2.1 _ hin) (C.2.2.2.2.2.1 _ hini) C.2.2.2.2.2.2.1 hP hD hS C.2.2.2.2.2.2.2.2.2.1 h1 hfs hk hn hd (fun q H1 hP1 hD1 hS1 => kk q p e s m args below meth c A0 H1 locs lsa C hP1 hD1 hS1 hl)
theorem n_newa {N : Nat} (hN : N < 1000) (hd : decode cc pc = .ok (.newarray .int, 2)) (hk : k + 1 ≤ mc) (hn : n + N ≤ ms) (kk : ∀ q : Nat, n_E l cc nL own d mc ms D cA Fw (k + 1) (n + N) (w ++ [(q, .inl (cA, N, .inl (fun _ => 0)))]) (pc + 2) ls (.ref q :: st)) : n_E l cc nL own d mc ms D cA Fw k n w pc ls (.int (nI N) :: st) := by
  intro p e s m args below meth c A0 H locs lsa C hP hD hS hl
  refine va_newa (atype := .int) (ty := .int) (a0 := (N, .inl (fun _ => 0))) C.1 C.2.1 (C.2.2.2.2.2.1 _ q_ar) rfl C.2.2.2.2.2.2.1 hP hD hS C.2.2.2.2.2.2.2.2.2.1 (fun _ => rfl) (nI_pos (by omega)) (nI_clamp (by omega)) ?_ hk hn hd (fun q cB H1 hK1 hP1 hD1 hS1 => ?_)
  · show N * 4 ≤ 536870912
    omega
  · have e1 := (hK1.2 0 (cA, .int) rfl).2
    have e2 := (hK1.2 1 (cB, .int) rfl).2
    have e : cB = cA := Option.some.inj (e2.symm.trans e1)
    subst e
    exact kk q p e s m args below meth c A0 H1 locs lsa C hP1 hD1 hS1 hl
theorem n_ret (hd : decode cc pc = .ok (.return_, 1)) (hk : k ≤ mc) (hn : n ≤ ms) (hF : Fw w) : n_E l cc nL own d mc ms D cA Fw k n w pc ls [] := by
  intro p e s m args below meth c A0 H locs lsa C hP hD hS hl
  refine W.widen (k := mc) (n := ms) hk hn ?_
  exact W.vret C.1 C.2.1 C.2.2.2.1 (fun t ht _ => ⟨⟨w, rfl, hF, by rw [ht]; exact hP, hD⟩, hS.F ht⟩) hS.2.2 hd C.2.2.2.2.2.2.2.1
theorem n_call {idx b nA n2 d2 mc2 ms2 : Nat} {y : MethodName} {c2 : ByteArray} {As rest : List Value} {w0 wr : va_W} {Fc : va_W → Prop} (isC isR : List Nat) (hd : decode cc pc = .ok (.invokespecial idx, 3)) (hlk : Cond.methodLink own idx y ∈ q_tbl ∨ ∀ U, n_N U → va_Nw (.methodLinkNest own idx y RX8) U) (hcode : Cond.code y c2 n2 none ∈ q_tbl) (hini : Cond.initialized y.cls ∈ q_tbl) (him : Cond.instanceMethod y ∈ q_tbl) (hy1 : y.name = "<init>")
    (hdd : y.cls ≠ "java/lang/invoke/MethodHandle" ∧ y.cls ≠ "java/lang/invoke/VarHandle" ∧ (parseMethodDescriptor y.desc).map (fun d => d.parameters.length) = some nA) (hlen : As.length = nA) (h1 : d2 + 1 ≤ d) (h2 : n2 ≤ 11) (hM : n_M l d2 mc2 ms2 y c2 n2 D cA (.ref b :: As) w0 Fc) (hC : isC.map (fun i => w[i]?) = w0.map some) (hnC : va_nd isC = true) (hR : isR.map (fun i => w[i]?) = wr.map some) (hnR : va_nd isR = true) (hdis : ∀ i ∈ isR, i ∉ isC) (hr : (rest.map fun v => v.category).sum ≤ 8) (hk : k + mc2 ≤ mc) (hs : n + ms2 ≤ ms)
    (kk : ∀ w1, Fc w1 → n_E l cc nL own d mc ms D cA Fw (k + mc2) (n + ms2) (wr ++ w1) (pc + 3) ls rest) : n_E l cc nL own d mc ms D cA Fw k n w pc ls (As.reverse ++ .ref b :: rest) := by
  intro p e s m args below meth c A0 H locs lsa C hP hD hS hl
  have hts := C.2.2.2.2.2.1
  have hK := C.2.2.2.2.2.2.1
  have hA := C.2.2.2.2.2.2.2.2.2.1
  have hNN := C.2.2.2.2.2.2.2.2.2.2
  have hrm : (n_rm d2 mc2 ms2).frames + 1 ≤ (n_rm d mc ms).frames ∧ 8 + (n2 + 11) + (n_rm d2 mc2 ms2).locals ≤ (n_rm d mc ms).locals := by
    show d2 + 1 ≤ d ∧ 8 + (n2 + 11) + 30 * d2 ≤ 30 * d
    omega
  have hPc : va_P D vwCl w0 H := hP.sub isC (by
    have : isC.filterMap (fun i => w[i]?) = ((isC.map (fun i => w[i]?)).filterMap id) := by rw [List.filterMap_map]; rfl
    rw [this, hC, List.filterMap_map]
    simp)
  have hDc : va_D A0 w0 := hD.sub isC hnC hC
  have hFc := va_free (wc := w0) hD hS hA isC hC
  have go : ∀ (u : va_W) (t : State) (H1 : Heap) (locs1 : List Loc), t.heap = H1 → s.vm.Alike t.vm → Fc u → n_B D (va_A w0 H.size) u t → H.size ≤ H1.size → (∀ q : Nat, q < H.size → ¬ va_A w0 H.size q → H1[q]? = H[q]?) → va_S A0 s.heap H1 locs1 → W p l e (n_rm d mc ms) s m args below meth c H1 locs1 (k + mc2) (n + ms2) (MQ below (va_Qv Fw (n_B D A0) A0) args s mc ms A0) (F0 m (pc + 3) lsa rest) := by
    intro u t H1 locs1 ht hvm hw hB hz1 hk1 hS1
    obtain ⟨hP1, hD1⟩ := hB
    rw [ht] at hP1
    obtain ⟨hP2, hD2⟩ := va_join (wr := wr) (w1 := u) hP hD isC isR hC hR hnR hdis hk1 hFc hP1 hD1
    exact kk u hw p e s m args below meth c A0 H1 locs1 lsa C hP2 hD2 hS1 hl
  rcases hlk with hlk | hlk
  · exact va_callv (va_runI (As := As) (rest := rest) ⟨C.1, C.2.1, C.2.2.1, C.2.2.2.2.1, hts⟩ (hM H.size) (cwI nA hts (q_goodIn hcode) rfl rfl rfl (hts _ hini) (hts _ hlk) (hts _ him) hy1 hdd hrm) ⟨n_Pc_blind, n_Pc_in (as := .ref b :: As) hPc hDc hK hNN⟩ rfl hlen hl.1 rfl (lv_room hr) hd ⟨hk, hs⟩) hS (fun q _ h => hFc q h) hFc go
  · exact va_callv (va_runIN (As := As) (rest := rest) ⟨C.1, C.2.1, C.2.2.1, C.2.2.2.2.1, hts⟩ (hM H.size) ⟨va_cnB nA hts (q_goodIn hcode) rfl rfl rfl (hlk s hNN) (hts _ hini) hdd hrm, hy1, hts _ him⟩ ⟨n_Pc_blind, n_Pc_in (as := .ref b :: As) hPc hDc hK hNN⟩ rfl hlen hl.1 rfl (lv_room hr) hd ⟨hk, hs⟩) hS (fun q _ h => hFc q h) hFc go
end NR
theorem n_of {l : Launch} {cc : ByteArray} {nL : Nat} {own : String} {d mc ms : Nat} {D : va_G} {cA : ClassId} {Fw : va_W → Prop} {y : MethodName} {as : List Value} {w0 : va_W} (ls : List (Nat × Value)) (hy : plainName y.cls = true) (hyn : y.name = "<init>") (ho : y.cls = own) (hls : lv_args 0 as = ls) (hn : (lg_sl as).length ≤ nL) (h : n_E l cc nL own d mc ms D cA Fw 0 0 w0 0 ls []) : n_M l d mc ms y cc nL D cA as w0 Fw := by
  intro sz
  refine Met.ofW (cc := cc) (maxL := nL) (ret := none) hy rfl ?_
  intro p e s m args below meth c s₁ B hml hv
  obtain ⟨rfl, hsz, hP, hK, hD0, hN⟩ := hv
  have hts := atoms_spec (ws := q_ws y cc nL none) B.pre
  have hown : s.vm.findClass y.cls = some m.cls := findClass_of_methodNamed B.named
  have hin : meth.name = "<init>" := by rw [← hyn]; exact (name_of_methodNamed B.named B.method).1
  subst hsz
  subst ho
  subst hls
  have hl := lv_entry as (n := nL) hn
  rw [lg_entry_eq]
  generalize (lg_sl as ++ List.replicate (nL - (lg_sl as).length) Slot.unset).toArray = lsa at hl ⊢
  exact h p e s m _ below meth c _ s.heap [] lsa ⟨B.exec, B.bytes, hml, B.returns, hown, fun w hw => hts w (List.mem_cons_of_mem _ hw), hK, B.notSynchronized, hin, fun q hq => Or.inr hq, hN⟩ hP hD0.self va_S.rf hl
