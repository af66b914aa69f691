/-! THE FIXED WORLD: one object of the class with all that it holds (places 0 .. 33), one of the reference (places 34 .. 40). References never change after the constructors; what changes is ONE function: place, field or index, to an int. -/
abbrev qS : Type := Nat → Nat → Int32
abbrev qV : Type := Int32 ⊕ Nat
abbrev qL : Type := Nat ⊕ (Nat × List (Option Nat))
def q_v (ad : Nat → Nat) (v : qV) : Value := match v with
  | .inl x => .int x
  | .inr k => .ref (ad k)
def q_f (ad : Nat → Nat) (r : Nat → Int32) (j : Nat) (f : Option Nat) : Value := match f with
  | some k => .ref (ad k)
  | none => .int (r j)
def q_e (cA : ClassId) (ad : Nat → Nat) (r : Nat → Int32) (c : qL) : va_E := match c with
  | .inl n => .inl (cA, n, .inl r)
  | .inr o => .inr (o.1, o.2.mapIdx (fun j f => q_f ad r j f))
def q_lay : List qL := [
  .inr (7, [some 1, some 8, some 9, some 15, some 23, some 29, none]),
  .inr (2, [some 2, some 5, some 6, some 7]),
  .inr (4, [some 3, some 4, none, none]), .inl 10, .inl 10,
  .inl 10, .inl 10, .inl 10,
  .inr (0, [some 9, some 15]),
  .inr (6, [some 10, some 13, some 14]),
  .inr (4, [some 11, some 12, none, none]), .inl 10, .inl 10,
  .inl 10, .inl 10,
  .inr (3, [some 16, some 19, some 20, some 21, some 22]),
  .inr (4, [some 17, some 18, none, none]), .inl 70, .inl 70,
  .inl 70, .inl 70, .inl 70, .inl 70,
  .inr (1, [some 24, some 25, some 26, some 27, some 28, none, none, none]),
  .inl 6, .inl 6, .inl 6, .inl 6, .inl 6,
  .inr (5, [some 30, none, some 31, some 32, some 33, none]),
  .inl 60, .inl 12, .inl 12, .inl 12,
  .inr (8, [none, some 35, none, some 36, none, some 37, none, some 38, none, none, none, some 39, none, none, none, some 40, none]),
  .inl 50, .inl 40, .inl 350, .inl 30, .inl 60, .inl 3]
def q_w (cA : ClassId) (ad : Nat → Nat) (S : qS) : va_W := q_lay.mapIdx (fun k c => (ad k, q_e cA ad (S k) c))
def q_up (S : qS) (k j : Nat) (v : Int32) : qS := va_up S k (upd (S k) j v)
theorem q_up_s (S : qS) (k j : Nat) (v : Int32) : q_up S k j v k = upd (S k) j v := by simp [q_up, va_up]
theorem q_up_n (S : qS) (k j : Nat) (v : Int32) {i : Nat} (h : i ≠ k) : q_up S k j v i = S i := by simp [q_up, va_up, h]
theorem q_w_get {cA : ClassId} {ad : Nat → Nat} {S : qS} {k : Nat} {c : qL} (h : q_lay[k]? = some c) : (q_w cA ad S)[k]? = some (ad k, q_e cA ad (S k) c) := by
  simp only [q_w, List.getElem?_mapIdx, h, Option.map_some]
theorem q_w_set {cA : ClassId} {ad : Nat → Nat} {S : qS} {k j : Nat} {v : Int32} {c : qL} {E : va_E} (h : q_lay[k]? = some c) (hE : q_e cA ad (upd (S k) j v) c = E) : (q_w cA ad S).set k (ad k, E) = q_w cA ad (q_up S k j v) := by
  apply List.ext_getElem?
  intro i
  by_cases hi : i = k
  · subst hi
    have hl : i < (q_w cA ad S).length := by
      have := (List.getElem?_eq_some_iff.mp h).1
      simpa [q_w] using this
    rw [List.getElem?_set_self hl, q_w_get h, q_up_s, hE]
  · rw [List.getElem?_set_ne (fun e => hi e.symm)]
    simp only [q_w, List.getElem?_mapIdx, q_up_n S k j v hi]
theorem q_e_put {cA : ClassId} {ad : Nat → Nat} {r : Nat → Int32} {ci j : Nat} {fs : List (Option Nat)} {v : Int32} (h : fs[j]? = some none) : q_e cA ad (upd r j v) (.inr (ci, fs)) = .inr (ci, (fs.mapIdx (fun j f => q_f ad r j f)).set j (.int v)) := by
  show (Sum.inr (ci, fs.mapIdx (fun i f => q_f ad (upd r j v) i f)) : va_E) = _
  congr 2
  apply List.ext_getElem?
  intro i
  have hl := (List.getElem?_eq_some_iff.mp h).1
  by_cases hi : i = j
  · subst hi
    rw [List.getElem?_set_self (by simpa using hl), List.getElem?_mapIdx, h]
    simp [q_f, upd]
  · rw [List.getElem?_set_ne (fun e => hi e.symm), List.getElem?_mapIdx, List.getElem?_mapIdx]
    cases fs[i]? with
    | none => rfl
    | some f => cases f <;> simp [q_f, upd, hi]
/-- the locals -/
def q_has (lsa : Array Slot) (nL : Nat) (ad : Nat → Nat) (ls : List (Option qV)) : Prop := lsa.size = nL ∧ lv_wf lsa ∧ ∀ (i : Nat) (v : qV), ls[i]? = some (some v) → lsa[i]? = some (.val (q_v ad v))
def q_l (ad : Nat → Nat) (ls : List (Option qV)) : List (Nat × Value) := (List.range ls.length).filterMap (fun i => match ls[i]? with
  | some (some v) => some (i, q_v ad v)
  | _ => none)
theorem q_l_mem {ad : Nat → Nat} {ls : List (Option qV)} {i : Nat} {v : qV} (h : ls[i]? = some (some v)) : (i, q_v ad v) ∈ q_l ad ls := by
  refine List.mem_filterMap.mpr ⟨i, List.mem_range.mpr (List.getElem?_eq_some_iff.mp h).1, ?_⟩
  rw [h]
theorem q_has.l {lsa : Array Slot} {nL : Nat} {ad : Nat → Nat} {ls : List (Option qV)} (h : q_has lsa nL ad ls) : lv_has lsa nL (q_l ad ls) := by
  refine ⟨h.1, h.2.1, fun q hq => ?_⟩
  obtain ⟨i, -, hi⟩ := List.mem_filterMap.mp hq
  cases hc : ls[i]? with
  | none => rw [hc] at hi; cases hi
  | some o =>
    cases o with
    | none => rw [hc] at hi; cases hi
    | some v =>
      rw [hc] at hi
      have hq2 := Option.some.inj hi
      rw [← hq2]
      exact h.2.2 i v hc
theorem q_v_cat (ad : Nat → Nat) (v : qV) : (q_v ad v).category = 1 := by cases v <;> rfl
theorem q_has.of {lsa : Array Slot} {nL : Nat} {ad : Nat → Nat} {ls : List (Option qV)} {i : Nat} {v : qV} (h : lv_has lsa nL ((i, q_v ad v) :: (q_l ad ls).filter (fun q => !(q.1 == i) && !(q.1 + 1 == i && q.2.category == 2)))) : q_has lsa nL ad (ls.set i (some v)) := by
  refine ⟨h.1, h.2.1, fun j w hj => ?_⟩
  by_cases hi : j = i
  · subst hi
    have hl : j < ls.length := by
      have := (List.getElem?_eq_some_iff.mp hj).1
      simpa using this
    rw [List.getElem?_set_self hl] at hj
    have hw := Option.some.inj (Option.some.inj hj)
    rw [← hw]
    exact h.2.2 (j, q_v ad v) List.mem_cons_self
  · rw [List.getElem?_set_ne (fun e => hi e.symm)] at hj
    refine h.2.2 (j, q_v ad w) (List.mem_cons_of_mem _ (List.mem_filter.mpr ⟨q_l_mem hj, ?_⟩))
    have h1 : (j == i) = false := by simpa using hi
    simp [h1, q_v_cat]
theorem q_args_mem (ad : Nat → Nat) : ∀ (as : List qV) (k i : Nat) (v : qV), as[i]? = some v → (k + i, q_v ad v) ∈ lv_args k (as.map (q_v ad)) := by
  intro as
  induction as with
  | nil => intro k i v h; simp at h
  | cons a as ih =>
    intro k i v h
    have hc : (if (q_v ad a).category = 2 then k + 2 else k + 1) = k + 1 := by rw [q_v_cat]; rfl
    show (k + i, q_v ad v) ∈ (k, q_v ad a) :: lv_args (if (q_v ad a).category = 2 then k + 2 else k + 1) (as.map (q_v ad))
    rw [hc]
    cases i with
    | zero =>
      have : a = v := by simpa using h
      subst this
      exact List.mem_cons_self
    | succ i =>
      have h2 : as[i]? = some v := by simpa using h
      have := ih (k + 1) i v h2
      rw [show k + (i + 1) = k + 1 + i by omega]
      exact List.mem_cons_of_mem _ this
/-- the words -/
def q_tbl : List Cond := lw_tbl.filter goodWord
theorem q_tbl_in {w : Cond} (h : w ∈ lw_tbl) (g : goodWord w = true) : w ∈ q_tbl := List.mem_filter.mpr ⟨h, g⟩
theorem q_in0 {i : Nat} {w : Cond} (h : (k2_sels lw_privs)[i]? = some w) (g : goodWord w = true) : w ∈ q_tbl := q_tbl_in (List.mem_append_left _ (List.mem_of_getElem? h)) g
theorem q_in1 {i : Nat} {w : Cond} (h : tables_1_1[i]? = some w) (g : goodWord w = true) : w ∈ q_tbl := q_tbl_in (List.mem_append_right _ (List.mem_append_left _ (List.mem_of_getElem? h))) g
theorem q_in2 {i : Nat} {w : Cond} (h : tables_1_2[i]? = some w) (g : goodWord w = true) : w ∈ q_tbl := q_tbl_in (List.mem_append_right _ (List.mem_append_right _ (List.mem_append_left _ (List.mem_of_getElem? h)))) g
theorem q_in3 {i : Nat} {w : Cond} (h : tables_1_3[i]? = some w) (g : goodWord w = true) : w ∈ q_tbl := q_tbl_in (List.mem_append_right _ (List.mem_append_right _ (List.mem_append_right _ (List.mem_append_left _ (List.mem_of_getElem? h))))) g
theorem q_in4 {i : Nat} {w : Cond} (h : tables_1_4[i]? = some w) (g : goodWord w = true) : w ∈ q_tbl := q_tbl_in (List.mem_append_right _ (List.mem_append_right _ (List.mem_append_right _ (List.mem_append_right _ (List.mem_of_getElem? h))))) g
theorem q_good {w : Cond} (h : w ∈ q_tbl) : goodWord w = true := (List.mem_filter.mp h).2
theorem q_fields {C : String} {T : u_T} {N : Nat} (h : ∀ k, k < N → u_lay C T k ∈ q_tbl) : ∀ w ∈ u_ws C T N, w ∈ q_tbl := by
  intro w hw
  obtain ⟨k, hk, e⟩ := List.mem_map.mp hw
  rw [← e]
  exact h k (List.mem_range.mp hk)
def q_ws (y : MethodName) (cc : ByteArray) (nL : Nat) (ret : Option FieldType) : List Cond := Cond.code y cc nL ret :: q_tbl
theorem q_goodIn {y : MethodName} {cc : ByteArray} {nL : Nat} {ret : Option FieldType} (h : Cond.code y cc nL ret ∈ q_tbl) : GoodIn q_tbl (q_ws y cc nL ret) := by
  intro w hw
  have hm : w ∈ q_tbl := by
    rcases List.mem_cons.mp hw with e | e
    · rw [e]; exact h
    · exact e
  exact ⟨hm, good_of_word (q_good hm)⟩
def q_N (U : State) : Prop := va_Nw (.methodLinkNest RX6 48 yX8_isType RX8) U ∧ va_Nw (.methodLinkNest RX6 61 yX8_isValue RX8) U
def q_rm (d : Nat) : Room := { frames := d, cells := 0, slots := 0, locals := 30 * d }
def q_K (D : va_G) (cA : ClassId) (U : State) : Prop := va_K D vwCl [(cA, .int)] U
def q_Cx (cc : ByteArray) (nL : Nat) (ret : Option FieldType) (own : String) (d : Nat) (p : Program) (R : Room) (s : State) (m : MethodId) (args : Array Value) (meth : Method) (c : Code) (D : va_G) (cA : ClassId) (A0 : Nat → Prop) : Prop :=
  p.tables.exec = Jvm.exec ∧ c.code = cc ∧ c.maxLocals = nL ∧ meth.sig.returnType = ret ∧ s.vm.findClass own = some m.cls ∧ (∀ w ∈ q_tbl, w.before args s = true) ∧ va_K D vwCl [(cA, .int)] s ∧ meth.locks = false ∧ (d ≤ R.frames ∧ 30 * d ≤ R.locals) ∧ (∀ q : Nat, s.heap.size ≤ q → A0 q) ∧ q_N s
def q_Qc (D : va_G) (cA : ClassId) (ad : Nat → Nat) (A0 : Nat → Prop) (Q : Option Int32 → qS → Prop) : Array Value → State → Outcome → State → Prop := fun _ st oc t => (∃ (r : Option Int32) (S' : qS), oc = .returned (r.map Value.int) ∧ Q r S' ∧ va_P D vwCl (q_w cA ad S') t.heap ∧ va_D A0 (q_w cA ad S')) ∧ va_F A0 st t
/-- the machine, in a method's frame at pc with these locals, stack and world, comes to its return with Q -/
def q_E (l : Launch) (cc : ByteArray) (nL : Nat) (ret : Option FieldType) (own : String) (d : Nat) (S : qS) (pc : Nat) (ls : List (Option qV)) (st : List qV) (Q : Option Int32 → qS → Prop) : Prop :=
  ∀ (p : Program) (e : Env) (R : Room) (s : State) (m : MethodId) (args : Array Value) (below : List Frame) (meth : Method) (c : Code) (D : va_G) (cA : ClassId) (ad : Nat → Nat) (A0 : Nat → Prop) (H : Heap) (locs : List Loc) (lsa : Array Slot),
    q_Cx cc nL ret own d p R s m args meth c D cA A0 → va_P D vwCl (q_w cA ad S) H → va_D A0 (q_w cA ad S) → va_S A0 s.heap H locs → q_has lsa nL ad ls →
    W p l e R s m args below meth c H locs 0 0 (MQ below (q_Qc D cA ad A0 Q) args s 0 0 A0) (F0 m pc lsa (st.map (q_v ad)))
def q_Pc (D : va_G) (cA : ClassId) (ad : Nat → Nat) (sz : Nat) (as : List qV) (S : qS) : Array Value → State → Prop := va_Pc (as.map (q_v ad)) (fun U => U.heap.size = sz ∧ va_P D vwCl (q_w cA ad S) U.heap ∧ va_K D vwCl [(cA, .int)] U ∧ va_D (fun _ => True) (q_w cA ad S) ∧ q_N U)
def q_B (D : va_G) (cA : ClassId) (ad : Nat → Nat) (A : Nat → Prop) (S : qS) (t : State) : Prop := va_P D vwCl (q_w cA ad S) t.heap ∧ va_D A (q_w cA ad S)
/-- a method's contract: it answers v with the world S', and Q of them -/
def q_Mi (l : Launch) (d : Nat) (y : MethodName) (cc : ByteArray) (nL : Nat) (ret : Option FieldType) (as : List qV) (S : qS) (Q : Int32 → qS → Prop) : Prop :=
  ∀ (D : va_G) (cA : ClassId) (ad : Nat → Nat) (sz : Nat), Met l y (q_ws y cc nL ret) (q_rm d) (q_Pc D cA ad sz as S) (va_Qi Q (q_B D cA ad (va_A (q_w cA ad S) sz)) (va_A (q_w cA ad S) sz)) 0 0 (va_A (q_w cA ad S) sz)
def q_Mv (l : Launch) (d : Nat) (y : MethodName) (cc : ByteArray) (nL : Nat) (ret : Option FieldType) (as : List qV) (S : qS) (Q : qS → Prop) : Prop :=
  ∀ (D : va_G) (cA : ClassId) (ad : Nat → Nat) (sz : Nat), Met l y (q_ws y cc nL ret) (q_rm d) (q_Pc D cA ad sz as S) (va_Qv Q (q_B D cA ad (va_A (q_w cA ad S) sz)) (va_A (q_w cA ad S) sz)) 0 0 (va_A (q_w cA ad S) sz)
def q_Qi (Q : Int32 → qS → Prop) : Option Int32 → qS → Prop := fun r S => match r with
  | some v => Q v S
  | none => False
def q_Qv (Q : qS → Prop) : Option Int32 → qS → Prop := fun r S => match r with
  | some _ => False
  | none => Q S
theorem q_W_mono {p : Program} {l : Launch} {e : Env} {R : Room} {s : State} {m : MethodId} {args : Array Value} {below : List Frame} {meth : Method} {c : Code} {H : Heap} {locs : List Loc} {cells slots : Nat} {Q Q' : State → Prop} {g : JFrame} (h : W p l e R s m args below meth c H locs cells slots Q g) (hq : ∀ t, Q t → Q' t) : W p l e R s m args below meth c H locs cells slots Q' g := by
  intro T hT X
  obtain ⟨t, a, b⟩ := h T hT X
  exact ⟨t, a, hq t b⟩
theorem q_MQ_mono {below : List Frame} {Qc Qc' : Array Value → State → Outcome → State → Prop} {a : Array Value} {s : State} {mc ms : Nat} {free : Addr → Prop} (h : ∀ o t, Qc a s o t → Qc' a s o t) : ∀ t, MQ below Qc a s mc ms free t → MQ below Qc' a s mc ms free t := by
  intro t ⟨o, h1, h2, h3, h4⟩
  exact ⟨o, h1, h2, h o t h3, h4⟩
theorem q_entry {l : Launch} {d : Nat} {y : MethodName} {cc : ByteArray} {nL : Nat} {ret : Option FieldType} {as : List qV} {S : qS} {Q : Option Int32 → qS → Prop} {Qc : va_G → ClassId → (Nat → Nat) → Nat → Array Value → State → Outcome → State → Prop} {own : String}
    (hy : plainName y.cls = true) (ho : y.cls = own) (ls : List (Option qV)) (hls : as.map some ++ List.replicate (nL - as.length) none = ls) (hn : as.length ≤ nL)
    (hq : ∀ (D : va_G) (cA : ClassId) (ad : Nat → Nat) (a : Array Value) (s : State) (o : Outcome) (t : State), q_Qc D cA ad (va_A (q_w cA ad S) s.heap.size) Q a s o t → Qc D cA ad s.heap.size a s o t)
    (h : q_E l cc nL ret own d S 0 ls [] Q) (D : va_G) (cA : ClassId) (ad : Nat → Nat) (sz : Nat) : Met l y (q_ws y cc nL ret) (q_rm d) (q_Pc D cA ad sz as S) (Qc D cA ad sz) 0 0 (va_A (q_w cA ad S) sz) := by
  refine Met.ofW (cc := cc) (maxL := nL) (ret := ret) hy rfl ?_
  intro p e s m args below meth c s₁ B hml hv
  obtain ⟨rfl, hsz, hP, hK, hD0, hN⟩ := hv
  have hts := atoms_spec (ws := q_ws y cc nL ret) B.pre
  have hown : s.vm.findClass y.cls = some m.cls := findClass_of_methodNamed B.named
  subst hsz
  subst ho
  subst hls
  have hD := hD0.self (sz := s.heap.size)
  have hl := lv_entry (as.map (q_v ad)) (n := nL) (by
    have : (lg_sl (as.map (q_v ad))).length = as.length := by
      clear hD0 hD hP hN hn h B hts hK
      induction as with
      | nil => rfl
      | cons a as ih =>
        cases a <;> simpa [lg_sl, q_v, Value.category] using ih
    omega)
  rw [lg_entry_eq]
  generalize (lg_sl (as.map (q_v ad)) ++ List.replicate (nL - (lg_sl (as.map (q_v ad))).length) Slot.unset).toArray = lsa at hl ⊢
  have hl2 : q_has lsa nL ad (as.map some ++ List.replicate (nL - as.length) none) := by
    refine ⟨hl.1, hl.2.1, fun i v hi => ?_⟩
    by_cases hlt : i < (as.map some).length
    · rw [List.getElem?_append_left hlt, List.getElem?_map] at hi
      cases hc : as[i]? with
      | none => rw [hc] at hi; cases hi
      | some w =>
        rw [hc] at hi
        have hw : w = v := Option.some.inj (Option.some.inj hi)
        subst hw
        have := q_args_mem ad as 0 i w hc
        rw [Nat.zero_add] at this
        exact hl.2.2 _ this
    · rw [List.getElem?_append_right (Nat.le_of_not_lt hlt)] at hi
      have := List.eq_of_mem_replicate (List.mem_of_getElem? hi)
      cases this
  refine q_W_mono (h p e _ s m _ below meth c D cA ad _ s.heap [] lsa ⟨B.exec, B.bytes, hml, B.returns, hown, fun w hw => hts w (List.mem_cons_of_mem _ hw), hK, B.notSynchronized, ⟨Nat.le_refl _, Nat.le_refl _⟩, fun q hq => Or.inr hq, hN⟩ hP hD va_S.rf hl2) (q_MQ_mono (fun o t => hq D cA ad _ s o t))
theorem q_Mi_of {l : Launch} {d : Nat} {y : MethodName} {cc : ByteArray} {nL : Nat} {ret : Option FieldType} {as : List qV} {S : qS} {Q : Int32 → qS → Prop} {own : String}
    (hy : plainName y.cls = true) (ho : y.cls = own) (ls : List (Option qV)) (hls : as.map some ++ List.replicate (nL - as.length) none = ls) (hn : as.length ≤ nL)
    (h : q_E l cc nL ret own d S 0 ls [] (q_Qi Q)) : q_Mi l d y cc nL ret as S Q := by
  intro D cA ad sz
  refine q_entry (Qc := fun D cA ad sz => va_Qi Q (q_B D cA ad (va_A (q_w cA ad S) sz)) (va_A (q_w cA ad S) sz)) hy ho ls hls hn ?_ h D cA ad sz
  intro D cA ad a s o t ⟨⟨r, S', h1, h2, h3, h4⟩, h5⟩
  cases r with
  | none => exact h2.elim
  | some v => exact ⟨⟨v, S', h1, h2, h3, h4⟩, h5⟩
theorem q_Mv_of {l : Launch} {d : Nat} {y : MethodName} {cc : ByteArray} {nL : Nat} {ret : Option FieldType} {as : List qV} {S : qS} {Q : qS → Prop} {own : String}
    (hy : plainName y.cls = true) (ho : y.cls = own) (ls : List (Option qV)) (hls : as.map some ++ List.replicate (nL - as.length) none = ls) (hn : as.length ≤ nL)
    (h : q_E l cc nL ret own d S 0 ls [] (q_Qv Q)) : q_Mv l d y cc nL ret as S Q := by
  intro D cA ad sz
  refine q_entry (Qc := fun D cA ad sz => va_Qv Q (q_B D cA ad (va_A (q_w cA ad S) sz)) (va_A (q_w cA ad S) sz)) hy ho ls hls hn ?_ h D cA ad sz
  intro D cA ad a s o t ⟨⟨r, S', h1, h2, h3, h4⟩, h5⟩
  cases r with
  | none => exact ⟨⟨S', h1, h2, h3, h4⟩, h5⟩
  | some v => exact h2.elim
