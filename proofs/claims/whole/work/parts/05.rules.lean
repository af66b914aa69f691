section QR
variable {l : Launch} {cc : ByteArray} {nL : Nat} {ret : Option FieldType} {own : String} {d : Nat} {S : qS} {pc : Nat} {ls : List (Option qV)} {st : List qV} {Q : Option Int32 → qS → Prop}
theorem q_cats {ad : Nat → Nat} {st : List qV} : ((st.map (q_v ad)).map fun v => v.category).sum = st.length := by
  induction st with
  | nil => rfl
  | cons a st ih => rw [List.map_cons, List.map_cons, List.sum_cons, ih, q_v_cat, List.length_cons, Nat.add_comm]
theorem q_mx1 : Cond.static Lib.Math.max.name ∈ q_tbl := q_in1 (i := 33) rfl rfl
theorem q_mx2 : Cond.initialized "java/lang/Math" ∈ q_tbl := q_in1 (i := 4) rfl rfl
theorem q_mx3 : Cond.code Lib.Math.max.name Lib.Math.max.code 2 (some .int) ∈ q_tbl := q_in1 (i := 34) (by decide +kernel) rfl
theorem q_iconst {n : Int} {v : Int32} (hd : decode cc pc = .ok (.iconst n, 1)) (hv : Int32.ofInt n = v) (k : q_E l cc nL ret own d S (pc + 1) ls (.inl v :: st) Q) : q_E l cc nL ret own d S pc ls st Q := by
  intro p e R s m args below meth c D cA ad A0 H locs lsa C hP hD hS hl
  exact lv_iconst C.1 C.2.1 hd hv (k p e R s m args below meth c D cA ad A0 H locs lsa C hP hD hS hl)
theorem q_bipush {n : Int} {v : Int32} (hd : decode cc pc = .ok (.bipush n, 2)) (hv : (Int8.ofInt n).toInt32 = v) (k : q_E l cc nL ret own d S (pc + 2) ls (.inl v :: st) Q) : q_E l cc nL ret own d S pc ls st Q := by
  intro p e R s m args below meth c D cA ad A0 H locs lsa C hP hD hS hl
  exact lv_bipush C.1 C.2.1 hd hv (k p e R s m args below meth c D cA ad A0 H locs lsa C hP hD hS hl)
theorem q_sipush {n : Int} {v : Int32} (hd : decode cc pc = .ok (.sipush n, 3)) (hv : (Int16.ofInt n).toInt32 = v) (k : q_E l cc nL ret own d S (pc + 3) ls (.inl v :: st) Q) : q_E l cc nL ret own d S pc ls st Q := by
  intro p e R s m args below meth c D cA ad A0 H locs lsa C hP hD hS hl
  exact lv_sipush C.1 C.2.1 hd hv (k p e R s m args below meth c D cA ad A0 H locs lsa C hP hD hS hl)
theorem q_iload {i : Nat} {x : Int32} (hd : decode cc pc = .ok (.iload i, 2)) (hx : ls[(i : Nat)]? = some (some (.inl x))) (k : q_E l cc nL ret own d S (pc + 2) ls (.inl x :: st) Q) : q_E l cc nL ret own d S pc ls st Q := by
  intro p e R s m args below meth c D cA ad A0 H locs lsa C hP hD hS hl
  exact lv_iload C.1 C.2.1 hd (hl.2.2 _ _ hx) (k p e R s m args below meth c D cA ad A0 H locs lsa C hP hD hS hl)
theorem q_iload_n {i : Fin 4} {x : Int32} (hd : decode cc pc = .ok (.iload_n i, 1)) (hx : ls[(i : Nat)]? = some (some (.inl x))) (k : q_E l cc nL ret own d S (pc + 1) ls (.inl x :: st) Q) : q_E l cc nL ret own d S pc ls st Q := by
  intro p e R s m args below meth c D cA ad A0 H locs lsa C hP hD hS hl
  exact lv_iload_n C.1 C.2.1 hd rfl (hl.2.2 _ _ hx) (k p e R s m args below meth c D cA ad A0 H locs lsa C hP hD hS hl)
theorem q_aload_n {i : Fin 4} {x : Nat} (hd : decode cc pc = .ok (.aload_n i, 1)) (hx : ls[(i : Nat)]? = some (some (.inr x))) (k : q_E l cc nL ret own d S (pc + 1) ls (.inr x :: st) Q) : q_E l cc nL ret own d S pc ls st Q := by
  intro p e R s m args below meth c D cA ad A0 H locs lsa C hP hD hS hl
  exact lv_aload_n C.1 C.2.1 hd rfl (hl.2.2 _ _ hx) (k p e R s m args below meth c D cA ad A0 H locs lsa C hP hD hS hl)
theorem q_aload {i : Nat} {x : Nat} (hd : decode cc pc = .ok (.aload i, 2)) (hx : ls[(i : Nat)]? = some (some (.inr x))) (k : q_E l cc nL ret own d S (pc + 2) ls (.inr x :: st) Q) : q_E l cc nL ret own d S pc ls st Q := by
  intro p e R s m args below meth c D cA ad A0 H locs lsa C hP hD hS hl
  exact lv_aload C.1 C.2.1 hd (hl.2.2 _ _ hx) (k p e R s m args below meth c D cA ad A0 H locs lsa C hP hD hS hl)
theorem q_istore {i : Nat} {x : Int32} (hd : decode cc pc = .ok (.istore i, 2)) (hn : i < nL) (k : q_E l cc nL ret own d S (pc + 2) (ls.set i (some (.inl x))) st Q) : q_E l cc nL ret own d S pc ls (.inl x :: st) Q := by
  intro p e R s m args below meth c D cA ad A0 H locs lsa C hP hD hS hl
  exact lv_istore C.1 C.2.1 hd hl.l hn rfl (fun lsa hl' => k p e R s m args below meth c D cA ad A0 H locs lsa C hP hD hS (q_has.of hl'))
theorem q_istore_n {i : Fin 4} {x : Int32} (hd : decode cc pc = .ok (.istore_n i, 1)) (hn : (i : Nat) < nL) (k : q_E l cc nL ret own d S (pc + 1) (ls.set (i : Nat) (some (.inl x))) st Q) : q_E l cc nL ret own d S pc ls (.inl x :: st) Q := by
  intro p e R s m args below meth c D cA ad A0 H locs lsa C hP hD hS hl
  exact lv_istore_n C.1 C.2.1 hd rfl hl.l hn rfl (fun lsa hl' => k p e R s m args below meth c D cA ad A0 H locs lsa C hP hD hS (q_has.of hl'))
theorem q_iinc {i : Nat} {n : Int} {x v : Int32} (hd : decode cc pc = .ok (.iinc i n, 3)) (hx : ls[i]? = some (some (.inl x))) (hv : x + Int32.ofInt n = v) (hn : i < nL) (k : q_E l cc nL ret own d S (pc + 3) (ls.set i (some (.inl v))) st Q) : q_E l cc nL ret own d S pc ls st Q := by
  intro p e R s m args below meth c D cA ad A0 H locs lsa C hP hD hS hl
  obtain ⟨j, hj⟩ := List.getElem?_of_mem (q_l_mem (ad := ad) hx)
  exact lv_iinc C.1 C.2.1 hd hl.l hj hv hn rfl (fun lsa hl' => k p e R s m args below meth c D cA ad A0 H locs lsa C hP hD hS (q_has.of hl'))
theorem q_iadd {x y : Int32} (hd : decode cc pc = .ok (.iadd, 1)) (k : q_E l cc nL ret own d S (pc + 1) ls (.inl (x + y) :: st) Q) : q_E l cc nL ret own d S pc ls (.inl y :: .inl x :: st) Q := by
  intro p e R s m args below meth c D cA ad A0 H locs lsa C hP hD hS hl
  exact lv_iadd C.1 C.2.1 hd (k p e R s m args below meth c D cA ad A0 H locs lsa C hP hD hS hl)
theorem q_isub {x y : Int32} (hd : decode cc pc = .ok (.isub, 1)) (k : q_E l cc nL ret own d S (pc + 1) ls (.inl (x - y) :: st) Q) : q_E l cc nL ret own d S pc ls (.inl y :: .inl x :: st) Q := by
  intro p e R s m args below meth c D cA ad A0 H locs lsa C hP hD hS hl
  exact lv_isub C.1 C.2.1 hd (k p e R s m args below meth c D cA ad A0 H locs lsa C hP hD hS hl)
theorem q_imul {x y : Int32} (hd : decode cc pc = .ok (.imul, 1)) (k : q_E l cc nL ret own d S (pc + 1) ls (.inl (x * y) :: st) Q) : q_E l cc nL ret own d S pc ls (.inl y :: .inl x :: st) Q := by
  intro p e R s m args below meth c D cA ad A0 H locs lsa C hP hD hS hl
  exact lv_imul C.1 C.2.1 hd (k p e R s m args below meth c D cA ad A0 H locs lsa C hP hD hS hl)
theorem q_iand {x y : Int32} (hd : decode cc pc = .ok (.iand, 1)) (k : q_E l cc nL ret own d S (pc + 1) ls (.inl (x &&& y) :: st) Q) : q_E l cc nL ret own d S pc ls (.inl y :: .inl x :: st) Q := by
  intro p e R s m args below meth c D cA ad A0 H locs lsa C hP hD hS hl
  exact lv_iand C.1 C.2.1 hd (k p e R s m args below meth c D cA ad A0 H locs lsa C hP hD hS hl)
theorem q_ior {x y : Int32} (hd : decode cc pc = .ok (.ior, 1)) (k : q_E l cc nL ret own d S (pc + 1) ls (.inl (x ||| y) :: st) Q) : q_E l cc nL ret own d S pc ls (.inl y :: .inl x :: st) Q := by
  intro p e R s m args below meth c D cA ad A0 H locs lsa C hP hD hS hl
  exact lv_ior C.1 C.2.1 hd (k p e R s m args below meth c D cA ad A0 H locs lsa C hP hD hS hl)
theorem q_ixor {x y : Int32} (hd : decode cc pc = .ok (.ixor, 1)) (k : q_E l cc nL ret own d S (pc + 1) ls (.inl (x ^^^ y) :: st) Q) : q_E l cc nL ret own d S pc ls (.inl y :: .inl x :: st) Q := by
  intro p e R s m args below meth c D cA ad A0 H locs lsa C hP hD hS hl
  exact lv_ixor C.1 C.2.1 hd (k p e R s m args below meth c D cA ad A0 H locs lsa C hP hD hS hl)
theorem q_ishl {x y : Int32} (hd : decode cc pc = .ok (.ishl, 1)) (k : q_E l cc nL ret own d S (pc + 1) ls (.inl (x <<< (y &&& 31)) :: st) Q) : q_E l cc nL ret own d S pc ls (.inl y :: .inl x :: st) Q := by
  intro p e R s m args below meth c D cA ad A0 H locs lsa C hP hD hS hl
  exact lv_ishl C.1 C.2.1 hd (k p e R s m args below meth c D cA ad A0 H locs lsa C hP hD hS hl)
theorem q_ishr {x y : Int32} (hd : decode cc pc = .ok (.ishr, 1)) (k : q_E l cc nL ret own d S (pc + 1) ls (.inl (x >>> (y &&& 31)) :: st) Q) : q_E l cc nL ret own d S pc ls (.inl y :: .inl x :: st) Q := by
  intro p e R s m args below meth c D cA ad A0 H locs lsa C hP hD hS hl
  exact lv_ishr C.1 C.2.1 hd (k p e R s m args below meth c D cA ad A0 H locs lsa C hP hD hS hl)
theorem q_idiv {x y : Int32} (hd : decode cc pc = .ok (.idiv, 1)) (hne : ¬ y = 0) (k : q_E l cc nL ret own d S (pc + 1) ls (.inl (x / y) :: st) Q) : q_E l cc nL ret own d S pc ls (.inl y :: .inl x :: st) Q := by
  intro p e R s m args below meth c D cA ad A0 H locs lsa C hP hD hS hl
  exact lv_idiv C.1 C.2.1 hd hne (k p e R s m args below meth c D cA ad A0 H locs lsa C hP hD hS hl)
theorem q_irem {x y : Int32} (hd : decode cc pc = .ok (.irem, 1)) (hne : ¬ y = 0) (k : q_E l cc nL ret own d S (pc + 1) ls (.inl (x - x / y * y) :: st) Q) : q_E l cc nL ret own d S pc ls (.inl y :: .inl x :: st) Q := by
  intro p e R s m args below meth c D cA ad A0 H locs lsa C hP hD hS hl
  exact lv_irem C.1 C.2.1 hd hne (k p e R s m args below meth c D cA ad A0 H locs lsa C hP hD hS hl)
theorem q_dup {v : qV} (hd : decode cc pc = .ok (.dup, 1)) (k : q_E l cc nL ret own d S (pc + 1) ls (v :: v :: st) Q) : q_E l cc nL ret own d S pc ls (v :: st) Q := by
  intro p e R s m args below meth c D cA ad A0 H locs lsa C hP hD hS hl
  exact lv_dup C.1 C.2.1 hd (q_v_cat ad v) (k p e R s m args below meth c D cA ad A0 H locs lsa C hP hD hS hl)
theorem q_pop {v : qV} (hd : decode cc pc = .ok (.pop, 1)) (k : q_E l cc nL ret own d S (pc + 1) ls st Q) : q_E l cc nL ret own d S pc ls (v :: st) Q := by
  intro p e R s m args below meth c D cA ad A0 H locs lsa C hP hD hS hl
  exact lv_pop C.1 C.2.1 hd (q_v_cat ad v) (k p e R s m args below meth c D cA ad A0 H locs lsa C hP hD hS hl)
theorem q_goto {off : Int} (tgt : Nat) (hd : decode cc pc = .ok (.goto off, 3)) (ht : (pc : Int) + off = (tgt : Int)) (k : q_E l cc nL ret own d S tgt ls st Q) : q_E l cc nL ret own d S pc ls st Q := by
  intro p e R s m args below meth c D cA ad A0 H locs lsa C hP hD hS hl
  exact lv_goto C.1 C.2.1 hd ht (k p e R s m args below meth c D cA ad A0 H locs lsa C hP hD hS hl)
theorem q_icmp_eq {x y : Int32} {off : Int} (tgt : Nat) (hd : decode cc pc = .ok (.if_icmp .eq off, 3)) (ht : (pc : Int) + off = (tgt : Int)) (kt : x = y → q_E l cc nL ret own d S tgt ls st Q) (kf : ¬ x = y → q_E l cc nL ret own d S (pc + 3) ls st Q) : q_E l cc nL ret own d S pc ls (.inl y :: .inl x :: st) Q := by
  intro p e R s m args below meth c D cA ad A0 H locs lsa C hP hD hS hl
  exact lv_icmp_eq C.1 C.2.1 hd ht (fun h => kt h p e R s m args below meth c D cA ad A0 H locs lsa C hP hD hS hl) (fun h => kf h p e R s m args below meth c D cA ad A0 H locs lsa C hP hD hS hl)
theorem q_icmp_ne {x y : Int32} {off : Int} (tgt : Nat) (hd : decode cc pc = .ok (.if_icmp .ne off, 3)) (ht : (pc : Int) + off = (tgt : Int)) (kt : ¬ x = y → q_E l cc nL ret own d S tgt ls st Q) (kf : x = y → q_E l cc nL ret own d S (pc + 3) ls st Q) : q_E l cc nL ret own d S pc ls (.inl y :: .inl x :: st) Q := by
  intro p e R s m args below meth c D cA ad A0 H locs lsa C hP hD hS hl
  exact lv_icmp_ne C.1 C.2.1 hd ht (fun h => kt h p e R s m args below meth c D cA ad A0 H locs lsa C hP hD hS hl) (fun h => kf h p e R s m args below meth c D cA ad A0 H locs lsa C hP hD hS hl)
theorem q_icmp_lt {x y : Int32} {off : Int} (tgt : Nat) (hd : decode cc pc = .ok (.if_icmp .lt off, 3)) (ht : (pc : Int) + off = (tgt : Int)) (kt : x < y → q_E l cc nL ret own d S tgt ls st Q) (kf : ¬ x < y → q_E l cc nL ret own d S (pc + 3) ls st Q) : q_E l cc nL ret own d S pc ls (.inl y :: .inl x :: st) Q := by
  intro p e R s m args below meth c D cA ad A0 H locs lsa C hP hD hS hl
  exact lv_icmp_lt C.1 C.2.1 hd ht (fun h => kt h p e R s m args below meth c D cA ad A0 H locs lsa C hP hD hS hl) (fun h => kf h p e R s m args below meth c D cA ad A0 H locs lsa C hP hD hS hl)
theorem q_icmp_ge {x y : Int32} {off : Int} (tgt : Nat) (hd : decode cc pc = .ok (.if_icmp .ge off, 3)) (ht : (pc : Int) + off = (tgt : Int)) (kt : y ≤ x → q_E l cc nL ret own d S tgt ls st Q) (kf : ¬ y ≤ x → q_E l cc nL ret own d S (pc + 3) ls st Q) : q_E l cc nL ret own d S pc ls (.inl y :: .inl x :: st) Q := by
  intro p e R s m args below meth c D cA ad A0 H locs lsa C hP hD hS hl
  exact lv_icmp_ge C.1 C.2.1 hd ht (fun h => kt h p e R s m args below meth c D cA ad A0 H locs lsa C hP hD hS hl) (fun h => kf h p e R s m args below meth c D cA ad A0 H locs lsa C hP hD hS hl)
theorem q_icmp_gt {x y : Int32} {off : Int} (tgt : Nat) (hd : decode cc pc = .ok (.if_icmp .gt off, 3)) (ht : (pc : Int) + off = (tgt : Int)) (kt : y < x → q_E l cc nL ret own d S tgt ls st Q) (kf : ¬ y < x → q_E l cc nL ret own d S (pc + 3) ls st Q) : q_E l cc nL ret own d S pc ls (.inl y :: .inl x :: st) Q := by
  intro p e R s m args below meth c D cA ad A0 H locs lsa C hP hD hS hl
  exact lv_icmp_gt C.1 C.2.1 hd ht (fun h => kt h p e R s m args below meth c D cA ad A0 H locs lsa C hP hD hS hl) (fun h => kf h p e R s m args below meth c D cA ad A0 H locs lsa C hP hD hS hl)
theorem q_icmp_le {x y : Int32} {off : Int} (tgt : Nat) (hd : decode cc pc = .ok (.if_icmp .le off, 3)) (ht : (pc : Int) + off = (tgt : Int)) (kt : x ≤ y → q_E l cc nL ret own d S tgt ls st Q) (kf : ¬ x ≤ y → q_E l cc nL ret own d S (pc + 3) ls st Q) : q_E l cc nL ret own d S pc ls (.inl y :: .inl x :: st) Q := by
  intro p e R s m args below meth c D cA ad A0 H locs lsa C hP hD hS hl
  exact lv_icmp_le C.1 C.2.1 hd ht (fun h => kt h p e R s m args below meth c D cA ad A0 H locs lsa C hP hD hS hl) (fun h => kf h p e R s m args below meth c D cA ad A0 H locs lsa C hP hD hS hl)
theorem q_if_eq {x : Int32} {off : Int} (tgt : Nat) (hd : decode cc pc = .ok (.ifCond .eq off, 3)) (ht : (pc : Int) + off = (tgt : Int)) (kt : x = 0 → q_E l cc nL ret own d S tgt ls st Q) (kf : ¬ x = 0 → q_E l cc nL ret own d S (pc + 3) ls st Q) : q_E l cc nL ret own d S pc ls (.inl x :: st) Q := by
  intro p e R s m args below meth c D cA ad A0 H locs lsa C hP hD hS hl
  exact lv_if_eq C.1 C.2.1 hd ht (fun h => kt h p e R s m args below meth c D cA ad A0 H locs lsa C hP hD hS hl) (fun h => kf h p e R s m args below meth c D cA ad A0 H locs lsa C hP hD hS hl)
theorem q_if_ne {x : Int32} {off : Int} (tgt : Nat) (hd : decode cc pc = .ok (.ifCond .ne off, 3)) (ht : (pc : Int) + off = (tgt : Int)) (kt : ¬ x = 0 → q_E l cc nL ret own d S tgt ls st Q) (kf : x = 0 → q_E l cc nL ret own d S (pc + 3) ls st Q) : q_E l cc nL ret own d S pc ls (.inl x :: st) Q := by
  intro p e R s m args below meth c D cA ad A0 H locs lsa C hP hD hS hl
  exact lv_if_ne C.1 C.2.1 hd ht (fun h => kt h p e R s m args below meth c D cA ad A0 H locs lsa C hP hD hS hl) (fun h => kf h p e R s m args below meth c D cA ad A0 H locs lsa C hP hD hS hl)
theorem q_if_lt {x : Int32} {off : Int} (tgt : Nat) (hd : decode cc pc = .ok (.ifCond .lt off, 3)) (ht : (pc : Int) + off = (tgt : Int)) (kt : x < 0 → q_E l cc nL ret own d S tgt ls st Q) (kf : ¬ x < 0 → q_E l cc nL ret own d S (pc + 3) ls st Q) : q_E l cc nL ret own d S pc ls (.inl x :: st) Q := by
  intro p e R s m args below meth c D cA ad A0 H locs lsa C hP hD hS hl
  exact lv_if_lt C.1 C.2.1 hd ht (fun h => kt h p e R s m args below meth c D cA ad A0 H locs lsa C hP hD hS hl) (fun h => kf h p e R s m args below meth c D cA ad A0 H locs lsa C hP hD hS hl)
theorem q_if_ge {x : Int32} {off : Int} (tgt : Nat) (hd : decode cc pc = .ok (.ifCond .ge off, 3)) (ht : (pc : Int) + off = (tgt : Int)) (kt : 0 ≤ x → q_E l cc nL ret own d S tgt ls st Q) (kf : ¬ 0 ≤ x → q_E l cc nL ret own d S (pc + 3) ls st Q) : q_E l cc nL ret own d S pc ls (.inl x :: st) Q := by
  intro p e R s m args below meth c D cA ad A0 H locs lsa C hP hD hS hl
  exact lv_if_ge C.1 C.2.1 hd ht (fun h => kt h p e R s m args below meth c D cA ad A0 H locs lsa C hP hD hS hl) (fun h => kf h p e R s m args below meth c D cA ad A0 H locs lsa C hP hD hS hl)
theorem q_if_gt {x : Int32} {off : Int} (tgt : Nat) (hd : decode cc pc = .ok (.ifCond .gt off, 3)) (ht : (pc : Int) + off = (tgt : Int)) (kt : 0 < x → q_E l cc nL ret own d S tgt ls st Q) (kf : ¬ 0 < x → q_E l cc nL ret own d S (pc + 3) ls st Q) : q_E l cc nL ret own d S pc ls (.inl x :: st) Q := by
  intro p e R s m args below meth c D cA ad A0 H locs lsa C hP hD hS hl
  exact lv_if_gt C.1 C.2.1 hd ht (fun h => kt h p e R s m args below meth c D cA ad A0 H locs lsa C hP hD hS hl) (fun h => kf h p e R s m args below meth c D cA ad A0 H locs lsa C hP hD hS hl)
theorem q_if_le {x : Int32} {off : Int} (tgt : Nat) (hd : decode cc pc = .ok (.ifCond .le off, 3)) (ht : (pc : Int) + off = (tgt : Int)) (kt : x ≤ 0 → q_E l cc nL ret own d S tgt ls st Q) (kf : ¬ x ≤ 0 → q_E l cc nL ret own d S (pc + 3) ls st Q) : q_E l cc nL ret own d S pc ls (.inl x :: st) Q := by
  intro p e R s m args below meth c D cA ad A0 H locs lsa C hP hD hS hl
  exact lv_if_le C.1 C.2.1 hd ht (fun h => kt h p e R s m args below meth c D cA ad A0 H locs lsa C hP hD hS hl) (fun h => kf h p e R s m args below meth c D cA ad A0 H locs lsa C hP hD hS hl)
theorem q_tableIn {dflt lo hi : Int} {offs : Array Int} {len : Nat} {x : Int32} {off : Int} (tgt : Nat) (hd : decode cc pc = .ok (.tableswitch dflt lo hi offs, len)) (h1 : ¬ x.toInt < lo) (h2 : ¬ hi < x.toInt) (ho : offs[(x.toInt - lo).toNat]? = some off) (ht : (pc : Int) + off = (tgt : Int)) (k : q_E l cc nL ret own d S tgt ls st Q) : q_E l cc nL ret own d S pc ls (.inl x :: st) Q := by
  intro p e R s m args below meth c D cA ad A0 H locs lsa C hP hD hS hl
  exact lv_tableIn C.1 C.2.1 hd h1 h2 ho ht (k p e R s m args below meth c D cA ad A0 H locs lsa C hP hD hS hl)
theorem q_tableOut {dflt lo hi : Int} {offs : Array Int} {len : Nat} {x : Int32} (tgt : Nat) (hd : decode cc pc = .ok (.tableswitch dflt lo hi offs, len)) (h : x.toInt < lo ∨ hi < x.toInt) (ht : (pc : Int) + dflt = (tgt : Int)) (k : q_E l cc nL ret own d S tgt ls st Q) : q_E l cc nL ret own d S pc ls (.inl x :: st) Q := by
  intro p e R s m args below meth c D cA ad A0 H locs lsa C hP hD hS hl
  exact lv_tableOut C.1 C.2.1 hd h ht (k p e R s m args below meth c D cA ad A0 H locs lsa C hP hD hS hl)
def q_FL (own : String) (idx ci j : Nat) : Prop := ∃ (C : String) (T : u_T) (N : Nat), vwCl[ci]? = some (C, T, N) ∧ j < N ∧ Cond.fieldLink own idx (T j).1 (T j).2.1 (T j).2.2.1 ∈ q_tbl ∧ (∀ w ∈ u_ws C T N, w ∈ q_tbl)
def q_FP (ci j : Nat) : Prop := ∀ (C : String) (T : u_T) (N : Nat), vwCl[ci]? = some (C, T, N) → ∃ ty0 : Nat → FieldType, (∀ k, k < N → parseFieldDescriptor (T k).2.2.1 = some (ty0 k)) ∧ (∀ a, a < N → ∀ b, b < N → a ≠ b → (T a).2.1 ≠ (T b).2.1) ∧ (T j).2.2.2 = false ∧ parseFieldDescriptor (T j).2.2.1 = some .int
theorem q_geti {idx ci j k : Nat} {fs : List (Option Nat)} (hd : decode cc pc = .ok (.getfield idx, 3)) (hf : q_FL own idx ci j) (hy : q_lay[k]? = some (.inr (ci, fs))) (hv : fs[j]? = some (none)) (kk : q_E l cc nL ret own d S (pc + 3) ls (.inl (S k j) :: st) Q) : q_E l cc nL ret own d S pc ls (.inr k :: st) Q := by
  intro p e R s m args below meth c D cA ad A0 H locs lsa C hP hD hS hl
  obtain ⟨CC, T, N, h1, h2, h3, h4⟩ := hf
  refine va_get (D := D) (ci := ci) (v := .int (S k j)) (C := CC) (T := T) (N := N) C.1 C.2.1 C.2.2.2.2.2.1 h4 C.2.2.2.2.1 C.2.2.2.2.2.2.1 hP k (fs := fs.mapIdx (fun j f => q_f ad (S k) j f)) (q_w_get hy) h1 j h2 (C.2.2.2.2.2.1 _ h3) (fun _ h9 => h9) ?_ hd (kk p e R s m args below meth c D cA ad A0 H locs lsa C hP hD hS hl)
  rw [List.getElem?_mapIdx, hv]
  rfl
theorem q_getr {idx ci j k k2 : Nat} {fs : List (Option Nat)} (hd : decode cc pc = .ok (.getfield idx, 3)) (hf : q_FL own idx ci j) (hy : q_lay[k]? = some (.inr (ci, fs))) (hv : fs[j]? = some (some k2)) (kk : q_E l cc nL ret own d S (pc + 3) ls (.inr k2 :: st) Q) : q_E l cc nL ret own d S pc ls (.inr k :: st) Q := by
  intro p e R s m args below meth c D cA ad A0 H locs lsa C hP hD hS hl
  obtain ⟨CC, T, N, h1, h2, h3, h4⟩ := hf
  refine va_get (D := D) (ci := ci) (v := .ref (ad k2)) (C := CC) (T := T) (N := N) C.1 C.2.1 C.2.2.2.2.2.1 h4 C.2.2.2.2.1 C.2.2.2.2.2.2.1 hP k (fs := fs.mapIdx (fun j f => q_f ad (S k) j f)) (q_w_get hy) h1 j h2 (C.2.2.2.2.2.1 _ h3) (fun _ h9 => h9) ?_ hd (kk p e R s m args below meth c D cA ad A0 H locs lsa C hP hD hS hl)
  rw [List.getElem?_mapIdx, hv]
  rfl
theorem q_put {idx ci j k : Nat} {fs : List (Option Nat)} {x : Int32} (hd : decode cc pc = .ok (.putfield idx, 3)) (hf : q_FL own idx ci j) (hp : q_FP ci j) (hy : q_lay[k]? = some (.inr (ci, fs))) (hv : fs[j]? = some none) (kk : q_E l cc nL ret own d (q_up S k j x) (pc + 3) ls st Q) : q_E l cc nL ret own d S pc ls (.inl x :: .inr k :: st) Q := by
  intro p e R s m args below meth c D cA ad A0 H locs lsa C hP hD hS hl
  obtain ⟨CC, T, N, h1, h2, h3, h4⟩ := hf
  obtain ⟨ty0, g1, g2, g3, g4⟩ := hp CC T N h1
  refine va_put (D := D) (ci := ci) (v := .int x) (ty := .int) (C := CC) (T := T) (N := N) C.1 C.2.1 C.2.2.2.2.2.1 h4 ty0 g1 g2 C.2.2.2.2.1 C.2.2.2.2.2.2.1 hP hD hS k (fs := fs.mapIdx (fun j f => q_f ad (S k) j f)) (q_w_get hy) h1 j h2 (C.2.2.2.2.2.1 _ h3) (fun _ h9 => h9) g3 g4 rfl rfl (by simpa using (List.getElem?_eq_some_iff.mp hv).1) hd (fun H1 locs1 hP1 hD1 hS1 => ?_)
  rw [q_w_set hy (q_e_put hv)] at hP1 hD1
  exact kk p e R s m args below meth c D cA ad A0 H1 locs1 lsa C hP1 hD1 hS1 hl
theorem q_iald {k n : Nat} {i : Int32} (hd : decode cc pc = .ok (.iaload, 1)) (hy : q_lay[k]? = some (.inl n)) (hin : vp_in i n) (kk : q_E l cc nL ret own d S (pc + 1) ls (.inl (S k i.toNatClampNeg) :: st) Q) : q_E l cc nL ret own d S pc ls (.inl i :: .inr k :: st) Q := by
  intro p e R s m args below meth c D cA ad A0 H locs lsa C hP hD hS hl
  exact va_iald C.1 C.2.1 C.2.2.2.2.2.2.1 hP k 0 (q_w_get hy) rfl hin hd (kk p e R s m args below meth c D cA ad A0 H locs lsa C hP hD hS hl)
theorem q_iast {k n : Nat} {i x : Int32} (hd : decode cc pc = .ok (.iastore, 1)) (hy : q_lay[k]? = some (.inl n)) (hin : vp_in i n) (kk : q_E l cc nL ret own d (q_up S k i.toNatClampNeg x) (pc + 1) ls st Q) : q_E l cc nL ret own d S pc ls (.inl x :: .inl i :: .inr k :: st) Q := by
  intro p e R s m args below meth c D cA ad A0 H locs lsa C hP hD hS hl
  refine va_iast C.1 C.2.1 C.2.2.2.2.2.2.1 hP hD hS k 0 (q_w_get hy) rfl hin hd (fun H1 locs1 hP1 hD1 hS1 => ?_)
  rw [q_w_set (j := i.toNatClampNeg) (v := x) (E := .inl (cA, n, .inl (upd (S k) i.toNatClampNeg x))) hy rfl] at hP1 hD1
  exact kk p e R s m args below meth c D cA ad A0 H1 locs1 lsa C hP1 hD1 hS1 hl
theorem q_ret {v : Int32} {ty : FieldType} (hd : decode cc pc = .ok (.ireturn, 1)) (hr : ret = some ty) (hn : narrow ty (.int v) = .int v) (k : Q (some v) S) : q_E l cc nL ret own d S pc ls [.inl v] Q := by
  intro p e R s m args below meth c D cA ad A0 H locs lsa C hP hD hS hl
  subst hr
  exact W.zret C.1 C.2.1 C.2.2.2.1 hn (fun t ht _ => ⟨⟨some v, S, rfl, k, by rw [ht]; exact hP, hD⟩, hS.F ht⟩) hS.2.2 hd C.2.2.2.2.2.2.2.1
theorem q_vret (hd : decode cc pc = .ok (.return_, 1)) (hr : ret = none) (k : Q none S) : q_E l cc nL ret own d S pc ls [] Q := by
  intro p e R s m args below meth c D cA ad A0 H locs lsa C hP hD hS hl
  subst hr
  exact W.vret C.1 C.2.1 C.2.2.2.1 (fun t ht _ => ⟨⟨none, S, rfl, k, by rw [ht]; exact hP, hD⟩, hS.F ht⟩) hS.2.2 hd C.2.2.2.2.2.2.2.1
theorem q_max {idx : Nat} {x y : Int32} (hd : decode cc pc = .ok (.invokestatic idx, 3)) (hk : Cond.methodLink own idx Lib.Math.max.name ∈ q_tbl) (hr : st.length ≤ 8) (h1 : 1 ≤ d) (kk : q_E l cc nL ret own d S (pc + 3) ls (.inl (if x < y then y else x) :: st) Q) : q_E l cc nL ret own d S pc ls (.inl y :: .inl x :: st) Q := by
  intro p e R s m args below meth c D cA ad A0 H locs lsa C hP hD hS hl
  have hst : ((st.map (q_v ad)).map fun v => v.category).sum ≤ 8 := by rw [q_cats]; exact hr
  have hr2 : 30 ≤ R.locals := by have := C.2.2.2.2.2.2.2.2.1.2; omega
  exact va_mmax C.1 C.2.1 (by rw [C.2.2.1, hl.1]) C.2.2.2.2.1 (C.2.2.2.2.2.1 _ hk) (C.2.2.2.2.2.1 _ q_mx1) (C.2.2.2.2.2.1 _ q_mx2) (C.2.2.2.2.2.1 _ q_mx3) (by have := C.2.2.2.2.2.2.2.2.1.1; omega) (by omega) (Nat.zero_le _) (Nat.zero_le _) hd (kk p e R s m args below meth c D cA ad A0 H locs lsa C hP hD hS hl)
def q_CV (own : String) (idx ci : Nat) (y : MethodName) (cc : ByteArray) (nL : Nat) (ret : Option FieldType) (n : Nat) : Prop := ∃ (C : String) (T : u_T) (N : Nat), vwCl[ci]? = some (C, T, N) ∧ y.cls = C ∧ Cond.methodLink own idx y ∈ q_tbl ∧ Cond.instanceMethod y ∈ q_tbl ∧ Cond.selects C y y ∈ q_tbl ∧ Cond.initialized C ∈ q_tbl ∧ Cond.code y cc nL ret ∈ q_tbl ∧ (y.cls ≠ "java/lang/invoke/MethodHandle" ∧ y.cls ≠ "java/lang/invoke/VarHandle" ∧ (parseMethodDescriptor y.desc).map (fun d => d.parameters.length) = some n) ∧ nL ≤ 11
def q_CS (own : String) (idx : Nat) (y : MethodName) (cc : ByteArray) (nL : Nat) (ret : Option FieldType) (n : Nat) : Prop := Cond.methodLink own idx y ∈ q_tbl ∧ Cond.static y ∈ q_tbl ∧ Cond.initialized y.cls ∈ q_tbl ∧ Cond.code y cc nL ret ∈ q_tbl ∧ (y.cls ≠ "java/lang/invoke/MethodHandle" ∧ y.cls ≠ "java/lang/invoke/VarHandle" ∧ (parseMethodDescriptor y.desc).map (fun d => d.parameters.length) = some n) ∧ nL ≤ 11
theorem q_Pc_blind {D : va_G} {cA : ClassId} {ad : Nat → Nat} {sz : Nat} {as : List qV} : FrameBlind (q_Pc D cA ad sz as S) := by
  intro a U g mk ⟨q0, q1, qP, qK, qD, qN⟩
  exact ⟨q0, q1, qP, va_K.moved (u := U) (U := U.calling g mk a) (Vm.Alike.refl U.vm) qK, qD, va_Nw.same rfl rfl qN.1, va_Nw.same rfl rfl qN.2⟩
theorem q_Pc_in {D : va_G} {cA : ClassId} {ad : Nat → Nat} {as : List qV} {s : State} {H : Heap} {A0 : Nat → Prop} (hP : va_P D vwCl (q_w cA ad S) H) (hD : va_D A0 (q_w cA ad S)) (hK : va_K D vwCl [(cA, .int)] s) (hN : q_N s) : ∀ U : State, U.heap = H → s.WarmedH U.vm → q_Pc D cA ad H.size as S (as.map (q_v ad)).toArray U := by
  intro U hU hW
  exact ⟨rfl, by rw [hU], by rw [hU]; exact hP, va_K.moved hW.alike hK, hD.weaken (fun _ _ _ _ => trivial), va_Nw.warmM hW hN.1, va_Nw.warmM hW hN.2⟩
theorem q_A_in {cA : ClassId} {ad : Nat → Nat} {A0 : Nat → Prop} {s : State} {H : Heap} {locs : List Loc} (hD : va_D A0 (q_w cA ad S)) (hS : va_S A0 s.heap H locs) (hA : ∀ q : Nat, s.heap.size ≤ q → A0 q) : ∀ q : Nat, va_A (q_w cA ad S) H.size q → A0 q := by
  intro q h
  rcases h with ⟨k, e, h⟩ | h
  · exact hD.2 k _ h
  · exact hA q (Nat.le_trans hS.1 h)
theorem q_callVi {idx ci k : Nat} {fs : List (Option Nat)} {y : MethodName} {c2 : ByteArray} {n2 n : Nat} {r2 : Option FieldType} {As rest : List qV} (hd : decode cc pc = .ok (.invokevirtual idx, 3)) (hc : q_CV own idx ci y c2 n2 r2 n) (hy : q_lay[k]? = some (.inr (ci, fs))) (hn : As.length = n) (hr : rest.length ≤ 8) (h1 : 1 ≤ d) (hM : q_Mi l (d - 1) y c2 n2 r2 (.inr k :: As) S (fun v S2 => q_E l cc nL ret own d S2 (pc + 3) ls (.inl v :: rest) Q)) : q_E l cc nL ret own d S pc ls (As.reverse ++ .inr k :: rest) Q := by
  intro p e R s m args below meth c D cA ad A0 H locs lsa C hP hD hS hl
  have hts := C.2.2.2.2.2.1
  have hrm : (q_rm (d - 1)).frames + 1 ≤ R.frames ∧ 8 + (n2 + 11) + (q_rm (d - 1)).locals ≤ R.locals := by
    have a1 := C.2.2.2.2.2.2.2.2.1.1
    have a2 := C.2.2.2.2.2.2.2.2.1.2
    have a3 : n2 ≤ 11 := by obtain ⟨_, _, _, _, _, _, _, _, _, _, _, h9⟩ := hc; exact h9
    show d - 1 + 1 ≤ R.frames ∧ 8 + (n2 + 11) + 30 * (d - 1) ≤ R.locals
    omega
  obtain ⟨CC, T, N, g1, g2, g3, g4, g5, g6, g7, g8, g9⟩ := hc
  have hcw : CallW R s args own CC idx y c2 n2 r2 (q_ws y c2 n2 r2) (q_rm (d - 1)) 0 0 n := ⟨callB_of n hts (q_goodIn g7) rfl rfl rfl (by rw [g2]; exact hts _ g6) (hts _ g3) g8 hrm, hts _ g4, hts _ g5⟩
  have hFc := q_A_in hD hS C.2.2.2.2.2.2.2.2.2.1
  refine va_calli (va_runV (As := As.map (q_v ad)) (rest := rest.map (q_v ad)) ⟨C.1, C.2.1, C.2.2.1, C.2.2.2.2.1, hts⟩ (hM D cA ad H.size) hcw ⟨q_Pc_blind, va_recv C.2.2.2.2.2.2.1 hP (ci := ci) (q0 := k) g1 (q_w_get hy), q_Pc_in (as := .inr k :: As) hP hD C.2.2.2.2.2.2.1 C.2.2.2.2.2.2.2.2.2.2⟩ rfl (by rw [List.length_map]; exact hn) hl.1 (by simp [q_v]) (lv_room (by rw [q_cats]; exact hr)) hd ⟨Nat.zero_le _, Nat.zero_le _⟩) hS (fun q _ h => hFc q h) hFc (fun r u t H1 locs1 ht hvm hw hB hz1 hk1 hS1 => ?_)
  obtain ⟨hP1, hD1⟩ := hB
  rw [ht] at hP1
  exact hw p e R s m args below meth c D cA ad A0 H1 locs1 lsa C hP1 (hD1.weaken (fun _ q _ h => hFc q.1 h)) hS1 hl
theorem q_callSi {idx : Nat} {y : MethodName} {c2 : ByteArray} {n2 n : Nat} {r2 : Option FieldType} {As rest : List qV} (hd : decode cc pc = .ok (.invokestatic idx, 3)) (hc : q_CS own idx y c2 n2 r2 n) (hn : As.length = n) (hr : rest.length ≤ 8) (h1 : 1 ≤ d) (hM : q_Mi l (d - 1) y c2 n2 r2 As S (fun v S2 => q_E l cc nL ret own d S2 (pc + 3) ls (.inl v :: rest) Q)) : q_E l cc nL ret own d S pc ls (As.reverse ++ rest) Q := by
  intro p e R s m args below meth c D cA ad A0 H locs lsa C hP hD hS hl
  have hts := C.2.2.2.2.2.1
  have hrm : (q_rm (d - 1)).frames + 1 ≤ R.frames ∧ 8 + (n2 + 11) + (q_rm (d - 1)).locals ≤ R.locals := by
    have a1 := C.2.2.2.2.2.2.2.2.1.1
    have a2 := C.2.2.2.2.2.2.2.2.1.2
    have a3 : n2 ≤ 11 := by obtain ⟨_, _, _, _, _, h9⟩ := hc; exact h9
    show d - 1 + 1 ≤ R.frames ∧ 8 + (n2 + 11) + 30 * (d - 1) ≤ R.locals
    omega
  obtain ⟨g3, g4, g6, g7, g8, g9⟩ := hc
  have hcw : CallB R s args own idx y c2 n2 r2 (q_ws y c2 n2 r2) (q_rm (d - 1)) 0 0 n ∧ (Cond.static y).before args s = true := ⟨callB_of n hts (q_goodIn g7) rfl rfl rfl (hts _ g6) (hts _ g3) g8 hrm, hts _ g4⟩
  have hFc := q_A_in hD hS C.2.2.2.2.2.2.2.2.2.1
  refine va_calli (va_runS (As := As.map (q_v ad)) (rest := rest.map (q_v ad)) ⟨C.1, C.2.1, C.2.2.1, C.2.2.2.2.1, hts⟩ (hM D cA ad H.size) hcw ⟨q_Pc_blind, q_Pc_in (as := As) hP hD C.2.2.2.2.2.2.1 C.2.2.2.2.2.2.2.2.2.2⟩ rfl (by rw [List.length_map]; exact hn) hl.1 (by simp) (lv_room (by rw [q_cats]; exact hr)) hd ⟨Nat.zero_le _, Nat.zero_le _⟩) hS (fun q _ h => hFc q h) hFc (fun r u t H1 locs1 ht hvm hw hB hz1 hk1 hS1 => ?_)
  obtain ⟨hP1, hD1⟩ := hB
  rw [ht] at hP1
  exact hw p e R s m args below meth c D cA ad A0 H1 locs1 lsa C hP1 (hD1.weaken (fun _ q _ h => hFc q.1 h)) hS1 hl
theorem q_callNi {idx : Nat} {y : MethodName} {c2 : ByteArray} {n2 n : Nat} {r2 : Option FieldType} {As rest : List qV} (hd : decode cc pc = .ok (.invokestatic idx, 3)) (hc : (Cond.methodLinkNest own idx y RX8 = Cond.methodLinkNest RX6 48 yX8_isType RX8 ∨ Cond.methodLinkNest own idx y RX8 = Cond.methodLinkNest RX6 61 yX8_isValue RX8) ∧ Cond.static y ∈ q_tbl ∧ Cond.initialized y.cls ∈ q_tbl ∧ Cond.code y c2 n2 r2 ∈ q_tbl ∧ (y.cls ≠ "java/lang/invoke/MethodHandle" ∧ y.cls ≠ "java/lang/invoke/VarHandle" ∧ (parseMethodDescriptor y.desc).map (fun d => d.parameters.length) = some n) ∧ n2 ≤ 11) (hn : As.length = n) (hr : rest.length ≤ 8) (h1 : 1 ≤ d) (hM : q_Mi l (d - 1) y c2 n2 r2 As S (fun v S2 => q_E l cc nL ret own d S2 (pc + 3) ls (.inl v :: rest) Q)) : q_E l cc nL ret own d S pc ls (As.reverse ++ rest) Q := by
  intro p e R s m args below meth c D cA ad A0 H locs lsa C hP hD hS hl
  have hts := C.2.2.2.2.2.1
  have hrm : (q_rm (d - 1)).frames + 1 ≤ R.frames ∧ 8 + (n2 + 11) + (q_rm (d - 1)).locals ≤ R.locals := by
    have a1 := C.2.2.2.2.2.2.2.2.1.1
    have a2 := C.2.2.2.2.2.2.2.2.1.2
    have a3 : n2 ≤ 11 := by obtain ⟨_, _, _, _, _, h9⟩ := hc; exact h9
    show d - 1 + 1 ≤ R.frames ∧ 8 + (n2 + 11) + 30 * (d - 1) ≤ R.locals
    omega
  obtain ⟨g3, g4, g6, g7, g8, g9⟩ := hc
  have hnl : va_Nw (.methodLinkNest own idx y RX8) s := by
    rcases g3 with g | g
    · rw [g]; exact C.2.2.2.2.2.2.2.2.2.2.1
    · rw [g]; exact C.2.2.2.2.2.2.2.2.2.2.2
  have hcw : va_CN R s args own idx y RX8 c2 n2 r2 (q_ws y c2 n2 r2) (q_rm (d - 1)) 0 0 n ∧ (Cond.static y).before args s = true ∧ True := ⟨va_cnB n hts (q_goodIn g7) rfl rfl rfl hnl (hts _ g6) g8 hrm, hts _ g4, trivial⟩
  have hFc := q_A_in hD hS C.2.2.2.2.2.2.2.2.2.1
  refine va_calli (va_runSN (As := As.map (q_v ad)) (rest := rest.map (q_v ad)) ⟨C.1, C.2.1, C.2.2.1, C.2.2.2.2.1, hts⟩ (hM D cA ad H.size) hcw ⟨q_Pc_blind, q_Pc_in (as := As) hP hD C.2.2.2.2.2.2.1 C.2.2.2.2.2.2.2.2.2.2⟩ rfl (by rw [List.length_map]; exact hn) hl.1 (by simp) (lv_room (by rw [q_cats]; exact hr)) hd ⟨Nat.zero_le _, Nat.zero_le _⟩) hS (fun q _ h => hFc q h) hFc (fun r u t H1 locs1 ht hvm hw hB hz1 hk1 hS1 => ?_)
  obtain ⟨hP1, hD1⟩ := hB
  rw [ht] at hP1
  exact hw p e R s m args below meth c D cA ad A0 H1 locs1 lsa C hP1 (hD1.weaken (fun _ q _ h => hFc q.1 h)) hS1 hl
theorem q_callVv {idx ci k : Nat} {fs : List (Option Nat)} {y : MethodName} {c2 : ByteArray} {n2 n : Nat} {r2 : Option FieldType} {As rest : List qV} (hd : decode cc pc = .ok (.invokevirtual idx, 3)) (hc : q_CV own idx ci y c2 n2 r2 n) (hy : q_lay[k]? = some (.inr (ci, fs))) (hn : As.length = n) (hr : rest.length ≤ 8) (h1 : 1 ≤ d) (hM : q_Mv l (d - 1) y c2 n2 r2 (.inr k :: As) S (fun S2 => q_E l cc nL ret own d S2 (pc + 3) ls rest Q)) : q_E l cc nL ret own d S pc ls (As.reverse ++ .inr k :: rest) Q := by
  intro p e R s m args below meth c D cA ad A0 H locs lsa C hP hD hS hl
  have hts := C.2.2.2.2.2.1
  have hrm : (q_rm (d - 1)).frames + 1 ≤ R.frames ∧ 8 + (n2 + 11) + (q_rm (d - 1)).locals ≤ R.locals := by
    have a1 := C.2.2.2.2.2.2.2.2.1.1
    have a2 := C.2.2.2.2.2.2.2.2.1.2
    have a3 : n2 ≤ 11 := by obtain ⟨_, _, _, _, _, _, _, _, _, _, _, h9⟩ := hc; exact h9
    show d - 1 + 1 ≤ R.frames ∧ 8 + (n2 + 11) + 30 * (d - 1) ≤ R.locals
    omega
  obtain ⟨CC, T, N, g1, g2, g3, g4, g5, g6, g7, g8, g9⟩ := hc
  have hcw : CallW R s args own CC idx y c2 n2 r2 (q_ws y c2 n2 r2) (q_rm (d - 1)) 0 0 n := ⟨callB_of n hts (q_goodIn g7) rfl rfl rfl (by rw [g2]; exact hts _ g6) (hts _ g3) g8 hrm, hts _ g4, hts _ g5⟩
  have hFc := q_A_in hD hS C.2.2.2.2.2.2.2.2.2.1
  refine va_callv (va_runV (As := As.map (q_v ad)) (rest := rest.map (q_v ad)) ⟨C.1, C.2.1, C.2.2.1, C.2.2.2.2.1, hts⟩ (hM D cA ad H.size) hcw ⟨q_Pc_blind, va_recv C.2.2.2.2.2.2.1 hP (ci := ci) (q0 := k) g1 (q_w_get hy), q_Pc_in (as := .inr k :: As) hP hD C.2.2.2.2.2.2.1 C.2.2.2.2.2.2.2.2.2.2⟩ rfl (by rw [List.length_map]; exact hn) hl.1 (by simp [q_v]) (lv_room (by rw [q_cats]; exact hr)) hd ⟨Nat.zero_le _, Nat.zero_le _⟩) hS (fun q _ h => hFc q h) hFc (fun u t H1 locs1 ht hvm hw hB hz1 hk1 hS1 => ?_)
  obtain ⟨hP1, hD1⟩ := hB
  rw [ht] at hP1
  exact hw p e R s m args below meth c D cA ad A0 H1 locs1 lsa C hP1 (hD1.weaken (fun _ q _ h => hFc q.1 h)) hS1 hl
theorem q_callVi0 {idx ci k : Nat} {fs : List (Option Nat)} {y : MethodName} {c2 : ByteArray} {n2 : Nat} {r2 : Option FieldType} {rest : List qV} (hd : decode cc pc = .ok (.invokevirtual idx, 3)) (hc : q_CV own idx ci y c2 n2 r2 0) (hy : q_lay[k]? = some (.inr (ci, fs))) (hr : rest.length ≤ 8) (h1 : 1 ≤ d) (hM : q_Mi l (d - 1) y c2 n2 r2 [.inr k] S (fun v S2 => q_E l cc nL ret own d S2 (pc + 3) ls (.inl v :: rest) Q)) : q_E l cc nL ret own d S pc ls (.inr k :: rest) Q := q_callVi (As := []) hd hc hy rfl hr h1 hM
theorem q_callVi1 {idx ci k : Nat} {fs : List (Option Nat)} {y : MethodName} {c2 : ByteArray} {n2 : Nat} {r2 : Option FieldType} {rest : List qV} {a1 : Int32} (hd : decode cc pc = .ok (.invokevirtual idx, 3)) (hc : q_CV own idx ci y c2 n2 r2 1) (hy : q_lay[k]? = some (.inr (ci, fs))) (hr : rest.length ≤ 8) (h1 : 1 ≤ d) (hM : q_Mi l (d - 1) y c2 n2 r2 [.inr k, .inl a1] S (fun v S2 => q_E l cc nL ret own d S2 (pc + 3) ls (.inl v :: rest) Q)) : q_E l cc nL ret own d S pc ls (.inl a1 :: .inr k :: rest) Q := q_callVi (As := [.inl a1]) hd hc hy rfl hr h1 hM
theorem q_callVi2 {idx ci k : Nat} {fs : List (Option Nat)} {y : MethodName} {c2 : ByteArray} {n2 : Nat} {r2 : Option FieldType} {rest : List qV} {a1 a2 : Int32} (hd : decode cc pc = .ok (.invokevirtual idx, 3)) (hc : q_CV own idx ci y c2 n2 r2 2) (hy : q_lay[k]? = some (.inr (ci, fs))) (hr : rest.length ≤ 8) (h1 : 1 ≤ d) (hM : q_Mi l (d - 1) y c2 n2 r2 [.inr k, .inl a1, .inl a2] S (fun v S2 => q_E l cc nL ret own d S2 (pc + 3) ls (.inl v :: rest) Q)) : q_E l cc nL ret own d S pc ls (.inl a2 :: .inl a1 :: .inr k :: rest) Q := q_callVi (As := [.inl a1, .inl a2]) hd hc hy rfl hr h1 hM
theorem q_callVi3 {idx ci k : Nat} {fs : List (Option Nat)} {y : MethodName} {c2 : ByteArray} {n2 : Nat} {r2 : Option FieldType} {rest : List qV} {a1 a2 a3 : Int32} (hd : decode cc pc = .ok (.invokevirtual idx, 3)) (hc : q_CV own idx ci y c2 n2 r2 3) (hy : q_lay[k]? = some (.inr (ci, fs))) (hr : rest.length ≤ 8) (h1 : 1 ≤ d) (hM : q_Mi l (d - 1) y c2 n2 r2 [.inr k, .inl a1, .inl a2, .inl a3] S (fun v S2 => q_E l cc nL ret own d S2 (pc + 3) ls (.inl v :: rest) Q)) : q_E l cc nL ret own d S pc ls (.inl a3 :: .inl a2 :: .inl a1 :: .inr k :: rest) Q := q_callVi (As := [.inl a1, .inl a2, .inl a3]) hd hc hy rfl hr h1 hM
theorem q_callVi4 {idx ci k : Nat} {fs : List (Option Nat)} {y : MethodName} {c2 : ByteArray} {n2 : Nat} {r2 : Option FieldType} {rest : List qV} {a1 a2 a3 a4 : Int32} (hd : decode cc pc = .ok (.invokevirtual idx, 3)) (hc : q_CV own idx ci y c2 n2 r2 4) (hy : q_lay[k]? = some (.inr (ci, fs))) (hr : rest.length ≤ 8) (h1 : 1 ≤ d) (hM : q_Mi l (d - 1) y c2 n2 r2 [.inr k, .inl a1, .inl a2, .inl a3, .inl a4] S (fun v S2 => q_E l cc nL ret own d S2 (pc + 3) ls (.inl v :: rest) Q)) : q_E l cc nL ret own d S pc ls (.inl a4 :: .inl a3 :: .inl a2 :: .inl a1 :: .inr k :: rest) Q := q_callVi (As := [.inl a1, .inl a2, .inl a3, .inl a4]) hd hc hy rfl hr h1 hM
theorem q_callVi5 {idx ci k : Nat} {fs : List (Option Nat)} {y : MethodName} {c2 : ByteArray} {n2 : Nat} {r2 : Option FieldType} {rest : List qV} {a1 a2 a3 a4 a5 : Int32} (hd : decode cc pc = .ok (.invokevirtual idx, 3)) (hc : q_CV own idx ci y c2 n2 r2 5) (hy : q_lay[k]? = some (.inr (ci, fs))) (hr : rest.length ≤ 8) (h1 : 1 ≤ d) (hM : q_Mi l (d - 1) y c2 n2 r2 [.inr k, .inl a1, .inl a2, .inl a3, .inl a4, .inl a5] S (fun v S2 => q_E l cc nL ret own d S2 (pc + 3) ls (.inl v :: rest) Q)) : q_E l cc nL ret own d S pc ls (.inl a5 :: .inl a4 :: .inl a3 :: .inl a2 :: .inl a1 :: .inr k :: rest) Q := q_callVi (As := [.inl a1, .inl a2, .inl a3, .inl a4, .inl a5]) hd hc hy rfl hr h1 hM
theorem q_callVi6 {idx ci k : Nat} {fs : List (Option Nat)} {y : MethodName} {c2 : ByteArray} {n2 : Nat} {r2 : Option FieldType} {rest : List qV} {a1 a2 a3 a4 a5 a6 : Int32} (hd : decode cc pc = .ok (.invokevirtual idx, 3)) (hc : q_CV own idx ci y c2 n2 r2 6) (hy : q_lay[k]? = some (.inr (ci, fs))) (hr : rest.length ≤ 8) (h1 : 1 ≤ d) (hM : q_Mi l (d - 1) y c2 n2 r2 [.inr k, .inl a1, .inl a2, .inl a3, .inl a4, .inl a5, .inl a6] S (fun v S2 => q_E l cc nL ret own d S2 (pc + 3) ls (.inl v :: rest) Q)) : q_E l cc nL ret own d S pc ls (.inl a6 :: .inl a5 :: .inl a4 :: .inl a3 :: .inl a2 :: .inl a1 :: .inr k :: rest) Q := q_callVi (As := [.inl a1, .inl a2, .inl a3, .inl a4, .inl a5, .inl a6]) hd hc hy rfl hr h1 hM
theorem q_callVv0 {idx ci k : Nat} {fs : List (Option Nat)} {y : MethodName} {c2 : ByteArray} {n2 : Nat} {r2 : Option FieldType} {rest : List qV} (hd : decode cc pc = .ok (.invokevirtual idx, 3)) (hc : q_CV own idx ci y c2 n2 r2 0) (hy : q_lay[k]? = some (.inr (ci, fs))) (hr : rest.length ≤ 8) (h1 : 1 ≤ d) (hM : q_Mv l (d - 1) y c2 n2 r2 [.inr k] S (fun S2 => q_E l cc nL ret own d S2 (pc + 3) ls rest Q)) : q_E l cc nL ret own d S pc ls (.inr k :: rest) Q := q_callVv (As := []) hd hc hy rfl hr h1 hM
theorem q_callVv1 {idx ci k : Nat} {fs : List (Option Nat)} {y : MethodName} {c2 : ByteArray} {n2 : Nat} {r2 : Option FieldType} {rest : List qV} {a1 : Int32} (hd : decode cc pc = .ok (.invokevirtual idx, 3)) (hc : q_CV own idx ci y c2 n2 r2 1) (hy : q_lay[k]? = some (.inr (ci, fs))) (hr : rest.length ≤ 8) (h1 : 1 ≤ d) (hM : q_Mv l (d - 1) y c2 n2 r2 [.inr k, .inl a1] S (fun S2 => q_E l cc nL ret own d S2 (pc + 3) ls rest Q)) : q_E l cc nL ret own d S pc ls (.inl a1 :: .inr k :: rest) Q := q_callVv (As := [.inl a1]) hd hc hy rfl hr h1 hM
theorem q_callVv2 {idx ci k : Nat} {fs : List (Option Nat)} {y : MethodName} {c2 : ByteArray} {n2 : Nat} {r2 : Option FieldType} {rest : List qV} {a1 a2 : Int32} (hd : decode cc pc = .ok (.invokevirtual idx, 3)) (hc : q_CV own idx ci y c2 n2 r2 2) (hy : q_lay[k]? = some (.inr (ci, fs))) (hr : rest.length ≤ 8) (h1 : 1 ≤ d) (hM : q_Mv l (d - 1) y c2 n2 r2 [.inr k, .inl a1, .inl a2] S (fun S2 => q_E l cc nL ret own d S2 (pc + 3) ls rest Q)) : q_E l cc nL ret own d S pc ls (.inl a2 :: .inl a1 :: .inr k :: rest) Q := q_callVv (As := [.inl a1, .inl a2]) hd hc hy rfl hr h1 hM
theorem q_callVv3 {idx ci k : Nat} {fs : List (Option Nat)} {y : MethodName} {c2 : ByteArray} {n2 : Nat} {r2 : Option FieldType} {rest : List qV} {a1 a2 a3 : Int32} (hd : decode cc pc = .ok (.invokevirtual idx, 3)) (hc : q_CV own idx ci y c2 n2 r2 3) (hy : q_lay[k]? = some (.inr (ci, fs))) (hr : rest.length ≤ 8) (h1 : 1 ≤ d) (hM : q_Mv l (d - 1) y c2 n2 r2 [.inr k, .inl a1, .inl a2, .inl a3] S (fun S2 => q_E l cc nL ret own d S2 (pc + 3) ls rest Q)) : q_E l cc nL ret own d S pc ls (.inl a3 :: .inl a2 :: .inl a1 :: .inr k :: rest) Q := q_callVv (As := [.inl a1, .inl a2, .inl a3]) hd hc hy rfl hr h1 hM
theorem q_callVv4 {idx ci k : Nat} {fs : List (Option Nat)} {y : MethodName} {c2 : ByteArray} {n2 : Nat} {r2 : Option FieldType} {rest : List qV} {a1 a2 a3 a4 : Int32} (hd : decode cc pc = .ok (.invokevirtual idx, 3)) (hc : q_CV own idx ci y c2 n2 r2 4) (hy : q_lay[k]? = some (.inr (ci, fs))) (hr : rest.length ≤ 8) (h1 : 1 ≤ d) (hM : q_Mv l (d - 1) y c2 n2 r2 [.inr k, .inl a1, .inl a2, .inl a3, .inl a4] S (fun S2 => q_E l cc nL ret own d S2 (pc + 3) ls rest Q)) : q_E l cc nL ret own d S pc ls (.inl a4 :: .inl a3 :: .inl a2 :: .inl a1 :: .inr k :: rest) Q := q_callVv (As := [.inl a1, .inl a2, .inl a3, .inl a4]) hd hc hy rfl hr h1 hM
theorem q_callVv5 {idx ci k : Nat} {fs : List (Option Nat)} {y : MethodName} {c2 : ByteArray} {n2 : Nat} {r2 : Option FieldType} {rest : List qV} {a1 a2 a3 a4 a5 : Int32} (hd : decode cc pc = .ok (.invokevirtual idx, 3)) (hc : q_CV own idx ci y c2 n2 r2 5) (hy : q_lay[k]? = some (.inr (ci, fs))) (hr : rest.length ≤ 8) (h1 : 1 ≤ d) (hM : q_Mv l (d - 1) y c2 n2 r2 [.inr k, .inl a1, .inl a2, .inl a3, .inl a4, .inl a5] S (fun S2 => q_E l cc nL ret own d S2 (pc + 3) ls rest Q)) : q_E l cc nL ret own d S pc ls (.inl a5 :: .inl a4 :: .inl a3 :: .inl a2 :: .inl a1 :: .inr k :: rest) Q := q_callVv (As := [.inl a1, .inl a2, .inl a3, .inl a4, .inl a5]) hd hc hy rfl hr h1 hM
theorem q_callVv6 {idx ci k : Nat} {fs : List (Option Nat)} {y : MethodName} {c2 : ByteArray} {n2 : Nat} {r2 : Option FieldType} {rest : List qV} {a1 a2 a3 a4 a5 a6 : Int32} (hd : decode cc pc = .ok (.invokevirtual idx, 3)) (hc : q_CV own idx ci y c2 n2 r2 6) (hy : q_lay[k]? = some (.inr (ci, fs))) (hr : rest.length ≤ 8) (h1 : 1 ≤ d) (hM : q_Mv l (d - 1) y c2 n2 r2 [.inr k, .inl a1, .inl a2, .inl a3, .inl a4, .inl a5, .inl a6] S (fun S2 => q_E l cc nL ret own d S2 (pc + 3) ls rest Q)) : q_E l cc nL ret own d S pc ls (.inl a6 :: .inl a5 :: .inl a4 :: .inl a3 :: .inl a2 :: .inl a1 :: .inr k :: rest) Q := q_callVv (As := [.inl a1, .inl a2, .inl a3, .inl a4, .inl a5, .inl a6]) hd hc hy rfl hr h1 hM
theorem q_callSi1 {idx : Nat} {y : MethodName} {c2 : ByteArray} {n2 : Nat} {r2 : Option FieldType} {rest : List qV} {a1 : Int32} (hd : decode cc pc = .ok (.invokestatic idx, 3)) (hc : q_CS own idx y c2 n2 r2 1) (hr : rest.length ≤ 8) (h1 : 1 ≤ d) (hM : q_Mi l (d - 1) y c2 n2 r2 [.inl a1] S (fun v S2 => q_E l cc nL ret own d S2 (pc + 3) ls (.inl v :: rest) Q)) : q_E l cc nL ret own d S pc ls (.inl a1 :: rest) Q := q_callSi (As := [.inl a1]) hd hc rfl hr h1 hM
theorem q_callSi2 {idx : Nat} {y : MethodName} {c2 : ByteArray} {n2 : Nat} {r2 : Option FieldType} {rest : List qV} {a1 a2 : Int32} (hd : decode cc pc = .ok (.invokestatic idx, 3)) (hc : q_CS own idx y c2 n2 r2 2) (hr : rest.length ≤ 8) (h1 : 1 ≤ d) (hM : q_Mi l (d - 1) y c2 n2 r2 [.inl a1, .inl a2] S (fun v S2 => q_E l cc nL ret own d S2 (pc + 3) ls (.inl v :: rest) Q)) : q_E l cc nL ret own d S pc ls (.inl a2 :: .inl a1 :: rest) Q := q_callSi (As := [.inl a1, .inl a2]) hd hc rfl hr h1 hM
theorem q_callSi3 {idx : Nat} {y : MethodName} {c2 : ByteArray} {n2 : Nat} {r2 : Option FieldType} {rest : List qV} {a1 a2 a3 : Int32} (hd : decode cc pc = .ok (.invokestatic idx, 3)) (hc : q_CS own idx y c2 n2 r2 3) (hr : rest.length ≤ 8) (h1 : 1 ≤ d) (hM : q_Mi l (d - 1) y c2 n2 r2 [.inl a1, .inl a2, .inl a3] S (fun v S2 => q_E l cc nL ret own d S2 (pc + 3) ls (.inl v :: rest) Q)) : q_E l cc nL ret own d S pc ls (.inl a3 :: .inl a2 :: .inl a1 :: rest) Q := q_callSi (As := [.inl a1, .inl a2, .inl a3]) hd hc rfl hr h1 hM
theorem q_callSi4 {idx : Nat} {y : MethodName} {c2 : ByteArray} {n2 : Nat} {r2 : Option FieldType} {rest : List qV} {a1 a2 a3 a4 : Int32} (hd : decode cc pc = .ok (.invokestatic idx, 3)) (hc : q_CS own idx y c2 n2 r2 4) (hr : rest.length ≤ 8) (h1 : 1 ≤ d) (hM : q_Mi l (d - 1) y c2 n2 r2 [.inl a1, .inl a2, .inl a3, .inl a4] S (fun v S2 => q_E l cc nL ret own d S2 (pc + 3) ls (.inl v :: rest) Q)) : q_E l cc nL ret own d S pc ls (.inl a4 :: .inl a3 :: .inl a2 :: .inl a1 :: rest) Q := q_callSi (As := [.inl a1, .inl a2, .inl a3, .inl a4]) hd hc rfl hr h1 hM
theorem q_callSi5 {idx : Nat} {y : MethodName} {c2 : ByteArray} {n2 : Nat} {r2 : Option FieldType} {rest : List qV} {a1 a2 a3 a4 a5 : Int32} (hd : decode cc pc = .ok (.invokestatic idx, 3)) (hc : q_CS own idx y c2 n2 r2 5) (hr : rest.length ≤ 8) (h1 : 1 ≤ d) (hM : q_Mi l (d - 1) y c2 n2 r2 [.inl a1, .inl a2, .inl a3, .inl a4, .inl a5] S (fun v S2 => q_E l cc nL ret own d S2 (pc + 3) ls (.inl v :: rest) Q)) : q_E l cc nL ret own d S pc ls (.inl a5 :: .inl a4 :: .inl a3 :: .inl a2 :: .inl a1 :: rest) Q := q_callSi (As := [.inl a1, .inl a2, .inl a3, .inl a4, .inl a5]) hd hc rfl hr h1 hM
theorem q_callSi6 {idx : Nat} {y : MethodName} {c2 : ByteArray} {n2 : Nat} {r2 : Option FieldType} {rest : List qV} {a1 a2 a3 a4 a5 a6 : Int32} (hd : decode cc pc = .ok (.invokestatic idx, 3)) (hc : q_CS own idx y c2 n2 r2 6) (hr : rest.length ≤ 8) (h1 : 1 ≤ d) (hM : q_Mi l (d - 1) y c2 n2 r2 [.inl a1, .inl a2, .inl a3, .inl a4, .inl a5, .inl a6] S (fun v S2 => q_E l cc nL ret own d S2 (pc + 3) ls (.inl v :: rest) Q)) : q_E l cc nL ret own d S pc ls (.inl a6 :: .inl a5 :: .inl a4 :: .inl a3 :: .inl a2 :: .inl a1 :: rest) Q := q_callSi (As := [.inl a1, .inl a2, .inl a3, .inl a4, .inl a5, .inl a6]) hd hc rfl hr h1 hM
theorem q_callNi1 {idx : Nat} {y : MethodName} {c2 : ByteArray} {n2 : Nat} {r2 : Option FieldType} {rest : List qV} {a1 : Int32} (hd : decode cc pc = .ok (.invokestatic idx, 3)) (hc : (Cond.methodLinkNest own idx y RX8 = Cond.methodLinkNest RX6 48 yX8_isType RX8 ∨ Cond.methodLinkNest own idx y RX8 = Cond.methodLinkNest RX6 61 yX8_isValue RX8) ∧ Cond.static y ∈ q_tbl ∧ Cond.initialized y.cls ∈ q_tbl ∧ Cond.code y c2 n2 r2 ∈ q_tbl ∧ (y.cls ≠ "java/lang/invoke/MethodHandle" ∧ y.cls ≠ "java/lang/invoke/VarHandle" ∧ (parseMethodDescriptor y.desc).map (fun d => d.parameters.length) = some 1) ∧ n2 ≤ 11) (hr : rest.length ≤ 8) (h1 : 1 ≤ d) (hM : q_Mi l (d - 1) y c2 n2 r2 [.inl a1] S (fun v S2 => q_E l cc nL ret own d S2 (pc + 3) ls (.inl v :: rest) Q)) : q_E l cc nL ret own d S pc ls (.inl a1 :: rest) Q := q_callNi (As := [.inl a1]) hd hc rfl hr h1 hM
theorem q_callNi2 {idx : Nat} {y : MethodName} {c2 : ByteArray} {n2 : Nat} {r2 : Option FieldType} {rest : List qV} {a1 a2 : Int32} (hd : decode cc pc = .ok (.invokestatic idx, 3)) (hc : (Cond.methodLinkNest own idx y RX8 = Cond.methodLinkNest RX6 48 yX8_isType RX8 ∨ Cond.methodLinkNest own idx y RX8 = Cond.methodLinkNest RX6 61 yX8_isValue RX8) ∧ Cond.static y ∈ q_tbl ∧ Cond.initialized y.cls ∈ q_tbl ∧ Cond.code y c2 n2 r2 ∈ q_tbl ∧ (y.cls ≠ "java/lang/invoke/MethodHandle" ∧ y.cls ≠ "java/lang/invoke/VarHandle" ∧ (parseMethodDescriptor y.desc).map (fun d => d.parameters.length) = some 2) ∧ n2 ≤ 11) (hr : rest.length ≤ 8) (h1 : 1 ≤ d) (hM : q_Mi l (d - 1) y c2 n2 r2 [.inl a1, .inl a2] S (fun v S2 => q_E l cc nL ret own d S2 (pc + 3) ls (.inl v :: rest) Q)) : q_E l cc nL ret own d S pc ls (.inl a2 :: .inl a1 :: rest) Q := q_callNi (As := [.inl a1, .inl a2]) hd hc rfl hr h1 hM
def q_b (b : Bool) : Int32 := match b with
  | true => 1
  | false => 0
theorem q_b_nar (b : Bool) : narrow .boolean (.int (q_b b)) = .int (q_b b) := by cases b <;> decide
theorem q_b_0 (b : Bool) : q_b b = 0 ↔ b = false := by cases b <;> decide
theorem q_if_eq_b {b : Bool} {off : Int} (tgt : Nat) (hd : decode cc pc = .ok (.ifCond .eq off, 3)) (ht : (pc : Int) + off = (tgt : Int)) (kt : b = false → q_E l cc nL ret own d S tgt ls st Q) (kf : b = true → q_E l cc nL ret own d S (pc + 3) ls st Q) : q_E l cc nL ret own d S pc ls (.inl (q_b b) :: st) Q := by
  cases b with
  | false => exact q_if_eq tgt hd ht (fun _ => kt rfl) (fun h => absurd rfl h)
  | true => exact q_if_eq tgt hd ht (fun h => absurd h (by decide)) (fun _ => kf rfl)
theorem q_if_ne_b {b : Bool} {off : Int} (tgt : Nat) (hd : decode cc pc = .ok (.ifCond .ne off, 3)) (ht : (pc : Int) + off = (tgt : Int)) (kt : b = true → q_E l cc nL ret own d S tgt ls st Q) (kf : b = false → q_E l cc nL ret own d S (pc + 3) ls st Q) : q_E l cc nL ret own d S pc ls (.inl (q_b b) :: st) Q := by
  cases b with
  | false => exact q_if_ne tgt hd ht (fun h => absurd rfl h) (fun _ => kf rfl)
  | true => exact q_if_ne tgt hd ht (fun _ => kt rfl) (fun h => absurd h (by decide))
end QR
