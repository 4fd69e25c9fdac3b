section EVR
variable {g : ev_G} {X : Bool} {M : ev_M} {d pc : Nat} {ls : List (Option Value)} {st : List Value} {h : List ev_AC} {kc ks : Nat} {Q : ev_O → List ev_AC → Prop}
theorem ev_mono {p : Program} {l : Launch} {e : Env} {R : Room} {s : State} {m : MethodId} {args : Array Value} {below : List Frame} {meth : Method} {c : Code} {H : Heap} {locs : List Loc} {cells slots mc ms : Nat} {Qc : Array Value → State → Outcome → State → Prop} {free : Addr → Prop} {fr : JFrame}
    (k : W p l e R s m args below meth c H locs cells slots (MQ below Qc args s mc ms free) fr) : W p l e R s m args below meth c H locs cells slots (ev_MQ X below Qc args s mc ms free) fr := by
  intro T hT S
  obtain ⟨t, a, o, b1, b2, b3, L, b4, b5⟩ := k T hT S
  exact ⟨t, a, o, b1, b2, b3, L, ⟨Or.inr b4.1, b4.2⟩, b5⟩
-- numbers
theorem ev_toInt {z : Int} (h1 : -2147483648 ≤ z) (h2 : z < 2147483648) : (Int32.ofInt z).toInt = z := Int32.toInt_ofInt_of_le (by simpa using h1) (by simpa using h2)
theorem ev_lt {a b : Int} (a1 : -2147483648 ≤ a) (a2 : a < 2147483648) (b1 : -2147483648 ≤ b) (b2 : b < 2147483648) : Int32.ofInt a < Int32.ofInt b ↔ a < b := by
  rw [Int32.lt_iff_toInt_lt, ev_toInt a1 a2, ev_toInt b1 b2]
theorem ev_le {a b : Int} (a1 : -2147483648 ≤ a) (a2 : a < 2147483648) (b1 : -2147483648 ≤ b) (b2 : b < 2147483648) : Int32.ofInt a ≤ Int32.ofInt b ↔ a ≤ b := by
  rw [Int32.le_iff_toInt_le, ev_toInt a1 a2, ev_toInt b1 b2]
theorem ev_eq {a b : Int} (a1 : -2147483648 ≤ a) (a2 : a < 2147483648) (b1 : -2147483648 ≤ b) (b2 : b < 2147483648) : Int32.ofInt a = Int32.ofInt b ↔ a = b := by
  rw [← Int32.toInt_inj, ev_toInt a1 a2, ev_toInt b1 b2]
theorem ev_zero : (0 : Int32) = Int32.ofInt 0 := rfl
theorem ev_ofi (x : Int32) : .int x = ev_i x.toInt := by simp [ev_i]
-- constants and locals
theorem ev_iconst {n : Int} (hd : decode M.2.1 pc = .ok (.iconst n, 1)) (k : ev_E g X M d (pc + 1) ls (ev_i n :: st) h kc ks Q) : ev_E g X M d pc ls st h kc ks Q :=
  fun p e R s m args below meth c H locs cells slots rls C => lv_iconst C.1.1 C.1.2.1 hd rfl (k p e R s m args below meth c H locs cells slots rls C)
theorem ev_bipush {n : Int} (hd : decode M.2.1 pc = .ok (.bipush n, 2)) (hn : (Int8.ofInt n).toInt32 = Int32.ofInt n) (k : ev_E g X M d (pc + 2) ls (ev_i n :: st) h kc ks Q) : ev_E g X M d pc ls st h kc ks Q :=
  fun p e R s m args below meth c H locs cells slots rls C => lv_bipush C.1.1 C.1.2.1 hd hn (k p e R s m args below meth c H locs cells slots rls C)
theorem ev_sipush {n : Int} (hd : decode M.2.1 pc = .ok (.sipush n, 3)) (hn : (Int16.ofInt n).toInt32 = Int32.ofInt n) (k : ev_E g X M d (pc + 3) ls (ev_i n :: st) h kc ks Q) : ev_E g X M d pc ls st h kc ks Q :=
  fun p e R s m args below meth c H locs cells slots rls C => lv_sipush C.1.1 C.1.2.1 hd hn (k p e R s m args below meth c H locs cells slots rls C)
theorem ev_lconst {n : Fin 2} (hd : decode M.2.1 pc = .ok (.lconst n, 1)) (k : ev_E g X M d (pc + 1) ls (.long (Int64.ofNat (n : Nat)) :: st) h kc ks Q) : ev_E g X M d pc ls st h kc ks Q :=
  fun p e R s m args below meth c H locs cells slots rls C => lv_lconst C.1.1 C.1.2.1 hd rfl (k p e R s m args below meth c H locs cells slots rls C)
theorem ev_iload {i : Nat} {z : Int} (hd : decode M.2.1 pc = .ok (.iload i, 2)) (hl : ls[i]? = some (some (ev_i z))) (k : ev_E g X M d (pc + 2) ls (ev_i z :: st) h kc ks Q) : ev_E g X M d pc ls st h kc ks Q :=
  fun p e R s m args below meth c H locs cells slots rls C => lv_iload C.1.1 C.1.2.1 hd (C.2.2.2.2.2.get hl) (k p e R s m args below meth c H locs cells slots rls C)
theorem ev_iload_n {i : Fin 4} {z : Int} (hd : decode M.2.1 pc = .ok (.iload_n i, 1)) (hl : ls[(i : Nat)]? = some (some (ev_i z))) (k : ev_E g X M d (pc + 1) ls (ev_i z :: st) h kc ks Q) : ev_E g X M d pc ls st h kc ks Q :=
  fun p e R s m args below meth c H locs cells slots rls C => lv_iload_n C.1.1 C.1.2.1 hd rfl (C.2.2.2.2.2.get hl) (k p e R s m args below meth c H locs cells slots rls C)
theorem ev_aload {i : Nat} {a : Nat} (hd : decode M.2.1 pc = .ok (.aload i, 2)) (hl : ls[i]? = some (some (.ref a))) (k : ev_E g X M d (pc + 2) ls (.ref a :: st) h kc ks Q) : ev_E g X M d pc ls st h kc ks Q :=
  fun p e R s m args below meth c H locs cells slots rls C => lv_aload C.1.1 C.1.2.1 hd (C.2.2.2.2.2.get hl) (k p e R s m args below meth c H locs cells slots rls C)
theorem ev_aload_n {i : Fin 4} {a : Nat} (hd : decode M.2.1 pc = .ok (.aload_n i, 1)) (hl : ls[(i : Nat)]? = some (some (.ref a))) (k : ev_E g X M d (pc + 1) ls (.ref a :: st) h kc ks Q) : ev_E g X M d pc ls st h kc ks Q :=
  fun p e R s m args below meth c H locs cells slots rls C => lv_aload_n C.1.1 C.1.2.1 hd rfl (C.2.2.2.2.2.get hl) (k p e R s m args below meth c H locs cells slots rls C)
/-- the script -/
theorem ev_sload_n {i : Fin 4} {u : UInt32} (hd : decode M.2.1 pc = .ok (.aload_n i, 1)) (hl : ls[(i : Nat)]? = some (some (.float u))) (k : ev_E g X M d (pc + 1) ls (.float u :: st) h kc ks Q) : ev_E g X M d pc ls st h kc ks Q :=
  fun p e R s m args below meth c H locs cells slots rls C => lv_aload_n C.1.1 C.1.2.1 hd rfl (C.2.2.2.2.2.get hl) (k p e R s m args below meth c H locs cells slots rls C)
theorem ev_Cx.locals {p : Program} {R : Room} {s : State} {m : MethodId} {args : Array Value} {meth : Method} {c : Code} {H : Heap} {locs : List Loc} {cells slots : Nat} {rls rls' : Array Slot} {ls' : List (Option Value)} (C : ev_Cx g M d ls h kc ks p R s m args meth c H locs cells slots rls) (hL : ev_LH g rls' M.2.2.1 ls') : ev_Cx g M d ls' h kc ks p R s m args meth c H locs cells slots rls' :=
  ⟨C.1, C.2.1, C.2.2.1, C.2.2.2.1, C.2.2.2.2.1, hL⟩
theorem ev_istore {i : Nat} {z : Int} (hd : decode M.2.1 pc = .ok (.istore i, 2)) (hi : i < ls.length) (k : ev_E g X M d (pc + 2) (ls.set i (some (ev_i z))) st h kc ks Q) : ev_E g X M d pc ls (ev_i z :: st) h kc ks Q :=
  fun p e R s m args below meth c H locs cells slots rls C => lv_istore C.1.1 C.1.2.1 hd C.2.2.2.2.2.2.1 (by rw [← C.2.2.2.2.2.1]; exact hi) rfl (fun rls' h' => k p e R s m args below meth c H locs cells slots rls' (C.locals (C.2.2.2.2.2.put rfl h')))
theorem ev_istore_n {i : Fin 4} {z : Int} (hd : decode M.2.1 pc = .ok (.istore_n i, 1)) (hi : (i : Nat) < ls.length) (k : ev_E g X M d (pc + 1) (ls.set (i : Nat) (some (ev_i z))) st h kc ks Q) : ev_E g X M d pc ls (ev_i z :: st) h kc ks Q :=
  fun p e R s m args below meth c H locs cells slots rls C => lv_istore_n C.1.1 C.1.2.1 hd rfl C.2.2.2.2.2.2.1 (by rw [← C.2.2.2.2.2.1]; exact hi) rfl (fun rls' h' => k p e R s m args below meth c H locs cells slots rls' (C.locals (C.2.2.2.2.2.put rfl h')))
theorem ev_astore {i : Nat} {a : Nat} (hd : decode M.2.1 pc = .ok (.astore i, 2)) (hi : i < ls.length) (k : ev_E g X M d (pc + 2) (ls.set i (some (.ref a))) st h kc ks Q) : ev_E g X M d pc ls (.ref a :: st) h kc ks Q :=
  fun p e R s m args below meth c H locs cells slots rls C => lv_astore C.1.1 C.1.2.1 hd C.2.2.2.2.2.2.1 (by rw [← C.2.2.2.2.2.1]; exact hi) rfl (fun rls' h' => k p e R s m args below meth c H locs cells slots rls' (C.locals (C.2.2.2.2.2.put (v := .ref a) rfl h')))
theorem ev_astore_n {i : Fin 4} {a : Nat} (hd : decode M.2.1 pc = .ok (.astore_n i, 1)) (hi : (i : Nat) < ls.length) (k : ev_E g X M d (pc + 1) (ls.set (i : Nat) (some (.ref a))) st h kc ks Q) : ev_E g X M d pc ls (.ref a :: st) h kc ks Q :=
  fun p e R s m args below meth c H locs cells slots rls C => lv_astore_n C.1.1 C.1.2.1 hd rfl C.2.2.2.2.2.2.1 (by rw [← C.2.2.2.2.2.1]; exact hi) rfl (fun rls' h' => k p e R s m args below meth c H locs cells slots rls' (C.locals (C.2.2.2.2.2.put (v := .ref a) rfl h')))
theorem ev_lv_idx {n : Nat} {rls : Array Slot} {i : Nat} {v : Value} (hL : ev_LH g rls n ls) (hl : ls[i]? = some (some v)) : ∃ k : Nat, (ev_lv g ls)[k]? = some (i, ev_rv g v) :=
  List.getElem?_of_mem (ev_lv_mem.mpr ⟨v, hl, rfl⟩)
theorem ev_iinc {i : Nat} {n z : Int} (hd : decode M.2.1 pc = .ok (.iinc i n, 3)) (hl : ls[i]? = some (some (ev_i z))) (k : ev_E g X M d (pc + 3) (ls.set i (some (ev_i (z + n)))) st h kc ks Q) : ev_E g X M d pc ls st h kc ks Q := by
  intro p e R s m args below meth c H locs cells slots rls C
  have hlen : i < ls.length := (List.getElem?_eq_some_iff.mp hl).1
  obtain ⟨j, hj⟩ := ev_lv_idx C.2.2.2.2.2 hl
  refine lv_iinc (x := Int32.ofInt z) (v := Int32.ofInt (z + n)) C.1.1 C.1.2.1 hd C.2.2.2.2.2.2.1 hj ?_ (by rw [← C.2.2.2.2.2.1]; exact hlen) rfl (fun rls' h' => k p e R s m args below meth c H locs cells slots rls' (C.locals (C.2.2.2.2.2.put rfl h')))
  rw [Int32.ofInt_add]
-- arithmetic
theorem ev_iadd {a b : Int} (hd : decode M.2.1 pc = .ok (.iadd, 1)) (k : ev_E g X M d (pc + 1) ls (ev_i (a + b) :: st) h kc ks Q) : ev_E g X M d pc ls (ev_i b :: ev_i a :: st) h kc ks Q := by
  intro p e R s m args below meth c H locs cells slots rls C
  have k := k p e R s m args below meth c H locs cells slots rls C
  refine lv_iadd (x := Int32.ofInt a) (y := Int32.ofInt b) C.1.1 C.1.2.1 hd ?_
  rw [← Int32.ofInt_add]; exact k
theorem ev_isub {a b : Int} (hd : decode M.2.1 pc = .ok (.isub, 1)) (k : ev_E g X M d (pc + 1) ls (ev_i (a - b) :: st) h kc ks Q) : ev_E g X M d pc ls (ev_i b :: ev_i a :: st) h kc ks Q := by
  intro p e R s m args below meth c H locs cells slots rls C
  have k := k p e R s m args below meth c H locs cells slots rls C
  refine lv_isub (x := Int32.ofInt a) (y := Int32.ofInt b) C.1.1 C.1.2.1 hd ?_
  rw [← Int32.ofInt_sub]; exact k
theorem ev_imul {a b : Int} (hd : decode M.2.1 pc = .ok (.imul, 1)) (k : ev_E g X M d (pc + 1) ls (ev_i (a * b) :: st) h kc ks Q) : ev_E g X M d pc ls (ev_i b :: ev_i a :: st) h kc ks Q := by
  intro p e R s m args below meth c H locs cells slots rls C
  have k := k p e R s m args below meth c H locs cells slots rls C
  refine lv_imul (x := Int32.ofInt a) (y := Int32.ofInt b) C.1.1 C.1.2.1 hd ?_
  rw [← Int32.ofInt_mul]; exact k
/-- any int that comes out: by its number -/
theorem ev_op2 {x y r : Int32} {i : Instr} {a b : Int} (hx : Int32.ofInt a = x) (hy : Int32.ofInt b = y) {z : Int} (hr : r = Int32.ofInt z)
    (row : ∀ (p : Program) (e : Env) (R : Room) (s : State) (m : MethodId) (args : Array Value) (below : List Frame) (meth : Method) (c : Code) (H : Heap) (locs : List Loc) (cells slots : Nat) (rls : Array Slot) (Q : State → Prop) (rest : List Value), p.tables.exec = Jvm.exec → c.code = M.2.1 → W p (ev_l g) e R s m args below meth c H locs cells slots Q (F0 m (pc + 1) rls (.int r :: rest)) → W p (ev_l g) e R s m args below meth c H locs cells slots Q (F0 m pc rls (.int y :: .int x :: rest)))
    (k : ev_E g X M d (pc + 1) ls (ev_i z :: st) h kc ks Q) : ev_E g X M d pc ls (ev_i b :: ev_i a :: st) h kc ks Q := by
  intro p e R s m args below meth c H locs cells slots rls C
  subst hx hy hr
  exact row _ _ _ _ _ _ _ _ _ _ _ _ _ _ _ _ C.1.1 C.1.2.1 (k p e R s m args below meth c H locs cells slots rls C)
theorem ev_idiv {a b z : Int} (hd : decode M.2.1 pc = .ok (.idiv, 1)) (hne : ¬ Int32.ofInt b = 0) (hz : Int32.ofInt a / Int32.ofInt b = Int32.ofInt z) (k : ev_E g X M d (pc + 1) ls (ev_i z :: st) h kc ks Q) : ev_E g X M d pc ls (ev_i b :: ev_i a :: st) h kc ks Q :=
  ev_op2 (i := .idiv) rfl rfl hz (fun _ _ _ _ _ _ _ _ _ _ _ _ _ _ _ _ h1 h2 k => lv_idiv h1 h2 hd hne k) k
theorem ev_irem {a b z : Int} (hd : decode M.2.1 pc = .ok (.irem, 1)) (hne : ¬ Int32.ofInt b = 0) (hz : Int32.ofInt a - Int32.ofInt a / Int32.ofInt b * Int32.ofInt b = Int32.ofInt z) (k : ev_E g X M d (pc + 1) ls (ev_i z :: st) h kc ks Q) : ev_E g X M d pc ls (ev_i b :: ev_i a :: st) h kc ks Q :=
  ev_op2 (i := .irem) rfl rfl hz (fun _ _ _ _ _ _ _ _ _ _ _ _ _ _ _ _ h1 h2 k => lv_irem h1 h2 hd hne k) k
theorem ev_ishl {a b z : Int} (hd : decode M.2.1 pc = .ok (.ishl, 1)) (hz : Int32.ofInt a <<< (Int32.ofInt b &&& 31) = Int32.ofInt z) (k : ev_E g X M d (pc + 1) ls (ev_i z :: st) h kc ks Q) : ev_E g X M d pc ls (ev_i b :: ev_i a :: st) h kc ks Q :=
  ev_op2 (i := .ishl) rfl rfl hz (fun _ _ _ _ _ _ _ _ _ _ _ _ _ _ _ _ h1 h2 k => lv_ishl h1 h2 hd k) k
theorem ev_ishr {a b z : Int} (hd : decode M.2.1 pc = .ok (.ishr, 1)) (hz : Int32.ofInt a >>> (Int32.ofInt b &&& 31) = Int32.ofInt z) (k : ev_E g X M d (pc + 1) ls (ev_i z :: st) h kc ks Q) : ev_E g X M d pc ls (ev_i b :: ev_i a :: st) h kc ks Q :=
  ev_op2 (i := .ishr) rfl rfl hz (fun _ _ _ _ _ _ _ _ _ _ _ _ _ _ _ _ h1 h2 k => lv_ishr h1 h2 hd k) k
theorem ev_iand {a b z : Int} (hd : decode M.2.1 pc = .ok (.iand, 1)) (hz : Int32.ofInt a &&& Int32.ofInt b = Int32.ofInt z) (k : ev_E g X M d (pc + 1) ls (ev_i z :: st) h kc ks Q) : ev_E g X M d pc ls (ev_i b :: ev_i a :: st) h kc ks Q :=
  ev_op2 (i := .iand) rfl rfl hz (fun _ _ _ _ _ _ _ _ _ _ _ _ _ _ _ _ h1 h2 k => lv_iand h1 h2 hd k) k
theorem ev_ior {a b z : Int} (hd : decode M.2.1 pc = .ok (.ior, 1)) (hz : Int32.ofInt a ||| Int32.ofInt b = Int32.ofInt z) (k : ev_E g X M d (pc + 1) ls (ev_i z :: st) h kc ks Q) : ev_E g X M d pc ls (ev_i b :: ev_i a :: st) h kc ks Q :=
  ev_op2 (i := .ior) rfl rfl hz (fun _ _ _ _ _ _ _ _ _ _ _ _ _ _ _ _ h1 h2 k => lv_ior h1 h2 hd k) k
theorem ev_i2l {a : Int} (hd : decode M.2.1 pc = .ok (.i2l, 1)) (k : ev_E g X M d (pc + 1) ls (.long (Int32.ofInt a).toInt64 :: st) h kc ks Q) : ev_E g X M d pc ls (ev_i a :: st) h kc ks Q :=
  fun p e R s m args below meth c H locs cells slots rls C => lv_i2l C.1.1 C.1.2.1 hd rfl (k p e R s m args below meth c H locs cells slots rls C)
theorem ev_lshl {x : Int64} {b : Int} (hd : decode M.2.1 pc = .ok (.lshl, 1)) (k : ev_E g X M d (pc + 1) ls (.long (x <<< ((Int32.ofInt b).toInt64 &&& 63)) :: st) h kc ks Q) : ev_E g X M d pc ls (ev_i b :: .long x :: st) h kc ks Q :=
  fun p e R s m args below meth c H locs cells slots rls C => lv_lshl C.1.1 C.1.2.1 hd rfl (k p e R s m args below meth c H locs cells slots rls C)
theorem ev_lor {x y : Int64} (hd : decode M.2.1 pc = .ok (.lor, 1)) (k : ev_E g X M d (pc + 1) ls (.long (x ||| y) :: st) h kc ks Q) : ev_E g X M d pc ls (.long y :: .long x :: st) h kc ks Q :=
  fun p e R s m args below meth c H locs cells slots rls C => lv_lor C.1.1 C.1.2.1 hd (k p e R s m args below meth c H locs cells slots rls C)
theorem ev_lcmp {x y : Int64} {z : Int} (hd : decode M.2.1 pc = .ok (.lcmp, 1)) (hz : lg_cmp x y = Int32.ofInt z) (k : ev_E g X M d (pc + 1) ls (ev_i z :: st) h kc ks Q) : ev_E g X M d pc ls (.long y :: .long x :: st) h kc ks Q := by
  intro p e R s m args below meth c H locs cells slots rls C
  refine W.lcmp C.1.1 C.1.2.1 hd ?_
  rw [hz]
  exact k p e R s m args below meth c H locs cells slots rls C
theorem ev_dup {v : Value} (hd : decode M.2.1 pc = .ok (.dup, 1)) (hv : v.category = 1) (k : ev_E g X M d (pc + 1) ls (v :: v :: st) h kc ks Q) : ev_E g X M d pc ls (v :: st) h kc ks Q :=
  fun p e R s m args below meth c H locs cells slots rls C => lv_dup C.1.1 C.1.2.1 hd ((ev_rv_cat g v).trans hv) (k p e R s m args below meth c H locs cells slots rls C)
theorem ev_pop {v : Value} (hd : decode M.2.1 pc = .ok (.pop, 1)) (hv : v.category = 1) (k : ev_E g X M d (pc + 1) ls st h kc ks Q) : ev_E g X M d pc ls (v :: st) h kc ks Q :=
  fun p e R s m args below meth c H locs cells slots rls C => lv_pop C.1.1 C.1.2.1 hd ((ev_rv_cat g v).trans hv) (k p e R s m args below meth c H locs cells slots rls C)
-- jumps
theorem ev_goto {off : Int} {tgt : Nat} (hd : decode M.2.1 pc = .ok (.goto off, 3)) (ht : (pc : Int) + off = (tgt : Int)) (k : ev_E g X M d tgt ls st h kc ks Q) : ev_E g X M d pc ls st h kc ks Q :=
  fun p e R s m args below meth c H locs cells slots rls C => lv_goto C.1.1 C.1.2.1 hd ht (k p e R s m args below meth c H locs cells slots rls C)
theorem ev_icmp_eq {a b off : Int} {tgt : Nat} (hd : decode M.2.1 pc = .ok (.if_icmp .eq off, 3)) (ht : (pc : Int) + off = (tgt : Int)) (a1 : -2147483648 ≤ a) (a2 : a < 2147483648) (b1 : -2147483648 ≤ b) (b2 : b < 2147483648) (kt : a = b → ev_E g X M d tgt ls st h kc ks Q) (kf : a ≠ b → ev_E g X M d (pc + 3) ls st h kc ks Q) : ev_E g X M d pc ls (ev_i b :: ev_i a :: st) h kc ks Q := by
  intro p e R s m args below meth c H locs cells slots rls C
  refine lv_icmp_eq (x := Int32.ofInt a) (y := Int32.ofInt b) C.1.1 C.1.2.1 hd ht (fun hh => kt ?_ p e R s m args below meth c H locs cells slots rls C) (fun hh => kf ?_ p e R s m args below meth c H locs cells slots rls C)
  · exact (ev_eq a1 a2 b1 b2).mp hh
  · exact fun q => hh ((ev_eq a1 a2 b1 b2).mpr q)
theorem ev_if_eq {a off : Int} {tgt : Nat} (hd : decode M.2.1 pc = .ok (.ifCond .eq off, 3)) (ht : (pc : Int) + off = (tgt : Int)) (a1 : -2147483648 ≤ a) (a2 : a < 2147483648) (kt : a = 0 → ev_E g X M d tgt ls st h kc ks Q) (kf : a ≠ 0 → ev_E g X M d (pc + 3) ls st h kc ks Q) : ev_E g X M d pc ls (ev_i a :: st) h kc ks Q := by
  intro p e R s m args below meth c H locs cells slots rls C
  have b1 : (-2147483648 : Int) ≤ 0 := by decide
  have b2 : (0 : Int) < 2147483648 := by decide
  refine lv_if_eq (x := Int32.ofInt a) C.1.1 C.1.2.1 hd ht (fun hh => kt ?_ p e R s m args below meth c H locs cells slots rls C) (fun hh => kf ?_ p e R s m args below meth c H locs cells slots rls C)
  · exact (ev_eq a1 a2 b1 b2).mp hh
  · exact fun q => hh ((ev_eq a1 a2 b1 b2).mpr q)
theorem ev_icmp_ne {a b off : Int} {tgt : Nat} (hd : decode M.2.1 pc = .ok (.if_icmp .ne off, 3)) (ht : (pc : Int) + off = (tgt : Int)) (a1 : -2147483648 ≤ a) (a2 : a < 2147483648) (b1 : -2147483648 ≤ b) (b2 : b < 2147483648) (kt : a ≠ b → ev_E g X M d tgt ls st h kc ks Q) (kf : a = b → ev_E g X M d (pc + 3) ls st h kc ks Q) : ev_E g X M d pc ls (ev_i b :: ev_i a :: st) h kc ks Q := by
  intro p e R s m args below meth c H locs cells slots rls C
  refine lv_icmp_ne (x := Int32.ofInt a) (y := Int32.ofInt b) C.1.1 C.1.2.1 hd ht (fun hh => kt ?_ p e R s m args below meth c H locs cells slots rls C) (fun hh => kf ?_ p e R s m args below meth c H locs cells slots rls C)
  · exact fun q => hh ((ev_eq a1 a2 b1 b2).mpr q)
  · exact (ev_eq a1 a2 b1 b2).mp hh
theorem ev_if_ne {a off : Int} {tgt : Nat} (hd : decode M.2.1 pc = .ok (.ifCond .ne off, 3)) (ht : (pc : Int) + off = (tgt : Int)) (a1 : -2147483648 ≤ a) (a2 : a < 2147483648) (kt : a ≠ 0 → ev_E g X M d tgt ls st h kc ks Q) (kf : a = 0 → ev_E g X M d (pc + 3) ls st h kc ks Q) : ev_E g X M d pc ls (ev_i a :: st) h kc ks Q := by
  intro p e R s m args below meth c H locs cells slots rls C
  have b1 : (-2147483648 : Int) ≤ 0 := by decide
  have b2 : (0 : Int) < 2147483648 := by decide
  refine lv_if_ne (x := Int32.ofInt a) C.1.1 C.1.2.1 hd ht (fun hh => kt ?_ p e R s m args below meth c H locs cells slots rls C) (fun hh => kf ?_ p e R s m args below meth c H locs cells slots rls C)
  · exact fun q => hh ((ev_eq a1 a2 b1 b2).mpr q)
  · exact (ev_eq a1 a2 b1 b2).mp hh
theorem ev_icmp_lt {a b off : Int} {tgt : Nat} (hd : decode M.2.1 pc = .ok (.if_icmp .lt off, 3)) (ht : (pc : Int) + off = (tgt : Int)) (a1 : -2147483648 ≤ a) (a2 : a < 2147483648) (b1 : -2147483648 ≤ b) (b2 : b < 2147483648) (kt : a < b → ev_E g X M d tgt ls st h kc ks Q) (kf : b ≤ a → ev_E g X M d (pc + 3) ls st h kc ks Q) : ev_E g X M d pc ls (ev_i b :: ev_i a :: st) h kc ks Q := by
  intro p e R s m args below meth c H locs cells slots rls C
  refine lv_icmp_lt (x := Int32.ofInt a) (y := Int32.ofInt b) C.1.1 C.1.2.1 hd ht (fun hh => kt ?_ p e R s m args below meth c H locs cells slots rls C) (fun hh => kf ?_ p e R s m args below meth c H locs cells slots rls C)
  · exact (ev_lt a1 a2 b1 b2).mp hh
  · exact Int.not_lt.mp (fun q => hh ((ev_lt a1 a2 b1 b2).mpr q))
theorem ev_if_lt {a off : Int} {tgt : Nat} (hd : decode M.2.1 pc = .ok (.ifCond .lt off, 3)) (ht : (pc : Int) + off = (tgt : Int)) (a1 : -2147483648 ≤ a) (a2 : a < 2147483648) (kt : a < 0 → ev_E g X M d tgt ls st h kc ks Q) (kf : 0 ≤ a → ev_E g X M d (pc + 3) ls st h kc ks Q) : ev_E g X M d pc ls (ev_i a :: st) h kc ks Q := by
  intro p e R s m args below meth c H locs cells slots rls C
  have b1 : (-2147483648 : Int) ≤ 0 := by decide
  have b2 : (0 : Int) < 2147483648 := by decide
  refine lv_if_lt (x := Int32.ofInt a) C.1.1 C.1.2.1 hd ht (fun hh => kt ?_ p e R s m args below meth c H locs cells slots rls C) (fun hh => kf ?_ p e R s m args below meth c H locs cells slots rls C)
  · exact (ev_lt a1 a2 b1 b2).mp hh
  · exact Int.not_lt.mp (fun q => hh ((ev_lt a1 a2 b1 b2).mpr q))
theorem ev_icmp_ge {a b off : Int} {tgt : Nat} (hd : decode M.2.1 pc = .ok (.if_icmp .ge off, 3)) (ht : (pc : Int) + off = (tgt : Int)) (a1 : -2147483648 ≤ a) (a2 : a < 2147483648) (b1 : -2147483648 ≤ b) (b2 : b < 2147483648) (kt : b ≤ a → ev_E g X M d tgt ls st h kc ks Q) (kf : a < b → ev_E g X M d (pc + 3) ls st h kc ks Q) : ev_E g X M d pc ls (ev_i b :: ev_i a :: st) h kc ks Q := by
  intro p e R s m args below meth c H locs cells slots rls C
  refine lv_icmp_ge (x := Int32.ofInt a) (y := Int32.ofInt b) C.1.1 C.1.2.1 hd ht (fun hh => kt ?_ p e R s m args below meth c H locs cells slots rls C) (fun hh => kf ?_ p e R s m args below meth c H locs cells slots rls C)
  · exact (ev_le b1 b2 a1 a2).mp hh
  · exact Int.not_le.mp (fun q => hh ((ev_le b1 b2 a1 a2).mpr q))
theorem ev_if_ge {a off : Int} {tgt : Nat} (hd : decode M.2.1 pc = .ok (.ifCond .ge off, 3)) (ht : (pc : Int) + off = (tgt : Int)) (a1 : -2147483648 ≤ a) (a2 : a < 2147483648) (kt : 0 ≤ a → ev_E g X M d tgt ls st h kc ks Q) (kf : a < 0 → ev_E g X M d (pc + 3) ls st h kc ks Q) : ev_E g X M d pc ls (ev_i a :: st) h kc ks Q := by
  intro p e R s m args below meth c H locs cells slots rls C
  have b1 : (-2147483648 : Int) ≤ 0 := by decide
  have b2 : (0 : Int) < 2147483648 := by decide
  refine lv_if_ge (x := Int32.ofInt a) C.1.1 C.1.2.1 hd ht (fun hh => kt ?_ p e R s m args below meth c H locs cells slots rls C) (fun hh => kf ?_ p e R s m args below meth c H locs cells slots rls C)
  · exact (ev_le b1 b2 a1 a2).mp hh
  · exact Int.not_le.mp (fun q => hh ((ev_le b1 b2 a1 a2).mpr q))
theorem ev_icmp_gt {a b off : Int} {tgt : Nat} (hd : decode M.2.1 pc = .ok (.if_icmp .gt off, 3)) (ht : (pc : Int) + off = (tgt : Int)) (a1 : -2147483648 ≤ a) (a2 : a < 2147483648) (b1 : -2147483648 ≤ b) (b2 : b < 2147483648) (kt : b < a → ev_E g X M d tgt ls st h kc ks Q) (kf : a ≤ b → ev_E g X M d (pc + 3) ls st h kc ks Q) : ev_E g X M d pc ls (ev_i b :: ev_i a :: st) h kc ks Q := by
  intro p e R s m args below meth c H locs cells slots rls C
  refine lv_icmp_gt (x := Int32.ofInt a) (y := Int32.ofInt b) C.1.1 C.1.2.1 hd ht (fun hh => kt ?_ p e R s m args below meth c H locs cells slots rls C) (fun hh => kf ?_ p e R s m args below meth c H locs cells slots rls C)
  · exact (ev_lt b1 b2 a1 a2).mp hh
  · exact Int.not_lt.mp (fun q => hh ((ev_lt b1 b2 a1 a2).mpr q))
theorem ev_if_gt {a off : Int} {tgt : Nat} (hd : decode M.2.1 pc = .ok (.ifCond .gt off, 3)) (ht : (pc : Int) + off = (tgt : Int)) (a1 : -2147483648 ≤ a) (a2 : a < 2147483648) (kt : 0 < a → ev_E g X M d tgt ls st h kc ks Q) (kf : a ≤ 0 → ev_E g X M d (pc + 3) ls st h kc ks Q) : ev_E g X M d pc ls (ev_i a :: st) h kc ks Q := by
  intro p e R s m args below meth c H locs cells slots rls C
  have b1 : (-2147483648 : Int) ≤ 0 := by decide
  have b2 : (0 : Int) < 2147483648 := by decide
  refine lv_if_gt (x := Int32.ofInt a) C.1.1 C.1.2.1 hd ht (fun hh => kt ?_ p e R s m args below meth c H locs cells slots rls C) (fun hh => kf ?_ p e R s m args below meth c H locs cells slots rls C)
  · exact (ev_lt b1 b2 a1 a2).mp hh
  · exact Int.not_lt.mp (fun q => hh ((ev_lt b1 b2 a1 a2).mpr q))
theorem ev_icmp_le {a b off : Int} {tgt : Nat} (hd : decode M.2.1 pc = .ok (.if_icmp .le off, 3)) (ht : (pc : Int) + off = (tgt : Int)) (a1 : -2147483648 ≤ a) (a2 : a < 2147483648) (b1 : -2147483648 ≤ b) (b2 : b < 2147483648) (kt : a ≤ b → ev_E g X M d tgt ls st h kc ks Q) (kf : b < a → ev_E g X M d (pc + 3) ls st h kc ks Q) : ev_E g X M d pc ls (ev_i b :: ev_i a :: st) h kc ks Q := by
  intro p e R s m args below meth c H locs cells slots rls C
  refine lv_icmp_le (x := Int32.ofInt a) (y := Int32.ofInt b) C.1.1 C.1.2.1 hd ht (fun hh => kt ?_ p e R s m args below meth c H locs cells slots rls C) (fun hh => kf ?_ p e R s m args below meth c H locs cells slots rls C)
  · exact (ev_le a1 a2 b1 b2).mp hh
  · exact Int.not_le.mp (fun q => hh ((ev_le a1 a2 b1 b2).mpr q))
theorem ev_if_le {a off : Int} {tgt : Nat} (hd : decode M.2.1 pc = .ok (.ifCond .le off, 3)) (ht : (pc : Int) + off = (tgt : Int)) (a1 : -2147483648 ≤ a) (a2 : a < 2147483648) (kt : a ≤ 0 → ev_E g X M d tgt ls st h kc ks Q) (kf : 0 < a → ev_E g X M d (pc + 3) ls st h kc ks Q) : ev_E g X M d pc ls (ev_i a :: st) h kc ks Q := by
  intro p e R s m args below meth c H locs cells slots rls C
  have b1 : (-2147483648 : Int) ≤ 0 := by decide
  have b2 : (0 : Int) < 2147483648 := by decide
  refine lv_if_le (x := Int32.ofInt a) C.1.1 C.1.2.1 hd ht (fun hh => kt ?_ p e R s m args below meth c H locs cells slots rls C) (fun hh => kf ?_ p e R s m args below meth c H locs cells slots rls C)
  · exact (ev_le a1 a2 b1 b2).mp hh
  · exact Int.not_le.mp (fun q => hh ((ev_le a1 a2 b1 b2).mpr q))
theorem ev_lookup {dflt : Int} {ps : Array (Int × Int)} {len : Nat} {x off : Int} {tgt : Nat} (hd : decode M.2.1 pc = .ok (.lookupswitch dflt ps, len)) (hp : (ps.toList.zip (ps.toList.drop 1)).all (fun (a, next) => a.1 < next.1) = true) (x1 : -2147483648 ≤ x) (x2 : x < 2147483648) (ho : Op.lookupswitch.offset ps.toList dflt x = off) (ht : (pc : Int) + off = (tgt : Int))
    (k : ev_E g X M d tgt ls st h kc ks Q) : ev_E g X M d pc ls (ev_i x :: st) h kc ks Q :=
  fun p e R s m args below meth c H locs cells slots rls C => lv_lookup C.1.1 C.1.2.1 hd hp (by rw [ev_toInt x1 x2]; exact ho) ht (k p e R s m args below meth c H locs cells slots rls C)
theorem ev_tableIn {dflt lo hi : Int} {offs : Array Int} {len : Nat} {x off : Int} {tgt : Nat} (hd : decode M.2.1 pc = .ok (.tableswitch dflt lo hi offs, len)) (x1 : -2147483648 ≤ x) (x2 : x < 2147483648) (h1 : lo ≤ x) (h2 : x ≤ hi) (ho : offs[(x - lo).toNat]? = some off) (ht : (pc : Int) + off = (tgt : Int))
    (k : ev_E g X M d tgt ls st h kc ks Q) : ev_E g X M d pc ls (ev_i x :: st) h kc ks Q :=
  fun p e R s m args below meth c H locs cells slots rls C => lv_tableIn C.1.1 C.1.2.1 hd (by rw [ev_toInt x1 x2]; omega) (by rw [ev_toInt x1 x2]; omega) (by rw [ev_toInt x1 x2]; exact ho) ht (k p e R s m args below meth c H locs cells slots rls C)
theorem ev_tableOut {dflt lo hi : Int} {offs : Array Int} {len : Nat} {x : Int} {tgt : Nat} (hd : decode M.2.1 pc = .ok (.tableswitch dflt lo hi offs, len)) (x1 : -2147483648 ≤ x) (x2 : x < 2147483648) (h1 : x < lo ∨ hi < x) (ht : (pc : Int) + dflt = (tgt : Int))
    (k : ev_E g X M d tgt ls st h kc ks Q) : ev_E g X M d pc ls (ev_i x :: st) h kc ks Q :=
  fun p e R s m args below meth c H locs cells slots rls C => lv_tableOut C.1.1 C.1.2.1 hd (by rw [ev_toInt x1 x2]; exact h1) ht (k p e R s m args below meth c H locs cells slots rls C)
-- ends
theorem ev_ireturn {z : Int} (hd : decode M.2.1 pc = .ok (.ireturn, 1)) (hr : M.2.2.2.1 = some .int) (hq : Q (.inl (some (ev_i z))) h) : ev_E g X M d pc ls [ev_i z] h kc ks Q := by
  intro p e R s m args below meth c H locs cells slots rls C
  refine W.widen (k := R.cells) (n := R.slots) (by have := C.2.2.2.2.1.1; omega) (by have := C.2.2.2.2.1.2; omega) ?_
  exact ev_mono (W.iret C.1.1 C.1.2.1 (C.1.2.2.2.2.2.2.2.1.trans hr) (fun t ht _ => ⟨.inl (some (ev_i z)), h, rfl, hq, by rw [ht]; exact C.2.2.1⟩) C.2.2.2.1 hd C.1.2.2.2.2.2.2.2.2.1)
theorem ev_zreturn {z : Int} (hd : decode M.2.1 pc = .ok (.ireturn, 1)) (hr : M.2.2.2.1 = some .boolean) (hz : z = 0 ∨ z = 1) (hq : Q (.inl (some (ev_i z))) h) : ev_E g X M d pc ls [ev_i z] h kc ks Q := by
  intro p e R s m args below meth c H locs cells slots rls C
  refine W.widen (k := R.cells) (n := R.slots) (by have := C.2.2.2.2.1.1; omega) (by have := C.2.2.2.2.1.2; omega) ?_
  have hn : narrow .boolean (.int (Int32.ofInt z)) = .int (Int32.ofInt z) := by rcases hz with rfl | rfl <;> decide
  exact ev_mono (W.zret C.1.1 C.1.2.1 (C.1.2.2.2.2.2.2.2.1.trans hr) hn (fun t ht _ => ⟨.inl (some (ev_i z)), h, rfl, hq, by rw [ht]; exact C.2.2.1⟩) C.2.2.2.1 hd C.1.2.2.2.2.2.2.2.2.1)
theorem ev_return (hd : decode M.2.1 pc = .ok (.return_, 1)) (hr : M.2.2.2.1 = none) (hq : Q (.inl none) h) : ev_E g X M d pc ls [] h kc ks Q := by
  intro p e R s m args below meth c H locs cells slots rls C
  refine W.widen (k := R.cells) (n := R.slots) (by have := C.2.2.2.2.1.1; omega) (by have := C.2.2.2.2.1.2; omega) ?_
  exact ev_mono (W.vret C.1.1 C.1.2.1 (C.1.2.2.2.2.2.2.2.1.trans hr) (fun t ht _ => ⟨.inl none, h, rfl, hq, by rw [ht]; exact C.2.2.1⟩) C.2.2.2.1 hd C.1.2.2.2.2.2.2.2.2.1)
theorem ev_areturn {a : Nat} {t0 : FieldType} (hd : decode M.2.1 pc = .ok (.areturn, 1)) (hr : M.2.2.2.1 = some (.array t0)) (hq : Q (.inl (some (.ref a))) h) : ev_E g X M d pc ls [.ref a] h kc ks Q := by
  intro p e R s m args below meth c H locs cells slots rls C
  refine W.widen (k := R.cells) (n := R.slots) (by have := C.2.2.2.2.1.1; omega) (by have := C.2.2.2.2.1.2; omega) ?_
  exact ev_mono (W.aret C.1.1 C.1.2.1 (C.1.2.2.2.2.2.2.2.1.trans hr) (Or.inr ⟨_, rfl⟩) (Or.inr ⟨_, rfl⟩) (fun t ht _ => ⟨.inl (some (.ref a)), h, rfl, hq, by rw [ht]; exact C.2.2.1⟩) C.2.2.2.1 hd C.1.2.2.2.2.2.2.2.2.1)
end EVR
