/-! The machine in few words of mine: ONE abstract heap (a list of cells; cell i lies at the address z + i), the same for all methods; 'ev_E' is the walk, 'ev_C' a method's contract. -/
abbrev ev_AC : Type := vp_A ⊕ (Nat × List Value)
abbrev ev_G : Type := Launch × Nat × Nat × Nat × (Nat → Int32) × Heap × va_G × ClassId × ClassId
abbrev ev_l (g : ev_G) : Launch := g.1
abbrev ev_z (g : ev_G) : Nat := g.2.1
abbrev ev_sb (g : ev_G) : Nat := g.2.2.1
abbrev ev_sL (g : ev_G) : Nat := g.2.2.2.1
abbrev ev_sx (g : ev_G) : Nat → Int32 := g.2.2.2.2.1
abbrev ev_H0 (g : ev_G) : Heap := g.2.2.2.2.2.1
abbrev ev_Dg (g : ev_G) : va_G := g.2.2.2.2.2.2.1
abbrev ev_I (g : ev_G) : ClassId := g.2.2.2.2.2.2.2.1
abbrev ev_J (g : ev_G) : ClassId := g.2.2.2.2.2.2.2.2
/-- an int as an integer -/
def ev_i (z : Int) : Value := .int (Int32.ofInt z)
/-- a value of mine as the machine has it: a number of a cell is an address; '.float' stands for the script -/
def ev_rv (g : ev_G) : Value → Value
  | .ref i => .ref (ev_z g + i)
  | .float _ => .ref (ev_sb g)
  | v => v
theorem ev_rv_cat (g : ev_G) (v : Value) : (ev_rv g v).category = v.category := by cases v <;> rfl
theorem ev_rv_sum (g : ev_G) (st : List Value) : ((st.map (ev_rv g)).map fun v => v.category).sum = (st.map fun v => v.category).sum := by
  induction st with
  | nil => rfl
  | cons a l ih => simp only [List.map_cons, List.sum_cons, ev_rv_cat, ih]
def ev_rc (g : ev_G) : ev_AC → va_E
  | .inl (n, .inr (.inl f)) => .inl (ev_J g, n, .inr (.inl f))
  | .inl a => .inl (ev_I g, a)
  | .inr (ci, fs) => .inr (ci, fs.map (ev_rv g))
def ev_rl (g : ev_G) (h : List ev_AC) : va_W := h.mapIdx (fun i c => (ev_z g + i, ev_rc g c))
theorem ev_rl_at {g : ev_G} {h : List ev_AC} {k : Nat} {c : ev_AC} (e : h[k]? = some c) : (ev_rl g h)[k]? = some (ev_z g + k, ev_rc g c) := by
  simp [ev_rl, List.getElem?_mapIdx, e]
theorem ev_rl_inv {g : ev_G} {h : List ev_AC} {k : Nat} {q : Nat × va_E} (e : (ev_rl g h)[k]? = some q) : ∃ c, h[k]? = some c ∧ q = (ev_z g + k, ev_rc g c) := by
  rw [ev_rl, List.getElem?_mapIdx] at e
  cases hk : h[k]? with
  | none => rw [hk] at e; cases e
  | some c => rw [hk] at e; exact ⟨c, rfl, (Option.some.inj e).symm⟩
theorem ev_rl_set {g : ev_G} {h : List ev_AC} {k : Nat} {c : ev_AC} : (ev_rl g h).set k (ev_z g + k, ev_rc g c) = ev_rl g (h.set k c) := by
  apply List.ext_getElem?
  intro i
  simp only [ev_rl, List.getElem?_set, List.getElem?_mapIdx, List.length_mapIdx]
  by_cases hi : k = i
  · subst hi
    by_cases hl : k < h.length <;> simp [hl]
  · simp [hi]
theorem ev_rl_app {g : ev_G} {h : List ev_AC} {c : ev_AC} : ev_rl g (h ++ [c]) = ev_rl g h ++ [(ev_z g + h.length, ev_rc g c)] := by
  simp [ev_rl, List.mapIdx_concat]
theorem ev_rl_D (g : ev_G) (h : List ev_AC) : va_D (fun q => ev_z g ≤ q) (ev_rl g h) := by
  refine ⟨fun i j p q hi hj e => ?_, fun k q hk => ?_⟩
  · obtain ⟨_, -, rfl⟩ := ev_rl_inv hi
    obtain ⟨_, -, rfl⟩ := ev_rl_inv hj
    have e' : ev_z g + i = ev_z g + j := e
    omega
  · obtain ⟨_, -, rfl⟩ := ev_rl_inv hk
    exact Nat.le_add_right _ _
/-- the machine's heap is mine -/
def ev_HR (g : ev_G) (h : List ev_AC) (H : Heap) : Prop :=
  H.size = ev_z g + h.length ∧ (∀ q : Nat, q < ev_z g → H[q]? = (ev_H0 g)[q]?) ∧ va_P (ev_Dg g) ev_CL (ev_rl g h) H
theorem ev_HR.set {g : ev_G} {h : List ev_AC} {H H' : Heap} {k : Nat} {c0 c : ev_AC} (hH : ev_HR g h H) (hk : h[k]? = some c0)
    (hat : va_at (ev_Dg g) ev_CL (ev_z g + k, ev_rc g c) H') (hs : H'.size = H.size) (ho : ∀ q : Nat, q ≠ ev_z g + k → H'[q]? = H[q]?) : ev_HR g (h.set k c) H' := by
  refine ⟨by rw [hs, hH.1, List.length_set], fun q hq => by rw [ho q (by omega)]; exact hH.2.1 q hq, ?_⟩
  rw [← ev_rl_set]
  exact hH.2.2.set (ev_rl_D g h) (ev_rl_at hk) hat ho
theorem ev_HR.push {g : ev_G} {h : List ev_AC} {H H' : Heap} {c : ev_AC} (hH : ev_HR g h H) (hs : H'.size = H.size + 1) (ho : ∀ q : Nat, q < H.size → H'[q]? = H[q]?)
    (hat : va_at (ev_Dg g) ev_CL (H.size, ev_rc g c) H') : ev_HR g (h ++ [c]) H' := by
  refine ⟨by rw [hs, hH.1, List.length_append]; rfl, fun q hq => by rw [ho q (by rw [hH.1]; omega)]; exact hH.2.1 q hq, ?_⟩
  rw [ev_rl_app]
  refine (hH.2.2.kept (fun k q hk => ho q.1 (hH.2.2 k q hk).lt)).app (fun k q hk => ?_)
  have hz : k < 1 := (List.getElem?_eq_some_iff.mp hk).1
  rw [show k = 0 by omega] at hk
  cases hk
  rw [← hH.1]
  exact hat
/-- what a throw needs of the start: no traces; the words that are no good words; two statics that nobody writes -/
def ev_XA : List Cond := [.declares ⟨"java/lang/RuntimeException", "<init>", "(Ljava/lang/String;)V"⟩, .declares ⟨"java/lang/Exception", "<init>", "(Ljava/lang/String;)V"⟩, .declares ⟨"java/lang/Throwable", "<init>", "(Ljava/lang/String;)V"⟩,
  .castable "java/lang/IllegalArgumentException" "java/lang/IllegalArgumentException", .castable "java/lang/UnsupportedOperationException" "java/lang/UnsupportedOperationException", .castable "java/lang/IndexOutOfBoundsException" "java/lang/IndexOutOfBoundsException"]
def ev_ST (z : Nat) (n d : String) (s : State) : Prop :=
  (∀ a, (Cond.laysStatic "java/lang/Throwable" n d).before a s = true) ∧ (∀ a, (Cond.isRef (.static "java/lang/Throwable" n d)).before a s = true) ∧
  ∀ (c : Nat) (k : Class) (i : Nat) (f : Field) (a : Nat), s.fieldFound? "java/lang/Throwable" n d = some (c, k, i, f) → k.statics = some a → a < z
theorem ev_ST_mv {z : Nat} {n d : String} {s U : State} (hA : s.vm.Alike U.vm) (hh : ∀ a : Nat, a < z → U.heap[a]? = s.heap[a]?) (h : ev_ST z n d s) : ev_ST z n d U := by
  obtain ⟨h1, h2, h3⟩ := h
  obtain ⟨c, k, i, f, a, cell, hc, hi, hst, ha, hcell, hs, hcls, hlt, hty⟩ := Cond.laysStatic_spec (h1 #[])
  obtain ⟨k', hi', hek⟩ := State.fieldFound?_setVm hA hi
  have hi2 : U.fieldFound? "java/lang/Throwable" n d = some (c, k', i, f) := hi'
  have ha' : k'.statics = some a := by rw [hek]; exact ha
  have hz := h3 c k i f a hi ha
  have hcell' : U.heap[a]? = some cell := by rw [hh a hz]; exact hcell
  refine ⟨fun A => Cond.laysStatic_of (s := U) (by rw [hA.findClass]; exact hc) hi2 hst ha' hcell' hs hcls hlt (by rw [hek]; exact hty), fun A => ?_, fun c2 k2 i2 f2 a2 e1 e2 => ?_⟩
  · obtain ⟨v, hv, hr⟩ := Cond.isRef_spec (h2 A)
    obtain ⟨-, a', cell', q1, q2, -, q3⟩ := Term.static_spec hi hv
    cases ha.symm.trans q1
    cases hcell.symm.trans q2
    cases v <;> first | (cases hr; done) | simp [Cond.before, Cond.holds, Cond.value, Term.eval, State.fieldNamed?, hi2, hst, ha', hcell', hs, q3]
  · rw [hi2] at e1
    cases e1
    rw [ha'] at e2
    cases e2
    exact hz
/-- the entries of the texts -/
def ev_SR : List Nat := [46, 55, 59, 88, 109, 111, 134, 136, 150, 163, 179, 181]
/-- pairs of classes: the first is not the second's -/
def ev_XN : List (String × String) := [("java/lang/UnsupportedOperationException", "java/lang/IllegalArgumentException"), ("java/lang/IllegalArgumentException", "java/lang/IndexOutOfBoundsException")]
def ev_XS (g : ev_G) (s : State) : Prop :=
  ((ev_l g).stackTraces = false ∧ va_X (ev_sb g) (ev_sL g) (ev_sx g) s (ev_H0 g)) ∧ (∀ w ∈ ev_XA, ∀ a, w.before a s = true) ∧ ev_ST (ev_z g) "UNASSIGNED_STACK" "[Ljava/lang/StackTraceElement;" s ∧ ev_ST (ev_z g) "SUPPRESSED_SENTINEL" "Ljava/util/List;" s ∧ (∀ k ∈ ev_SR, ∃ tx a, vk_R RF k tx a s) ∧
  ∀ q ∈ ev_XN, ∃ a b, s.vm.findClass q.1 = some a ∧ s.vm.findClass q.2 = some b ∧ s.vm.assignable a b = false
theorem ev_XS_mv {g : ev_G} {s U : State} (hA : s.vm.Alike U.vm) (hh : ∀ a : Nat, a < ev_z g → U.heap[a]? = s.heap[a]?) (hr : ∀ k tx a, vk_R RF k tx a s → vk_R RF k tx a U) (h : ev_XS g s) : ev_XS g U := by
  refine ⟨⟨h.1.1, va_X.moved hA h.1.2⟩, fun w hw a => ?_, ev_ST_mv hA hh h.2.2.1, ev_ST_mv hA hh h.2.2.2.1, fun k hk => ?_, fun q hq => ?_⟩
  · have h1 : w.onTables = true ∧ w.faceAtom = true := by
      simp only [ev_XA, List.mem_cons, List.not_mem_nil, or_false] at hw
      rcases hw with rfl | rfl | rfl | rfl | rfl | rfl <;> exact ⟨rfl, rfl⟩
    have h2 := Cond.faceAtom_setVm (vm' := U.vm) hA w h1.2 (h.2.1 w hw a)
    exact (Cond.onTables_vm (A := a) (A' := a) (U := U) (U' := s) U.vm w h1.1).trans h2
  · obtain ⟨tx, a, q⟩ := h.2.2.2.2.1 k hk
    exact ⟨tx, a, hr k tx a q⟩
  · obtain ⟨a, b, q1, q2, q3⟩ := h.2.2.2.2.2 q hq
    exact ⟨a, b, by rw [hA.findClass]; exact q1, by rw [hA.findClass]; exact q2, by rw [hA.assignable]; exact q3⟩
theorem ev_XS_same {g : ev_G} {u U : State} (hv : u.vm = U.vm) (hh : u.heap = U.heap) (h : ev_XS g u) : ev_XS g U := ev_XS_mv (by rw [hv]; exact Vm.Alike.refl _) (fun a _ => by rw [hh]) (fun _ _ _ q => vk_R.same hv.symm q) h
theorem ev_XS_warm {g : ev_G} {s U : State} {h : List ev_AC} {H : Heap} (hW : s.WarmedH U.vm) (hH : ev_HR g h H) (hU : U.heap = H) (h0 : ∃ h0, ev_HR g h0 s.heap) (hX : ev_XS g s) : ev_XS g U := by
  obtain ⟨h1, q⟩ := h0
  exact ev_XS_mv hW.alike (fun a ha => by rw [hU, hH.2.1 a ha, q.2.1 a ha]) (fun _ _ _ q => vk_R.warm hW q) hX
/-- locals -/
def ev_lv (g : ev_G) (ls : List (Option Value)) : List (Nat × Value) := ls.zipIdx.filterMap (fun q => q.1.map (fun v => (q.2, ev_rv g v)))
theorem ev_lv_mem {g : ev_G} {ls : List (Option Value)} {q : Nat × Value} : q ∈ ev_lv g ls ↔ ∃ v, ls[q.1]? = some (some v) ∧ q.2 = ev_rv g v := by
  unfold ev_lv
  rw [List.mem_filterMap]
  constructor
  · rintro ⟨⟨o, i⟩, hm, he⟩
    rw [List.mem_zipIdx_iff_getElem?] at hm
    cases o with
    | none => cases he
    | some v =>
      cases he
      exact ⟨v, hm, rfl⟩
  · rintro ⟨v, h1, h2⟩
    refine ⟨(some v, q.1), List.mem_zipIdx_iff_getElem?.mpr h1, ?_⟩
    show some (q.1, ev_rv g v) = some q
    rw [← h2]
def ev_LH (g : ev_G) (rls : Array Slot) (n : Nat) (ls : List (Option Value)) : Prop :=
  ls.length = n ∧ lv_has rls n (ev_lv g ls) ∧ ∀ (i : Nat) (v : Value), ls[i]? = some (some v) → v.category = 1
theorem ev_LH.get {g : ev_G} {rls : Array Slot} {n : Nat} {ls : List (Option Value)} (h : ev_LH g rls n ls) {i : Nat} {v : Value} (e : ls[i]? = some (some v)) : rls[i]? = some (.val (ev_rv g v)) :=
  h.2.1.2.2 (i, ev_rv g v) (ev_lv_mem.mpr ⟨v, e, rfl⟩)
theorem ev_LH.put {g : ev_G} {rls rls' : Array Slot} {n : Nat} {ls : List (Option Value)} (h : ev_LH g rls n ls) {i : Nat} {v : Value} (hc : v.category = 1)
    (h' : lv_has rls' n ((i, ev_rv g v) :: (ev_lv g ls).filter (fun q => !(q.1 == i) && !(q.1 + 1 == i && q.2.category == 2)))) : ev_LH g rls' n (ls.set i (some v)) := by
  refine ⟨by rw [List.length_set]; exact h.1, ⟨h'.1, h'.2.1, fun q hq => ?_⟩, fun j w hj => ?_⟩
  · obtain ⟨w, h1, h2⟩ := ev_lv_mem.mp hq
    by_cases hi : q.1 = i
    · rw [hi] at h1
      have hl : i < (ls.set i (some v)).length := (List.getElem?_eq_some_iff.mp h1).1
      rw [List.length_set] at hl
      rw [List.getElem?_set_self hl] at h1
      cases h1
      have := h'.2.2 (i, ev_rv g v) List.mem_cons_self
      rw [hi, h2]
      exact this
    · rw [List.getElem?_set_ne (fun e => hi e.symm)] at h1
      refine h'.2.2 q (List.mem_cons_of_mem _ (List.mem_filter.mpr ⟨ev_lv_mem.mpr ⟨w, h1, h2⟩, ?_⟩))
      have hw := h.2.2 _ _ h1
      have hq2 : q.2.category = 1 := by rw [h2, ev_rv_cat]; exact hw
      simp [hi, hq2]
  · by_cases hi : j = i
    · subst hi
      have hl : j < (ls.set j (some v)).length := (List.getElem?_eq_some_iff.mp hj).1
      rw [List.length_set] at hl
      rw [List.getElem?_set_self hl] at hj
      cases hj
      exact hc
    · rw [List.getElem?_set_ne (fun e => hi e.symm)] at hj
      exact h.2.2 j w hj
theorem ev_lg_sl {vs : List Value} (h : ∀ v ∈ vs, v.category = 1) : lg_sl vs = vs.map Slot.val := by
  induction vs with
  | nil => rfl
  | cons a l ih =>
    have h1 : ¬ a.category = 2 := by rw [h a List.mem_cons_self]; decide
    show (if a.category = 2 then [Slot.val a, .second] else [.val a]) ++ lg_sl l = _
    rw [if_neg h1, ih (fun v hv => h v (List.mem_cons_of_mem _ hv))]
    rfl
theorem ev_lv_args {vs : List Value} (h : ∀ v ∈ vs, v.category = 1) : ∀ (k i : Nat) (v : Value), vs[i]? = some v → (k + i, v) ∈ lv_args k vs := by
  induction vs with
  | nil => intro k i v hi; simp at hi
  | cons a l ih =>
    intro k i v hi
    have h1 : ¬ a.category = 2 := by rw [h a List.mem_cons_self]; decide
    show (k + i, v) ∈ (k, a) :: lv_args (if a.category = 2 then k + 2 else k + 1) l
    rw [if_neg h1]
    cases i with
    | zero =>
      rw [List.getElem?_cons_zero] at hi
      cases hi
      exact List.mem_cons_self
    | succ i =>
      rw [List.getElem?_cons_succ] at hi
      have := ih (fun v hv => h v (List.mem_cons_of_mem _ hv)) (k + 1) i v hi
      rw [show k + (i + 1) = k + 1 + i by omega]
      exact List.mem_cons_of_mem _ this
theorem ev_LH.entry {g : ev_G} {as : List Value} {n : Nat} (hn : as.length ≤ n) (hc : ∀ v ∈ as, v.category = 1) :
    ev_LH g ((lg_sl (as.map (ev_rv g)) ++ List.replicate (n - (lg_sl (as.map (ev_rv g))).length) Slot.unset).toArray) n (as.map some ++ List.replicate (n - as.length) none) := by
  have hc' : ∀ v ∈ as.map (ev_rv g), v.category = 1 := by
    intro v hv
    obtain ⟨w, hw, rfl⟩ := List.mem_map.mp hv
    rw [ev_rv_cat]; exact hc w hw
  have hlen : (lg_sl (as.map (ev_rv g))).length = as.length := by rw [ev_lg_sl hc']; simp
  have he := lv_entry (as.map (ev_rv g)) (n := n) (by rw [hlen]; exact hn)
  have key : ∀ (i : Nat) (v : Value), (as.map some ++ List.replicate (n - as.length) none)[i]? = some (some v) → as[i]? = some v := by
    intro i v hi
    by_cases hl : i < as.length
    · rw [List.getElem?_append_left (by simpa using hl), List.getElem?_map] at hi
      cases ha : as[i]? with
      | none => rw [ha] at hi; cases hi
      | some w => rw [ha] at hi; cases hi; rfl
    · rw [List.getElem?_append_right (by simpa using Nat.not_lt.mp hl), List.getElem?_replicate] at hi
      split at hi <;> cases hi
  refine ⟨by simp; omega, ⟨he.1, he.2.1, fun q hq => ?_⟩, fun i v hi => hc v (List.mem_of_getElem? (key i v hi))⟩
  obtain ⟨v, h1, h2⟩ := ev_lv_mem.mp hq
  have h3 := ev_lv_args hc' 0 q.1 (ev_rv g v) (by rw [List.getElem?_map, key _ _ h1]; rfl)
  rw [Nat.zero_add, ← h2] at h3
  exact he.2.2 q h3
/-- what a frame of the method M knows -/
def ev_Fx (g : ev_G) (M : ev_M) (p : Program) (s : State) (m : MethodId) (args : Array Value) (meth : Method) (c : Code) : Prop :=
  p.tables.exec = Jvm.exec ∧ c.code = M.2.1 ∧ c.maxLocals = M.2.2.1 ∧ s.vm.findClass M.1.cls = some m.cls ∧
  (∀ w ∈ ev_WS, w.before args s = true) ∧ va_K (ev_Dg g) ev_CL [(ev_I g, .int), (ev_J g, .long)] s ∧ (∀ w ∈ ev_NW, va_Nw w s) ∧
  meth.sig.returnType = M.2.2.2.1 ∧ meth.locks = false ∧ meth.name = M.1.name ∧ c.exceptionTable.toList = tableOf M.2.2.2.2 ∧ (∃ h0, ev_HR g h0 s.heap) ∧ ev_XS g s
def ev_FE (X : Bool) (first : State) (o : Outcome) (t : State) (L : List Loc) (k n : Nat) : Prop :=
  (X = true ∨ ∃ v, o = .returned v) ∧ first.WarmedH t.vm ∧ first.sameButNew ({ t with vm := first.vm } : State) L k n
def ev_MQ (X : Bool) (below : List Frame) (Qc : Array Value → State → Outcome → State → Prop) (a : Array Value) (s : State) (mc ms : Nat) (free : Addr → Prop) : State → Prop := fun t =>
  ∃ o, t.status = .running ∧ Ended t below o ∧ Qc a s o t ∧ ∃ L, ev_FE X s o t L mc ms ∧ ∀ q ∈ L, free q.base
/-- an end: an answer, or the number of the cell that is thrown -/
abbrev ev_O : Type := Option Value ⊕ Nat
def ev_ro (g : ev_G) : ev_O → Outcome
  | .inl v => .returned (v.map (ev_rv g))
  | .inr i => .threw (ev_z g + i)
def ev_QX (g : ev_G) (Q : ev_O → List ev_AC → Prop) : Array Value → State → Outcome → State → Prop := fun _ _ o t =>
  ∃ (out : ev_O) (h' : List ev_AC), o = ev_ro g out ∧ Q out h' ∧ ev_HR g h' t.heap
def ev_Cx (g : ev_G) (M : ev_M) (d : Nat) (ls : List (Option Value)) (h : List ev_AC) (kc ks : Nat) (p : Program) (R : Room) (s : State) (m : MethodId) (args : Array Value) (meth : Method) (c : Code) (H : Heap) (locs : List Loc) (cells slots : Nat) (rls : Array Slot) : Prop :=
  ev_Fx g M p s m args meth c ∧ (d ≤ R.frames ∧ 40 * d ≤ R.locals) ∧ ev_HR g h H ∧ (∀ q ∈ locs, ev_z g ≤ q.base) ∧ (cells + kc ≤ R.cells ∧ slots + ks ≤ R.slots) ∧ ev_LH g rls M.2.2.1 ls
/-- the walk -/
def ev_E (g : ev_G) (X : Bool) (M : ev_M) (d pc : Nat) (ls : List (Option Value)) (st : List Value) (h : List ev_AC) (kc ks : Nat) (Q : ev_O → List ev_AC → Prop) : Prop :=
  ∀ (p : Program) (e : Env) (R : Room) (s : State) (m : MethodId) (args : Array Value) (below : List Frame) (meth : Method) (c : Code) (H : Heap) (locs : List Loc) (cells slots : Nat) (rls : Array Slot),
    ev_Cx g M d ls h kc ks p R s m args meth c H locs cells slots rls →
    W p (ev_l g) e R s m args below meth c H locs cells slots (ev_MQ X below (ev_QX g Q) args s R.cells R.slots (fun q => ev_z g ≤ q)) (F0 m pc rls (st.map (ev_rv g)))
def ev_Pc (g : ev_G) (as : List Value) (h : List ev_AC) : Array Value → State → Prop := fun v U =>
  v = (as.map (ev_rv g)).toArray ∧ ev_HR g h U.heap ∧ va_K (ev_Dg g) ev_CL [(ev_I g, .int), (ev_J g, .long)] U ∧ (∀ w ∈ ev_NW, va_Nw w U) ∧ ev_XS g U
def ev_ws (M : ev_M) : List Cond := Cond.code M.1 M.2.1 M.2.2.1 M.2.2.2.1 :: ev_WS
/-- a method's contract -/
def ev_C (g : ev_G) (M : ev_M) (d : Nat) (as : List Value) (h : List ev_AC) (kc ks : Nat) (Q : ev_O → List ev_AC → Prop) : Prop :=
  Met (ev_l g) M.1 (ev_ws M) { frames := d, cells := kc, slots := ks, locals := 40 * d } (ev_Pc g as h) (ev_QX g Q) kc ks (fun q => ev_z g ≤ q)
