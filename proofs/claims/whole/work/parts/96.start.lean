/-! The start: what the Statement gives of the first state, in the machine's words -/
theorem wn_A : Cond.instantiable "java/lang/IllegalArgumentException" 6 ∈ ev_WS := ev_inB 175 rfl rfl
theorem wn_U : Cond.instantiable "java/lang/UnsupportedOperationException" 6 ∈ ev_WS := ev_inC 12 rfl rfl
theorem wn_I : Cond.instantiable "java/lang/IndexOutOfBoundsException" 6 ∈ ev_WS := ev_inC 40 rfl rfl
theorem st_arr {s : State} {args : Array Value} {ty : FieldType} (h : (Cond.arrayClass ty).before args s = true) : ∃ cA, ArrOfT s cA ty ∧ s.vm.findClass ("[" ++ ty.toString) = some cA := by
  obtain ⟨cA, k, comp, h1, h2, h3⟩ := Cond.arrayClass_spec h
  exact ⟨cA, fun n z => ⟨fun k h => (by cases h), k, h2, comp, h3⟩, h1⟩
theorem st_K {s : State} {args : Array Value} (hts : ∀ w ∈ ev_WS, w.before args s = true) : ∃ (D : va_G) (I J : ClassId), va_K D ev_CL [(I, .int), (J, .long)] s := by
  obtain ⟨c0, i0, h0⟩ := u_known hts wl_F (hts _ wn_F)
  obtain ⟨c1, i1, h1⟩ := u_known hts wl_P (hts _ wn_P)
  obtain ⟨c2, i2, h2⟩ := u_known hts wl_R (hts _ wn_R)
  obtain ⟨c3, i3, h3⟩ := u_known hts wl_O (hts _ wn_O)
  obtain ⟨c4, i4, h4⟩ := u_known hts wl_M (hts _ wn_M)
  obtain ⟨c5, i5, h5⟩ := u_known (T := TX) (N := 0) hts (fun w hw => absurd hw List.not_mem_nil) (hts _ wn_A)
  obtain ⟨c6, i6, h6⟩ := u_known (T := TX) (N := 0) hts (fun w hw => absurd hw List.not_mem_nil) (hts _ wn_U)
  obtain ⟨c7, i7, h7⟩ := u_known (T := TX) (N := 0) hts (fun w hw => absurd hw List.not_mem_nil) (hts _ wn_I)
  obtain ⟨I, hI1, hI2⟩ := st_arr (hts _ wa_int)
  obtain ⟨J, hJ1, hJ2⟩ := st_arr (hts _ wa_long)
  refine ⟨(fun k => match k with | 0 => c0 | 1 => c1 | 2 => c2 | 3 => c3 | 4 => c4 | 5 => c5 | 6 => c6 | _ => c7, fun k => match k with | 0 => i0 | 1 => i1 | 2 => i2 | 3 => i3 | 4 => i4 | 5 => i5 | 6 => i6 | _ => i7), I, J, fun k q hq => ?_, fun k q hq => ?_⟩
  · rcases k with _ | _ | _ | _ | _ | _ | _ | _ | k
    · cases Option.some.inj hq; exact h0
    · cases Option.some.inj hq; exact h1
    · cases Option.some.inj hq; exact h2
    · cases Option.some.inj hq; exact h3
    · cases Option.some.inj hq; exact h4
    · cases Option.some.inj hq; exact h5
    · cases Option.some.inj hq; exact h6
    · cases Option.some.inj hq; exact h7
    · cases hq
  · rcases k with _ | _ | k
    · cases Option.some.inj hq; exact ⟨hI1, hI2⟩
    · cases Option.some.inj hq; exact ⟨hJ1, hJ2⟩
    · cases hq
/-- a static that a word lays, and that holds a reference -/
theorem st_ST {s : State} {A : Array Value} {n d : String} (h1 : (Cond.laysStatic "java/lang/Throwable" n d).before A s = true) (h2 : (Cond.isRef (.static "java/lang/Throwable" n d)).before A s = true) : ev_ST s.heap.size n d s := by
  obtain ⟨c, k, i, f, a, cell, hc, hi, hst, ha, hcell, hs, hcls, hlt, hty⟩ := Cond.laysStatic_spec h1
  refine ⟨fun A' => Cond.laysStatic_of hc hi hst ha hcell hs hcls hlt hty, fun A' => ?_, fun c2 k2 i2 f2 a2 e1 e2 => ?_⟩
  · obtain ⟨v, hv, hr⟩ := Cond.isRef_spec h2
    obtain ⟨-, a', cell', q1, q2, -, q3⟩ := Term.static_spec hi hv
    cases ha.symm.trans q1
    cases hcell.symm.trans q2
    cases v <;> first | (cases hr; done) | simp [Cond.before, Cond.holds, Cond.value, Term.eval, State.fieldNamed?, hi, hst, ha, hcell, hs, q3]
  · rw [hi] at e1
    cases e1
    rw [ha] at e2
    cases e2
    exact (Array.getElem?_eq_some_iff.mp hcell).1
theorem st_R {s : State} {A : Array Value} {k : Nat} {tx : String} (hw : (Cond.stringRef RF k tx).before A s = true) (hF : ∃ c, s.vm.findClass RF = some c) : ∃ tx a, vk_R RF k tx a s := by
  obtain ⟨c, hc⟩ := hF
  obtain ⟨kk, cf, i, a, -, -, -, -, -, h6⟩ := Cond.stringRef_spec hc hw
  exact ⟨tx, a, vk_R.of hw h6⟩
theorem st_N {s : State} {A : Array Value} {x y : String} (h : (Cond.not (Cond.castable x y)).before A s = true) : ∃ a b, s.vm.findClass x = some a ∧ s.vm.findClass y = some b ∧ s.vm.assignable a b = false := by
  cases h1 : s.vm.findClass x with
  | none => simp [Cond.before, Cond.holds, Cond.value, h1] at h
  | some a =>
    cases h2 : s.vm.findClass y with
    | none => simp [Cond.before, Cond.holds, Cond.value, h1, h2] at h
    | some b =>
      refine ⟨a, b, rfl, rfl, ?_⟩
      simpa [Cond.before, Cond.holds, Cond.value, h1, h2] using h
theorem st_in {w : Cond} (i : Nat) (h : lw_tbl[i]? = some w) : w ∈ lw_tbl := List.mem_of_getElem? h
/-- nothing that was there was written -/
theorem st_nil {s s' : State} {L : List Loc} {k n : Nat} (h : s.sameButNew s' L k n) (hL : ∀ q ∈ L, s.heap.size ≤ q.base) : s.sameButNew s' [] k n := by
  obtain ⟨h1, h2, h3, h4, h5, h6⟩ := h
  refine ⟨h1, h2, h3, h4, h5, fun a c hc => ?_⟩
  obtain ⟨c', q1, q2, q3, q4⟩ := h6 a c hc
  refine ⟨c', q1, q2, q3, fun i _ => q4 i (fun hm => ?_)⟩
  have ha : a < s.heap.size := (Array.getElem?_eq_some_iff.mp hc).1
  have := hL _ hm
  exact absurd this (Nat.not_le.mpr ha)
