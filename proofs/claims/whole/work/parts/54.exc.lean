/-! Exceptions: the walk seen from where it stands -/
section EX0
variable {p : Program} {l : Launch} {e : Env} {R : Room} {s : State} {m : MethodId} {args : Array Value} {below : List Frame} {meth : Method} {c : Code} {T : State} {locs : List Loc} {cells slots : Nat}
theorem ev_hears {s T : State} {m : MethodId} {fs below : List Frame} (h : s.vm.Alike T.vm) : (T.setFrames fs).hears m below = s.hears m below := by
  have h1 : ∀ q, (T.setFrames fs).code? q = s.code? q := fun q => (State.code?_setVm (s := s) (vm' := T.vm) h q)
  have h2 : (T.setFrames fs).vm.method? m = s.vm.method? m := h.method? m
  cases below with
  | nil => show ((T.setFrames fs).vm.method? m).any _ = _; rw [h2]; rfl
  | cons f r =>
    cases f <;> first
      | rfl
      | (show Option.isSome (((T.setFrames fs).code? _).bind _) = _; rw [h1]; rfl)
      | (show ((T.setFrames fs).vm.method? m).any _ = _; rw [h2]; rfl)
/-- the invocation, as if it began here -/
theorem ev_rebase (X : Stand p l e R s m args below meth c T locs cells slots) {kc ks : Nat} (h1 : cells + kc ≤ R.cells) (h2 : slots + ks ≤ R.slots) :
    Stand p l e { R with cells := kc, slots := ks } (T.setFrames (.invoking m args :: below)) m args below meth c T [] 0 0 := by
  obtain ⟨g0, hg⟩ := Option.isSome_iff_exists.mp X.here.top
  obtain ⟨r, hr⟩ := State.topJava?_eq_some.mp hg
  have hcur : T.cur < T.threads.size := State.cur_lt_of_frames hr
  have hm : T.vm.method? m = some meth := by rw [X.warmed.alike.method?]; exact X.method
  have hfs := State.frames_setFrames (s := T) (.invoking m args :: below) hcur
  have own : T.setFrames T.frames = T := congrArg (fun q : State => q.setVm T.vm) (Jvm.Sym.setFrames_own X.same)
  obtain ⟨t, ht, -⟩ := State.frames_cons hfs
  refine ⟨X.admits, X.cas, X.clock, hfs, ?_, (ev_hears X.warmed.alike).trans X.hears, hm, X.code, X.here, X.tail, State.WarmedH.refl _, by rw [State.stackLimits_setFrames], by rw [State.stackBytes_setFrames], ?_⟩
  · have hR := X.room
    have hb := X.book
    have hz := X.heapSize
    have hu := X.used
    have hlim := X.limits
    have hby := X.bytes
    simp only [State.hasRoom, Bool.and_eq_true, decide_eq_true_eq] at hR ⊢
    rw [State.localsInUse_invoking hfs hm X.code, hfs, State.stackLimits_setFrames, State.stackBytes_setFrames, hlim, hby]
    rw [State.localsInUse_invoking X.frames X.method X.code, X.frames] at hR
    obtain ⟨⟨⟨⟨r1, r2⟩, r3⟩, r4⟩, r5⟩ := hR
    refine ⟨⟨⟨⟨r1, r2⟩, ?_⟩, ?_⟩, hb⟩
    · show T.heap.size + kc ≤ _; omega
    · show T.slotsUsed + ks ≤ _; omega
  · have q := (State.sameButNew.refl _ ht).setFrames T.frames (State.cur_lt_of_frames hfs)
    rw [State.setFrames_setFrames, own] at q
    exact q
end EX0
def ev_nm : List String := ["java/lang/RuntimeException", "java/lang/Exception"]
def ev_XZ : List Cond := [.laysStatic "java/lang/Throwable" "UNASSIGNED_STACK" "[Ljava/lang/StackTraceElement;", .laysStatic "java/lang/Throwable" "SUPPRESSED_SENTINEL" "Ljava/util/List;", .isRef (.static "java/lang/Throwable" "UNASSIGNED_STACK" "[Ljava/lang/StackTraceElement;"), .isRef (.static "java/lang/Throwable" "SUPPRESSED_SENTINEL" "Ljava/util/List;")]
def ev_okW (a : Cond) : Bool := ((decide (a ∈ tables_1_1) || decide (a ∈ tables_1_2) || decide (a ∈ tables_1_3)) && goodWord a && (a.onTables && a.keeps)) || decide (a ∈ ev_XA) || decide (a ∈ ev_XZ)
def ev_OW (own : String) (ic : Nat) (C : String) : Prop := ∀ a ∈ Bundle.ownAtoms own ic C ev_nm, (a ∈ ev_WS ∧ (a.onTables && a.keeps) = true) ∨ a ∈ ev_XA ∨ a ∈ ev_XZ
theorem ev_OW_of {own : String} {ic : Nat} {C : String} (h : (Bundle.ownAtoms own ic C ev_nm).all ev_okW = true) : ev_OW own ic C := by
  intro a ha
  have h1 := List.all_eq_true.mp h a ha
  simp only [ev_okW, Bool.or_eq_true, Bool.and_eq_true, decide_eq_true_eq] at h1
  rcases h1 with (⟨⟨h1, h2⟩, h3⟩ | h1) | h1
  · refine Or.inl ⟨List.mem_filter.mpr ⟨?_, h2⟩, by rw [h3.1, h3.2]; rfl⟩
    rcases h1 with (h1 | h1) | h1
    · exact List.mem_append_right _ (List.mem_append_left _ h1)
    · exact List.mem_append_right _ (List.mem_append_right _ (List.mem_append_left _ h1))
    · exact List.mem_append_right _ (List.mem_append_right _ (List.mem_append_right _ (List.mem_append_left _ h1)))
  · exact Or.inr (Or.inl h1)
  · exact Or.inr (Or.inr h1)
theorem ow_48 : ev_OW RF 48 "java/lang/IllegalArgumentException" := ev_OW_of (by decide +kernel)
theorem ow_61 : ev_OW RF 61 "java/lang/UnsupportedOperationException" := ev_OW_of (by decide +kernel)
theorem ow_90 : ev_OW RF 90 "java/lang/IndexOutOfBoundsException" := ev_OW_of (by decide +kernel)
section EX1
variable {g : ev_G} {M : ev_M} {d pc : Nat} {ls : List (Option Value)} {st : List Value} {h : List ev_AC} {kc ks : Nat} {Q : ev_O → List ev_AC → Prop}
theorem ev_warmW {s U : State} {args args' : Array Value} {w : Cond} (hg : (w.onTables && w.keeps) = true) (hW : s.WarmedH U.vm) (h : w.before args s = true) : w.before args' U = true :=
  Cond.onTables_warm (T := U) hW (Bool.and_eq_true_iff.mp hg).1 (Bool.and_eq_true_iff.mp hg).2 h
/-- new, dup, ldc, the constructor, athrow -/
theorem ev_throw {jc si ic ci : Nat} {C : String} (hd0 : decode M.2.1 pc = .ok (.new jc, 3)) (hd3 : decode M.2.1 (pc + 3) = .ok (.dup, 1)) (hd4 : decode M.2.1 (pc + 4) = .ok (.ldc si, 2)) (hd6 : decode M.2.1 (pc + 6) = .ok (.invokespecial ic, 3)) (hd9 : decode M.2.1 (pc + 9) = .ok (.athrow, 1))
    (hcl : ev_CL[ci]? = some (C, TX, 0)) (w1 : Cond.classLink M.1.cls jc C ∈ ev_WS) (w2 : Cond.instantiable C 6 ∈ ev_WS) (w3 : Cond.initialized C ∈ ev_WS) (w4 : si ∈ ev_SR) (hRF : M.1.cls = RF)
    (hO : ev_OW M.1.cls ic C) (hfit : Bundle.fit C = true) (htb : M.2.2.2.2 = []) (hs : (st.map fun v => v.category).sum ≤ 8) (hd : 6 ≤ d)
    (kk : Q (.inr h.length) (h ++ [.inr (ci, [])])) : ev_E g true M d pc ls st h (kc + 1) (ks + 6) Q := by
  intro p e R s m args below meth c H locs cells slots rls C0
  obtain ⟨hx, hb, hml, hown, hts, hK, hN, hret, hlk, hnm, htab, h0, hXS⟩ := C0.1
  intro T hT X
  have hcc := C0.2.2.2.2.1
  have X' := ev_rebase X (kc := 1) (ks := 6) (by omega) (by omega)
  have hW : s.WarmedH (T.setFrames (.invoking m args :: below)).vm := X.warmed
  have hXS' : ev_XS g (T.setFrames (.invoking m args :: below)) := ev_XS_warm hW C0.2.2.1 hT h0 hXS
  have wd : ∀ w, w ∈ ev_WS → (w.onTables && w.keeps) = true → w.before args (T.setFrames (.invoking m args :: below)) = true := fun w hw hg => ev_warmW hg hW (hts w hw)
  have hown' : (T.setFrames (.invoking m args :: below)).vm.findClass M.1.cls = some m.cls := by rw [hW.alike.findClass]; exact hown
  have hfc : (T.setFrames (.invoking m args :: below)).vm.findClass C = some ((ev_Dg g).1 ci) := by rw [hW.alike.findClass]; exact (hK.1 ci _ hcl).2.1
  obtain ⟨tx, q, hZ⟩ := hXS'.2.2.2.2.1 si w4
  rw [← hRF] at hZ
  have hcur : s.cur < s.threads.size := X.cur
  have wk : W p (ev_l g) e { R with cells := 1, slots := 6 } (T.setFrames (.invoking m args :: below)) m args below meth c H [] 0 0 (ev_MQ true below (ev_QX g Q) args s R.cells R.slots (fun q => ev_z g ≤ q)) (F0 m pc rls (st.map (ev_rv g))) := by
    refine W.newcK (n := 6) hx hb hown' (wd _ w1 rfl) (wd _ w2 rfl) (wd _ w3 rfl) rfl hd0 (Nat.le_refl _) (Nat.le_refl _) hfc rfl fun H1 kC hkC e1 z1 o1 => ?_
    refine lv_dup hx hb hd3 rfl ?_
    refine va_ldcS hx hb hown' hZ hd4 ?_
    intro T2 hT2 X2
    have hR := C0.2.1
    have hb2 : c.code = M.2.1 := hb
    have hsum := ev_rv_sum g st
    obtain ⟨U, u1, u2, u3, u4, u5, ce, u6, u7⟩ := X2.ctorThrowS hx (by rw [X.admits.platform]; exact hXS.1.1) (own := M.1.cls) (cls := C) (names := ev_nm) (ic := ic) hown' hfit (by decide +kernel) (fun a ha => by
        rcases hO a ha with ⟨h1, h2⟩ | h1 | h1
        · exact wd a h1 h2
        · exact hXS'.2.1 a h1 args
        · simp only [ev_XZ, List.mem_cons, List.not_mem_nil, or_false] at h1
          rcases h1 with rfl | rfl | rfl | rfl
          · exact hXS'.2.2.1.1 args
          · exact hXS'.2.2.2.1.1 args
          · exact hXS'.2.2.1.2.1 args
          · exact hXS'.2.2.2.1.2.1 args) (fun x hx => by cases hx) (a := H.size) hfc hkC (by rw [hT2]; exact e1) (by show T.heap.size ≤ H.size; rw [hT]; exact Nat.le_refl _) (msg := .ref q) rfl
        (g := F0 m (pc + 6) rls (.ref q :: .ref H.size :: .ref H.size :: st.map (ev_rv g))) rfl (by rw [hml]; exact C0.2.2.2.2.2.2.1.1) rfl rfl rfl (by rw [hb]; exact hd6) (by rw [hb]; exact hd9) (by rw [htab, htb]; intro x hx; cases hx) (by show 2 + 3 < R.frames; omega) (by
          show 2 * 0 + (1 + ((st.map (ev_rv g)).map fun v => v.category).sum) + (13 * (2 + 1) + 42) ≤ R.locals
          omega) hlk
    refine ⟨U, u1, .threw H.size, u2, u3, ⟨.inr h.length, h ++ [.inr (ci, [])], by rw [C0.2.2.1.1]; rfl, kk, ?_⟩, locs, ⟨Or.inl rfl, State.WarmedH.trans X.warmed u4, ?_⟩, C0.2.2.2.1⟩
    · have hsz : U.heap.size = H.size + 1 := by
        have a1 : U.heap.size ≤ T.heap.size + 1 := u5.2.2.1
        have a2 : H.size < U.heap.size := (Array.getElem?_eq_some_iff.mp u6).1
        rw [hT] at a1
        omega
      refine C0.2.2.1.push hsz (fun q hq => ?_) ⟨_, hcl, ce, u6, ?_, u7.vm, fun k hk => absurd hk (Nat.not_lt_zero _)⟩
      · have a1 : T.heap[q]? = some H[q] := by rw [hT]; exact Array.getElem?_eq_getElem hq
        have a2 : U.heap[q]? = some H[q] := u5.old_cell a1
        rw [a2, Array.getElem?_eq_getElem hq]
      · have a1 := u7.cls
        rw [hfc] at a1
        exact (Option.some.inj a1).symm
    · have a1 := (X.same.setFrames (.invoking m args :: below) hcur).trans (u5.setVm s.vm)
      exact a1.weaken (fun x hx _ => by rw [List.append_nil] at hx; exact hx) (by omega) (by omega)
  exact wk T hT X'
end EX1
