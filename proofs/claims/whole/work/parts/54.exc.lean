/-! Exceptions: the walk seen from where it stands -/
section EX0
variable {p : Program} {l : Launch} {e : Env} {R : Room} {s : State} {m : MethodId} {args : Array Value} {below : List Frame} {meth : Method} {c : Code} {T : State} {locs : List Loc} {cells slots : Nat}
theorem ev_hears {s T : State} {m : MethodId} {fs below : List Frame} (h : s.vm.Alike T.vm) : (T.setFrames fs).hears m below = s.hears m below := by
  have h1 : ∀ q, (T.setFrames fs).code? q = s.code? q := fun q => (State.code?_setVm (s := s) (vm' := T.vm) h q)
  have h2 : (T.setFrames fs).vm.method? m = s.vm.method? m := h.method? m
  cases below with
  | nil => show ((T.setFrames fs).vm.method? m).any _ = _; rw [h2]; rfl
  | cons f r =>
    cases f <;> first
      | rfl
      | (show Option.isSome (((T.setFrames fs).code? _).bind _) = _; rw [h1]; rfl)
      | (show ((T.setFrames fs).vm.method? m).any _ = _; rw [h2]; rfl)
/-- the invocation, as if it began here -/
theorem ev_rebase (X : Stand p l e R s m args below meth c T locs cells slots) {kc ks : Nat} (h1 : cells + kc ≤ R.cells) (h2 : slots + ks ≤ R.slots) :
    Stand p l e { R with cells := kc, slots := ks } (T.setFrames (.invoking m args :: below)) m args below meth c T [] 0 0 := by
  obtain ⟨g0, hg⟩ := Option.isSome_iff_exists.mp X.here.top
  obtain ⟨r, hr⟩ := State.topJava?_eq_some.mp hg
  have hcur : T.cur < T.threads.size := State.cur_lt_of_frames hr
  have hm : T.vm.method? m = some meth := by rw [X.warmed.alike.method?]; exact X.method
  have hfs := State.frames_setFrames (s := T) (.invoking m args :: below) hcur
  have own : T.setFrames T.frames = T := congrArg (fun q : State => q.setVm T.vm) (Jvm.Sym.setFrames_own X.same)
  obtain ⟨t, ht, -⟩ := State.frames_cons hfs
  refine ⟨X.admits, X.cas, X.clock, hfs, ?_, (ev_hears X.warmed.alike).trans X.hears, hm, X.code, X.here, X.tail, State.WarmedH.refl _, by rw [State.stackLimits_setFrames], by rw [State.stackBytes_setFrames], ?_⟩
  · have hR := X.room
    have hb := X.book
    have hz := X.heapSize
    have hu := X.used
    have hlim := X.limits
    have hby := X.bytes
    simp only [State.hasRoom, Bool.and_eq_true, decide_eq_true_eq] at hR ⊢
    rw [State.localsInUse_invoking hfs hm X.code, hfs, State.stackLimits_setFrames, State.stackBytes_setFrames, hlim, hby]
    rw [State.localsInUse_invoking X.frames X.method X.code, X.frames] at hR
    obtain ⟨⟨⟨⟨r1, r2⟩, r3⟩, r4⟩, r5⟩ := hR
    refine ⟨⟨⟨⟨r1, r2⟩, ?_⟩, ?_⟩, hb⟩
    · show T.heap.size + kc ≤ _; omega
    · show T.slotsUsed + ks ≤ _; omega
  · have q := (State.sameButNew.refl _ ht).setFrames T.frames (State.cur_lt_of_frames hfs)
    rw [State.setFrames_setFrames, own] at q
    exact q
end EX0
