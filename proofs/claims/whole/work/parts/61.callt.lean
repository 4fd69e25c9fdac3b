/-! The machine: a call that may throw, in a method that catches -/
def ca_H (M : ev_M) (pc cx hp : Nat) : Prop := ∃ C : String, ev_CL[cx]? = some (C, TX, 0) ∧ Cond.castable C C ∈ ev_XA ∧
  ((∃ a b ct rest, M.2.2.2.2 = (a, b, hp, ct) :: rest ∧ (a ≤ pc ∧ pc < b) ∧ ct ≠ 0 ∧ Cond.classLink M.1.cls ct C ∈ ev_WS) ∨
   ∃ a b hp' ct a2 b2 ct2 rest C', M.2.2.2.2 = (a, b, hp', ct) :: (a2, b2, hp, ct2) :: rest ∧ (a ≤ pc ∧ pc < b) ∧ (a2 ≤ pc ∧ pc < b2) ∧ ct ≠ 0 ∧ ct2 ≠ 0 ∧ Cond.classLink M.1.cls ct C' ∈ ev_WS ∧ Cond.classLink M.1.cls ct2 C ∈ ev_WS ∧ (C, C') ∈ ev_XN)
section CC
variable {g : ev_G} {X : Bool} {M : ev_M} {d pc : Nat} {ls : List (Option Value)} {st : List Value} {h : List ev_AC} {kc ks : Nat} {Q : ev_O → List ev_AC → Prop}
/-- the handler is found -/
theorem ca_hand {p : Program} {e : Env} {R : Room} {s : State} {m : MethodId} {args : Array Value} {below : List Frame} {meth : Method} {c : Code} {H : Heap} {locs locs' : List Loc} {cells slots cells' slots' : Nat} {rls : Array Slot} {T : State} {cx hp i : Nat} {h' : List ev_AC} {f : JFrame}
    (C : ev_Cx g M d ls h kc ks p R s m args meth c H locs cells slots rls) (Y : Stand p (ev_l g) e R s m args below meth c T locs' cells' slots') (hH : ev_HR g h' T.heap) (hi : h'[i]? = some (.inr (cx, []))) (hh : ca_H M pc cx hp) (hf : f.method = m) (hpc : f.pc = pc) :
    ∃ vm', s.WarmedH vm' ∧ ca_finds e ((T.setTop f).pushFrame (.throwing (ev_z g + i))) f (ev_z g + i) hp vm' := by
  obtain ⟨hx, hb, hml, hown, hts, hK, hN, hret, hlk, hnm, htab, h0, hXS⟩ := C.1
  obtain ⟨Cn, hcl, hca, hrows⟩ := hh
  have hpl : e.platform.magicAccessors = ({} : Platform).magicAccessors := by rw [Y.admits.platform]
  obtain ⟨q', hq', cell, c1, c2, c3, -⟩ := hH.2.2 i _ (ev_rl_at hi)
  have hfc : s.vm.findClass Cn = some cell.cls := by rw [c2]; exact (hK.1 cx _ hcl).2.1
  have hm : ((T.setTop f).pushFrame (.throwing (ev_z g + i))).vm.method? f.method = some meth := by
    show T.vm.method? f.method = some meth
    rw [hf, Y.warmed.alike.method?]; exact Y.method
  have hk : ∃ k, s.vm.classes[cell.cls]? = some k := Vm.classAt_of_findClass hfc
  have hself : s.vm.assignable cell.cls cell.cls = true := by
    obtain ⟨c4, c5, q1, q2, q3⟩ := Cond.castable_spec (hXS.2.1 _ hca #[])
    rw [hfc] at q1 q2
    cases q1; cases q2
    exact q3
  have hown' : s.vm.findClass M.1.cls = some f.method.cls := by rw [hf]; exact hown
  rcases hrows with ⟨a, b, ct, rest, e1, e2, e3, e4⟩ | ⟨a, b, hp', ct, a2, b2, ct2, rest, C', e1, e2, e2', e3, e3', e4, e4', e5⟩
  · obtain ⟨cc, q1, q2⟩ := Cond.classLink_spec hown' (hts _ e4) e.platform hpl
    rw [hfc] at q1
    cases q1
    rw [e1] at htab
    refine ca_find1 (s0 := s) (S := (T.setTop f).pushFrame (.throwing (ev_z g + i))) Y.warmed hm Y.code htab ?_ e3 q2 c1 c3 hk hself
    rw [hpc]
    simp [covers, e2.1, e2.2]
  · obtain ⟨cc, q1, q2⟩ := Cond.classLink_spec hown' (hts _ e4) e.platform hpl
    obtain ⟨cc2, r1, r2⟩ := Cond.classLink_spec hown' (hts _ e4') e.platform hpl
    rw [hfc] at r1
    cases r1
    obtain ⟨u, v, n1, n2, n3⟩ := hXS.2.2.2.2.2 _ e5
    have n1' : s.vm.findClass Cn = some u := n1
    have n2' : s.vm.findClass C' = some v := n2
    rw [hfc] at n1'
    cases n1'
    rw [q1] at n2'
    cases n2'
    rw [e1] at htab
    refine ca_find2 (s0 := s) (S := (T.setTop f).pushFrame (.throwing (ev_z g + i))) Y.warmed hm Y.code htab ?_ e3 q2 ?_ e3' r2 c1 c3 hk n3 hself
    · rw [hpc]; simp [covers, e2.1, e2.2]
    · rw [hpc]; simp [covers, e2'.1, e2'.2]
theorem ev_callT {M' : ev_M} {idx n ci b mc ms : Nat} {as rest : List Value} {fs : List Value} {Qc : ev_O → List ev_AC → Prop} (hd : decode M.2.1 pc = .ok (.invokevirtual idx, 3)) (hl : Cond.methodLink M.1.cls idx M'.1 ∈ ev_WS) (F : ev_CV M.1.cls idx M' n ci) (hn : as.length = n) (hc : h[b]? = some (.inr (ci, fs))) (hs : (rest.map fun v => v.category).sum ≤ 8)
    (hC : ev_T g M' d (.ref b :: as) h mc ms Qc) (hmc : mc ≤ kc) (hms : ms ≤ ks) (hst : as.reverse ++ .ref b :: rest = st)
    (kk : ∀ v h', Qc (.inl v) h' → ev_E g X M (d + 1) (pc + 3) ls (v.toList ++ rest) h' (kc - mc) (ks - ms) Q)
    (kt : ∀ i h', Qc (.inr i) h' → ∃ cx hp, h'[i]? = some (.inr (cx, [])) ∧ ca_H M pc cx hp ∧ ev_E g X M (d + 1) hp ls [.ref i] h' (kc - mc) (ks - ms) Q) : ev_E g X M (d + 1) pc ls st h kc ks Q := by
  intro p e R s m args below meth c H locs cells slots rls C
  subst hst
  obtain ⟨hx, hb, hml, hown, hts, hK, hN, -⟩ := C.1
  obtain ⟨⟨⟨-, wi, wc, wd, wl⟩, win, wp⟩, wsel, wci⟩ := F
  obtain ⟨q, hq, hqc⟩ : ∃ q, ev_CL[ci]? = some q ∧ q.1 = M'.1.cls := by
    cases hz : ev_CL[ci]? with
    | none => rw [hz] at wci; cases wci
    | some q => rw [hz] at wci; exact ⟨q, rfl, Option.some.inj wci⟩
  obtain ⟨cell, g1, g2, g3⟩ := va_recv hK C.2.2.1.2.2 hq (ev_rl_at hc)
  rw [hqc] at g3
  have hR := C.2.1
  have hcc := C.2.2.2.2.1
  intro T hT S
  obtain ⟨mk, methM, hnamed, hmethM, hstM, habM⟩ := Cond.instanceMethod_spec (hts _ win)
  obtain ⟨methM', cM, hmethM', hcM, -, hlM, -, -, -, hsigM⟩ := Cond.code_spec hnamed (hts _ wc)
  cases hmethM.symm.trans hmethM'
  obtain ⟨c2, r2, m2, q1, q2, q3, q4, kP, hkP, hkPi⟩ := Cond.selects_spec (hts _ wsel)
  cases g3.symm.trans q1
  cases (State.methodFound?_of_named hnamed wd).symm.trans q2
  cases hnamed.symm.trans q3
  have hselP : selectMethod e.platform s.vm cell.cls mk = .method mk := by rw [Launch.admits_selectMethod S.admits]; exact q4
  have hlen : (as.map (ev_rv g)).length = methM.sig.parameters.length := by
    rw [hsigM] at wp
    have wp' : methM.sig.parameters.length = n := Option.some.inj wp
    rw [wp', List.length_map]; exact hn
  have hstk : (as.reverse ++ .ref b :: rest).map (ev_rv g) = (as.map (ev_rv g)).reverse ++ .ref (ev_z g + b) :: rest.map (ev_rv g) := by simp [ev_rv]
  obtain ⟨vm₁, X₁, st1⟩ := S.invokevirtual hx hown (hts _ hl) hnamed hmethM hstM hkP hkPi wd (a := ev_z g + b) (cell := cell) (by rw [hT]; exact g1)
    (fun z hz => by rw [hz] at g2; cases g2) hselP hmethM habM hkP hkPi (g := F0 m pc rls ((as.reverse ++ .ref b :: rest).map (ev_rv g))) rfl (argsL := as.map (ev_rv g)) (rest := rest.map (ev_rv g)) hlen hstk (by rw [hb]; exact hd)
  have hpc := ev_Pc.of (as := .ref b :: as) C (T.setVm vm₁) hT X₁.warmed
  have hG := ev_GoodIn wc
  have hwd : ∀ w ∈ ev_ws M', ∀ a', w.before a' (T.setVm vm₁) = true := fun w hw a' => pay_in hts hG w hw a' (T.setVm vm₁) X₁.warmed
  have hsum := ev_rv_sum g rest
  obtain ⟨o, t, U', L, ⟨⟨out, h', ho, hqq, hHR⟩, -⟩, Y, hL, y1, y2, st2⟩ := ca_run X₁ hC (a := (((.ref b :: as).map (ev_rv g)).toArray)) (g := F0 m pc rls (rest.map (ev_rv g))) (ig := .invokevirtual idx) (len := 3) (maxL := M'.2.2.1) (k := mc) (n := ms) (free := fun q => ev_z g ≤ q)
    rfl (by rw [hml]; exact C.2.2.2.2.2.2.1.1) (by rw [hb]; exact hd) (X₁.named hnamed) (atoms_intro (fun w hw => hwd w hw _)) (by rw [X₁.warmed.alike.method?]; exact hmethM) hcM hlM (word_at X₁.warmed (Or.inl (by rfl)) (hts _ wi))
    hR.1 (by show 2 * 0 + ((rest.map (ev_rv g)).map fun v => v.category).sum + (M'.2.2.1 + 11) + 40 * d ≤ _; omega) (by show cells + mc ≤ _; omega) (by show slots + ms ≤ _; omega) (ev_blind _ _ _ _ hpc) (fun o t hq => by
      obtain ⟨-, L, ⟨-, f1, f2⟩, f3⟩ := hq
      exact ⟨L, f1, f2, f3⟩)
  have hlocs : ∀ q ∈ locs ++ L, ev_z g ≤ q.base := fun q hq => by
    rcases List.mem_append.mp hq with h1 | h1
    · exact C.2.2.2.1 q h1
    · exact hL q h1
  have hHR' : ev_HR g h' U'.heap := by rw [y1]; exact hHR
  cases out with
  | inl w =>
    cases ho
    obtain ⟨t2, a1, b1⟩ := kk w h' hqq p e R s m args below meth c U'.heap (locs ++ L) (cells + mc) (slots + ms) rls (C.heap hHR' hlocs ⟨by omega, by omega⟩) U' rfl Y
    refine ⟨t2, st1 _ (fun acts => ?_), b1⟩
    have hst : (w.toList ++ rest).map (ev_rv g) = (w.map (ev_rv g)).toList ++ rest.map (ev_rv g) := by cases w <;> simp
    rw [hst] at a1
    rw [doInvoke_state]
    exact st2.trans a1
  | inr i =>
    cases ho
    obtain ⟨cx, hp, k1, k2, k3⟩ := kt i h' hqq
    obtain ⟨vm', hW', hfi⟩ := ca_hand (f := F0 m pc rls (rest.map (ev_rv g))) C Y hHR' k1 k2 rfl rfl
    obtain ⟨t2, a1, b1⟩ := k3 p e R s m args below meth c U'.heap (locs ++ L) (cells + mc) (slots + ms) rls (C.heap hHR' hlocs ⟨by omega, by omega⟩) (U'.setVm vm') rfl (Y.noted hW')
    refine ⟨t2, st1 _ (fun acts => ?_), b1⟩
    rw [doInvoke_state]
    exact st2.trans (ca_steps Y.here hfi a1)
end CC
