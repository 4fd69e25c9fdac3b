/-! new cells, calls, a method's contract out of its walk -/
/-- class ci may be made at entry idx of own; its fields begin so -/
def ev_NC (own : String) (idx ci : Nat) (fs : List Value) (N : Nat) : Prop :=
  ∃ (C : String) (T : u_T) (ty0 : Nat → FieldType), ev_CF ci C T N ∧ (∀ k, k < N → parseFieldDescriptor (T k).2.2.1 = some (ty0 k)) ∧ Cond.classLink own idx C ∈ ev_WS ∧ Cond.instantiable C N ∈ ev_WS ∧ Cond.initialized C ∈ ev_WS ∧ (∀ k, k < N → defaultValue (ty0 k) = vp_V fs k) ∧ (∀ v ∈ fs, ∀ g : ev_G, ev_rv g v = v)
/-- a call of M' from own at entry idx -/
def ev_CB (own : String) (idx : Nat) (M' : ev_M) : Prop :=
  (Cond.methodLink own idx M'.1 ∈ ev_WS ∨ ∃ host, Cond.methodLinkNest own idx M'.1 host ∈ ev_NW) ∧ Cond.initialized M'.1.cls ∈ ev_WS ∧ Cond.code M'.1 M'.2.1 M'.2.2.1 M'.2.2.2.1 ∈ ev_WS ∧
  (M'.1.cls ≠ "java/lang/invoke/MethodHandle" ∧ M'.1.cls ≠ "java/lang/invoke/VarHandle") ∧ M'.2.2.1 ≤ 21
def ev_CI (own : String) (idx : Nat) (M' : ev_M) (n : Nat) : Prop :=
  ev_CB own idx M' ∧ Cond.instanceMethod M'.1 ∈ ev_WS ∧ (parseMethodDescriptor M'.1.desc).map (fun d => d.parameters.length) = some n
def ev_CV (own : String) (idx : Nat) (M' : ev_M) (n ci : Nat) : Prop :=
  ev_CI own idx M' n ∧ Cond.selects M'.1.cls M'.1 M'.1 ∈ ev_WS ∧ (ev_CL[ci]?).map (·.1) = some M'.1.cls
def ev_CS (own : String) (idx : Nat) (M' : ev_M) (n : Nat) : Prop :=
  ev_CB own idx M' ∧ Cond.static M'.1 ∈ ev_WS ∧ (parseMethodDescriptor M'.1.desc).map (fun d => d.parameters.length) = some n
section EVC
variable {g : ev_G} {X : Bool} {M : ev_M} {d pc : Nat} {ls : List (Option Value)} {st : List Value} {h : List ev_AC} {kc ks : Nat} {Q : ev_O → List ev_AC → Prop}
theorem ev_newI {n : Nat} (hd : decode M.2.1 pc = .ok (.newarray .int, 2)) (hw : Cond.arrayClass .int ∈ ev_WS) (hn : n < 8388608)
    (kk : ev_E g X M d (pc + 2) ls (.ref h.length :: st) (h ++ [ev_ia n (fun _ => 0)]) kc ks Q) : ev_E g X M d pc ls (ev_i n :: st) h (kc + 1) (ks + n) Q := by
  intro p e R s m args below meth c H locs cells slots rls C
  obtain ⟨hx, hb, hml, hown, hts, hK, -⟩ := C.1
  obtain ⟨hc1, hc2⟩ := C.2.2.2.2.1
  refine va_newaK (atype := .int) (N := n) hx hb (hts _ hw) rfl hd rfl (by rw [ev_zero, ev_lt (by omega) (by omega) (by omega) (by omega)]; omega) (by rw [ev_clamp (by omega) (by omega)]; rfl) (by show n * 4 ≤ _; omega) (by omega) (by omega) rfl fun H1 cA e1 z1 o1 hAr hNm => ?_
  have hI : cA = ev_I g := by
    have h2 : s.vm.findClass ("[" ++ FieldType.int.toString) = some (ev_I g) := (hK.2 0 _ rfl).2
    exact Option.some.inj (hNm.symm.trans h2)
  subst hI
  have := kk p e R s m args below meth c H1 locs (cells + 1) (slots + n) rls (C.heap (C.2.2.1.push z1 o1 e1) C.2.2.2.1 ⟨by omega, by omega⟩)
  rw [C.2.2.1.1]
  exact this
theorem ev_newL {n : Nat} (hd : decode M.2.1 pc = .ok (.newarray .long, 2)) (hw : Cond.arrayClass .long ∈ ev_WS) (hn : n < 8388608)
    (kk : ev_E g X M d (pc + 2) ls (.ref h.length :: st) (h ++ [ev_la n (fun _ => 0)]) kc ks Q) : ev_E g X M d pc ls (ev_i n :: st) h (kc + 1) (ks + n) Q := by
  intro p e R s m args below meth c H locs cells slots rls C
  obtain ⟨hx, hb, hml, hown, hts, hK, -⟩ := C.1
  obtain ⟨hc1, hc2⟩ := C.2.2.2.2.1
  refine va_newaK (atype := .long) (N := n) hx hb (hts _ hw) rfl hd rfl (by rw [ev_zero, ev_lt (by omega) (by omega) (by omega) (by omega)]; omega) (by rw [ev_clamp (by omega) (by omega)]; rfl) (by show n * 8 ≤ _; omega) (by omega) (by omega) rfl fun H1 cA e1 z1 o1 hAr hNm => ?_
  have hI : cA = ev_J g := by
    have h2 : s.vm.findClass ("[" ++ FieldType.long.toString) = some (ev_J g) := (hK.2 1 _ rfl).2
    exact Option.some.inj (hNm.symm.trans h2)
  subst hI
  have := kk p e R s m args below meth c H1 locs (cells + 1) (slots + n) rls (C.heap (C.2.2.1.push z1 o1 e1) C.2.2.2.1 ⟨by omega, by omega⟩)
  rw [C.2.2.1.1]
  exact this
theorem ev_new {idx ci N : Nat} {fs : List Value} (hd : decode M.2.1 pc = .ok (.new idx, 3)) (F : ev_NC M.1.cls idx ci fs N)
    (kk : ev_E g X M d (pc + 3) ls (.ref h.length :: st) (h ++ [.inr (ci, fs)]) kc ks Q) : ev_E g X M d pc ls st h (kc + 1) (ks + N) Q := by
  intro p e R s m args below meth c H locs cells slots rls C
  obtain ⟨hx, hb, hml, hown, hts, hK, -⟩ := C.1
  obtain ⟨hc1, hc2⟩ := C.2.2.2.2.1
  obtain ⟨Cn, T, ty0, ⟨hcl, hin, -, -⟩, hty, w1, w2, w3, hfs, hrv⟩ := F
  have hKn := hK.1 ci _ hcl
  have hfs' : fs.map (ev_rv g) = fs := by
    refine (List.map_congr_left (fun v hv => hrv v hv g)).trans ?_
    exact List.map_id _
  refine W.newcK hx hb hown (hts _ w1) (hts _ w2) (hts _ w3) rfl hd (by omega) (by omega) hKn.2.1 rfl fun H1 kC hkC e1 z1 o1 => ?_
  have hat : va_at (ev_Dg g) ev_CL (H.size, ev_rc g (.inr (ci, fs))) H1 := by
    refine ⟨_, hcl, ?_⟩
    show t_OB _ _ _ _ _ (vp_V (fs.map (ev_rv g)))
    rw [hfs']
    exact (u_born ty0 hts hin hKn hkC e1 hty).to hfs
  have := kk p e R s m args below meth c H1 locs (cells + 1) (slots + N) rls (C.heap (C.2.2.1.push z1 o1 hat) C.2.2.2.1 ⟨by omega, by omega⟩)
  rw [C.2.2.1.1]
  exact this
/-- Object.<init> -/
theorem ev_obj {idx a : Nat} (hd : decode M.2.1 pc = .ok (.invokespecial idx, 3)) (w1 : Cond.methodLink M.1.cls idx Lib.objectInit ∈ ev_WS) (w2 : Cond.instanceMethod Lib.objectInit ∈ ev_WS) (w3 : Cond.code Lib.objectInit ⟨#[0xb1]⟩ 1 none ∈ ev_WS) (hs : (st.map fun v => v.category).sum ≤ 8)
    (kk : ev_E g X M (d + 1) (pc + 3) ls st h kc ks Q) : ev_E g X M (d + 1) pc ls (.ref a :: st) h kc ks Q := by
  intro p e R s m args below meth c H locs cells slots rls C
  obtain ⟨hx, hb, hml, hown, hts, -⟩ := C.1
  have hs' := ev_rv_sum g st
  refine W.objInit hx hb hown (hts _ w1) (hts _ w2) (hts _ w3) rfl (by rw [hml]; exact C.2.2.2.2.2.2.1.1) rfl hd (by have := C.2.1.1; omega) (by show 2 * 0 + _ + 12 ≤ _; have := C.2.1.2; omega) (kk p e R s m args below meth c H locs cells slots rls C)
/-- a call comes back -/
theorem ev_back {p : Program} {e : Env} {R : Room} {s : State} {m : MethodId} {args a : Array Value} {below : List Frame} {meth : Method} {c : Code} {H : Heap} {locs : List Loc} {cells slots mc ms : Nat} {rls : Array Slot} {st0 : List Value} {rest : List Value} {Qc : ev_O → List ev_AC → Prop}
    (hr : va_Run p (ev_l g) e R s m args below meth c H locs cells slots mc ms (F0 m pc rls st0) (rest.map (ev_rv g)) (ev_QX g Qc a) (fun q => ev_z g ≤ q))
    (C : ev_Cx g M d ls h kc ks p R s m args meth c H locs cells slots rls) (hmc : mc ≤ kc) (hms : ms ≤ ks)
    (kk : ∀ v h', Qc (.inl v) h' → ev_E g X M d (pc + 3) ls (v.toList ++ rest) h' (kc - mc) (ks - ms) Q) :
    W p (ev_l g) e R s m args below meth c H locs cells slots (ev_MQ X below (ev_QX g Q) args s R.cells R.slots (fun q => ev_z g ≤ q)) (F0 m pc rls st0) := by
  intro T hT S
  obtain ⟨v, st₀, t, T', L, h0, S', hL, e1, e2, ⟨out, h', ho, hq, hH⟩, go⟩ := hr T hT S
  cases out with
  | inr i => cases ho
  | inl w =>
    cases ho
    have hc := C.2.2.2.2.1
    obtain ⟨t2, a1, b1⟩ := kk w h' hq p e R s m args below meth c T'.heap (locs ++ L) (cells + mc) (slots + ms) rls (C.heap (by rw [e1]; exact hH) (fun q hq => by
      rcases List.mem_append.mp hq with h1 | h1
      · exact C.2.2.2.1 q h1
      · exact hL q h1) ⟨by omega, by omega⟩) T' rfl S'
    refine ⟨t2, go t2 ?_, b1⟩
    have hst : (w.toList ++ rest).map (ev_rv g) = (w.map (ev_rv g)).toList ++ rest.map (ev_rv g) := by cases w <;> simp
    rw [hst] at a1
    exact a1
theorem ev_blind {as : List Value} : FrameBlind (ev_Pc g as h) := fun a U fr mk q =>
  ⟨q.1, q.2.1, va_K.moved (u := U) (U := U.calling fr mk a) (Vm.Alike.refl U.vm) q.2.2.1, fun w hw => va_Nw.same (ev_NW_tab w hw) (u := U) (U := U.calling fr mk a) rfl (q.2.2.2.1 w hw), ev_XS_same (u := U) (U := U.calling fr mk a) rfl rfl q.2.2.2.2⟩
theorem ev_Pc.of {p : Program} {R : Room} {s : State} {m : MethodId} {args : Array Value} {meth : Method} {c : Code} {H : Heap} {locs : List Loc} {cells slots : Nat} {rls : Array Slot} {as : List Value} (C : ev_Cx g M d ls h kc ks p R s m args meth c H locs cells slots rls) : ∀ U : State, U.heap = H → s.WarmedH U.vm → ev_Pc g as h ((as.map (ev_rv g)).toArray) U := by
  intro U hU hW
  obtain ⟨hx, hb, hml, hown, hts, hK, hN, -, -, -, -, h0, hX⟩ := C.1
  exact ⟨rfl, by rw [hU]; exact C.2.2.1, va_K.moved hW.alike hK, fun w hw => ev_NW_warm hw hW (hN w hw), ev_XS_warm hW C.2.2.1 hU h0 hX⟩
theorem ev_GoodIn {M' : ev_M} (hc : Cond.code M'.1 M'.2.1 M'.2.2.1 M'.2.2.2.1 ∈ ev_WS) : GoodIn ev_WS (ev_ws M') := by
  intro w hw
  rcases List.mem_cons.mp hw with h1 | h1
  · subst h1; exact ⟨hc, good_of_word (ev_good _ hc)⟩
  · exact ⟨h1, good_of_word (ev_good _ h1)⟩
theorem ev_callV {M' : ev_M} {idx n ci b mc ms : Nat} {as rest : List Value} {fs : List Value} {Qc : ev_O → List ev_AC → Prop} (hd : decode M.2.1 pc = .ok (.invokevirtual idx, 3)) (F : ev_CV M.1.cls idx M' n ci) (hn : as.length = n) (hc : h[b]? = some (.inr (ci, fs))) (hs : (rest.map fun v => v.category).sum ≤ 8)
    (hC : ev_C g M' d (.ref b :: as) h mc ms Qc) (hmc : mc ≤ kc) (hms : ms ≤ ks) (hst : as.reverse ++ .ref b :: rest = st)
    (kk : ∀ v h', Qc (.inl v) h' → ev_E g X M (d + 1) (pc + 3) ls (v.toList ++ rest) h' (kc - mc) (ks - ms) Q) : ev_E g X M (d + 1) pc ls st h kc ks Q := by
  intro p e R s m args below meth c H locs cells slots rls C
  subst hst
  obtain ⟨hx, hb, hml, hown, hts, hK, hN, -⟩ := C.1
  obtain ⟨⟨⟨hl, wi, wc, wd, wl⟩, win, wp⟩, wsel, wci⟩ := F
  obtain ⟨q, hq, hqc⟩ : ∃ q, ev_CL[ci]? = some q ∧ q.1 = M'.1.cls := by
    cases hz : ev_CL[ci]? with
    | none => rw [hz] at wci; cases wci
    | some q => rw [hz] at wci; exact ⟨q, rfl, Option.some.inj wci⟩
  obtain ⟨cell, g1, g2, g3⟩ := va_recv hK C.2.2.1.2.2 hq (ev_rl_at hc)
  rw [hqc] at g3
  have hR := C.2.1
  have hroom : d + 1 ≤ R.frames ∧ 8 + (M'.2.2.1 + 11) + 40 * d ≤ R.locals := ⟨hR.1, by omega⟩
  have hpre : PreV s H M'.1.cls (ev_z g + b) (ev_Pc g (.ref b :: as) h) (as.map (ev_rv g)) := ⟨ev_blind, ⟨cell, g1, g2, g3⟩, fun U h1 h2 => ev_Pc.of (as := .ref b :: as) C U h1 h2⟩
  have hstk : (as.reverse ++ .ref b :: rest).map (ev_rv g) = (as.map (ev_rv g)).reverse ++ .ref (ev_z g + b) :: rest.map (ev_rv g) := by simp [ev_rv]
  have hcc := C.2.2.2.2.1
  rcases hl with hl | ⟨host, hl⟩
  · refine ev_back (mc := mc) (ms := ms) (rest := rest) (Qc := Qc) (va_runV (n := n) ⟨hx, hb, hml, hown, hts⟩ hC ⟨callB_of n hts (ev_GoodIn wc) rfl rfl rfl (hts _ wi) (hts _ hl) ⟨wd.1, wd.2, wp⟩ hroom, hts _ win, hts _ wsel⟩ hpre rfl (by simpa using hn) C.2.2.2.2.2.2.1.1 hstk (by show 2 * 0 + _ ≤ 8; rw [ev_rv_sum]; omega) hd ⟨by omega, by omega⟩) C hmc hms kk
  · refine ev_back (mc := mc) (ms := ms) (rest := rest) (Qc := Qc) (va_runVN (n := n) ⟨hx, hb, hml, hown, hts⟩ hC ⟨va_cnB n hts (ev_GoodIn wc) rfl rfl rfl (hN _ hl) (hts _ wi) ⟨wd.1, wd.2, wp⟩ hroom, hts _ win, hts _ wsel⟩ hpre rfl (by simpa using hn) C.2.2.2.2.2.2.1.1 hstk (by show 2 * 0 + _ ≤ 8; rw [ev_rv_sum]; omega) hd ⟨by omega, by omega⟩) C hmc hms kk
theorem ev_callS {M' : ev_M} {idx n mc ms : Nat} {as rest : List Value} {Qc : ev_O → List ev_AC → Prop} (hd : decode M.2.1 pc = .ok (.invokestatic idx, 3)) (F : ev_CS M.1.cls idx M' n) (hn : as.length = n) (hs : (rest.map fun v => v.category).sum ≤ 8)
    (hC : ev_C g M' d as h mc ms Qc) (hmc : mc ≤ kc) (hms : ms ≤ ks) (hst : as.reverse ++ rest = st)
    (kk : ∀ v h', Qc (.inl v) h' → ev_E g X M (d + 1) (pc + 3) ls (v.toList ++ rest) h' (kc - mc) (ks - ms) Q) : ev_E g X M (d + 1) pc ls st h kc ks Q := by
  intro p e R s m args below meth c H locs cells slots rls C
  subst hst
  obtain ⟨hx, hb, hml, hown, hts, hK, hN, -⟩ := C.1
  obtain ⟨⟨hl, wi, wc, wd, wl⟩, wst, wp⟩ := F
  have hR := C.2.1
  have hroom : d + 1 ≤ R.frames ∧ 8 + (M'.2.2.1 + 11) + 40 * d ≤ R.locals := ⟨hR.1, by omega⟩
  have hpre : PreS s H (ev_Pc g as h) (as.map (ev_rv g)) := ⟨ev_blind, fun U h1 h2 => ev_Pc.of (as := as) C U h1 h2⟩
  have hstk : (as.reverse ++ rest).map (ev_rv g) = (as.map (ev_rv g)).reverse ++ rest.map (ev_rv g) := by simp
  have hcc := C.2.2.2.2.1
  rcases hl with hl | ⟨host, hl⟩
  · refine ev_back (mc := mc) (ms := ms) (rest := rest) (Qc := Qc) (va_runS (n := n) ⟨hx, hb, hml, hown, hts⟩ hC ⟨callB_of n hts (ev_GoodIn wc) rfl rfl rfl (hts _ wi) (hts _ hl) ⟨wd.1, wd.2, wp⟩ hroom, hts _ wst⟩ hpre rfl (by simpa using hn) C.2.2.2.2.2.2.1.1 hstk (by show 2 * 0 + _ ≤ 8; rw [ev_rv_sum]; omega) hd ⟨by omega, by omega⟩) C hmc hms kk
  · refine ev_back (mc := mc) (ms := ms) (rest := rest) (Qc := Qc) (va_runSN (n := n) ⟨hx, hb, hml, hown, hts⟩ hC ⟨va_cnB n hts (ev_GoodIn wc) rfl rfl rfl (hN _ hl) (hts _ wi) ⟨wd.1, wd.2, wp⟩ hroom, hts _ wst, trivial⟩ hpre rfl (by simpa using hn) C.2.2.2.2.2.2.1.1 hstk (by show 2 * 0 + _ ≤ 8; rw [ev_rv_sum]; omega) hd ⟨by omega, by omega⟩) C hmc hms kk
theorem ev_callI {M' : ev_M} {idx n b mc ms : Nat} {as rest : List Value} {Qc : ev_O → List ev_AC → Prop} (hd : decode M.2.1 pc = .ok (.invokespecial idx, 3)) (F : ev_CI M.1.cls idx M' n) (hini : M'.1.name = "<init>") (hret : M'.2.2.2.1 = none) (hn : as.length = n) (hs : (rest.map fun v => v.category).sum ≤ 8)
    (hC : ev_C g M' d (.ref b :: as) h mc ms Qc) (hmc : mc ≤ kc) (hms : ms ≤ ks) (hst : as.reverse ++ .ref b :: rest = st)
    (kk : ∀ v h', Qc (.inl v) h' → ev_E g X M (d + 1) (pc + 3) ls (v.toList ++ rest) h' (kc - mc) (ks - ms) Q) : ev_E g X M (d + 1) pc ls st h kc ks Q := by
  intro p e R s m args below meth c H locs cells slots rls C
  subst hst
  obtain ⟨hx, hb, hml, hown, hts, hK, hN, -⟩ := C.1
  obtain ⟨⟨hl, wi, wc, wd, wl⟩, win, wp⟩ := F
  have hR := C.2.1
  have hroom : d + 1 ≤ R.frames ∧ 8 + (M'.2.2.1 + 11) + 40 * d ≤ R.locals := ⟨hR.1, by omega⟩
  have hpre : PreS s H (ev_Pc g (.ref b :: as) h) (.ref (ev_z g + b) :: as.map (ev_rv g)) := ⟨ev_blind, fun U h1 h2 => ev_Pc.of (as := .ref b :: as) C U h1 h2⟩
  have hstk : (as.reverse ++ .ref b :: rest).map (ev_rv g) = (as.map (ev_rv g)).reverse ++ .ref (ev_z g + b) :: rest.map (ev_rv g) := by simp [ev_rv]
  have hcc := C.2.2.2.2.1
  rw [hret] at wc
  have hw : ev_ws M' = Cond.code M'.1 M'.2.1 M'.2.2.1 none :: ev_WS := by rw [ev_ws, hret]
  have hG : GoodIn ev_WS (ev_ws M') := ev_GoodIn (by rw [hret]; exact wc)
  rcases hl with hl | ⟨host, hl⟩
  · refine ev_back (mc := mc) (ms := ms) (rest := rest) (Qc := Qc) (va_runI (n := n) ⟨hx, hb, hml, hown, hts⟩ hC ⟨callB_of n hts hG hw rfl rfl (hts _ wi) (hts _ hl) ⟨wd.1, wd.2, wp⟩ hroom, hini, hts _ win⟩ hpre rfl (by simpa using hn) C.2.2.2.2.2.2.1.1 hstk (by show 2 * 0 + _ ≤ 8; rw [ev_rv_sum]; omega) hd ⟨by omega, by omega⟩) C hmc hms kk
  · refine ev_back (mc := mc) (ms := ms) (rest := rest) (Qc := Qc) (va_runIN (n := n) ⟨hx, hb, hml, hown, hts⟩ hC ⟨va_cnB n hts hG hw rfl rfl (hN _ hl) (hts _ wi) ⟨wd.1, wd.2, wp⟩ hroom, hini, hts _ win⟩ hpre rfl (by simpa using hn) C.2.2.2.2.2.2.1.1 hstk (by show 2 * 0 + _ ≤ 8; rw [ev_rv_sum]; omega) hd ⟨by omega, by omega⟩) C hmc hms kk
/-- a contract out of the walk -/
theorem ev_ofE {as : List Value} (hpl : plainName M.1.cls = true) (hhh : M.2.2.2.2 = []) (hn : as.length ≤ M.2.2.1) (hcat : as.all (fun v => v.category == 1) = true) (hls : as.map some ++ List.replicate (M.2.2.1 - as.length) none = ls)
    (k : ev_E g false M d 0 ls [] h kc ks Q) : ev_C g M d as h kc ks Q := by
  subst hls
  refine Met.ofW (cc := M.2.1) (maxL := M.2.2.1) (ret := M.2.2.2.1) hpl rfl ?_
  intro p e s m args below meth c s₁ B hml hv
  obtain ⟨rfl, hH, hK, hN, hX⟩ := hv
  have hts := atoms_spec (ws := ev_ws M) B.pre
  have hcat' : ∀ v ∈ as, v.category = 1 := fun v hv => by simpa using List.all_eq_true.mp hcat v hv
  rw [lg_entry_eq]
  have htab : c.exceptionTable.toList = tableOf M.2.2.2.2 := by
    have h1 := B.noHandlers (hts _ List.mem_cons_self)
    rw [hhh]
    have h2 : c.exceptionTable = #[] := by simpa using h1
    rw [h2]; rfl
  have := k p e { frames := d, cells := kc, slots := ks, locals := 40 * d } s m _ below meth c s.heap [] 0 0 _
    ⟨⟨B.exec, B.bytes, hml, findClass_of_methodNamed B.named, fun w hw => hts w (List.mem_cons_of_mem _ hw), hK, hN, B.returns, B.notSynchronized, (name_of_methodNamed B.named B.method).1, htab, ⟨h, hH⟩, hX⟩,
      ⟨Nat.le_refl _, Nat.le_refl _⟩, hH, (fun q hq => by cases hq), ⟨by simp, by simp⟩, ev_LH.entry hn hcat'⟩
  intro T hT S
  obtain ⟨t, a, o, b1, b2, b3, L, b4, b5⟩ := this T hT S
  exact ⟨t, a, o, b1, b2, b3, L, ⟨b4.1.resolve_left (by decide), b4.2⟩, b5⟩
end EVC
