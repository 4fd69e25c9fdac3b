/-! Methods with handlers: their contracts, and the law's calls of them -/
def ev_wsW (M : ev_M) : List Cond := Cond.codeWith M.1 M.2.1 M.2.2.1 M.2.2.2.1 M.2.2.2.2 :: ev_WS
def ev_CW (g : ev_G) (M : ev_M) (d : Nat) (as : List Value) (h : List ev_AC) (kc ks : Nat) (Q : ev_O → List ev_AC → Prop) : Prop :=
  MetFree (ev_l g) M.1 (headSpec (ev_wsW M) { frames := d, cells := kc, slots := ks, locals := 40 * d }) (ev_Pc g as h) (fun _ _ _ _ _ => True)
    (fun a st o t => ev_QX g Q a st o t ∧ ∃ L, ev_FE false st o t L kc ks ∧ ∀ q ∈ L, ev_z g ≤ q.base)
section CW
variable {g : ev_G} {X : Bool} {M : ev_M} {d pc : Nat} {ls : List (Option Value)} {st : List Value} {h : List ev_AC} {kc ks : Nat} {Q : ev_O → List ev_AC → Prop}
theorem ev_tab {l : List ExceptionTableEntry} {hs : List (Nat × Nat × Nat × Nat)} (h : l.map (fun h => (h.startPc, h.endPc, h.handlerPc, h.catchType)) = hs) : l = tableOf hs := by
  subst h
  induction l with
  | nil => rfl
  | cons a l ih =>
    show a :: l = _ :: tableOf _
    rw [← ih]
theorem ev_ofCW {as : List Value} (hpl : plainName M.1.cls = true) (hn : as.length ≤ M.2.2.1) (hcat : as.all (fun v => v.category == 1) = true) (hls : as.map some ++ List.replicate (M.2.2.1 - as.length) none = ls)
    (k : ev_E g false M d 0 ls [] h kc ks Q) : ev_CW g M d as h kc ks Q := by
  subst hls
  refine MetFree.of_bodyS (code := M.2.1) (maxLocals := M.2.2.1) (ret := M.2.2.2.1) hpl ?_ ?_
  · intro args s m h hn
    obtain ⟨m9, meth, c, hn9, h1, h2, h3, h4, -, h5, h6, -⟩ := Cond.codeWith_spec (atoms_spec (ws := ev_wsW M) h _ List.mem_cons_self)
    cases hn.symm.trans hn9
    exact ⟨meth, c, h1, h2, h3, h4, h5, h6⟩
  · intro p e s m args below meth c s₁ B hml hv _
    have hh0 : s₁.heap = s.heap := by rw [B.state]; rfl
    obtain ⟨rfl, hH, hK, hN, hX⟩ := hv
    have hts := atoms_spec (ws := ev_wsW M) B.pre
    have hcat' : ∀ v ∈ as, v.category = 1 := fun v hv => by simpa using List.all_eq_true.mp hcat v hv
    have S := Stand.of_body B
    have htab : c.exceptionTable.toList = tableOf M.2.2.2.2 := by
      obtain ⟨m9, meth9, c9, hn9, h1, h2, -, -, h3, -⟩ := Cond.codeWith_spec (hts _ List.mem_cons_self)
      cases B.named.symm.trans hn9
      cases B.method.symm.trans h1
      cases S.code.symm.trans h2
      exact ev_tab h3
    have := k p e { frames := d, cells := kc, slots := ks, locals := 40 * d } s m _ below meth c s.heap [] 0 0 _
      ⟨⟨B.exec, B.bytes, hml, findClass_of_methodNamed B.named, fun w hw => hts w (List.mem_cons_of_mem _ hw), hK, hN, B.returns, B.notSynchronized, (name_of_methodNamed B.named B.method).1, htab, ⟨h, hH⟩, hX⟩,
        ⟨Nat.le_refl _, Nat.le_refl _⟩, hH, (fun q hq => by cases hq), ⟨by simp, by simp⟩, ev_LH.entry hn hcat'⟩
    rw [lg_entry_eq]
    obtain ⟨t, a, o, b1, b2, b3, L, b4, b5⟩ := this s₁ hh0 S
    exact ⟨t, o, a, b1, b2, b3, L, b4, b5⟩
theorem ev_callSW {M' : ev_M} {idx n mc ms : Nat} {as rest : List Value} {Qc : ev_O → List ev_AC → Prop} (hd : decode M.2.1 pc = .ok (.invokestatic idx, 3)) (hl : Cond.methodLink M.1.cls idx M'.1 ∈ ev_WS) (wi : Cond.initialized M'.1.cls ∈ ev_WS) (wst : Cond.static M'.1 ∈ ev_WS)
    (wc : Cond.codeWith M'.1 M'.2.1 M'.2.2.1 M'.2.2.2.1 M'.2.2.2.2 ∈ ev_WS) (wd : M'.1.cls ≠ "java/lang/invoke/MethodHandle" ∧ M'.1.cls ≠ "java/lang/invoke/VarHandle") (wp : (parseMethodDescriptor M'.1.desc).map (fun d => d.parameters.length) = some n) (wl : M'.2.2.1 ≤ 21)
    (hn : as.length = n) (hs : (rest.map fun v => v.category).sum ≤ 8) (hC : ev_CW g M' d as h mc ms Qc) (hmc : mc ≤ kc) (hms : ms ≤ ks) (hst : as.reverse ++ rest = st)
    (kk : ∀ v h', Qc (.inl v) h' → ev_E g X M (d + 1) (pc + 3) ls (v.toList ++ rest) h' (kc - mc) (ks - ms) Q) : ev_E g X M (d + 1) pc ls st h kc ks Q := by
  intro p e R s m args below meth c H locs cells slots rls C
  subst hst
  obtain ⟨hx, hb, hml, hown, hts, hK, hN, -⟩ := C.1
  have hR := C.2.1
  have hcc := C.2.2.2.2.1
  intro T hT S
  obtain ⟨mk, methM, cM, hnamed, hmethM, hcM, -, hlM, -, -, -, hsigM⟩ := Cond.codeWith_spec (hts _ wc)
  have hstatic : methM.isStatic = true := Cond.static_spec hnamed hmethM (hts _ wst)
  obtain ⟨kP, hkP, -⟩ := className_of_methodNamed hnamed
  have hinitP : kP.init = .initialized := Cond.initialized_spec (findClass_of_methodNamed hnamed) hkP (hts _ wi)
  have hlen : (as.map (ev_rv g)).length = methM.sig.parameters.length := by
    rw [hsigM] at wp
    have wp' : methM.sig.parameters.length = n := Option.some.inj wp
    rw [wp', List.length_map]; exact hn
  have hstk : (as.reverse ++ rest).map (ev_rv g) = (as.map (ev_rv g)).reverse ++ rest.map (ev_rv g) := by simp
  obtain ⟨vm₁, X₁, st1⟩ := S.invokestatic hx hown (hts _ hl) hnamed hmethM hstatic hkP hinitP wd (g := F0 m pc rls ((as.reverse ++ rest).map (ev_rv g))) rfl (argsL := as.map (ev_rv g)) (rest := rest.map (ev_rv g)) hlen hstk (by rw [hb]; exact hd)
  have hpc := ev_Pc.of (as := as) C (T.setVm vm₁) hT X₁.warmed
  have hwd : ∀ w ∈ ev_wsW M', ∀ a', w.before a' (T.setVm vm₁) = true := fun w hw a' => pay_in (big := ev_WS) (ws := ev_wsW M') hts (fun w hw => by
    rcases List.mem_cons.mp hw with h1 | h1
    · subst h1; exact ⟨wc, good_of_word (ev_good _ wc)⟩
    · exact ⟨h1, good_of_word (ev_good _ h1)⟩) w hw a' (T.setVm vm₁) X₁.warmed
  have hsum := ev_rv_sum g rest
  obtain ⟨o, t, U', L, ⟨⟨out, h', ho, hqq, hHR⟩, L9, ⟨hret, -⟩, -⟩, Y, hL, y1, y2, st2⟩ := ca_run X₁ hC (a := ((as.map (ev_rv g)).toArray)) (g := F0 m pc rls (rest.map (ev_rv g))) (ig := .invokestatic idx) (len := 3) (maxL := M'.2.2.1) (k := mc) (n := ms) (free := fun q => ev_z g ≤ q)
    rfl (by rw [hml]; exact C.2.2.2.2.2.2.1.1) (by rw [hb]; exact hd) (X₁.named hnamed) (atoms_intro (fun w hw => hwd w hw _)) (by rw [X₁.warmed.alike.method?]; exact hmethM) hcM hlM (word_at X₁.warmed (Or.inl (by rfl)) (hts _ wi))
    hR.1 (by show 2 * 0 + ((rest.map (ev_rv g)).map fun v => v.category).sum + (M'.2.2.1 + 11) + 40 * d ≤ _; omega) (by show cells + mc ≤ _; omega) (by show slots + ms ≤ _; omega) (ev_blind _ _ _ _ hpc) (fun o t hq => by
      obtain ⟨-, L, ⟨-, f1, f2⟩, f3⟩ := hq
      exact ⟨L, f1, f2, f3⟩)
  have hlocs : ∀ q ∈ locs ++ L, ev_z g ≤ q.base := fun q hq => by
    rcases List.mem_append.mp hq with h1 | h1
    · exact C.2.2.2.1 q h1
    · exact hL q h1
  have hHR' : ev_HR g h' U'.heap := by rw [y1]; exact hHR
  cases out with
  | inl w =>
    cases ho
    obtain ⟨t2, a1, b1⟩ := kk w h' hqq p e R s m args below meth c U'.heap (locs ++ L) (cells + mc) (slots + ms) rls (C.heap hHR' hlocs ⟨by omega, by omega⟩) U' rfl Y
    refine ⟨t2, st1 _ (fun acts => ?_), b1⟩
    have hst : (w.toList ++ rest).map (ev_rv g) = (w.map (ev_rv g)).toList ++ rest.map (ev_rv g) := by cases w <;> simp
    rw [hst] at a1
    rw [doInvoke_state]
    exact st2.trans a1
  | inr i =>
    cases ho
    rcases hret with q | ⟨v, q⟩
    · cases q
    · cases q
end CW
section WR
variable {g : ev_G} {d : Nat} {s : SG} {ty : Int} {rs : RS} {kn : Bool} {S : Int → Int} {mc : List ev_AC} {e : Nat} {h : List ev_AC}
/-- the law's strip -/
theorem ct_Lstrip {l : Int} (l1 : -2147483648 ≤ l) (l2 : l < 2147483648) (hh : LO s ty rs S mc e kn h) :
    ev_CW g mL_strip (d + 7) [.ref 0, ev_i l] h 1 6 (fun o h' => o = .inl (some (ev_i (lb_strip s l).1)) ∧ LO (lb_strip s l).2 ty rs S mc e (lb_kn (lb_strip s l).1 kn) h') := by
  have hh0 := hh
  have hc : (lb_strip s l).1 = 0 ∨ (lb_strip s l).1 = 1 := by
    unfold lb_strip
    split
    · exact Or.inl rfl
    · exact Or.inr rfl
  obtain ⟨fo, kr, R, A, mk, x, tl, hL, hr, hk, hA⟩ := hh
  obtain ⟨ok, B, lo, hi, rfl, gvv⟩ := hL
  refine ev_ofCW (by decide +kernel) (Nat.le_of_ble_eq_true rfl) rfl rfl ?_
  refine ev_aload_n dL_strip_0 rfl ?_
  refine ev_iload_n dL_strip_1 rfl ?_
  refine ev_callT (M' := mF_strip) dL_strip_2 wm_L_7 cv_L_7 rfl rfl (Nat.le_of_ble_eq_true rfl) (ct_Fstrip (d := d) l1 l2 hh0) (Nat.le_refl _) (Nat.le_refl _) rfl (fun v h' q => ?_) (fun i h' q => ?_)
  · obtain ⟨q1, q2⟩ := q
    rcases hc with h0 | h0
    · rw [if_pos h0] at q1
      cases q1
      refine ev_goto (tgt := 11) dL_strip_5 rfl ?_
      refine ev_iconst dL_strip_11 ?_
      refine ev_ireturn dL_strip_12 rfl ?_
      exact ⟨by rw [h0], q2⟩
    · rw [if_neg (by omega)] at q1
      obtain ⟨i, q1, -⟩ := q1
      cases q1
  · obtain ⟨q1, q2⟩ := q
    rcases hc with h0 | h0
    · rw [if_pos h0] at q1
      cases q1
    · rw [if_neg (by omega)] at q1
      obtain ⟨j, q1, q3⟩ := q1
      cases q1
      refine ⟨5, 8, q3, ⟨"java/lang/IllegalArgumentException", rfl, by decide +kernel, Or.inl ⟨0, 5, 13, [], rfl, by decide, by decide, ev_inB 169 rfl rfl⟩⟩, ?_⟩
      refine ev_astore_n dL_strip_8 (Nat.le_of_ble_eq_true rfl) ?_
      refine ev_iconst dL_strip_9 ?_
      refine ev_ireturn dL_strip_10 rfl ?_
      exact ⟨by rw [h0], q2⟩
end WR
