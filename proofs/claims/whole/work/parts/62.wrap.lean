/-! Methods with handlers: their contracts, and the law's calls of them -/
def ev_wsW (M : ev_M) : List Cond := Cond.codeWith M.1 M.2.1 M.2.2.1 M.2.2.2.1 M.2.2.2.2 :: ev_WS
def ev_CW (g : ev_G) (M : ev_M) (d : Nat) (as : List Value) (h : List ev_AC) (kc ks : Nat) (Q : ev_O → List ev_AC → Prop) : Prop :=
  MetFree (ev_l g) M.1 (headSpec (ev_wsW M) { frames := d, cells := kc, slots := ks, locals := 40 * d }) (ev_Pc g as h) (fun _ _ _ _ _ => True)
    (fun a st o t => ev_QX g Q a st o t ∧ ∃ L, ev_FE false st o t L kc ks ∧ ∀ q ∈ L, ev_z g ≤ q.base)
section CW
variable {g : ev_G} {X : Bool} {M : ev_M} {d pc : Nat} {ls : List (Option Value)} {st : List Value} {h : List ev_AC} {kc ks : Nat} {Q : ev_O → List ev_AC → Prop}
theorem ev_tab {l : List ExceptionTableEntry} {hs : List (Nat × Nat × Nat × Nat)} (h : l.map (fun h => (h.startPc, h.endPc, h.handlerPc, h.catchType)) = hs) : l = tableOf hs := by
  subst h
  induction l with
  | nil => rfl
  | cons a l ih =>
    show a :: l = _ :: tableOf _
    rw [← ih]
theorem ev_ofCW {as : List Value} (hpl : plainName M.1.cls = true) (hn : as.length ≤ M.2.2.1) (hcat : as.all (fun v => v.category == 1) = true) (hls : as.map some ++ List.replicate (M.2.2.1 - as.length) none = ls)
    (k : ev_E g false M d 0 ls [] h kc ks Q) : ev_CW g M d as h kc ks Q := by
  subst hls
  refine MetFree.of_bodyS (code := M.2.1) (maxLocals := M.2.2.1) (ret := M.2.2.2.1) hpl ?_ ?_
  · intro args s m h hn
    obtain ⟨m9, meth, c, hn9, h1, h2, h3, h4, -, h5, h6, -⟩ := Cond.codeWith_spec (atoms_spec (ws := ev_wsW M) h _ List.mem_cons_self)
    cases hn.symm.trans hn9
    exact ⟨meth, c, h1, h2, h3, h4, h5, h6⟩
  · intro p e s m args below meth c s₁ B hml hv _
    have hh0 : s₁.heap = s.heap := by rw [B.state]; rfl
    obtain ⟨rfl, hH, hK, hN, hX⟩ := hv
    have hts := atoms_spec (ws := ev_wsW M) B.pre
    have hcat' : ∀ v ∈ as, v.category = 1 := fun v hv => by simpa using List.all_eq_true.mp hcat v hv
    have S := Stand.of_body B
    have htab : c.exceptionTable.toList = tableOf M.2.2.2.2 := by
      obtain ⟨m9, meth9, c9, hn9, h1, h2, -, -, h3, -⟩ := Cond.codeWith_spec (hts _ List.mem_cons_self)
      cases B.named.symm.trans hn9
      cases B.method.symm.trans h1
      cases S.code.symm.trans h2
      exact ev_tab h3
    have := k p e { frames := d, cells := kc, slots := ks, locals := 40 * d } s m _ below meth c s.heap [] 0 0 _
      ⟨⟨B.exec, B.bytes, hml, findClass_of_methodNamed B.named, fun w hw => hts w (List.mem_cons_of_mem _ hw), hK, hN, B.returns, B.notSynchronized, (name_of_methodNamed B.named B.method).1, htab, ⟨h, hH⟩, hX⟩,
        ⟨Nat.le_refl _, Nat.le_refl _⟩, hH, (fun q hq => by cases hq), ⟨by simp, by simp⟩, ev_LH.entry hn hcat'⟩
    rw [lg_entry_eq]
    obtain ⟨t, a, o, b1, b2, b3, L, b4, b5⟩ := this s₁ hh0 S
    exact ⟨t, o, a, b1, b2, b3, L, b4, b5⟩
end CW
