/-! Methods that may throw -/
def ev_T (g : ev_G) (M : ev_M) (d : Nat) (as : List Value) (h : List ev_AC) (kc ks : Nat) (Q : ev_O → List ev_AC → Prop) : Prop :=
  MetFree (ev_l g) M.1 (headSpec (ev_ws M) { frames := d, cells := kc, slots := ks, locals := 40 * d }) (ev_Pc g as h) (fun _ _ _ _ _ => True)
    (fun a st o t => ev_QX g Q a st o t ∧ ∃ L, ev_FE true st o t L kc ks ∧ ∀ q ∈ L, ev_z g ≤ q.base)
section EX2
variable {g : ev_G} {M : ev_M} {d pc : Nat} {ls : List (Option Value)} {st : List Value} {h : List ev_AC} {kc ks : Nat} {Q : ev_O → List ev_AC → Prop}
theorem ev_ofT {as : List Value} (hpl : plainName M.1.cls = true) (hhh : M.2.2.2.2 = []) (hn : as.length ≤ M.2.2.1) (hcat : as.all (fun v => v.category == 1) = true) (hls : as.map some ++ List.replicate (M.2.2.1 - as.length) none = ls)
    (k : ev_E g true M d 0 ls [] h kc ks Q) : ev_T g M d as h kc ks Q := by
  subst hls
  refine MetFree.of_bodyS (code := M.2.1) (maxLocals := M.2.2.1) (ret := M.2.2.2.1) hpl ?_ ?_
  · intro args s m h hn
    obtain ⟨meth, c, h1, h2, h3, h4, h5, h6, -, -⟩ := Cond.code_spec hn (atoms_spec (ws := ev_ws M) h _ List.mem_cons_self)
    exact ⟨meth, c, h1, h2, h3, h4, h5, h6⟩
  · intro p e s m args below meth c s₁ B hml hv _
    have hh0 : s₁.heap = s.heap := by rw [B.state]; rfl
    obtain ⟨rfl, hH, hK, hN, hX⟩ := hv
    have hts := atoms_spec (ws := ev_ws M) B.pre
    have hcat' : ∀ v ∈ as, v.category = 1 := fun v hv => by simpa using List.all_eq_true.mp hcat v hv
    have htab : c.exceptionTable.toList = tableOf M.2.2.2.2 := by
      have h1 := B.noHandlers (hts _ List.mem_cons_self)
      rw [hhh]
      have h2 : c.exceptionTable = #[] := by simpa using h1
      rw [h2]; rfl
    have := k p e { frames := d, cells := kc, slots := ks, locals := 40 * d } s m _ below meth c s.heap [] 0 0 _
      ⟨⟨B.exec, B.bytes, hml, findClass_of_methodNamed B.named, fun w hw => hts w (List.mem_cons_of_mem _ hw), hK, hN, B.returns, B.notSynchronized, (name_of_methodNamed B.named B.method).1, htab, ⟨h, hH⟩, hX⟩,
        ⟨Nat.le_refl _, Nat.le_refl _⟩, hH, (fun q hq => by cases hq), ⟨by simp, by simp⟩, ev_LH.entry hn hcat'⟩
    rw [lg_entry_eq]
    obtain ⟨t, a, o, b1, b2, b3, L, b4, b5⟩ := this s₁ hh0 (Stand.of_body B)
    exact ⟨t, o, a, b1, b2, b3, L, b4, b5⟩
theorem ev_throwA {si : Nat} (hd0 : decode M.2.1 pc = .ok (.new 44, 3)) (hd3 : decode M.2.1 (pc + 3) = .ok (.dup, 1)) (hd4 : decode M.2.1 (pc + 4) = .ok (.ldc si, 2)) (hd6 : decode M.2.1 (pc + 6) = .ok (.invokespecial 48, 3)) (hd9 : decode M.2.1 (pc + 9) = .ok (.athrow, 1))
    (w4 : si ∈ ev_SR) (hRF : M.1.cls = RF) (htb : M.2.2.2.2 = []) (hs : (st.map fun v => v.category).sum ≤ 8) (hd : 6 ≤ d) (kk : Q (.inr h.length) (h ++ [.inr (5, [])])) : ev_E g true M d pc ls st h (kc + 1) (ks + 6) Q :=
  ev_throw (ci := 5) hd0 hd3 hd4 hd6 hd9 rfl (by rw [hRF]; exact ev_inB 174 rfl rfl) (ev_inB 175 rfl rfl) (ev_inA 10 rfl rfl) w4 hRF (by rw [hRF]; exact ow_48) (by decide +kernel) htb hs hd kk
theorem ev_throwU {si : Nat} (hd0 : decode M.2.1 pc = .ok (.new 57, 3)) (hd3 : decode M.2.1 (pc + 3) = .ok (.dup, 1)) (hd4 : decode M.2.1 (pc + 4) = .ok (.ldc si, 2)) (hd6 : decode M.2.1 (pc + 6) = .ok (.invokespecial 61, 3)) (hd9 : decode M.2.1 (pc + 9) = .ok (.athrow, 1))
    (w4 : si ∈ ev_SR) (hRF : M.1.cls = RF) (htb : M.2.2.2.2 = []) (hs : (st.map fun v => v.category).sum ≤ 8) (hd : 6 ≤ d) (kk : Q (.inr h.length) (h ++ [.inr (6, [])])) : ev_E g true M d pc ls st h (kc + 1) (ks + 6) Q :=
  ev_throw (ci := 6) hd0 hd3 hd4 hd6 hd9 rfl (by rw [hRF]; exact ev_inC 11 rfl rfl) (ev_inC 12 rfl rfl) (ev_inA 11 rfl rfl) w4 hRF (by rw [hRF]; exact ow_61) (by decide +kernel) htb hs hd kk
theorem ev_throwO {si : Nat} (hd0 : decode M.2.1 pc = .ok (.new 86, 3)) (hd3 : decode M.2.1 (pc + 3) = .ok (.dup, 1)) (hd4 : decode M.2.1 (pc + 4) = .ok (.ldc si, 2)) (hd6 : decode M.2.1 (pc + 6) = .ok (.invokespecial 90, 3)) (hd9 : decode M.2.1 (pc + 9) = .ok (.athrow, 1))
    (w4 : si ∈ ev_SR) (hRF : M.1.cls = RF) (htb : M.2.2.2.2 = []) (hs : (st.map fun v => v.category).sum ≤ 8) (hd : 6 ≤ d) (kk : Q (.inr h.length) (h ++ [.inr (7, [])])) : ev_E g true M d pc ls st h (kc + 1) (ks + 6) Q :=
  ev_throw (ci := 7) hd0 hd3 hd4 hd6 hd9 rfl (by rw [hRF]; exact ev_inC 39 rfl rfl) (ev_inC 40 rfl rfl) (ev_inA 12 rfl rfl) w4 hRF (by rw [hRF]; exact ow_90) (by decide +kernel) htb hs hd kk
end EX2
/-- thrown: an object of class ci -/
def ev_X (ci : Nat) (o : ev_O) (h' : List ev_AC) : Prop := ∃ i, o = .inr i ∧ h'[i]? = some (.inr (ci, []))
theorem ev_X_of {ci : Nat} {h : List ev_AC} : ev_X ci (.inr h.length) (h ++ [.inr (ci, [])]) := ⟨h.length, rfl, by simp⟩
theorem ly_rw_app {A : List Nat} {e k : Nat} {R : Int → Int} {t u : List ev_AC} (h : ly_rw A e k R t) : ly_rw A e k R (t ++ u) :=
  ⟨by rw [List.getElem?_append_left (List.getElem?_eq_some_iff.mp h.1).1]; exact h.1, h.2⟩
section LB4
variable {g : ev_G} {d : Nat} {s s' : SG} {ty : Int} {rs : RS} {kn : Bool} {S : Int → Int} {mc : List ev_AC} {e : Nat} {h : List ev_AC}
theorem LO_push {c : ev_AC} (hh : LO s ty rs S mc e kn h) : LO s ty rs S mc e kn (h ++ [c]) := by
  obtain ⟨fo, kr, R, A, mk, x, tl, hL, hr, hk, hA⟩ := hh
  obtain ⟨ok, B, lo, hi, rfl, gvv⟩ := hL
  refine ⟨fo, kr, R, A, mk, x, tl ++ [c], ⟨ok, B, lo, hi, ?_, gvv⟩, ?_, hk, hA⟩
  · rw [← List.append_assoc]; rfl
  · rw [← List.append_assoc]; exact ly_rw_app (u := [c]) hr
theorem LO_try {c : Int} {fo : Int} {kr : Nat} {R : Int → Int} {A : List Nat} {mk : Int64} {x : ev_AC} {tl : List ev_AC} (hs : c ≠ 0 → s' = s) (hL : LR s' ty rs (lb_kn c kn) fo (kr + 14) mk (x :: ev_ia 60 S :: (mc ++ tl)) h)
    (hr : ly_rw A e kr R (x :: ev_ia 60 S :: (mc ++ tl))) (hk : kr = 0 ∨ mc.length + 2 ≤ kr) (hA : kn = true → fo = (A.length : Nat) ∧ A = ly_all s ∧ mk = ly_ms s.2.1 0 A) : LO s' ty rs S mc e (lb_kn c kn) h := by
  refine ⟨fo, kr, R, A, mk, x, tl, hL, hr, hk, fun q => ?_⟩
  unfold lb_kn at q
  split at q
  · cases q
  · rename_i hc
    rw [hs hc]
    exact hA q
theorem ct_Fstrip {l : Int} (l1 : -2147483648 ≤ l) (l2 : l < 2147483648) (hh : LO s ty rs S mc e kn h) :
    ev_T g mF_strip (d + 6) [.ref 0, ev_i l] h 1 6 (fun o h' => (if (lb_strip s l).1 = 0 then o = .inl none else ev_X 5 o h') ∧ LO (lb_strip s l).2 ty rs S mc e (lb_kn (lb_strip s l).1 kn) h') := by
  obtain ⟨fo, kr, R, A, mk, x, tl, hL, hr, hk, hA⟩ := hh
  have hL0 := hL
  obtain ⟨ok, B, lo, hi, rfl, gvv⟩ := hL
  have hs : (lb_strip s l).1 ≠ 0 → (lb_strip s l).2 = s := by
    unfold lb_strip
    split
    · intro q; exact absurd rfl q
    · intro _; rfl
  have hc : (lb_strip s l).1 = 0 ∨ (lb_strip s l).1 = 1 := by
    unfold lb_strip
    split
    · exact Or.inl rfl
    · exact Or.inr rfl
  refine ev_ofT (by decide +kernel) rfl (Nat.le_of_ble_eq_true rfl) rfl rfl ?_
  refine ev_aload_n dF_strip_0 rfl ?_
  refine ev_iload_n dF_strip_1 rfl ?_
  refine ev_callV dF_strip_2 cv_F_40 rfl rfl (Nat.le_of_ble_eq_true rfl) (ct_tryStrip (d := d + 1) l1 l2 hL0) (Nat.zero_le _) (Nat.zero_le _) rfl (fun v h' q => ?_)
  obtain ⟨qv, q⟩ := q
  have hv : v = some (ev_i (lb_strip s l).1) := Sum.inl.inj qv
  subst hv
  have q0 : LO (lb_strip s l).2 ty rs S mc e (lb_kn (lb_strip s l).1 kn) h' := LO_try hs q hr hk hA
  refine ev_if_eq (tgt := 18) dF_strip_5 rfl (by omega) (by omega) (fun hb => ?_) (fun hb => ?_)
  · refine ev_return dF_strip_18 rfl ?_
    exact ⟨by rw [if_pos hb], q0⟩
  · refine ev_throwA dF_strip_8 dF_strip_11 dF_strip_12 dF_strip_14 dF_strip_17 (by decide) rfl rfl (Nat.le_of_ble_eq_true rfl) (by omega) ?_
    exact ⟨by rw [if_neg hb]; exact ev_X_of, LO_push q0⟩
end LB4
