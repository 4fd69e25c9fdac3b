/-! fields, arrays, new cells -/
/-- a class of the list: its words, its fields' types, its fields' names -/
def ev_CF (ci : Nat) (C : String) (T : u_T) (N : Nat) : Prop :=
  ev_CL[ci]? = some (C, T, N) ∧ (∀ w ∈ u_ws C T N, w ∈ ev_WS) ∧ (∃ ty0 : Nat → FieldType, ∀ k, k < N → parseFieldDescriptor (T k).2.2.1 = some (ty0 k)) ∧ (∀ a, a < N → ∀ b, b < N → a ≠ b → (T a).2.1 ≠ (T b).2.1)
/-- entry idx of the class own is field k of class ci -/
def ev_FL (own : String) (idx ci k : Nat) : Prop :=
  ∃ (C : String) (T : u_T) (N : Nat), ev_CF ci C T N ∧ k < N ∧ (Cond.fieldLink own idx (T k).1 (T k).2.1 (T k).2.2.1 ∈ ev_WS ∨ ∃ host, Cond.fieldLinkNest own idx (T k).1 (T k).2.1 (T k).2.2.1 host ∈ ev_NW)
/-- .. that may be written: its type; fin: a final one, in its own constructor -/
def ev_FP (own : String) (idx ci k : Nat) (ty : FieldType) (fin : Bool) : Prop :=
  ∃ (C : String) (T : u_T) (N : Nat), ev_CF ci C T N ∧ k < N ∧ Cond.fieldLink own idx (T k).1 (T k).2.1 (T k).2.2.1 ∈ ev_WS ∧ parseFieldDescriptor (T k).2.2.1 = some ty ∧ (T k).2.2.2 = fin ∧ (T k).1 = own
def ev_ia (n : Nat) (F : Int → Int) : ev_AC := .inl (n, .inl (fun i => Int32.ofInt (F (i : Int))))
def ev_la (n : Nat) (F : Nat → Int64) : ev_AC := .inl (n, .inr (.inl F))
def ev_up (F : Int → Int) (k : Int) (z : Int) : Int → Int := fun j => if j = k then z else F j
theorem ev_upd (F : Int → Int) (k : Nat) (z : Int) : upd (fun i => Int32.ofInt (F (i : Int))) k (Int32.ofInt z) = fun i : Nat => Int32.ofInt (ev_up F k z (i : Int)) := by
  funext j
  by_cases hj : j = k
  · simp [upd, ev_up, hj]
  · have : ¬ (j : Int) = (k : Int) := by omega
    simp [upd, ev_up, hj, this]
section EVH
variable {g : ev_G} {X : Bool} {M : ev_M} {d pc : Nat} {ls : List (Option Value)} {st : List Value} {h : List ev_AC} {kc ks : Nat} {Q : ev_O → List ev_AC → Prop}
theorem ev_get {idx a ci k : Nat} {fs : List Value} {v : Value} (hd : decode M.2.1 pc = .ok (.getfield idx, 3)) (F : ev_FL M.1.cls idx ci k) (hc : h[a]? = some (.inr (ci, fs))) (hv : fs[k]? = some v)
    (kk : ev_E g X M d (pc + 3) ls (v :: st) h kc ks Q) : ev_E g X M d pc ls (.ref a :: st) h kc ks Q := by
  intro p e R s m args below meth c H locs cells slots rls C
  have kk := kk p e R s m args below meth c H locs cells slots rls C
  obtain ⟨hx, hb, hml, hown, hts, hK, hN, -⟩ := C.1
  obtain ⟨Cn, T, N, ⟨hcl, hin, -, -⟩, hk, hl⟩ := F
  have hv' : (fs.map (ev_rv g))[k]? = some (ev_rv g v) := by rw [List.getElem?_map, hv]; rfl
  rcases hl with hl | ⟨host, hl⟩
  · exact va_get hx hb hts hin hown hK C.2.2.1.2.2 a (ev_rl_at hc) hcl k hk (hts _ hl) (fun x hx => hx) hv' hd kk
  · exact va_getN hx hb hts hin hown hK C.2.2.1.2.2 a (ev_rl_at hc) hcl k hk (va_Nw.use rfl (hN _ hl)) (fun x hx => hx) hv' hd kk
theorem ev_Cx.heap {p : Program} {R : Room} {s : State} {m : MethodId} {args : Array Value} {meth : Method} {c : Code} {H H' : Heap} {locs locs' : List Loc} {cells slots cells' slots' kc' ks' : Nat} {rls : Array Slot} {h' : List ev_AC} (C : ev_Cx g M d ls h kc ks p R s m args meth c H locs cells slots rls) (hH : ev_HR g h' H') (hl : ∀ q ∈ locs', ev_z g ≤ q.base) (hc : cells' + kc' ≤ R.cells ∧ slots' + ks' ≤ R.slots) : ev_Cx g M d ls h' kc' ks' p R s m args meth c H' locs' cells' slots' rls :=
  ⟨C.1, C.2.1, hH, hl, hc, C.2.2.2.2.2⟩
theorem ev_locs {locs : List Loc} {a i : Nat} (hl : ∀ q ∈ locs, ev_z g ≤ q.base) (ha : ev_z g ≤ a) : ∀ q ∈ locs ++ [(⟨a, i⟩ : Loc)], ev_z g ≤ q.base := by
  intro q hq
  rcases List.mem_append.mp hq with h1 | h1
  · exact hl q h1
  · rw [List.mem_singleton.mp h1]; exact ha
theorem ev_put {idx a ci k : Nat} {fs : List Value} {v : Value} {ty : FieldType} {fin : Bool} (hd : decode M.2.1 pc = .ok (.putfield idx, 3)) (F : ev_FP M.1.cls idx ci k ty fin) (hini : fin = true → M.1.name = "<init>") (hc : h[a]? = some (.inr (ci, fs))) (hk' : k < fs.length) (hn : narrow ty (ev_rv g v) = ev_rv g v) (hfit : fits ty (ev_rv g v) = true)
    (kk : ev_E g X M d (pc + 3) ls st (h.set a (.inr (ci, fs.set k v))) kc ks Q) : ev_E g X M d pc ls (v :: .ref a :: st) h kc ks Q := by
  intro p e R s m args below meth c H locs cells slots rls C
  obtain ⟨hx, hb, hml, hown, hts, hK, hN, hrt, hlk, hnm, -⟩ := C.1
  obtain ⟨Cn, T, N, ⟨hcl, hin, ⟨ty0, hty⟩, hnms⟩, hk, hl, hdt, hfin, hdecl⟩ := F
  have hap := va_apart (own := M.1.cls) hts hin ty0 hty hnms hK hcl
  obtain ⟨r, h1, cell, q1, q2, q3, q4⟩ := C.2.2.1.2.2 a _ (ev_rl_at hc)
  have hr : r = (Cn, T, N) := Option.some.inj (h1.symm.trans hcl)
  subst hr
  obtain ⟨hS, hfc, kC, hkC, hkind⟩ := hK.1 ci _ hcl
  obtain ⟨cf, kf, fi, f, hi, hsl⟩ := hS k hk
  have hst := (u_facts hfc hkC (u_lays hts hin hk) hi).1
  have hlay := hts _ (hin _ (u_in_lay hk))
  unfold u_lay at hlay
  have kk2 : ∀ H' : Heap, H'[ev_z g + a]? = some (cell.setSlot ((ev_Dg g).2 ci k) (ev_rv g v)) → H'.size = H.size → (∀ q, q ≠ ev_z g + a → H'[q]? = H[q]?) →
      W p (ev_l g) e R s m args below meth c H' (locs ++ [⟨ev_z g + a, (ev_Dg g).2 ci k⟩]) cells slots (ev_MQ X below (ev_QX g Q) args s R.cells R.slots (fun q => ev_z g ≤ q)) (F0 m (pc + 3) rls (st.map (ev_rv g))) := by
    intro H' e1 e2 e3
    refine kk p e R s m args below meth c H' _ cells slots rls (C.heap (C.2.2.1.set hc ⟨_, hcl, t_OB.to (V := updV (vp_V (fs.map (ev_rv g))) k (ev_rv g v)) ⟨_, e1, q2, q3, t_set q4 hap hk _⟩ (fun j _ => ?_)⟩ e2 e3) (ev_locs C.2.2.2.1 (Nat.le_add_right _ _)) C.2.2.2.2.1)
    rw [vp_updV_set (by simpa using hk'), ← List.map_set]
  cases fin with
  | false =>
    rw [if_neg (by rw [hfin]; decide)] at hlay
    have h6 := u_store hfc hkC hkind hlay hi hdt hn hfit
    refine W.putK hx hb (f := f) ⟨hown, hts _ hl, ⟨_, _, _, hi⟩, hst⟩ (by rw [q2]; exact h6) q1 q3 (by rw [hsl]; exact k2_hasslot (q4 k hk)) rfl rfl hd fun H' e1 e2 e3 => ?_
    rw [hsl] at e1 ⊢
    exact kk2 H' e1 e2 e3
  | true =>
    rw [if_pos hfin] at hlay
    have hcf : m.cls = cf := by
      obtain ⟨_, _, c', _, _, _, -, -, hf', -, -, -, hown2, -⟩ := Cond.laysFinal_spec hlay
      have e1 : c' = cf := by have := hi.symm.trans hf'; simp at this; exact this.1.symm
      rw [hdecl] at hown2
      rw [← e1]; exact Option.some.inj (hown.symm.trans hown2)
    have h6 := u_fits hfc hkC hkind (Or.inr hlay) hi hdt hn hfit
    refine W.putFinK hx hb hown (hts _ hl) hi hst hcf (hnm.trans (hini rfl)) (by rw [q2]; exact h6) q1 q3 (by rw [hsl]; exact k2_hasslot (q4 k hk)) rfl rfl hd fun H' e1 e2 e3 => ?_
    rw [hsl] at e1 ⊢
    exact kk2 H' e1 e2 e3
theorem ev_vpin {i : Int} {n : Nat} (h0 : 0 ≤ i) (h1 : i < n) (hn : n < 2147483648) : vp_in (Int32.ofInt i) n := by
  rw [vp_in_iff, ev_toInt (by omega) (by omega)]
  exact ⟨h0, h1⟩
theorem ev_clamp {i : Int} (h0 : 0 ≤ i) (h1 : i < 2147483648) : (Int32.ofInt i).toNatClampNeg = i.toNat := by
  show (Int32.ofInt i).toInt.toNat = i.toNat
  rw [ev_toInt (by omega) h1]
theorem ev_iald {a n : Nat} {F : Int → Int} {i : Int} (hd : decode M.2.1 pc = .ok (.iaload, 1)) (hc : h[a]? = some (ev_ia n F)) (h0 : 0 ≤ i) (h1 : i < n) (hn : n < 2147483648)
    (kk : ev_E g X M d (pc + 1) ls (ev_i (F i) :: st) h kc ks Q) : ev_E g X M d pc ls (ev_i i :: .ref a :: st) h kc ks Q := by
  intro p e R s m args below meth c H locs cells slots rls C
  have kk := kk p e R s m args below meth c H locs cells slots rls C
  refine va_iald C.1.1 C.1.2.1 C.1.2.2.2.2.2.1 C.2.2.1.2.2 a 0 (ev_rl_at hc) rfl (ev_vpin h0 h1 hn) hd ?_
  rw [ev_clamp h0 (by omega), Int.toNat_of_nonneg h0]
  exact kk
theorem ev_lald {a n : Nat} {F : Nat → Int64} {i : Int} (hd : decode M.2.1 pc = .ok (.laload, 1)) (hc : h[a]? = some (ev_la n F)) (h0 : 0 ≤ i) (h1 : i < n) (hn : n < 2147483648)
    (kk : ev_E g X M d (pc + 1) ls (.long (F i.toNat) :: st) h kc ks Q) : ev_E g X M d pc ls (ev_i i :: .ref a :: st) h kc ks Q := by
  intro p e R s m args below meth c H locs cells slots rls C
  have kk := kk p e R s m args below meth c H locs cells slots rls C
  refine va_lald C.1.1 C.1.2.1 C.1.2.2.2.2.2.1 C.2.2.1.2.2 a 1 (ev_rl_at hc) rfl (ev_vpin h0 h1 hn) hd ?_
  rw [ev_clamp h0 (by omega)]
  exact kk
theorem ev_iast {a n : Nat} {F : Int → Int} {i z : Int} (hd : decode M.2.1 pc = .ok (.iastore, 1)) (hc : h[a]? = some (ev_ia n F)) (h0 : 0 ≤ i) (h1 : i < n) (hn : n < 2147483648)
    (kk : ev_E g X M d (pc + 1) ls st (h.set a (ev_ia n (ev_up F i z))) kc ks Q) : ev_E g X M d pc ls (ev_i z :: ev_i i :: .ref a :: st) h kc ks Q := by
  intro p e R s m args below meth c H locs cells slots rls C
  have hat := C.2.2.1.2.2 a _ (ev_rl_at hc)
  have hA := (C.1.2.2.2.2.2.1.2 0 _ rfl).1 n (fun j => .int (Int32.ofInt (F (j : Int))))
  refine W.iast (j := Int32.ofInt i) (x := Int32.ofInt z) C.1.1 C.1.2.1 hat hA (fun q => by cases q) (by show ¬ (_ ∨ (arrV _ _ _).slots.size ≤ _); rw [arrV_size]; exact ev_vpin h0 h1 hn) rfl rfl hd fun H1 e1 z1 oq => ?_
  refine kk p e R s m args below meth c H1 _ cells slots rls (C.heap (C.2.2.1.set hc ?_ z1 oq) (ev_locs C.2.2.2.1 (Nat.le_add_right _ _)) C.2.2.2.2.1)
  show H1[ev_z g + a]? = some (vp_cell (ev_I g) (n, .inl (fun j => Int32.ofInt (ev_up F i z (j : Int)))))
  have hi : i = ((Int32.ofInt i).toNatClampNeg : Int) := by rw [ev_clamp h0 (by omega), Int.toNat_of_nonneg h0]
  have hu : (fun j : Nat => Int32.ofInt (ev_up F i z (j : Int))) = upd (fun i => Int32.ofInt (F (i : Int))) (Int32.ofInt i).toNatClampNeg (Int32.ofInt z) := by rw [ev_upd, ← hi]
  rw [e1, hu]
  show some ((vp_cell (ev_I g) (n, .inl (fun i => Int32.ofInt (F (i : Int))))).setSlot _ _) = _
  rw [vp_cell_i, vp_cell_i, arrV_store]
  congr 2
  funext q
  by_cases hq : q = (Int32.ofInt i).toNatClampNeg <;> simp [upd, updV, hq]
theorem ev_last {a n : Nat} {F : Nat → Int64} {i : Int} {x : Int64} (hd : decode M.2.1 pc = .ok (.lastore, 1)) (hc : h[a]? = some (ev_la n F)) (h0 : 0 ≤ i) (h1 : i < n) (hn : n < 2147483648)
    (kk : ev_E g X M d (pc + 1) ls st (h.set a (ev_la n (vp_updL F i.toNat x))) kc ks Q) : ev_E g X M d pc ls (.long x :: ev_i i :: .ref a :: st) h kc ks Q := by
  intro p e R s m args below meth c H locs cells slots rls C
  have hat := C.2.2.1.2.2 a _ (ev_rl_at hc)
  have hA := (C.1.2.2.2.2.2.1.2 1 _ rfl).1 n (fun j => .long (F j))
  refine W.last (j := Int32.ofInt i) (x := x) C.1.1 C.1.2.1 hat hA (fun q => by cases q) (by show ¬ (_ ∨ (arrV _ _ _).slots.size ≤ _); rw [arrV_size]; exact ev_vpin h0 h1 hn) rfl rfl hd fun H1 e1 z1 oq => ?_
  refine kk p e R s m args below meth c H1 _ cells slots rls (C.heap (C.2.2.1.set hc ?_ z1 oq) (ev_locs C.2.2.2.1 (Nat.le_add_right _ _)) C.2.2.2.2.1)
  show H1[ev_z g + a]? = some (vp_cell (ev_J g) (n, .inr (.inl (vp_updL F i.toNat x))))
  rw [e1, ← ev_clamp h0 (by omega)]
  show some ((vp_cell (ev_J g) (n, .inr (.inl F))).setSlot _ _) = _
  rw [vp_cell_l, vp_cell_l, arrV_store]
  congr 2
  funext q
  by_cases hq : q = (Int32.ofInt i).toNatClampNeg <;> simp [vp_updL, updV, hq]
theorem ev_alen {a n : Nat} {F : Int → Int} (hd : decode M.2.1 pc = .ok (.arraylength, 1)) (hc : h[a]? = some (ev_ia n F))
    (kk : ev_E g X M d (pc + 1) ls (ev_i n :: st) h kc ks Q) : ev_E g X M d pc ls (.ref a :: st) h kc ks Q := by
  intro p e R s m args below meth c H locs cells slots rls C
  have kk := kk p e R s m args below meth c H locs cells slots rls C
  exact va_alen C.1.1 C.1.2.1 C.1.2.2.2.2.2.1 C.2.2.1.2.2 a 0 (ev_rl_at hc) rfl (v := Int32.ofInt n) (by show Int32.ofNat n = Int32.ofInt n; first | exact Int32.ofInt_eq_ofNat.symm | rfl | simp [Int32.ofInt, Int32.ofNat]) hd kk
end EVH
