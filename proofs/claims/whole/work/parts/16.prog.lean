/-! an end that is one: the answer w, the heap h1; calls of such methods; truth values -/
def ev_V (w : Option Value) (h1 : List ev_AC) : ev_O → List ev_AC → Prop := fun o h' => o = .inl w ∧ h' = h1
def ev_b (b : Bool) : Int := if b then 1 else 0
theorem ev_b01 (b : Bool) : ev_b b = 0 ∨ ev_b b = 1 := by cases b <;> simp [ev_b]
theorem ev_b_t : ev_b true = 1 := rfl
theorem ev_b_f : ev_b false = 0 := rfl
section EVP
variable {g : ev_G} {X : Bool} {M : ev_M} {d pc : Nat} {ls : List (Option Value)} {st : List Value} {h : List ev_AC} {kc ks : Nat} {Q : ev_O → List ev_AC → Prop}
theorem ev_cV {M' : ev_M} {idx n ci b mc ms : Nat} {as rest : List Value} {fs : List Value} {w : Value} {h1 : List ev_AC} (hd : decode M.2.1 pc = .ok (.invokevirtual idx, 3)) (F : ev_CV M.1.cls idx M' n ci) (hC : ev_C g M' d (.ref b :: as) h mc ms (ev_V (some w) h1)) (hn : as.length = n) (hc : h[b]? = some (.inr (ci, fs))) (hst : as.reverse ++ .ref b :: rest = st) (hs : (rest.map fun v => v.category).sum ≤ 8)
    (hmc : mc ≤ kc) (hms : ms ≤ ks) (kk : ev_E g X M (d + 1) (pc + 3) ls (w :: rest) h1 (kc - mc) (ks - ms) Q) : ev_E g X M (d + 1) pc ls st h kc ks Q :=
  ev_callV hd F hn hc hs hC hmc hms hst (fun v h' q => by obtain ⟨q1, q2⟩ := q; cases q1; subst q2; exact kk)
theorem ev_cVv {M' : ev_M} {idx n ci b mc ms : Nat} {as rest : List Value} {fs : List Value} {h1 : List ev_AC} (hd : decode M.2.1 pc = .ok (.invokevirtual idx, 3)) (F : ev_CV M.1.cls idx M' n ci) (hC : ev_C g M' d (.ref b :: as) h mc ms (ev_V none h1)) (hn : as.length = n) (hc : h[b]? = some (.inr (ci, fs))) (hst : as.reverse ++ .ref b :: rest = st) (hs : (rest.map fun v => v.category).sum ≤ 8)
    (hmc : mc ≤ kc) (hms : ms ≤ ks) (kk : ev_E g X M (d + 1) (pc + 3) ls rest h1 (kc - mc) (ks - ms) Q) : ev_E g X M (d + 1) pc ls st h kc ks Q :=
  ev_callV hd F hn hc hs hC hmc hms hst (fun v h' q => by obtain ⟨q1, q2⟩ := q; cases q1; subst q2; exact kk)
theorem ev_cS {M' : ev_M} {idx n mc ms : Nat} {as rest : List Value} {w : Value} {h1 : List ev_AC} (hd : decode M.2.1 pc = .ok (.invokestatic idx, 3)) (F : ev_CS M.1.cls idx M' n) (hC : ev_C g M' d as h mc ms (ev_V (some w) h1)) (hn : as.length = n) (hst : as.reverse ++ rest = st) (hs : (rest.map fun v => v.category).sum ≤ 8)
    (hmc : mc ≤ kc) (hms : ms ≤ ks) (kk : ev_E g X M (d + 1) (pc + 3) ls (w :: rest) h1 (kc - mc) (ks - ms) Q) : ev_E g X M (d + 1) pc ls st h kc ks Q :=
  ev_callS hd F hn hs hC hmc hms hst (fun v h' q => by obtain ⟨q1, q2⟩ := q; cases q1; subst q2; exact kk)
theorem ev_cI {M' : ev_M} {idx n b mc ms : Nat} {as rest : List Value} {h1 : List ev_AC} (hd : decode M.2.1 pc = .ok (.invokespecial idx, 3)) (F : ev_CI M.1.cls idx M' n) (hC : ev_C g M' d (.ref b :: as) h mc ms (ev_V none h1)) (hini : M'.1.name = "<init>") (hret : M'.2.2.2.1 = none) (hn : as.length = n) (hst : as.reverse ++ .ref b :: rest = st) (hs : (rest.map fun v => v.category).sum ≤ 8)
    (hmc : mc ≤ kc) (hms : ms ≤ ks) (kk : ev_E g X M (d + 1) (pc + 3) ls rest h1 (kc - mc) (ks - ms) Q) : ev_E g X M (d + 1) pc ls st h kc ks Q :=
  ev_callI hd F hini hret hn hs hC hmc hms hst (fun v h' q => by obtain ⟨q1, q2⟩ := q; cases q1; subst q2; exact kk)
/-- ifeq, ifne on a truth value -/
theorem ev_bz {b : Bool} {off : Int} {tgt : Nat} (hd : decode M.2.1 pc = .ok (.ifCond .eq off, 3)) (ht : (pc : Int) + off = (tgt : Int)) (kt : b = false → ev_E g X M d tgt ls st h kc ks Q) (kf : b = true → ev_E g X M d (pc + 3) ls st h kc ks Q) : ev_E g X M d pc ls (ev_i (ev_b b) :: st) h kc ks Q := by
  refine ev_if_eq hd ht (by rcases ev_b01 b with q | q <;> omega) (by rcases ev_b01 b with q | q <;> omega) (fun hz => kt ?_) (fun hz => kf ?_)
  · cases b
    · rfl
    · exact absurd hz (by decide)
  · cases b
    · exact absurd rfl hz
    · rfl
theorem ev_bn {b : Bool} {off : Int} {tgt : Nat} (hd : decode M.2.1 pc = .ok (.ifCond .ne off, 3)) (ht : (pc : Int) + off = (tgt : Int)) (kt : b = true → ev_E g X M d tgt ls st h kc ks Q) (kf : b = false → ev_E g X M d (pc + 3) ls st h kc ks Q) : ev_E g X M d pc ls (ev_i (ev_b b) :: st) h kc ks Q := by
  refine ev_if_ne hd ht (by rcases ev_b01 b with q | q <;> omega) (by rcases ev_b01 b with q | q <;> omega) (fun hz => kt ?_) (fun hz => kf ?_)
  · cases b
    · exact absurd rfl hz
    · rfl
  · cases b
    · rfl
    · exact absurd hz (by decide)
/-- the same, less room -/
theorem ev_room {kc' ks' : Nat} (h1 : kc' ≤ kc) (h2 : ks' ≤ ks) (k : ev_E g X M d pc ls st h kc' ks' Q) : ev_E g X M d pc ls st h kc ks Q := fun p e R s m args below meth c H locs cells slots rls C =>
  k p e R s m args below meth c H locs cells slots rls ⟨C.1, C.2.1, C.2.2.1, C.2.2.2.1, ⟨by have := C.2.2.2.2.1.1; omega, by have := C.2.2.2.2.1.2; omega⟩, C.2.2.2.2.2⟩
theorem ev_deep {d' : Nat} (h1 : d' ≤ d) (k : ev_E g X M d' pc ls st h kc ks Q) : ev_E g X M d pc ls st h kc ks Q := fun p e R s m args below meth c H locs cells slots rls C =>
  k p e R s m args below meth c H locs cells slots rls ⟨C.1, ⟨by have := C.2.1.1; omega, by have := C.2.1.2; omega⟩, C.2.2.1, C.2.2.2.1, C.2.2.2.2.1, C.2.2.2.2.2⟩
/-- Math.max, Math.min -/
theorem ev_max {idx : Nat} {a b : Int} (hd : decode M.2.1 pc = .ok (.invokestatic idx, 3)) (w1 : Cond.methodLink M.1.cls idx Lib.Math.max.name ∈ ev_WS) (w2 : Cond.static Lib.Math.max.name ∈ ev_WS) (w3 : Cond.code Lib.Math.max.name Lib.Math.max.code 2 (some .int) ∈ ev_WS) (hs : (st.map fun v => v.category).sum ≤ 8)
    (a1 : -2147483648 ≤ a) (a2 : a < 2147483648) (b1 : -2147483648 ≤ b) (b2 : b < 2147483648) (kk : ev_E g X M (d + 1) (pc + 3) ls (ev_i (if a < b then b else a) :: st) h kc ks Q) : ev_E g X M (d + 1) pc ls (ev_i b :: ev_i a :: st) h kc ks Q := by
  intro p e R s m args below meth c H locs cells slots rls C
  have kk := kk p e R s m args below meth c H locs cells slots rls C
  obtain ⟨hx, hb, hml, hown, hts, -⟩ := C.1
  have hs' := ev_rv_sum g st
  have hcc := C.2.2.2.2.1
  refine va_mmax (x := Int32.ofInt a) (y := Int32.ofInt b) hx hb (by rw [hml]; exact C.2.2.2.2.2.2.1.1.symm) hown (hts _ w1) (hts _ w2) (hts _ wi_Math) (hts _ w3) (by have := C.2.1.1; omega) (by have := C.2.1.2; omega) (by omega) (by omega) hd ?_
  have : (if Int32.ofInt a < Int32.ofInt b then Int32.ofInt b else Int32.ofInt a) = Int32.ofInt (if a < b then b else a) := by
    by_cases hab : a < b
    · rw [if_pos hab, if_pos ((ev_lt a1 a2 b1 b2).mpr hab)]
    · rw [if_neg hab, if_neg (fun q => hab ((ev_lt a1 a2 b1 b2).mp q))]
  rw [this]
  exact kk
theorem ev_min {idx : Nat} {a b : Int} (hd : decode M.2.1 pc = .ok (.invokestatic idx, 3)) (w1 : Cond.methodLink M.1.cls idx Lib.Math.min.name ∈ ev_WS) (w2 : Cond.static Lib.Math.min.name ∈ ev_WS) (w3 : Cond.code Lib.Math.min.name Lib.Math.min.code 2 (some .int) ∈ ev_WS) (hs : (st.map fun v => v.category).sum ≤ 8)
    (a1 : -2147483648 ≤ a) (a2 : a < 2147483648) (b1 : -2147483648 ≤ b) (b2 : b < 2147483648) (kk : ev_E g X M (d + 1) (pc + 3) ls (ev_i (if b < a then b else a) :: st) h kc ks Q) : ev_E g X M (d + 1) pc ls (ev_i b :: ev_i a :: st) h kc ks Q := by
  intro p e R s m args below meth c H locs cells slots rls C
  have kk := kk p e R s m args below meth c H locs cells slots rls C
  obtain ⟨hx, hb, hml, hown, hts, -⟩ := C.1
  have hs' := ev_rv_sum g st
  have hcc := C.2.2.2.2.1
  refine va_mmin (x := Int32.ofInt a) (y := Int32.ofInt b) hx hb (by rw [hml]; exact C.2.2.2.2.2.2.1.1.symm) hown (hts _ w1) (hts _ w2) (hts _ wi_Math) (hts _ w3) (by have := C.2.1.1; omega) (by have := C.2.1.2; omega) (by omega) (by omega) hd ?_
  have : (if Int32.ofInt b < Int32.ofInt a then Int32.ofInt b else Int32.ofInt a) = Int32.ofInt (if b < a then b else a) := by
    by_cases hab : b < a
    · rw [if_pos hab, if_pos ((ev_lt b1 b2 a1 a2).mpr hab)]
    · rw [if_neg hab, if_neg (fun q => hab ((ev_lt b1 b2 a1 a2).mp q))]
  rw [this]
  exact kk
end EVP
