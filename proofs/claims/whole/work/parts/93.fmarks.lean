/-! The class's marks; the script; budgets -/
section FM
variable {g : ev_G} {d : Nat} {s : SG} {ty : Int} {rs : RS} {kn : Bool} {S : Int → Int} {mc : List ev_AC} {e : Nat} {h : List ev_AC}
theorem ct_Xmarks (hh : LO s ty rs S mc e kn h) : ev_C g mF_marks (d + 27) [.ref 0] h (ly_e kn e s - e) (128 * 2 ^ ly_e kn e s - 128 * 2 ^ e)
    (fun o h' => o = .inl (some (ev_i ((ct_s (lb_bit (ly_ms s.2.1 0 (ly_all s))) 64 : Nat) : Int))) ∧ LO s ty rs S mc (ly_e kn e s) true h') := by
  have hh0 := hh
  obtain ⟨fo, kr, R, A, mk, x, tl, hL, hr, hk, hA⟩ := hh
  obtain ⟨ok, B, lo, hi, rfl, gvv⟩ := hL
  refine ev_ofE (by decide +kernel) rfl (Nat.le_of_ble_eq_true rfl) rfl rfl ?_
  refine ev_aload_n dF_marks_0 rfl ?_
  refine ev_get dF_marks_1 fl_F_28 rfl rfl ?_
  refine ev_callV dF_marks_4 cv_F_144 rfl rfl (Nat.le_of_ble_eq_true rfl) (ct_find (d := d) hh0) (Nat.le_refl _) (Nat.le_refl _) rfl (fun v h' q => ?_)
  obtain ⟨qv, q⟩ := q
  have hv : v = none := Sum.inl.inj qv
  subst hv
  have q0 := q
  obtain ⟨fo, kr, R, A, mk, x, tl, hL, hr, hk, hA⟩ := q
  obtain ⟨ok, B, lo, hi, rfl, gvv⟩ := hL
  obtain ⟨hfo, hAl, hmk⟩ := hA rfl
  subst hfo
  subst hAl
  have e1 : pp_n 64 mk.toBitVec.toNat = ct_s (lb_bit (ly_ms s.2.1 0 (ly_all s))) 64 := by
    rw [pp_n_s, ← hmk]
    rfl
  refine ev_aload_n dF_marks_7 rfl ?_
  refine ev_get dF_marks_8 fl_F_28 rfl rfl ?_
  refine ev_get dF_marks_11 fl_F_169 rfl rfl ?_
  refine ev_cS dF_marks_14 cs_F_173 ct_bitCount rfl rfl (Nat.le_of_ble_eq_true rfl) (Nat.zero_le _) (Nat.zero_le _) ?_
  rw [e1]
  refine ev_ireturn dF_marks_17 rfl ?_
  exact ⟨rfl, q0⟩
end FM
theorem ly_ge_15 : ∀ (c e l : Nat), e ≤ 15 → l + c ≤ 2097152 → ly_ge e l c ≤ 15
  | 0, e, l, h, _ => h
  | c + 1, e, l, h, hl => by
    show ly_ge (ly_g1 e l) (l + 1) c ≤ 15
    refine ly_ge_15 c _ _ ?_ (by omega)
    unfold ly_g1
    split
    · exact h
    · rename_i hq
      rcases Nat.lt_or_ge e 15 with q | q
      · omega
      · have : e = 15 := by omega
        subst this
        omega
theorem ly_e_15 {kn : Bool} {e : Nat} {s : SG} (ok : sg_ok s) (h : e ≤ 15) : e ≤ ly_e kn e s ∧ ly_e kn e s ≤ 15 := by
  unfold ly_e
  cases kn
  · exact ⟨ly_ge_le, ly_ge_15 _ e 0 h (by have := ly_all_len ok; omega)⟩
  · exact ⟨Nat.le_refl _, h⟩
/-- the script lies where it lay -/
def ev_SC (g : ev_G) : Prop := ev_sL g ≤ 2048 ∧ ev_sb g < ev_z g ∧ (ev_H0 g).size = ev_z g
abbrev sxi (g : ev_G) (i : Int) : Int := (ev_sx g i.toNat).toInt
theorem sxi_bd (g : ev_G) (i : Int) : -2147483648 ≤ sxi g i ∧ sxi g i < 2147483648 := ⟨Int32.le_toInt _, Int32.toInt_lt _⟩
section SC
variable {g : ev_G} {X : Bool} {M : ev_M} {d pc : Nat} {ls : List (Option Value)} {st : List Value} {h : List ev_AC} {kc ks : Nat} {Q : ev_O → List ev_AC → Prop}
theorem ev_SX {p : Program} {R : Room} {s : State} {m : MethodId} {args : Array Value} {meth : Method} {c : Code} {H : Heap} {locs : List Loc} {cells slots : Nat} {rls : Array Slot} (hs : ev_SC g) (C : ev_Cx g M d ls h kc ks p R s m args meth c H locs cells slots rls) :
    va_X (ev_sb g) (ev_sL g) (ev_sx g) s (ev_H0 g) ∧ ev_sb g < (ev_H0 g).size ∧ va_S (fun q => ev_z g ≤ q) (ev_H0 g) H locs :=
  ⟨C.1.2.2.2.2.2.2.2.2.2.2.2.2.1.2, by rw [hs.2.2]; exact hs.2.1, by rw [hs.2.2, C.2.2.1.1]; exact Nat.le_add_right _ _, fun q hq _ => C.2.2.1.2.1 q (by rw [← hs.2.2]; exact hq), C.2.2.2.1⟩
theorem ev_sald {u : UInt32} {i : Int} (hs : ev_SC g) (hd : decode M.2.1 pc = .ok (.iaload, 1)) (h0 : 0 ≤ i) (h1 : i < ev_sL g) (kk : ev_E g X M d (pc + 1) ls (ev_i (sxi g i) :: st) h kc ks Q) : ev_E g X M d pc ls (ev_i i :: .float u :: st) h kc ks Q := by
  intro p e R s m args below meth c H locs cells slots rls C
  have kk := kk p e R s m args below meth c H locs cells slots rls C
  have hL := hs.1
  obtain ⟨x1, x2, x3⟩ := ev_SX hs C
  refine va_sld (A := fun q => ev_z g ≤ q) C.1.1 C.1.2.1 x1 x2 (Nat.not_le.mpr hs.2.1) x3 (ev_vpin h0 h1 (by omega)) hd ?_
  rw [ev_clamp h0 (by omega), ev_ofi]
  exact kk
theorem ev_salen {u : UInt32} (hs : ev_SC g) (hd : decode M.2.1 pc = .ok (.arraylength, 1)) (kk : ev_E g X M d (pc + 1) ls (ev_i (ev_sL g : Nat) :: st) h kc ks Q) : ev_E g X M d pc ls (.float u :: st) h kc ks Q := by
  intro p e R s m args below meth c H locs cells slots rls C
  have kk := kk p e R s m args below meth c H locs cells slots rls C
  obtain ⟨x1, x2, x3⟩ := ev_SX hs C
  refine va_slen (A := fun q => ev_z g ≤ q) C.1.1 C.1.2.1 x1 x2 (Nat.not_le.mpr hs.2.1) x3 hd ?_
  rw [← Int32.ofInt_eq_ofNat]
  exact kk
theorem ev_icmp_same {a off : Int} {tgt : Nat} (hd : decode M.2.1 pc = .ok (.if_icmp .eq off, 3)) (ht : (pc : Int) + off = (tgt : Int)) (kt : ev_E g X M d tgt ls st h kc ks Q) : ev_E g X M d pc ls (ev_i a :: ev_i a :: st) h kc ks Q := by
  have e : ev_i a = ev_i ((Int32.ofInt a).toInt) := ev_ofi _
  rw [e]
  exact ev_icmp_eq hd ht (Int32.le_toInt _) (Int32.toInt_lt _) (Int32.le_toInt _) (Int32.toInt_lt _) (fun _ => kt) (fun q => absurd rfl q)
theorem ev_lcmp_same {x : Int64} (hd : decode M.2.1 pc = .ok (.lcmp, 1)) (kk : ev_E g X M d (pc + 1) ls (ev_i 0 :: st) h kc ks Q) : ev_E g X M d pc ls (.long x :: .long x :: st) h kc ks Q :=
  ev_lcmp (z := 0) hd (by unfold lg_cmp; simp) kk
theorem ev_and31 {a : Int} (hd : decode M.2.1 pc = .ok (.iand, 1)) (kk : ∀ z : Int, 0 ≤ z → z ≤ 31 → ev_E g X M d (pc + 1) ls (ev_i z :: st) h kc ks Q) : ev_E g X M d pc ls (ev_i 31 :: ev_i a :: st) h kc ks Q := by
  refine ev_iand (z := (Int32.ofInt a &&& Int32.ofInt 31).toInt) hd (by simp) (kk _ ?_ ?_)
  all_goals
    have h1 : (Int32.ofInt a &&& Int32.ofInt 31).toBitVec.toNat ≤ 31 := by
      rw [Int32.toBitVec_and, BitVec.toNat_and]
      exact Nat.le_trans Nat.and_le_right (by decide)
    have h2 : (Int32.ofInt a &&& Int32.ofInt 31).toInt = ((Int32.ofInt a &&& Int32.ofInt 31).toBitVec.toNat : Int) := BitVec.toInt_eq_toNat_of_lt (by omega)
    omega
end SC
