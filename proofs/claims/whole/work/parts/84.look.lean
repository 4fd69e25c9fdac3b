/-! The reference: look -/
section RL
variable {g : ev_G} {d : Nat} {c : Nat → ev_AC} {h : List ev_AC} {th L n : Int} {tn : Bool} {P K S : Int → Int} {ty : Int} {y : MY} {t : List ev_AC} {N : Int} {f1 f2 f3 f4 f5 : Int → Int}
theorem lk_mzok {o : Nat} {a b : Int} {f : Int → Int} {fo : Int} (ok : sp_ok L n P K) (hg : gz n (sp_B L n P) (sp_lo L n P) (sp_hi L n P) (f, f1, f2, f3, f4, f5, fo)) (hS : lk_S (sp_lo L n P) (sp_hi L n P) n o a b f) : mz_ok n (f, f1, f2, f3, f4, f5, fo) := by
  refine ⟨hS.2.2, fun i i0 i1 => ?_, fun i i0 i1 => ?_, fun i i0 i1 => ?_⟩
  · rw [(hg.1 i i0 i1).1]
    have := sp_lh ok i0 i1
    omega
  · rw [(hg.1 i i0 i1).2]
    have := sp_lh ok i0 i1
    omega
  · rw [hg.2 i i0 i1]
    have := sp_B_60 ok (i := i + 1) (by omega) (by omega)
    omega
/-- one node of the search: the orders that go on from o are found one by one, then the node is left as it was -/
theorem lk_node (ok : sp_ok L n P K) (N0 : 0 ≤ N) (N1 : N < 2147483648) (Q : ev_O → List ev_AC → Prop) (R : List (Int × Int)) (hRl : R.length ≤ 21)
    (hPL : ∀ (i : Nat) (p : Int × Int), R[i]? = some p → f1 i = p.1 ∧ f2 i = p.2)
    (hg : ∀ (f : Int → Int) (fo : Int), gz n (sp_B L n P) (sp_lo L n P) (sp_hi L n P) (f, f1, f2, f3, f4, f5, fo)) :
    ∀ (k : Nat) (a b : Int) (o : Nat) (dn : List (Int × Int)) (fo : Nat) (f : Int → Int) (o5 : Option Value), ly_k n k a b → dn ++ lk_rem (sp_lo L n P) (sp_hi L n P) k a b = R →
      lk_S (sp_lo L n P) (sp_hi L n P) n o a b f → lk_HN n K tn (sp_B L n P) (sp_lo L n P) (sp_hi L n P) o a b → (∀ j, ly_ix a b ≤ j → o.testBit j = false) → (fo : Int) ≤ N → fo + 2 ^ k ≤ 4194304 →
      (∀ (i x : Nat) (f' : Int → Int), (ly_go K tn (sp_B L n P) (sp_lo L n P) (sp_hi L n P) k a b o)[i]? = some x → ((fo + i : Nat) : Int) = N → lk_S (sp_lo L n P) (sp_hi L n P) n x 0 (n + 1) f' → Q (.inl (some (ev_i 1))) (MHz c th L n tn P K S ty f' f1 f2 f3 f4 f5 (N + 1) y t)) →
      (∀ (f' : Int → Int) (o5 : Option Value), lk_S (sp_lo L n P) (sp_hi L n P) n o a b f' → ((fo + (ly_go K tn (sp_B L n P) (sp_lo L n P) (sp_hi L n P) k a b o).length : Nat) : Int) ≤ N →
        ev_E g false mM_look (d + 4) 15 [some (.ref 16), some (ev_i N), some (ev_i (R.length : Nat)), some (ev_i ((dn.length : Nat) - 1)), some (ev_i 1), o5] [] (MHz c th L n tn P K S ty f' f1 f2 f3 f4 f5 (((fo + (ly_go K tn (sp_B L n P) (sp_lo L n P) (sp_hi L n P) k a b o).length : Nat) : Int)) y t) 0 0 Q) →
      ev_E g false mM_look (d + 4) 15 [some (.ref 16), some (ev_i N), some (ev_i (R.length : Nat)), some (ev_i (dn.length : Nat)), some (ev_i 0), o5] [] (MHz c th L n tn P K S ty f f1 f2 f3 f4 f5 ((fo : Nat)) y t) 0 0 Q := by
  have hn0 := ok.2.2.1
  have hn := ok.2.2.2.1
  have ge := ge_of ok
  intro k
  induction k with
  | zero =>
    intro a b o dn fo f o5 hk hdn hS hN hbit hfo hcap ret cont
    have hb := ly_k_0 hk
    have ha := hk.2.2.2.2 hb
    subst ha
    subst hb
    have hdn' : dn = R := by
      rw [← hdn]
      exact (List.append_nil dn).symm
    subst hdn'
    have hcap' : fo + 1 ≤ 4194304 := hcap
    refine ev_iload_n dM_look_15 rfl ?_
    refine ev_if_lt (tgt := 182) dM_look_16 rfl (by omega) (by omega) (fun g1 => ?_) (fun g1 => ?_)
    · omega
    · refine ev_iload_n dM_look_19 rfl ?_
      refine ev_if_lt (tgt := 182) dM_look_20 rfl (by omega) (by omega) (fun g2 => ?_) (fun g2 => ?_)
      · omega
      · refine ev_iload dM_look_23 rfl ?_
        refine ev_if_ne (tgt := 62) dM_look_25 rfl (by omega) (by omega) (fun g3 => ?_) (fun g3 => ?_)
        · omega
        · refine ev_iload_n dM_look_28 rfl ?_
          refine ev_iload_n dM_look_29 rfl ?_
          refine ev_icmp_ne (tgt := 62) dM_look_30 rfl (by omega) (by omega) (by omega) (by omega) (fun g4 => ?_) (fun g4 => ?_)
          · omega
          · refine ev_aload_n dM_look_33 rfl ?_
            refine ev_dup dM_look_34 rfl ?_
            refine ev_get dM_look_35 fl_M_155 rfl rfl ?_
            refine ev_iconst dM_look_38 ?_
            refine ev_iadd dM_look_39 ?_
            refine ev_put dM_look_40 fp_M_155 (fun q => by cases q) rfl (Nat.le_of_ble_eq_true rfl) rfl rfl ?_
            refine ev_aload_n dM_look_43 rfl ?_
            refine ev_get dM_look_44 fl_M_155 rfl rfl ?_
            refine ev_iload_n dM_look_47 rfl ?_
            refine ev_icmp_le (tgt := 53) dM_look_48 rfl (by omega) (by omega) (by omega) (by omega) (fun g5 => ?_) (fun g5 => ?_)
            · refine ev_iconst dM_look_53 ?_
              refine ev_istore dM_look_54 (Nat.le_of_ble_eq_true rfl) ?_
              refine ev_iinc dM_look_56 rfl ?_
              refine ev_goto (tgt := 15) dM_look_59 rfl ?_
              exact cont f o5 hS (by show ((fo + 1 : Nat) : Int) ≤ N; push_cast; omega)
            · refine ev_iconst dM_look_51 ?_
              have := ret 0 o f rfl (by push_cast; omega) hS
              rw [show N + 1 = ((fo : Nat) : Int) + 1 by omega] at this
              refine ev_zreturn dM_look_52 rfl ?_ ?_
              · decide
              · exact this
  | succ k ih =>
    intro a b o dn fo f o5 hk hdn hS hN hbit hfo hcap ret cont
    have hbn := ly_k_s hk
    have hkn := ly_k_n hk
    obtain ⟨-, a0, ab, -, -⟩ := hk
    have hixn := ly_ix_n a0 ab (by omega)
    have hp2 : 2 ^ (k + 1) = 2 ^ k + 2 ^ k := by rw [Nat.pow_succ]; omega
    have hpos : 0 < 2 ^ k := Nat.two_pow_pos k
    by_cases ho : ly_ov (sp_lo L n P) (sp_hi L n P) a b = true
    · -- the pair overlaps: below first, then above
      have hdn1 : (dn ++ [(a, b)]) ++ lk_rem (sp_lo L n P) (sp_hi L n P) k (if b ≤ a + 1 then 0 else a + 1) (if b ≤ a + 1 then b + 1 else b) = R := by
        rw [← hdn, List.append_assoc, lk_rem_y ho]
        rfl
      have hat : R[dn.length]? = some (a, b) := by
        rw [← hdn1, List.append_assoc]
        simp
      have hlt : dn.length < R.length := (List.getElem?_eq_some_iff.mp hat).1
      have hA := (hPL dn.length (a, b) hat).1
      have hB := (hPL dn.length (a, b) hat).2
      have hA' : f1 (dn.length : Nat) = a := hA
      have hB' : f2 (dn.length : Nat) = b := hB
      have hl1 : (dn ++ [(a, b)]).length = dn.length + 1 := by rw [List.length_append]; rfl
      -- the two orders
      have bit0 : o.testBit (ly_ix a b) = false := hbit _ (Nat.le_refl _)
      have ob1 : ∀ j, (o ||| 2 ^ ly_ix a b).testBit j = (o.testBit j || decide (ly_ix a b = j)) := fun j => by rw [Nat.testBit_or, Nat.testBit_two_pow]
      have ab0 : ly_ab o a b = false := by unfold ly_ab; rw [if_pos ab]; exact bit0
      have ab1 : ly_ab (o ||| 2 ^ ly_ix a b) a b = true := by unfold ly_ab; rw [if_pos ab, ob1]; simp
      have ag1 := lk_agree (o := o) (o1 := o ||| 2 ^ ly_ix a b) a0 ab (show b ≤ 7 by omega) hn (fun j hj => by rw [ob1, decide_eq_false (by omega), Bool.or_false])
      have z1 : lk_z (sp_lo L n P) (sp_hi L n P) n (o ||| 2 ^ ly_ix a b) a b f := lk_z_same hS.1 ag1
      have HN1 : lk_HN n K tn (sp_B L n P) (sp_lo L n P) (sp_hi L n P) (o ||| 2 ^ ly_ix a b) a b :=
        (lk_H (z := (f, f1, f2, f3, f4, f5, 0)) ge (hg f 0) z1).mp ((lk_H (z := (f, f1, f2, f3, f4, f5, 0)) ge (hg f 0) hS.1).mpr hN)
      have bitn0 : ∀ j, ly_ix (if b ≤ a + 1 then 0 else a + 1) (if b ≤ a + 1 then b + 1 else b) ≤ j → o.testBit j = false := fun j hj => hbit j (by omega)
      have bitn1 : ∀ j, ly_ix (if b ≤ a + 1 then 0 else a + 1) (if b ≤ a + 1 then b + 1 else b) ≤ j → (o ||| 2 ^ ly_ix a b).testBit j = false := fun j hj => by rw [ob1, hbit j (by omega), decide_eq_false (by omega)]; rfl
      unfold ly_go at ret cont
      rw [if_pos ho] at ret cont
      generalize hL0 : (if ly_ok K tn (sp_B L n P) (sp_lo L n P) (sp_hi L n P) o a b = true then ly_go K tn (sp_B L n P) (sp_lo L n P) (sp_hi L n P) k (if b ≤ a + 1 then 0 else a + 1) (if b ≤ a + 1 then b + 1 else b) o else []) = L0 at ret cont
      generalize hL1 : (if ly_ok K tn (sp_B L n P) (sp_lo L n P) (sp_hi L n P) (o ||| 2 ^ ly_ix a b) a b = true then ly_go K tn (sp_B L n P) (sp_lo L n P) (sp_hi L n P) k (if b ≤ a + 1 then 0 else a + 1) (if b ≤ a + 1 then b + 1 else b) (o ||| 2 ^ ly_ix a b) else []) = L1 at ret cont
      have len0 : L0.length ≤ 2 ^ k := by
        rw [← hL0]
        split
        · exact ly_go_len _ _ _ _
        · exact Nat.zero_le _
      have len1 : L1.length ≤ 2 ^ k := by
        rw [← hL1]
        split
        · exact ly_go_len _ _ _ _
        · exact Nat.zero_le _
      -- what a set and a look at the rules do
      have try_ : ∀ (p : Bool) (o' : Nat) (Lp : List Nat) (fo' : Nat) (f' : Int → Int) (o5 : Option Value), ly_ab o' a b = p → lk_z (sp_lo L n P) (sp_hi L n P) n o' a b (lk_set f' a b (-2)) → ((∀ x, 0 ≤ x → x ≤ n → f' (7 * x + x) = -1) ∧ ∀ i, 0 ≤ i → i < 49 → -2 ≤ f' i ∧ f' i ≤ 1) →
          lk_HN n K tn (sp_B L n P) (sp_lo L n P) (sp_hi L n P) o' a b → (∀ j, ly_ix (if b ≤ a + 1 then 0 else a + 1) (if b ≤ a + 1 then b + 1 else b) ≤ j → o'.testBit j = false) →
          (if ly_ok K tn (sp_B L n P) (sp_lo L n P) (sp_hi L n P) o' a b = true then ly_go K tn (sp_B L n P) (sp_lo L n P) (sp_hi L n P) k (if b ≤ a + 1 then 0 else a + 1) (if b ≤ a + 1 then b + 1 else b) o' else []) = Lp →
          (fo' : Int) ≤ N → fo' + 2 ^ k ≤ 4194304 →
          (∀ (i x : Nat) (f' : Int → Int), Lp[i]? = some x → ((fo' + i : Nat) : Int) = N → lk_S (sp_lo L n P) (sp_hi L n P) n x 0 (n + 1) f' → Q (.inl (some (ev_i 1))) (MHz c th L n tn P K S ty f' f1 f2 f3 f4 f5 (N + 1) y t)) →
          (∀ (f' : Int → Int) (o5 : Option Value), lk_S (sp_lo L n P) (sp_hi L n P) n o' (if b ≤ a + 1 then 0 else a + 1) (if b ≤ a + 1 then b + 1 else b) f' → ((fo' + Lp.length : Nat) : Int) ≤ N →
            ev_E g false mM_look (d + 4) 15 [some (.ref 16), some (ev_i N), some (ev_i (R.length : Nat)), some (ev_i (dn.length : Nat)), some (ev_i 1), o5] [] (MHz c th L n tn P K S ty f' f1 f2 f3 f4 f5 (((fo' + Lp.length : Nat) : Int)) y t) 0 0 Q) →
          ∀ o4, ev_E g false mM_look (d + 4) 134 [some (.ref 16), some (ev_i N), some (ev_i (R.length : Nat)), some (ev_i (dn.length : Nat)), o4, some (ev_i (ev_b p))] [] (MHz c th L n tn P K S ty f' f1 f2 f3 f4 f5 ((fo' : Nat)) y t) 0 0 Q := by
        intro p o' Lp fo' f' o5 hp hz hd hHN hb' hLp hfo' hcap' ret' cont' o4
        have pb : ev_b p = 0 ∨ ev_b p = 1 := ev_b01 p
        have hz' : lk_z (sp_lo L n P) (sp_hi L n P) n o' (if b ≤ a + 1 then 0 else a + 1) (if b ≤ a + 1 then b + 1 else b) (lk_set f' a b (ev_b p)) := by
          have e : lk_set f' a b (ev_b p) = lk_set (lk_set f' a b (-2)) a b (ev_b p) := by
            funext i
            by_cases q1 : i = 7 * b + a
            · rw [q1, lk_set_ba, lk_set_ba]
            · by_cases q2 : i = 7 * a + b
              · rw [q2, lk_set_ab (by omega), lk_set_ab (by omega)]
              · rw [lk_set_n q2 q1, lk_set_n q2 q1, lk_set_n q2 q1]
          rw [e]
          exact lk_z_set hn a0 ab hbn ho hz hp
        have hS' : lk_S (sp_lo L n P) (sp_hi L n P) n o' (if b ≤ a + 1 then 0 else a + 1) (if b ≤ a + 1 then b + 1 else b) (lk_set f' a b (ev_b p)) := ⟨hz', lk_set_S hn a0 ab hbn (by omega) (by omega) hd⟩
        have hH : mz_H n K tn (lk_set f' a b (ev_b p), f1, f2, f3, f4, f5, ((fo' : Nat) : Int)) ↔ ly_ok K tn (sp_B L n P) (sp_lo L n P) (sp_hi L n P) o' a b = true := by
          refine (lk_H (z := (lk_set f' a b (ev_b p), f1, f2, f3, f4, f5, ((fo' : Nat) : Int))) ge (hg _ _) hz').trans ((lk_HN_n a0 ab hbn ho).trans ⟨fun q => q.2, fun q => ⟨hHN, q⟩⟩)
        refine ev_aload_n dM_look_134 rfl ?_
        refine ev_aload_n dM_look_135 rfl ?_
        refine ev_get dM_look_136 fl_M_26 rfl rfl ?_
        refine ev_iload_n dM_look_139 rfl ?_
        refine ev_iald dM_look_140 rfl (by omega) (by omega) (by decide) ?_
        rw [hA']
        refine ev_aload_n dM_look_141 rfl ?_
        refine ev_get dM_look_142 fl_M_29 rfl rfl ?_
        refine ev_iload_n dM_look_145 rfl ?_
        refine ev_iald dM_look_146 rfl (by omega) (by omega) (by decide) ?_
        rw [hB']
        refine ev_iload dM_look_147 rfl ?_
        refine ev_cVv dM_look_149 cv_M_148 (ct_Mset (z := (f', f1, f2, f3, f4, f5, ((fo' : Nat) : Int))) (a := a) (b := b) (v := ev_b p) a0 (by omega) (by omega) (by omega) (by omega) (by omega)) rfl rfl rfl (Nat.le_of_ble_eq_true rfl) (Nat.le_of_ble_eq_true rfl) (Nat.le_of_ble_eq_true rfl) ?_
        refine ev_hp (h' := MHz c th L n tn P K S ty (lk_set f' a b (ev_b p)) f1 f2 f3 f4 f5 (((fo' : Nat) : Int)) y t) rfl ?_
        refine ev_aload_n dM_look_152 rfl ?_
        refine ev_cV dM_look_153 cv_M_158 (ct_Mholds (z := (lk_set f' a b (ev_b p), f1, f2, f3, f4, f5, ((fo' : Nat) : Int))) hn0 hn (sp_Kb ok) (lk_mzok ok (hg _ _) hS')) rfl rfl rfl (Nat.le_of_ble_eq_true rfl) (Nat.le_of_ble_eq_true rfl) (Nat.le_of_ble_eq_true rfl) ?_
        refine ev_hp (h' := MHz c th L n tn P K S ty (lk_set f' a b (ev_b p)) f1 f2 f3 f4 f5 (((fo' : Nat) : Int)) y t) rfl ?_
        refine ev_bn (tgt := 163) dM_look_156 rfl (fun w1 => ?_) (fun w1 => ?_)
        · have hok := hH.mp (bd_iff.mp w1)
          rw [if_pos hok] at hLp
          subst hLp
          refine ev_iconst dM_look_163 ?_
          refine ev_istore dM_look_164 (Nat.le_of_ble_eq_true rfl) ?_
          refine ev_iload dM_look_166 rfl ?_
          refine ev_if_eq (tgt := 175) dM_look_168 rfl (by omega) (by omega) (fun w2 => ?_) (fun w2 => ?_)
          · refine ev_iload_n dM_look_175 rfl ?_
            refine ev_iconst dM_look_176 ?_
            refine ev_iadd dM_look_177 ?_
            refine ev_istore_n dM_look_178 (Nat.le_of_ble_eq_true rfl) ?_
            refine ev_goto (tgt := 15) dM_look_179 rfl ?_
            have := ih _ _ o' (dn ++ [(a, b)]) fo' (lk_set f' a b (ev_b p)) (some (ev_i (ev_b p))) hkn hdn1 hS' ((lk_HN_n a0 ab hbn ho).mpr ⟨hHN, hok⟩) hb' hfo' hcap' ret' (fun f2' o5' q1 q2 => by
              have := cont' f2' o5' q1 q2
              rw [hl1, show ((dn.length + 1 : Nat) : Int) - 1 = ((dn.length : Nat) : Int) by omega]
              exact this)
            rw [hl1] at this
            exact this
          · omega
        · have hno : ¬ ly_ok K tn (sp_B L n P) (sp_lo L n P) (sp_hi L n P) o' a b = true := fun q => by rw [bd_iff.mpr (hH.mpr q)] at w1; cases w1
          rw [if_neg hno] at hLp
          subst hLp
          refine ev_iconst dM_look_159 ?_
          refine ev_goto (tgt := 164) dM_look_160 rfl ?_
          refine ev_istore dM_look_164 (Nat.le_of_ble_eq_true rfl) ?_
          refine ev_iload dM_look_166 rfl ?_
          refine ev_if_eq (tgt := 175) dM_look_168 rfl (by omega) (by omega) (fun w2 => ?_) (fun w2 => ?_)
          · omega
          · refine ev_iload_n dM_look_171 rfl ?_
            refine ev_goto (tgt := 178) dM_look_172 rfl ?_
            refine ev_istore_n dM_look_178 (Nat.le_of_ble_eq_true rfl) ?_
            refine ev_goto (tgt := 15) dM_look_179 rfl ?_
            exact cont' _ _ hS' (by show ((fo' + 0 : Nat) : Int) ≤ N; omega)
      -- above comes behind below
      have end2 : ∀ (f' : Int → Int) (o5 : Option Value), lk_S (sp_lo L n P) (sp_hi L n P) n (o ||| 2 ^ ly_ix a b) (if b ≤ a + 1 then 0 else a + 1) (if b ≤ a + 1 then b + 1 else b) f' → ((fo + L0.length + L1.length : Nat) : Int) ≤ N →
          ev_E g false mM_look (d + 4) 15 [some (.ref 16), some (ev_i N), some (ev_i (R.length : Nat)), some (ev_i (dn.length : Nat)), some (ev_i 1), o5] [] (MHz c th L n tn P K S ty f' f1 f2 f3 f4 f5 (((fo + L0.length + L1.length : Nat) : Int)) y t) 0 0 Q := by
        intro f' o5 hS' hle
        have hv : f' (7 * a + b) = 1 := by
          have := (hS'.1 a b a0 (by omega) (by omega) hbn (by omega)).2.1 ho ((lk_dc_n a0 ab a0 (by omega) (by omega)).mpr (Or.inr (Or.inl ⟨rfl, rfl⟩)))
          rw [ab1] at this
          exact this
        refine ev_iload_n dM_look_15 rfl ?_
        refine ev_if_lt (tgt := 182) dM_look_16 rfl (by omega) (by omega) (fun g1 => ?_) (fun g1 => ?_)
        · omega
        · refine ev_iload_n dM_look_19 rfl ?_
          refine ev_if_lt (tgt := 182) dM_look_20 rfl (by omega) (by omega) (fun g2 => ?_) (fun g2 => ?_)
          · omega
          · refine ev_iload dM_look_23 rfl ?_
            refine ev_if_ne (tgt := 62) dM_look_25 rfl (by omega) (by omega) (fun g3 => ?_) (fun g3 => ?_)
            · refine ev_aload_n dM_look_62 rfl ?_
              refine ev_aload_n dM_look_63 rfl ?_
              refine ev_get dM_look_64 fl_M_26 rfl rfl ?_
              refine ev_iload_n dM_look_67 rfl ?_
              refine ev_iald dM_look_68 rfl (by omega) (by omega) (by decide) ?_
              rw [hA']
              refine ev_aload_n dM_look_69 rfl ?_
              refine ev_get dM_look_70 fl_M_29 rfl rfl ?_
              refine ev_iload_n dM_look_73 rfl ?_
              refine ev_iald dM_look_74 rfl (by omega) (by omega) (by decide) ?_
              rw [hB']
              refine ev_cV dM_look_75 cv_M_124 (ct_Mget (z := (f', f1, f2, f3, f4, f5, ((fo + L0.length + L1.length : Nat) : Int))) a0 (by omega) (by omega) (by omega)) rfl rfl rfl (Nat.le_of_ble_eq_true rfl) (Nat.le_of_ble_eq_true rfl) (Nat.le_of_ble_eq_true rfl) ?_
              refine ev_hp (h' := MHz c th L n tn P K S ty f' f1 f2 f3 f4 f5 (((fo + L0.length + L1.length : Nat) : Int)) y t) rfl ?_
              rw [show (f', f1, f2, f3, f4, f5, ((fo + L0.length + L1.length : Nat) : Int)).1 (7 * a + b) = 1 from hv]
              refine ev_iload dM_look_78 rfl ?_
              refine ev_if_eq (tgt := 87) dM_look_80 rfl (by omega) (by omega) (fun g4 => ?_) (fun g4 => ?_)
              · omega
              · refine ev_iconst dM_look_83 ?_
                refine ev_goto (tgt := 88) dM_look_84 rfl ?_
                refine ev_iadd dM_look_88 ?_
                refine ev_istore dM_look_89 (Nat.le_of_ble_eq_true rfl) ?_
                refine ev_iload dM_look_91 rfl ?_
                refine ev_if_eq (tgt := 101) dM_look_93 rfl (by omega) (by omega) (fun g5 => ?_) (fun g5 => ?_)
                · omega
                · refine ev_iload dM_look_96 rfl ?_
                  refine ev_goto (tgt := 102) dM_look_98 rfl ?_
                  refine ev_istore dM_look_102 (Nat.le_of_ble_eq_true rfl) ?_
                  refine ev_iload dM_look_104 rfl ?_
                  refine ev_iconst dM_look_106 ?_
                  refine ev_icmp_le (tgt := 134) dM_look_107 rfl (by omega) (by omega) (by omega) (by omega) (fun g6 => ?_) (fun g6 => ?_)
                  · omega
                  · refine ev_aload_n dM_look_110 rfl ?_
                    refine ev_aload_n dM_look_111 rfl ?_
                    refine ev_get dM_look_112 fl_M_26 rfl rfl ?_
                    refine ev_iload_n dM_look_115 rfl ?_
                    refine ev_iald dM_look_116 rfl (by omega) (by omega) (by decide) ?_
                    rw [hA']
                    refine ev_aload_n dM_look_117 rfl ?_
                    refine ev_get dM_look_118 fl_M_29 rfl rfl ?_
                    refine ev_iload_n dM_look_121 rfl ?_
                    refine ev_iald dM_look_122 rfl (by omega) (by omega) (by decide) ?_
                    rw [hB']
                    refine ev_bipush dM_look_123 rfl ?_
                    refine ev_cVv dM_look_125 cv_M_148 (ct_Mset (z := (f', f1, f2, f3, f4, f5, ((fo + L0.length + L1.length : Nat) : Int))) (a := a) (b := b) (v := -2) a0 (by omega) (by omega) (by omega) (by decide) (by decide)) rfl rfl rfl (Nat.le_of_ble_eq_true rfl) (Nat.le_of_ble_eq_true rfl) (Nat.le_of_ble_eq_true rfl) ?_
                    refine ev_hp (h' := MHz c th L n tn P K S ty (lk_set f' a b (-2)) f1 f2 f3 f4 f5 (((fo + L0.length + L1.length : Nat) : Int)) y t) rfl ?_
                    refine ev_iinc dM_look_128 rfl ?_
                    refine ev_goto (tgt := 179) dM_look_131 rfl ?_
                    refine ev_goto (tgt := 15) dM_look_179 rfl ?_
                    have := cont (lk_set f' a b (-2)) (some (ev_i (1 + 1))) ⟨lk_z_un hn a0 ab hbn ho hS'.1 ag1, lk_set_S hn a0 ab hbn (by decide) (by decide) hS'.2⟩ (by rw [List.length_append]; push_cast at hle ⊢; omega)
                    rw [List.length_append, show fo + (L0.length + L1.length) = fo + L0.length + L1.length by omega] at this
                    exact this
            · omega
      have end1 : ∀ (f' : Int → Int) (o5 : Option Value), lk_S (sp_lo L n P) (sp_hi L n P) n o (if b ≤ a + 1 then 0 else a + 1) (if b ≤ a + 1 then b + 1 else b) f' → ((fo + L0.length : Nat) : Int) ≤ N →
          ev_E g false mM_look (d + 4) 15 [some (.ref 16), some (ev_i N), some (ev_i (R.length : Nat)), some (ev_i (dn.length : Nat)), some (ev_i 1), o5] [] (MHz c th L n tn P K S ty f' f1 f2 f3 f4 f5 (((fo + L0.length : Nat) : Int)) y t) 0 0 Q := by
        intro f' o5 hS' hle
        have hv : f' (7 * a + b) = 0 := by
          have := (hS'.1 a b a0 (by omega) (by omega) hbn (by omega)).2.1 ho ((lk_dc_n a0 ab a0 (by omega) (by omega)).mpr (Or.inr (Or.inl ⟨rfl, rfl⟩)))
          rw [ab0] at this
          exact this
        refine ev_iload_n dM_look_15 rfl ?_
        refine ev_if_lt (tgt := 182) dM_look_16 rfl (by omega) (by omega) (fun g1 => ?_) (fun g1 => ?_)
        · omega
        · refine ev_iload_n dM_look_19 rfl ?_
          refine ev_if_lt (tgt := 182) dM_look_20 rfl (by omega) (by omega) (fun g2 => ?_) (fun g2 => ?_)
          · omega
          · refine ev_iload dM_look_23 rfl ?_
            refine ev_if_ne (tgt := 62) dM_look_25 rfl (by omega) (by omega) (fun g3 => ?_) (fun g3 => ?_)
            · refine ev_aload_n dM_look_62 rfl ?_
              refine ev_aload_n dM_look_63 rfl ?_
              refine ev_get dM_look_64 fl_M_26 rfl rfl ?_
              refine ev_iload_n dM_look_67 rfl ?_
              refine ev_iald dM_look_68 rfl (by omega) (by omega) (by decide) ?_
              rw [hA']
              refine ev_aload_n dM_look_69 rfl ?_
              refine ev_get dM_look_70 fl_M_29 rfl rfl ?_
              refine ev_iload_n dM_look_73 rfl ?_
              refine ev_iald dM_look_74 rfl (by omega) (by omega) (by decide) ?_
              rw [hB']
              refine ev_cV dM_look_75 cv_M_124 (ct_Mget (z := (f', f1, f2, f3, f4, f5, ((fo + L0.length : Nat) : Int))) a0 (by omega) (by omega) (by omega)) rfl rfl rfl (Nat.le_of_ble_eq_true rfl) (Nat.le_of_ble_eq_true rfl) (Nat.le_of_ble_eq_true rfl) ?_
              refine ev_hp (h' := MHz c th L n tn P K S ty f' f1 f2 f3 f4 f5 (((fo + L0.length : Nat) : Int)) y t) rfl ?_
              rw [show (f', f1, f2, f3, f4, f5, ((fo + L0.length : Nat) : Int)).1 (7 * a + b) = 0 from hv]
              refine ev_iload dM_look_78 rfl ?_
              refine ev_if_eq (tgt := 87) dM_look_80 rfl (by omega) (by omega) (fun g4 => ?_) (fun g4 => ?_)
              · omega
              · refine ev_iconst dM_look_83 ?_
                refine ev_goto (tgt := 88) dM_look_84 rfl ?_
                refine ev_iadd dM_look_88 ?_
                refine ev_istore dM_look_89 (Nat.le_of_ble_eq_true rfl) ?_
                refine ev_iload dM_look_91 rfl ?_
                refine ev_if_eq (tgt := 101) dM_look_93 rfl (by omega) (by omega) (fun g5 => ?_) (fun g5 => ?_)
                · omega
                · refine ev_iload dM_look_96 rfl ?_
                  refine ev_goto (tgt := 102) dM_look_98 rfl ?_
                  refine ev_istore dM_look_102 (Nat.le_of_ble_eq_true rfl) ?_
                  refine ev_iload dM_look_104 rfl ?_
                  refine ev_iconst dM_look_106 ?_
                  refine ev_icmp_le (tgt := 134) dM_look_107 rfl (by omega) (by omega) (by omega) (by omega) (fun g6 => ?_) (fun g6 => ?_)
                  · have hz2 : lk_z (sp_lo L n P) (sp_hi L n P) n (o ||| 2 ^ ly_ix a b) a b (lk_set f' a b (-2)) := lk_z_same (lk_z_un hn a0 ab hbn ho hS'.1 (fun _ _ _ _ _ _ _ _ => rfl)) ag1
                    exact try_ true (o ||| 2 ^ ly_ix a b) L1 (fo + L0.length) f' none ab1 hz2 hS'.2 HN1 bitn1 hL1 hle (by omega)
                      (fun i x f2' q1 q2 q3 => ret (L0.length + i) x f2' (by rw [List.getElem?_append_right (by omega), show L0.length + i - L0.length = i by omega]; exact q1) (by rw [← q2]; push_cast; omega) q3) end2 _
                  · omega
            · omega
      have hv : f (7 * a + b) = -2 := (hS.1 a b a0 (by omega) (by omega) hbn (by omega)).2.2 ho lk_dc_no.1
      have hz0 : lk_z (sp_lo L n P) (sp_hi L n P) n o a b (lk_set f a b (-2)) := by
        have e : lk_set f a b (-2) = f := by
          funext i
          by_cases q1 : i = 7 * b + a
          · rw [q1, lk_set_ba]
            exact ((hS.1 b a (by omega) hbn a0 (by omega) (by omega)).2.2 (by rw [ly_ov_cm]; exact ho) lk_dc_no.2).symm
          · by_cases q2 : i = 7 * a + b
            · rw [q2, lk_set_ab (by omega), hv]
            · rw [lk_set_n q2 q1]
        rw [e]
        exact hS.1
      refine ev_iload_n dM_look_15 rfl ?_
      refine ev_if_lt (tgt := 182) dM_look_16 rfl (by omega) (by omega) (fun g1 => ?_) (fun g1 => ?_)
      · omega
      · refine ev_iload_n dM_look_19 rfl ?_
        refine ev_if_lt (tgt := 182) dM_look_20 rfl (by omega) (by omega) (fun g2 => ?_) (fun g2 => ?_)
        · omega
        · refine ev_iload dM_look_23 rfl ?_
          refine ev_if_ne (tgt := 62) dM_look_25 rfl (by omega) (by omega) (fun g3 => ?_) (fun g3 => ?_)
          · omega
          · refine ev_iload_n dM_look_28 rfl ?_
            refine ev_iload_n dM_look_29 rfl ?_
            refine ev_icmp_ne (tgt := 62) dM_look_30 rfl (by omega) (by omega) (by omega) (by omega) (fun g4 => ?_) (fun g4 => ?_)
            · refine ev_aload_n dM_look_62 rfl ?_
              refine ev_aload_n dM_look_63 rfl ?_
              refine ev_get dM_look_64 fl_M_26 rfl rfl ?_
              refine ev_iload_n dM_look_67 rfl ?_
              refine ev_iald dM_look_68 rfl (by omega) (by omega) (by decide) ?_
              rw [hA']
              refine ev_aload_n dM_look_69 rfl ?_
              refine ev_get dM_look_70 fl_M_29 rfl rfl ?_
              refine ev_iload_n dM_look_73 rfl ?_
              refine ev_iald dM_look_74 rfl (by omega) (by omega) (by decide) ?_
              rw [hB']
              refine ev_cV dM_look_75 cv_M_124 (ct_Mget (z := (f, f1, f2, f3, f4, f5, ((fo : Nat) : Int))) a0 (by omega) (by omega) (by omega)) rfl rfl rfl (Nat.le_of_ble_eq_true rfl) (Nat.le_of_ble_eq_true rfl) (Nat.le_of_ble_eq_true rfl) ?_
              refine ev_hp (h' := MHz c th L n tn P K S ty f f1 f2 f3 f4 f5 (((fo : Nat) : Int)) y t) rfl ?_
              refine ev_iload dM_look_78 rfl ?_
              refine ev_if_eq (tgt := 87) dM_look_80 rfl (by omega) (by omega) (fun g5 => ?_) (fun g5 => ?_)
              · refine ev_iconst dM_look_87 ?_
                refine ev_iadd dM_look_88 ?_
                refine ev_istore dM_look_89 (Nat.le_of_ble_eq_true rfl) ?_
                refine ev_iload dM_look_91 rfl ?_
                refine ev_if_eq (tgt := 101) dM_look_93 rfl (by omega) (by omega) (fun g6 => ?_) (fun g6 => ?_)
                · refine ev_iconst dM_look_101 ?_
                  refine ev_istore dM_look_102 (Nat.le_of_ble_eq_true rfl) ?_
                  refine ev_iload dM_look_104 rfl ?_
                  refine ev_iconst dM_look_106 ?_
                  refine ev_icmp_le (tgt := 134) dM_look_107 rfl (by omega) (by omega) (by omega) (by omega) (fun g7 => ?_) (fun g7 => ?_)
                  · exact try_ false o L0 fo f none ab0 hz0 hS.2 hN bitn0 hL0 hfo (by omega)
                      (fun i x f2' q1 q2 q3 => ret i x f2' (by rw [List.getElem?_append_left (List.getElem?_eq_some_iff.mp q1).1]; exact q1) q2 q3) end1 _
                  · omega
                · omega
              · omega
            · omega
    · -- the pair does not overlap
      have ho' : ly_ov (sp_lo L n P) (sp_hi L n P) a b = false := Bool.eq_false_iff.mpr ho
      unfold ly_go at ret cont
      rw [if_neg ho] at ret cont
      have hdn1 : dn ++ lk_rem (sp_lo L n P) (sp_hi L n P) k (if b ≤ a + 1 then 0 else a + 1) (if b ≤ a + 1 then b + 1 else b) = R := by
        rw [← hdn, lk_rem_n ho']
      exact ih _ _ o dn fo f o5 hkn hdn1 ⟨(lk_z_skip a0 ab ho').mpr hS.1, hS.2⟩ (lk_HN_skip a0 ab ho' hN) (fun j hj => hbit j (by omega)) hfo (by omega) ret (fun f' o5' q1 q2 => cont f' o5' ⟨(lk_z_skip a0 ab ho').mp q1.1, q1.2⟩ q2)
/-- look finds the order of the number N, or counts them all -/
def lk_LQ (c : Nat → ev_AC) (th L n : Int) (tn : Bool) (P K S : Int → Int) (ty : Int) (y : MY) (t : List ev_AC) (N : Int) : ev_O → List ev_AC → Prop := fun o h' =>
  (0 ≤ N ∧ ∃ (x : Nat) (z' : MZ), (ly_all (L, n, tn, P, K))[N.toNat]? = some x ∧ o = .inl (some (ev_i 1)) ∧ h' = MH c th L n tn P K S ty z' y t ∧ lk_S (sp_lo L n P) (sp_hi L n P) n x 0 (n + 1) z'.1) ∨
  ((N < 0 ∨ ((ly_all (L, n, tn, P, K)).length : Int) ≤ N) ∧ ∃ z' : MZ, o = .inl (some (ev_i 0)) ∧ h' = MH c th L n tn P K S ty z' y t ∧ (0 ≤ N → z'.2.2.2.2.2.2 = ((ly_all (L, n, tn, P, K)).length : Nat)))
theorem ct_Mlook {z : MZ} (N1 : -2147483648 ≤ N) (N2 : N < 2147483648) (ok : sp_ok L n P K) : ev_C g mM_look (d + 4) [.ref 16, ev_i N] (MH c th L n tn P K S ty z y t) 0 0 (lk_LQ c th L n tn P K S ty y t N) := by
  have hn0 := ok.2.2.1
  have hn := ok.2.2.2.1
  have ge := ge_of ok
  refine ev_ofE (by decide +kernel) rfl (Nat.le_of_ble_eq_true rfl) rfl rfl ?_
  refine ev_aload_n dM_look_0 rfl ?_
  refine ev_callV dM_look_1 cv_M_152 rfl rfl (Nat.le_of_ble_eq_true rfl) (ct_Mbegin (d := d) ok) (Nat.le_refl _) (Nat.le_refl _) rfl (fun v h' q => ?_)
  obtain ⟨qv, z', rfl, hg, hS, hPL⟩ := q
  cases Sum.inl.inj qv
  obtain ⟨f, f1, f2, f3, f4, f5, fo⟩ := z'
  refine ev_hp (h' := MHz c th L n tn P K S ty f f1 f2 f3 f4 f5 fo y t) rfl ?_
  have hRl : (lk_R L n P).length ≤ 21 := Nat.le_trans (lk_rem_len _ _ _) (sp_tri hn0 hn)
  refine ev_istore_n dM_look_4 (Nat.le_of_ble_eq_true rfl) ?_
  refine ev_aload_n dM_look_5 rfl ?_
  refine ev_iconst dM_look_6 ?_
  refine ev_put dM_look_7 fp_M_155 (fun q => by cases q) rfl (Nat.le_of_ble_eq_true rfl) rfl rfl ?_
  refine ev_iconst dM_look_10 ?_
  refine ev_istore_n dM_look_11 (Nat.le_of_ble_eq_true rfl) ?_
  refine ev_iconst dM_look_12 ?_
  refine ev_istore dM_look_13 (Nat.le_of_ble_eq_true rfl) ?_
  by_cases hN : N < 0
  · refine ev_iload_n dM_look_15 rfl ?_
    refine ev_if_lt (tgt := 182) dM_look_16 rfl (by omega) (by omega) (fun g1 => ?_) (fun g1 => ?_)
    · omega
    · refine ev_iload_n dM_look_19 rfl ?_
      refine ev_if_lt (tgt := 182) dM_look_20 rfl (by omega) (by omega) (fun g2 => ?_) (fun g2 => ?_)
      · refine ev_iconst dM_look_182 ?_
        refine ev_zreturn dM_look_183 rfl ?_ ?_
        · decide
        · exact Or.inr ⟨Or.inl hN, (f, f1, f2, f3, f4, f5, 0), rfl, rfl, fun q => absurd q (by omega)⟩
      · omega
  · have hcap : 0 + 2 ^ ((n + 1) * n / 2).toNat ≤ 4194304 := by
      have h1 := sp_tri hn0 hn
      have h2 : 2 ^ ((n + 1) * n / 2).toNat ≤ 2 ^ 21 := Nat.pow_le_pow_right (by decide) h1
      have h3 : (2 : Nat) ^ 21 = 2097152 := by decide
      omega
    have hHN : lk_HN n K tn (sp_B L n P) (sp_lo L n P) (sp_hi L n P) 0 0 1 := fun x y x0 xy yn hd _ => by
      exfalso
      unfold lk_dc at hd
      omega
    refine lk_node ok (by omega) N2 _ (lk_R L n P) hRl hPL (fun _ _ => hg) ((n + 1) * n / 2).toNat 0 1 0 [] 0 f none (ly_k_st hn0 hn) rfl hS hHN (fun j _ => Nat.zero_testBit j) (by omega) hcap ?_ ?_
    · intro i x f' hi hiN hS'
      have e : N.toNat = i := by
        have : ((0 + i : Nat) : Int) = N := hiN
        omega
      refine Or.inl ⟨by omega, x, (f', f1, f2, f3, f4, f5, N + 1), ?_, rfl, rfl, hS'⟩
      rw [e]
      exact hi
    · intro f' o5 hS' hle
      refine ev_iload_n dM_look_15 rfl ?_
      refine ev_if_lt (tgt := 182) dM_look_16 rfl (by decide) (by decide) (fun g1 => ?_) (fun g1 => ?_)
      · refine ev_iconst dM_look_182 ?_
        refine ev_zreturn dM_look_183 rfl ?_ ?_
        · decide
        · refine Or.inr ⟨Or.inr ?_, (f', f1, f2, f3, f4, f5, _), rfl, rfl, fun _ => ?_⟩
          · have : ((0 + (ly_all (L, n, tn, P, K)).length : Nat) : Int) ≤ N := hle
            omega
          · show ((0 + (ly_all (L, n, tn, P, K)).length : Nat) : Int) = _
            rw [Nat.zero_add]
      · exact absurd g1 (by show ¬ (0 : Int) ≤ 0 - 1; omega)
end RL
