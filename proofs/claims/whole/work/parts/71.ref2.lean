/-! The reference: isUp, isDigit, free, turn -/
section R1
variable {g : ev_G} {d : Nat} {c : Nat → ev_AC} {h : List ev_AC} {th L n : Int} {tn : Bool} {P K S : Int → Int} {ty : Int} {z : MZ} {y : MY} {t : List ev_AC}
def mz0 : MZ := (fun _ => 0, fun _ => 0, fun _ => 0, fun _ => 0, fun _ => 0, fun _ => 0, 0)
def my0 : MY := (fun _ => 0, fun _ => 0, fun _ => 0, 0, fun _ => 0, fun _ => 0, 0)
theorem ct_MisUp {i : Int} (h0 : 0 ≤ i) (h1 : i < 2147483648) : ev_C g mM_isUp d [.ref 16, ev_i i] (MH c th L n tn P K S ty z y t) 0 0 (ev_V (some (ev_i (ev_b (sp_up tn i)))) (MH c th L n tn P K S ty z y t)) := by
  refine ev_ofE (by decide +kernel) rfl (Nat.le_of_ble_eq_true rfl) rfl rfl ?_
  refine ev_iload_n dM_isUp_0 rfl ?_
  refine ev_iconst dM_isUp_1 ?_
  refine ev_rem dM_isUp_2 h0 h1 (by decide) (by decide) ?_
  have ht := ev_b01 tn
  refine ev_if_ne (tgt := 10) dM_isUp_3 rfl (by omega) (by omega) (fun hb => ?_) (fun hb => ?_)
  · refine ev_iconst dM_isUp_10 ?_
    refine ev_aload_n dM_isUp_11 rfl ?_
    refine ev_get dM_isUp_12 fl_M_66 rfl rfl ?_
    refine ev_icmp_eq (tgt := 22) dM_isUp_15 rfl (by omega) (by omega) (by omega) (by omega) (fun hb2 => ?_) (fun hb2 => ?_)
    · refine ev_iconst dM_isUp_22 ?_
      refine ev_zreturn dM_isUp_23 rfl ?_ ?_
      · decide
      · refine ⟨?_, rfl⟩
        rw [sp_up, decide_eq_false hb]
        cases tn
        · rfl
        · exact absurd hb2 (by decide)
    · refine ev_iconst dM_isUp_18 ?_
      refine ev_goto (tgt := 23) dM_isUp_19 rfl ?_
      refine ev_zreturn dM_isUp_23 rfl ?_ ?_
      · decide
      · refine ⟨?_, rfl⟩
        rw [sp_up, decide_eq_false hb]
        cases tn
        · exact absurd rfl hb2
        · rfl
  · refine ev_iconst dM_isUp_6 ?_
    refine ev_goto (tgt := 11) dM_isUp_7 rfl ?_
    refine ev_aload_n dM_isUp_11 rfl ?_
    refine ev_get dM_isUp_12 fl_M_66 rfl rfl ?_
    refine ev_icmp_eq (tgt := 22) dM_isUp_15 rfl (by omega) (by omega) (by omega) (by omega) (fun hb2 => ?_) (fun hb2 => ?_)
    · refine ev_iconst dM_isUp_22 ?_
      refine ev_zreturn dM_isUp_23 rfl ?_ ?_
      · decide
      · refine ⟨?_, rfl⟩
        rw [sp_up, decide_eq_true hb]
        cases tn
        · exact absurd hb2 (by decide)
        · rfl
    · refine ev_iconst dM_isUp_18 ?_
      refine ev_goto (tgt := 23) dM_isUp_19 rfl ?_
      refine ev_zreturn dM_isUp_23 rfl ?_ ?_
      · decide
      · refine ⟨?_, rfl⟩
        rw [sp_up, decide_eq_true hb]
        cases tn
        · rfl
        · exact absurd rfl hb2
theorem ct_MisDigit {x : Int} (c1 : -2147483648 ≤ x) (c2 : x < 2147483648) : ev_C g mM_isDigit d [ev_i x] h 0 0 (ev_V (some (ev_i (ev_b (decide (48 ≤ x ∧ x ≤ 57))))) h) := by
  refine ev_ofE (by decide +kernel) rfl (Nat.le_of_ble_eq_true rfl) rfl rfl ?_
  refine ev_iload_n dM_isDigit_0 rfl ?_
  refine ev_bipush dM_isDigit_1 rfl ?_
  refine ev_icmp_lt (tgt := 16) dM_isDigit_3 rfl (by omega) (by omega) (by omega) (by omega) (fun hb => ?_) (fun hb => ?_)
  · refine ev_iconst dM_isDigit_16 ?_
    refine ev_zreturn dM_isDigit_17 rfl ?_ ?_
    · decide
    · exact ⟨by rw [decide_eq_false (by omega)]; rfl, rfl⟩
  · refine ev_iload_n dM_isDigit_6 rfl ?_
    refine ev_bipush dM_isDigit_7 rfl ?_
    refine ev_icmp_gt (tgt := 16) dM_isDigit_9 rfl (by omega) (by omega) (by omega) (by omega) (fun hb2 => ?_) (fun hb2 => ?_)
    · refine ev_iconst dM_isDigit_16 ?_
      refine ev_zreturn dM_isDigit_17 rfl ?_ ?_
      · decide
      · exact ⟨by rw [decide_eq_false (by omega)]; rfl, rfl⟩
    · refine ev_iconst dM_isDigit_12 ?_
      refine ev_goto (tgt := 17) dM_isDigit_13 rfl ?_
      refine ev_zreturn dM_isDigit_17 rfl ?_ ?_
      · decide
      · exact ⟨by rw [decide_eq_true ⟨hb, hb2⟩]; rfl, rfl⟩
theorem ct_Mturn : ev_C g mM_turn d [.ref 16] (MH c th L n tn P K S ty z y t) 0 0 (ev_V (some (ev_i (ev_b (!tn)))) (MH c 0 L n (!tn) P K S ty z y t)) := by
  refine ev_ofE (by decide +kernel) rfl (Nat.le_of_ble_eq_true rfl) rfl rfl ?_
  refine ev_aload_n dM_turn_0 rfl ?_
  refine ev_iconst dM_turn_1 ?_
  refine ev_put dM_turn_2 fp_M_56 (fun q => by cases q) rfl (Nat.le_of_ble_eq_true rfl) rfl rfl ?_
  refine ev_aload_n dM_turn_5 rfl ?_
  refine ev_aload_n dM_turn_6 rfl ?_
  refine ev_get dM_turn_7 fl_M_66 rfl rfl ?_
  refine ev_bn (tgt := 17) dM_turn_10 rfl (fun hb => ?_) (fun hb => ?_)
  · subst hb
    refine ev_iconst dM_turn_17 ?_
    refine ev_put dM_turn_18 fp_M_66 (fun q => by cases q) rfl (Nat.le_of_ble_eq_true rfl) (ev_nbz (by first | decide | exact ev_b01 _)) (ev_fbz (by first | decide | exact ev_b01 _)) ?_
    refine ev_aload_n dM_turn_21 rfl ?_
    refine ev_get dM_turn_22 fl_M_66 rfl rfl ?_
    refine ev_zreturn dM_turn_25 rfl ?_ ?_
    · decide
    · exact ⟨rfl, rfl⟩
  · subst hb
    refine ev_iconst dM_turn_13 ?_
    refine ev_goto (tgt := 18) dM_turn_14 rfl ?_
    refine ev_put dM_turn_18 fp_M_66 (fun q => by cases q) rfl (Nat.le_of_ble_eq_true rfl) (ev_nbz (by first | decide | exact ev_b01 _)) (ev_fbz (by first | decide | exact ev_b01 _)) ?_
    refine ev_aload_n dM_turn_21 rfl ?_
    refine ev_get dM_turn_22 fl_M_66 rfl rfl ?_
    refine ev_zreturn dM_turn_25 rfl ?_ ?_
    · decide
    · exact ⟨rfl, rfl⟩
theorem ct_Mfree (hn0 : 0 ≤ n) (hn : n ≤ 6) (hK : ∀ i, 0 ≤ i → i < n → 0 ≤ K i ∧ K i ≤ 2) :
    ev_C g mM_free d [.ref 16] (MH c th L n tn P K S ty z y t) 0 0 (ev_V (some (ev_i (sp_fr K n.toNat))) (MH c th L n tn P K S ty z y t)) := by
  refine ev_ofE (by decide +kernel) rfl (Nat.le_of_ble_eq_true rfl) rfl rfl ?_
  refine ev_iconst dM_free_0 ?_
  refine ev_istore_n dM_free_1 (Nat.le_of_ble_eq_true rfl) ?_
  refine ev_iconst dM_free_2 ?_
  refine ev_istore_n dM_free_3 (Nat.le_of_ble_eq_true rfl) ?_
  have loop : ∀ (k i : Nat), (i : Int) + k = n → ev_E g false mM_free d 4 [some (.ref 16), some (ev_i (sp_fr K i)), some (ev_i i)] [] (MH c th L n tn P K S ty z y t) 0 0 (ev_V (some (ev_i (sp_fr K n.toNat))) (MH c th L n tn P K S ty z y t)) := by
    intro k
    induction k with
    | zero =>
      intro i hk
      refine ev_iload_n dM_free_4 rfl ?_
      refine ev_aload_n dM_free_5 rfl ?_
      refine ev_get dM_free_6 fl_M_63 rfl rfl ?_
      refine ev_icmp_ge (tgt := 35) dM_free_9 rfl (by omega) (by omega) (by omega) (by omega) (fun hb => ?_) (fun hb => ?_)
      · refine ev_iload_n dM_free_35 rfl ?_
        refine ev_ireturn dM_free_36 rfl ?_
        exact ⟨by rw [show n.toNat = i by omega], rfl⟩
      · omega
    | succ k ih =>
      intro i hk
      refine ev_iload_n dM_free_4 rfl ?_
      refine ev_aload_n dM_free_5 rfl ?_
      refine ev_get dM_free_6 fl_M_63 rfl rfl ?_
      refine ev_icmp_ge (tgt := 35) dM_free_9 rfl (by omega) (by omega) (by omega) (by omega) (fun hb => ?_) (fun hb => ?_)
      · omega
      · refine ev_iload_n dM_free_12 rfl ?_
        refine ev_aload_n dM_free_13 rfl ?_
        refine ev_get dM_free_14 fl_M_17 rfl rfl ?_
        refine ev_iload_n dM_free_17 rfl ?_
        refine ev_iald dM_free_18 rfl (by omega) (by omega) (by decide) ?_
        have hKi := hK i (by omega) hb
        have := ih (i + 1) (by omega)
        refine ev_if_ne (tgt := 26) dM_free_19 rfl (by omega) (by omega) (fun hb2 => ?_) (fun hb2 => ?_)
        · refine ev_iconst dM_free_26 ?_
          refine ev_iadd dM_free_27 ?_
          refine ev_istore_n dM_free_28 (Nat.le_of_ble_eq_true rfl) ?_
          refine ev_iinc dM_free_29 rfl ?_
          refine ev_goto (tgt := 4) dM_free_32 rfl ?_
          rw [sp_fr, if_neg hb2] at this
          exact this
        · refine ev_iconst dM_free_22 ?_
          refine ev_goto (tgt := 27) dM_free_23 rfl ?_
          refine ev_iadd dM_free_27 ?_
          refine ev_istore_n dM_free_28 (Nat.le_of_ble_eq_true rfl) ?_
          refine ev_iinc dM_free_29 rfl ?_
          refine ev_goto (tgt := 4) dM_free_32 rfl ?_
          rw [sp_fr, if_pos hb2] at this
          exact this
  exact loop n.toNat 0 (by omega)
end R1
