/-! Reductions: the whole run -/
def sp_len (L n : Int) (P : Int → Int) (i : Int) : Int := sp_re L n P i - sp_le P i
theorem sp_len_bd {L n : Int} {P K : Int → Int} (ok : sp_ok L n P K) {i : Int} (h0 : 0 ≤ i) (hi : i ≤ n) : 1 ≤ sp_len L n P i ∧ sp_len L n P i ≤ 60 := by
  have h1 := sp_le_lt_re ok h0 hi
  have h2 := sp_re_le ok h0
  have h3 := sp_le_nonneg ok h0 hi
  have h4 := ok.2.1
  unfold sp_len
  omega
section RE
variable {g : ev_G} {d : Nat} {L n : Int} {tn : Bool} {P K B lo hi : Int → Int} {c0 : ev_AC} {t : List ev_AC} {rem dn : Int} {le rp rm kd wa : Int → Int}
theorem ct_copy (hn0 : 0 ≤ n) (hn : n ≤ 6) :
    ev_C g mR_copyPattern (d + 2) [.ref 7] (pw L n tn P K B lo hi c0 (rdw rem dn le rp rm kd wa t)) 0 0 (ev_V none (pw L n tn P K B lo hi c0 (rdw (n + 1) 0 (ev_ov (sp_len L n P) le (n + 1)) (ev_ov P rp n) (ev_ov K rm n) kd wa t))) := by
  refine ev_ofE (by decide +kernel) rfl (Nat.le_of_ble_eq_true rfl) rfl rfl ?_
  refine ev_aload_n dR_copyPattern_0 rfl ?_
  refine ev_iconst dR_copyPattern_1 ?_
  refine ev_put dR_copyPattern_2 fp_R_42 (fun q => by cases q) rfl (Nat.le_of_ble_eq_true rfl) rfl rfl ?_
  refine ev_aload_n dR_copyPattern_5 rfl ?_
  refine ev_aload_n dR_copyPattern_6 rfl ?_
  refine ev_get dR_copyPattern_7 fl_R_9 rfl rfl ?_
  refine ev_cV dR_copyPattern_10 cv_R_45 (ct_segments) rfl rfl rfl (Nat.le_of_ble_eq_true rfl) (Nat.le_of_ble_eq_true rfl) (Nat.le_of_ble_eq_true rfl) ?_
  refine ev_put dR_copyPattern_13 fp_R_34 (fun q => by cases q) rfl (Nat.le_of_ble_eq_true rfl) rfl rfl ?_
  refine ev_iconst dR_copyPattern_16 ?_
  refine ev_istore_n dR_copyPattern_17 (Nat.le_of_ble_eq_true rfl) ?_
  have loop2 : ∀ (k : Nat) (i : Int), i + k = n → 0 ≤ i → ev_E g false mR_copyPattern (d + 2) 48 [some (.ref 7), some (ev_i i)] [] (pw L n tn P K B lo hi c0 (rdw (n + 1) 0 (ev_ov (sp_len L n P) le (n + 1)) (ev_ov P rp i) (ev_ov K rm i) kd wa t)) 0 0 (ev_V none (pw L n tn P K B lo hi c0 (rdw (n + 1) 0 (ev_ov (sp_len L n P) le (n + 1)) (ev_ov P rp n) (ev_ov K rm n) kd wa t))) := by
    intro k
    induction k with
    | zero =>
      intro i hk h0
      have e : i = n := by omega
      subst e
      refine ev_iload_n dR_copyPattern_48 rfl ?_
      refine ev_aload_n dR_copyPattern_49 rfl ?_
      refine ev_get dR_copyPattern_50 fl_R_9 rfl rfl ?_
      refine ev_get dR_copyPattern_53 fl_R_55 rfl rfl ?_
      refine ev_icmp_ge (tgt := 95) dR_copyPattern_56 rfl (by omega) (by omega) (by omega) (by omega) (fun hb => ?_) (fun hb => ?_)
      · refine ev_return dR_copyPattern_95 rfl ?_
        exact ⟨rfl, rfl⟩
      · omega
    | succ k ih =>
      intro i hk h0
      refine ev_iload_n dR_copyPattern_48 rfl ?_
      refine ev_aload_n dR_copyPattern_49 rfl ?_
      refine ev_get dR_copyPattern_50 fl_R_9 rfl rfl ?_
      refine ev_get dR_copyPattern_53 fl_R_55 rfl rfl ?_
      refine ev_icmp_ge (tgt := 95) dR_copyPattern_56 rfl (by omega) (by omega) (by omega) (by omega) (fun hb => ?_) (fun hb => ?_)
      · omega
      · refine ev_aload_n dR_copyPattern_59 rfl ?_
        refine ev_get dR_copyPattern_60 fl_R_19 rfl rfl ?_
        refine ev_iload_n dR_copyPattern_63 rfl ?_
        refine ev_aload_n dR_copyPattern_64 rfl ?_
        refine ev_get dR_copyPattern_65 fl_R_9 rfl rfl ?_
        refine ev_get dR_copyPattern_68 fl_R_58 rfl rfl ?_
        refine ev_iload_n dR_copyPattern_71 rfl ?_
        refine ev_iald dR_copyPattern_72 rfl (by omega) (by omega) (by decide) ?_
        refine ev_iast dR_copyPattern_73 rfl (by omega) (by omega) (by decide) ?_
        refine ev_aload_n dR_copyPattern_74 rfl ?_
        refine ev_get dR_copyPattern_75 fl_R_22 rfl rfl ?_
        refine ev_iload_n dR_copyPattern_78 rfl ?_
        refine ev_aload_n dR_copyPattern_79 rfl ?_
        refine ev_get dR_copyPattern_80 fl_R_9 rfl rfl ?_
        refine ev_get dR_copyPattern_83 fl_R_61 rfl rfl ?_
        refine ev_iload_n dR_copyPattern_86 rfl ?_
        refine ev_iald dR_copyPattern_87 rfl (by omega) (by omega) (by decide) ?_
        refine ev_iast dR_copyPattern_88 rfl (by omega) (by omega) (by decide) ?_
        refine ev_iinc dR_copyPattern_89 rfl ?_
        refine ev_goto (tgt := 48) dR_copyPattern_92 rfl ?_
        rw [ev_ov_s (F := P) h0 rfl, ev_ov_s (F := K) h0 rfl]
        exact ih (i + 1) (by omega) (by omega)
  have loop : ∀ (k : Nat) (i : Int), i + k = n + 1 → 0 ≤ i → ev_E g false mR_copyPattern (d + 2) 18 [some (.ref 7), some (ev_i i)] [] (pw L n tn P K B lo hi c0 (rdw (n + 1) 0 (ev_ov (sp_len L n P) le i) rp rm kd wa t)) 0 0 (ev_V none (pw L n tn P K B lo hi c0 (rdw (n + 1) 0 (ev_ov (sp_len L n P) le (n + 1)) (ev_ov P rp n) (ev_ov K rm n) kd wa t))) := by
    intro k
    induction k with
    | zero =>
      intro i hk h0
      have e : i = n + 1 := by omega
      subst e
      refine ev_iload_n dR_copyPattern_18 rfl ?_
      refine ev_aload_n dR_copyPattern_19 rfl ?_
      refine ev_get dR_copyPattern_20 fl_R_34 rfl rfl ?_
      refine ev_icmp_ge (tgt := 46) dR_copyPattern_23 rfl (by omega) (by omega) (by omega) (by omega) (fun hb => ?_) (fun hb => ?_)
      · refine ev_iconst dR_copyPattern_46 ?_
        refine ev_istore_n dR_copyPattern_47 (Nat.le_of_ble_eq_true rfl) ?_
        have := loop2 n.toNat 0 (by omega) (by omega)
        rw [ev_ov_0 _ _ (Int.le_refl _), ev_ov_0 _ _ (Int.le_refl _)] at this
        exact this
      · omega
    | succ k ih =>
      intro i hk h0
      refine ev_iload_n dR_copyPattern_18 rfl ?_
      refine ev_aload_n dR_copyPattern_19 rfl ?_
      refine ev_get dR_copyPattern_20 fl_R_34 rfl rfl ?_
      refine ev_icmp_ge (tgt := 46) dR_copyPattern_23 rfl (by omega) (by omega) (by omega) (by omega) (fun hb => ?_) (fun hb => ?_)
      · omega
      · refine ev_aload_n dR_copyPattern_26 rfl ?_
        refine ev_get dR_copyPattern_27 fl_R_15 rfl rfl ?_
        refine ev_iload_n dR_copyPattern_30 rfl ?_
        refine ev_aload_n dR_copyPattern_31 rfl ?_
        refine ev_get dR_copyPattern_32 fl_R_9 rfl rfl ?_
        refine ev_iload_n dR_copyPattern_35 rfl ?_
        refine ev_cV dR_copyPattern_36 cv_R_51 (ct_segLen h0 (by omega) hn0 hn) rfl rfl rfl (Nat.le_of_ble_eq_true rfl) (Nat.le_of_ble_eq_true rfl) (Nat.le_of_ble_eq_true rfl) ?_
        refine ev_iast dR_copyPattern_39 rfl (by omega) (by omega) (by decide) ?_
        refine ev_iinc dR_copyPattern_40 rfl ?_
        refine ev_goto (tgt := 18) dR_copyPattern_43 rfl ?_
        have e : ev_up (ev_ov (sp_len L n P) le i) i (sp_re L n P i - sp_le P i) = ev_ov (sp_len L n P) le (i + 1) := ev_ov_s h0 rfl
        rw [e]
        exact ih (i + 1) (by omega) (by omega)
  have := loop (n + 1).toNat 0 (by omega) (by omega)
  rw [ev_ov_0 _ _ (Int.le_refl _)] at this
  exact this
theorem ct_reduce (ok : sp_ok L n P K) :
    ev_C g mR_reduce (d + 3) [.ref 7] (pw L n tn P K B lo hi c0 (rdw rem dn le rp rm kd wa t)) 0 0 (ev_V none (pw L n tn P K B lo hi c0 (rdW (rd_iter 6 (n + 1, 0, ev_ov (sp_len L n P) le (n + 1), ev_ov P rp n, ev_ov K rm n, kd, wa)) t))) := by
  have hn0 := ok.2.2.1
  have hn := ok.2.2.2.1
  refine ev_ofE (by decide +kernel) rfl (Nat.le_of_ble_eq_true rfl) rfl rfl ?_
  refine ev_aload_n dR_reduce_0 rfl ?_
  refine ev_cVv dR_reduce_1 cv_R_31 (ct_copy hn0 hn) rfl rfl rfl (Nat.le_of_ble_eq_true rfl) (Nat.le_of_ble_eq_true rfl) (Nat.le_of_ble_eq_true rfl) ?_
  refine ev_iconst dR_reduce_4 ?_
  refine ev_istore_n dR_reduce_5 (Nat.le_of_ble_eq_true rfl) ?_
  refine ev_iconst dR_reduce_6 ?_
  refine ev_istore_n dR_reduce_7 (Nat.le_of_ble_eq_true rfl) ?_
  have hv0 : rd_inv 0 (n + 1, 0, ev_ov (sp_len L n P) le (n + 1), ev_ov P rp n, ev_ov K rm n, kd, wa) := by
    refine ⟨by show 1 ≤ n + 1; omega, by show n + 1 ≤ 7; omega, Int.le_refl _, by show 0 + (n + 1) ≤ 7; omega, fun j j0 j1 => ?_, fun j j0 j1 => ?_⟩
    · have j1 : j < n + 1 := j1
      show 0 ≤ ev_ov (sp_len L n P) le (n + 1) j ∧ ev_ov (sp_len L n P) le (n + 1) j ≤ 60
      rw [ev_ov_in j0 j1]
      have := sp_len_bd ok j0 (by omega); omega
    · have j1 : j < n + 1 - 1 := j1
      show 0 ≤ ev_ov K rm n j ∧ ev_ov K rm n j ≤ 2
      rw [ev_ov_in j0 (by omega)]
      have := ok.2.2.2.2.1 j j0 (by omega); omega
  have stop : ∀ (i : Int) (s : RS), 0 ≤ i → i ≤ 7 → ev_E g false mR_reduce (d + 3) 8 [some (.ref 7), some (ev_i 0), some (ev_i i)] [] (pw L n tn P K B lo hi c0 (rdW s t)) 0 0 (ev_V none (pw L n tn P K B lo hi c0 (rdW s t))) := by
    intro i s h0 h1
    refine ev_iload_n dR_reduce_8 rfl ?_
    refine ev_bipush dR_reduce_9 rfl ?_
    refine ev_icmp_ge (tgt := 45) dR_reduce_11 rfl (by omega) (by omega) (by omega) (by omega) (fun hb => ?_) (fun hb => ?_)
    · refine ev_return dR_reduce_45 rfl ?_
      exact ⟨rfl, rfl⟩
    · refine ev_iload_n dR_reduce_14 rfl ?_
      refine ev_if_eq (tgt := 45) dR_reduce_15 rfl (by omega) (by omega) (fun hb2 => ?_) (fun hb2 => ?_)
      · refine ev_return dR_reduce_45 rfl ?_
        exact ⟨rfl, rfl⟩
      · exact absurd rfl hb2
  have loop : ∀ (k i : Nat) (s : RS), i + k = 6 → rd_inv i s → ev_E g false mR_reduce (d + 3) 8 [some (.ref 7), some (ev_i 1), some (ev_i i)] [] (pw L n tn P K B lo hi c0 (rdW s t)) 0 0 (ev_V none (pw L n tn P K B lo hi c0 (rdW (rd_iter k s) t))) := by
    intro k
    induction k with
    | zero =>
      intro i s hk hv
      refine ev_iload_n dR_reduce_8 rfl ?_
      refine ev_bipush dR_reduce_9 rfl ?_
      refine ev_icmp_ge (tgt := 45) dR_reduce_11 rfl (by omega) (by omega) (by omega) (by omega) (fun hb => ?_) (fun hb => ?_)
      · refine ev_return dR_reduce_45 rfl ?_
        exact ⟨rfl, rfl⟩
      · omega
    | succ k ih =>
      intro i s hk hv
      obtain ⟨v1, v2, -⟩ := id hv
      refine ev_iload_n dR_reduce_8 rfl ?_
      refine ev_bipush dR_reduce_9 rfl ?_
      refine ev_icmp_ge (tgt := 45) dR_reduce_11 rfl (by omega) (by omega) (by omega) (by omega) (fun hb => ?_) (fun hb => ?_)
      · omega
      · refine ev_iload_n dR_reduce_14 rfl ?_
        refine ev_if_eq (tgt := 45) dR_reduce_15 rfl (by omega) (by omega) (fun hb2 => ?_) (fun hb2 => ?_)
        · exact absurd hb2 (by decide)
        · refine ev_aload_n dR_reduce_18 rfl ?_
          refine ev_get dR_reduce_19 fl_R_34 rfl rfl ?_
          refine ev_iconst dR_reduce_22 ?_
          refine ev_icmp_le (tgt := 37) dR_reduce_23 rfl (by omega) (by omega) (by omega) (by omega) (fun hb3 => ?_) (fun hb3 => ?_)
          · refine ev_iconst dR_reduce_37 ?_
            refine ev_istore_n dR_reduce_38 (Nat.le_of_ble_eq_true rfl) ?_
            refine ev_iinc dR_reduce_39 rfl ?_
            refine ev_goto (tgt := 8) dR_reduce_42 rfl ?_
            rw [rd_iter, if_neg (by omega)]
            exact stop (i + 1) s (by omega) (by omega)
          · refine ev_aload_n dR_reduce_26 rfl ?_
            obtain ⟨s1, s2, s3, s4, s5, s6, s7⟩ := s
            refine ev_cV dR_reduce_27 cv_R_38 (ct_once (rem := s1) (dn := s2) (le := s3) (rp := s4) (rm := s5) (kd := s6) (wa := s7) (i := i) (by omega) (by omega) hv) rfl rfl rfl (Nat.le_of_ble_eq_true rfl) (Nat.le_of_ble_eq_true rfl) (Nat.le_of_ble_eq_true rfl) ?_
            rw [rd_iter, if_pos hb3]
            cases he : rd_step (s1, s2, s3, s4, s5, s6, s7) with
            | none =>
              refine ev_bz (tgt := 37) dR_reduce_30 rfl (fun hb4 => ?_) (fun hb4 => ?_)
              · refine ev_iconst dR_reduce_37 ?_
                refine ev_istore_n dR_reduce_38 (Nat.le_of_ble_eq_true rfl) ?_
                refine ev_iinc dR_reduce_39 rfl ?_
                refine ev_goto (tgt := 8) dR_reduce_42 rfl ?_
                exact stop (i + 1) (s1, s2, s3, s4, s5, s6, s7) (by omega) (by omega)
              · exact absurd hb4 (by simp)
            | some s' =>
              refine ev_bz (tgt := 37) dR_reduce_30 rfl (fun hb4 => ?_) (fun hb4 => ?_)
              · exact absurd hb4 (by simp)
              · refine ev_iconst dR_reduce_33 ?_
                refine ev_goto (tgt := 38) dR_reduce_34 rfl ?_
                refine ev_istore_n dR_reduce_38 (Nat.le_of_ble_eq_true rfl) ?_
                refine ev_iinc dR_reduce_39 rfl ?_
                refine ev_goto (tgt := 8) dR_reduce_42 rfl ?_
                exact ih (i + 1) s' (by omega) (rd_inv_s (by omega) hv hb3 he)
  exact loop 6 0 (n + 1, 0, ev_ov (sp_len L n P) le (n + 1), ev_ov P rp n, ev_ov K rm n, kd, wa) (by omega) hv0
theorem ct_Rinit : ev_C g mR_init (d + 1) [.ref 7, .ref 1] (pw L n tn P K B lo hi c0 [.inr (2, [.null, .null, .null, .null, ev_i 0, ev_i 0, .null, .null])]) 5 31
    (ev_V none (pw L n tn P K B lo hi c0 (rdw 0 0 (fun _ => 0) (fun _ => 0) (fun _ => 0) (fun _ => 0) (fun _ => 0) []))) := by
  refine ev_ofE (by decide +kernel) rfl (Nat.le_of_ble_eq_true rfl) rfl rfl ?_
  refine ev_aload_n dR_init_0 rfl ?_
  refine ev_obj dR_init_1 wm_R_3 wo_i wo_c (Nat.le_of_ble_eq_true rfl) ?_
  refine ev_aload_n dR_init_4 rfl ?_
  refine ev_aload_n dR_init_5 rfl ?_
  refine ev_put dR_init_6 fp_R_9 (fun _ => rfl) rfl (Nat.le_of_ble_eq_true rfl) rfl rfl ?_
  refine ev_aload_n dR_init_9 rfl ?_
  refine ev_bipush dR_init_10 rfl ?_
  refine ev_nI (n := 7) dR_init_12 rfl (by decide) ?_
  refine ev_put dR_init_14 fp_R_15 (fun _ => rfl) rfl (Nat.le_of_ble_eq_true rfl) rfl rfl ?_
  refine ev_aload_n dR_init_17 rfl ?_
  refine ev_bipush dR_init_18 rfl ?_
  refine ev_nI (n := 6) dR_init_20 rfl (by decide) ?_
  refine ev_put dR_init_22 fp_R_19 (fun _ => rfl) rfl (Nat.le_of_ble_eq_true rfl) rfl rfl ?_
  refine ev_aload_n dR_init_25 rfl ?_
  refine ev_bipush dR_init_26 rfl ?_
  refine ev_nI (n := 6) dR_init_28 rfl (by decide) ?_
  refine ev_put dR_init_30 fp_R_22 (fun _ => rfl) rfl (Nat.le_of_ble_eq_true rfl) rfl rfl ?_
  refine ev_aload_n dR_init_33 rfl ?_
  refine ev_bipush dR_init_34 rfl ?_
  refine ev_nI (n := 6) dR_init_36 rfl (by decide) ?_
  refine ev_put dR_init_38 fp_R_25 (fun _ => rfl) rfl (Nat.le_of_ble_eq_true rfl) rfl rfl ?_
  refine ev_aload_n dR_init_41 rfl ?_
  refine ev_bipush dR_init_42 rfl ?_
  refine ev_nI (n := 6) dR_init_44 rfl (by decide) ?_
  refine ev_put dR_init_46 fp_R_28 (fun _ => rfl) rfl (Nat.le_of_ble_eq_true rfl) rfl rfl ?_
  refine ev_return dR_init_49 rfl ?_
  exact ⟨rfl, rfl⟩
end RE
