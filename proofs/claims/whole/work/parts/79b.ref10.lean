/-! The reference: reduce, foldable, steps, step -/
section R9b
variable {g : ev_G} {d : Nat} {c : Nat → ev_AC} {h : List ev_AC} {th L n : Int} {tn : Bool} {P K S : Int → Int} {ty : Int} {z : MZ} {y : MY} {t : List ev_AC}
theorem ct_Mreduce {rs : RS} (ok : sp_ok L n P K) : ev_C g mM_reduce (d + 1) [.ref 16] (MH c th L n tn P K S ty z y t) 0 0 (my_Q c th (L, n, tn, P, K) S ty z t (rd_iter 6 (rd_st (L, n, tn, P, K) rs))) := by
  have hn0 := ok.2.2.1
  have hn := ok.2.2.2.1
  have loop := ct_Mred_loop (g := g) (d := d) (c := c) (th := th) (tn := tn) (S := S) (ty := ty) (z := z) (t := t) ok
  obtain ⟨ya, yb, yc, yn, yk, yp, ym⟩ := y
  have lay : ∀ (k : Nat) (j : Int), 0 ≤ j → j + k = n + 1 → ev_E g false mM_reduce (d + 1) 17 [some (.ref 16), some (ev_i j), none] [] (MH c th L n tn P K S ty z (my_st (L, n, tn, P, K) (ya, yb, yc, yn, yk, yp, ym) j) t) 0 0 (my_Q c th (L, n, tn, P, K) S ty z t (rd_iter 6 (rd_st (L, n, tn, P, K) rs))) := by
    intro k
    induction k with
    | zero =>
      intro j j0 hk
      have hj : j = n + 1 := by omega
      subst hj
      refine ev_hp (h' := MHy c th L n tn P K S ty z (ev_ov (sp_len L n P) ya (n + 1)) (ev_ov (fun j => if j < n then K j else 0) yb (n + 1)) (ev_ov (fun j => if j < n then P j else 0) yc (n + 1)) (n + 1) yk yp 0 t) rfl ?_
      refine ev_iload_n dM_reduce_17 rfl ?_
      refine ev_aload_n dM_reduce_18 rfl ?_
      refine ev_get dM_reduce_19 fl_M_104 rfl rfl ?_
      refine ev_icmp_ge (tgt := 96) dM_reduce_22 rfl (by omega) (by omega) (by omega) (by omega) (fun b1 => ?_) (fun b1 => ?_)
      · refine ev_iconst dM_reduce_96 ?_
        refine ev_istore_n dM_reduce_97 (Nat.le_of_ble_eq_true rfl) ?_
        refine ev_hp (h' := MH c th L n tn P K S ty z (my_st (L, n, tn, P, K) (ya, yb, yc, yn, yk, yp, ym) (n + 1)) t) rfl ?_
        exact loop 6 0 (rd_st (L, n, tn, P, K) rs) (my_st (L, n, tn, P, K) (ya, yb, yc, yn, yk, yp, ym) (n + 1)) none rfl (rd_st_inv (s := (L, n, tn, P, K)) ok) rfl (rd_R0 (s := (L, n, tn, P, K)))
      · omega
    | succ k ih =>
      intro j j0 hk
      have next := ih (j + 1) (by omega) (by omega)
      have e1 : my_st (L, n, tn, P, K) (ya, yb, yc, yn, yk, yp, ym) (j + 1) = (ev_up (ev_ov (sp_len L n P) ya j) j (sp_re L n P j - sp_le P j), ev_up (ev_ov (fun j => if j < n then K j else 0) yb j) j (if j < n then K j else 0), ev_up (ev_ov (fun j => if j < n then P j else 0) yc j) j (if j < n then P j else 0), n + 1, yk, yp, 0) := by
        rw [ev_ov_s (F := sp_len L n P) (z := sp_re L n P j - sp_le P j) j0 rfl, ev_ov_s (F := fun j => if j < n then K j else 0) (z := if j < n then K j else 0) j0 rfl, ev_ov_s (F := fun j => if j < n then P j else 0) (z := if j < n then P j else 0) j0 rfl]
        rfl
      rw [e1] at next
      refine ev_hp (h' := MHy c th L n tn P K S ty z (ev_ov (sp_len L n P) ya j) (ev_ov (fun j => if j < n then K j else 0) yb j) (ev_ov (fun j => if j < n then P j else 0) yc j) (n + 1) yk yp 0 t) rfl ?_
      refine ev_iload_n dM_reduce_17 rfl ?_
      refine ev_aload_n dM_reduce_18 rfl ?_
      refine ev_get dM_reduce_19 fl_M_104 rfl rfl ?_
      refine ev_icmp_ge (tgt := 96) dM_reduce_22 rfl (by omega) (by omega) (by omega) (by omega) (fun b1 => ?_) (fun b1 => ?_)
      · omega
      · refine ev_aload_n dM_reduce_25 rfl ?_
        refine ev_get dM_reduce_26 fl_M_41 rfl rfl ?_
        refine ev_iload_n dM_reduce_29 rfl ?_
        refine ev_aload_n dM_reduce_30 rfl ?_
        refine ev_iload_n dM_reduce_31 rfl ?_
        refine ev_cV dM_reduce_32 cv_M_87 (ct_MrightEnd (z := z) (y := (ev_ov (sp_len L n P) ya j, ev_ov (fun j => if j < n then K j else 0) yb j, ev_ov (fun j => if j < n then P j else 0) yc j, n + 1, yk, yp, 0)) j0 (by omega) hn) rfl rfl rfl (Nat.le_of_ble_eq_true rfl) (Nat.le_of_ble_eq_true rfl) (Nat.le_of_ble_eq_true rfl) ?_
        refine ev_aload_n dM_reduce_35 rfl ?_
        refine ev_iload_n dM_reduce_36 rfl ?_
        refine ev_cV dM_reduce_37 cv_M_81 (ct_MleftEnd (z := z) (y := (ev_ov (sp_len L n P) ya j, ev_ov (fun j => if j < n then K j else 0) yb j, ev_ov (fun j => if j < n then P j else 0) yc j, n + 1, yk, yp, 0)) j0 (by omega)) rfl rfl rfl (Nat.le_of_ble_eq_true rfl) (Nat.le_of_ble_eq_true rfl) (Nat.le_of_ble_eq_true rfl) ?_
        refine ev_hp (h' := MHy c th L n tn P K S ty z (ev_ov (sp_len L n P) ya j) (ev_ov (fun j => if j < n then K j else 0) yb j) (ev_ov (fun j => if j < n then P j else 0) yc j) (n + 1) yk yp 0 t) rfl ?_
        refine ev_isub dM_reduce_40 ?_
        refine ev_iast dM_reduce_41 rfl (by omega) (by omega) (by decide) ?_
        refine ev_aload_n dM_reduce_42 rfl ?_
        refine ev_get dM_reduce_43 fl_M_44 rfl rfl ?_
        refine ev_iload_n dM_reduce_46 rfl ?_
        refine ev_iload_n dM_reduce_47 rfl ?_
        refine ev_aload_n dM_reduce_48 rfl ?_
        refine ev_get dM_reduce_49 fl_M_63 rfl rfl ?_
        refine ev_icmp_ge (tgt := 64) dM_reduce_52 rfl (by omega) (by omega) (by omega) (by omega) (fun b2 => ?_) (fun b2 => ?_)
        · rw [if_neg (by omega), if_neg (by omega)] at next
          refine ev_iconst dM_reduce_64 ?_
          refine ev_iast dM_reduce_65 rfl (by omega) (by omega) (by decide) ?_
          refine ev_aload_n dM_reduce_66 rfl ?_
          refine ev_get dM_reduce_67 fl_M_47 rfl rfl ?_
          refine ev_iload_n dM_reduce_70 rfl ?_
          refine ev_iload_n dM_reduce_71 rfl ?_
          refine ev_aload_n dM_reduce_72 rfl ?_
          refine ev_get dM_reduce_73 fl_M_63 rfl rfl ?_
          refine ev_icmp_ge (tgt := 88) dM_reduce_76 rfl (by omega) (by omega) (by omega) (by omega) (fun b3 => ?_) (fun b3 => ?_)
          · refine ev_iconst dM_reduce_88 ?_
            refine ev_iast dM_reduce_89 rfl (by omega) (by omega) (by decide) ?_
            refine ev_iinc dM_reduce_90 rfl ?_
            refine ev_goto (tgt := 17) dM_reduce_93 rfl ?_
            exact next
          · omega
        · rw [if_pos b2, if_pos b2] at next
          refine ev_aload_n dM_reduce_55 rfl ?_
          refine ev_get dM_reduce_56 fl_M_17 rfl rfl ?_
          refine ev_iload_n dM_reduce_59 rfl ?_
          refine ev_iald dM_reduce_60 rfl (by omega) (by omega) (by decide) ?_
          refine ev_goto (tgt := 65) dM_reduce_61 rfl ?_
          refine ev_iast dM_reduce_65 rfl (by omega) (by omega) (by decide) ?_
          refine ev_aload_n dM_reduce_66 rfl ?_
          refine ev_get dM_reduce_67 fl_M_47 rfl rfl ?_
          refine ev_iload_n dM_reduce_70 rfl ?_
          refine ev_iload_n dM_reduce_71 rfl ?_
          refine ev_aload_n dM_reduce_72 rfl ?_
          refine ev_get dM_reduce_73 fl_M_63 rfl rfl ?_
          refine ev_icmp_ge (tgt := 88) dM_reduce_76 rfl (by omega) (by omega) (by omega) (by omega) (fun b3 => ?_) (fun b3 => ?_)
          · omega
          · refine ev_aload_n dM_reduce_79 rfl ?_
            refine ev_get dM_reduce_80 fl_M_13 rfl rfl ?_
            refine ev_iload_n dM_reduce_83 rfl ?_
            refine ev_iald dM_reduce_84 rfl (by omega) (by omega) (by decide) ?_
            refine ev_goto (tgt := 89) dM_reduce_85 rfl ?_
            refine ev_iast dM_reduce_89 rfl (by omega) (by omega) (by decide) ?_
            refine ev_iinc dM_reduce_90 rfl ?_
            refine ev_goto (tgt := 17) dM_reduce_93 rfl ?_
            exact next
  refine ev_ofE (by decide +kernel) rfl (Nat.le_of_ble_eq_true rfl) rfl rfl ?_
  refine ev_aload_n dM_reduce_0 rfl ?_
  refine ev_aload_n dM_reduce_1 rfl ?_
  refine ev_get dM_reduce_2 fl_M_63 rfl rfl ?_
  refine ev_iconst dM_reduce_5 ?_
  refine ev_iadd dM_reduce_6 ?_
  refine ev_put dM_reduce_7 fp_M_104 (fun q => by cases q) rfl (Nat.le_of_ble_eq_true rfl) rfl rfl ?_
  refine ev_aload_n dM_reduce_10 rfl ?_
  refine ev_iconst dM_reduce_11 ?_
  refine ev_put dM_reduce_12 fp_M_107 (fun q => by cases q) rfl (Nat.le_of_ble_eq_true rfl) rfl rfl ?_
  refine ev_iconst dM_reduce_15 ?_
  refine ev_istore_n dM_reduce_16 (Nat.le_of_ble_eq_true rfl) ?_
  have := lay (n + 1).toNat 0 (by omega) (by omega)
  rw [show my_st (L, n, tn, P, K) (ya, yb, yc, yn, yk, yp, ym) 0 = (ya, yb, yc, n + 1, yk, yp, 0) by unfold my_st; rw [ev_ov_0 _ _ (Int.le_refl _), ev_ov_0 _ _ (Int.le_refl _), ev_ov_0 _ _ (Int.le_refl _)]] at this
  exact this
theorem sp_Kb (ok : sp_ok L n P K) : ∀ i, 0 ≤ i → i < n → 0 ≤ K i ∧ K i ≤ 2 := fun i q0 q1 => ⟨(ok.2.2.2.2.1 i q0 q1).2.2.1, (ok.2.2.2.2.1 i q0 q1).2.2.2⟩
theorem ct_Mfoldable {rs : RS} (ok : sp_ok L n P K) : ev_C g mM_foldable (d + 2) [.ref 16] (MH c th L n tn P K S ty z y t) 0 0
    (fun o h' => o = .inl (some (ev_i (if 0 < sp_fr K n.toNat then -1 else if (rd_go (L, n, tn, P, K) rs).1 = 1 then 1 else 0))) ∧ ∃ y', h' = MH c 0 L n tn P K S ty z y' t) := by
  have hf := sp_fr_bd (K := K) n.toNat
  have hn := ok.2.2.2.1
  refine ev_ofE (by decide +kernel) rfl (Nat.le_of_ble_eq_true rfl) rfl rfl ?_
  refine ev_aload_n dM_foldable_0 rfl ?_
  refine ev_iconst dM_foldable_1 ?_
  refine ev_put dM_foldable_2 fp_M_56 (fun q => by cases q) rfl (Nat.le_of_ble_eq_true rfl) rfl rfl ?_
  refine ev_aload_n dM_foldable_5 rfl ?_
  refine ev_cV dM_foldable_6 cv_M_74 (ct_Mfree (th := 0) ok.2.2.1 hn (sp_Kb ok)) rfl rfl rfl (Nat.le_of_ble_eq_true rfl) (Nat.le_of_ble_eq_true rfl) (Nat.le_of_ble_eq_true rfl) ?_
  refine ev_if_le (tgt := 14) dM_foldable_9 rfl (by omega) (by omega) (fun b1 => ?_) (fun b1 => ?_)
  · have er : rd_go (L, n, tn, P, K) rs = rd_iter 6 (rd_st (L, n, tn, P, K) rs) := if_neg (show ¬ 0 < sp_fr K n.toNat by omega)
    have hb := rd_iter_bd 6 0 (rd_st (L, n, tn, P, K) rs) (by omega) (rd_st_inv (s := (L, n, tn, P, K)) ok)
    rw [if_neg (by omega), er]
    refine ev_aload_n dM_foldable_14 rfl ?_
    refine ev_callV dM_foldable_15 cv_M_121 rfl rfl (Nat.le_of_ble_eq_true rfl) (ct_Mreduce (d := d) (rs := rs) ok) (Nat.le_refl _) (Nat.le_refl _) rfl (fun v h' q => ?_)
    obtain ⟨qv, y', qR, rfl⟩ := q
    cases Sum.inl.inj qv
    have h1 := qR.1
    refine ev_aload_n dM_foldable_18 rfl ?_
    refine ev_get dM_foldable_19 fl_M_104 rfl rfl ?_
    refine ev_iconst dM_foldable_22 ?_
    refine ev_icmp_ne (tgt := 30) dM_foldable_23 rfl (by omega) (by omega) (by omega) (by omega) (fun b2 => ?_) (fun b2 => ?_)
    · rw [if_neg (by omega)]
      refine ev_iconst dM_foldable_30 ?_
      refine ev_ireturn dM_foldable_31 rfl ?_
      exact ⟨rfl, y', rfl⟩
    · rw [if_pos (by omega)]
      refine ev_iconst dM_foldable_26 ?_
      refine ev_goto (tgt := 31) dM_foldable_27 rfl ?_
      refine ev_ireturn dM_foldable_31 rfl ?_
      exact ⟨rfl, y', rfl⟩
  · rw [if_pos b1]
    refine ev_iconst dM_foldable_12 ?_
    refine ev_ireturn dM_foldable_13 rfl ?_
    exact ⟨rfl, y, rfl⟩
theorem ct_Msteps {rs : RS} (ok : sp_ok L n P K) : ev_C g mM_steps (d + 2) [.ref 16] (MH c th L n tn P K S ty z y t) 0 0
    (fun o h' => o = .inl (some (ev_i (lb_steps (L, n, tn, P, K) rs))) ∧ ∃ y', h' = MH c 0 L n tn P K S ty z y' t) := by
  have hf := sp_fr_bd (K := K) n.toNat
  have hn := ok.2.2.2.1
  refine ev_ofE (by decide +kernel) rfl (Nat.le_of_ble_eq_true rfl) rfl rfl ?_
  refine ev_aload_n dM_steps_0 rfl ?_
  refine ev_iconst dM_steps_1 ?_
  refine ev_put dM_steps_2 fp_M_56 (fun q => by cases q) rfl (Nat.le_of_ble_eq_true rfl) rfl rfl ?_
  refine ev_aload_n dM_steps_5 rfl ?_
  refine ev_cV dM_steps_6 cv_M_74 (ct_Mfree (th := 0) ok.2.2.1 hn (sp_Kb ok)) rfl rfl rfl (Nat.le_of_ble_eq_true rfl) (Nat.le_of_ble_eq_true rfl) (Nat.le_of_ble_eq_true rfl) ?_
  refine ev_if_le (tgt := 14) dM_steps_9 rfl (by omega) (by omega) (fun b1 => ?_) (fun b1 => ?_)
  · have er : rd_go (L, n, tn, P, K) rs = rd_iter 6 (rd_st (L, n, tn, P, K) rs) := if_neg (show ¬ 0 < sp_fr K n.toNat by omega)
    have es : lb_steps (L, n, tn, P, K) rs = (rd_iter 6 (rd_st (L, n, tn, P, K) rs)).2.1 := by
      unfold lb_steps
      rw [if_neg (show ¬ 0 < sp_fr K n.toNat by omega), er]
    rw [es]
    refine ev_aload_n dM_steps_14 rfl ?_
    refine ev_callV dM_steps_15 cv_M_121 rfl rfl (Nat.le_of_ble_eq_true rfl) (ct_Mreduce (d := d) (rs := rs) ok) (Nat.le_refl _) (Nat.le_refl _) rfl (fun v h' q => ?_)
    obtain ⟨qv, y', qR, rfl⟩ := q
    cases Sum.inl.inj qv
    refine ev_aload_n dM_steps_18 rfl ?_
    refine ev_get dM_steps_19 fl_M_107 rfl rfl ?_
    refine ev_ireturn dM_steps_22 rfl ?_
    exact ⟨by rw [qR.2.1], y', rfl⟩
  · have es : lb_steps (L, n, tn, P, K) rs = -1 := if_pos b1
    rw [es]
    refine ev_iconst dM_steps_12 ?_
    refine ev_ireturn dM_steps_13 rfl ?_
    exact ⟨rfl, y, rfl⟩
theorem ct_Mstep {rs : RS} {i w : Int} (i1 : -2147483648 ≤ i) (i2 : i < 2147483648) (w1 : -2147483648 ≤ w) (w2 : w < 2147483648) (ok : sp_ok L n P K) : ev_C g mM_step (d + 2) [.ref 16, ev_i i, ev_i w] (MH c th L n tn P K S ty z y t) 0 0
    (fun o h' => o = .inl (some (ev_i (mo_v (lb_step (L, n, tn, P, K) rs i w)))) ∧ ∃ y', h' = MH c (mo_c cd_O (lb_step (L, n, tn, P, K) rs i w)) L n tn P K S ty z y' t) := by
  have hf := sp_fr_bd (K := K) n.toNat
  have hn := ok.2.2.2.1
  refine ev_ofE (by decide +kernel) rfl (Nat.le_of_ble_eq_true rfl) rfl rfl ?_
  refine ev_aload_n dM_step_0 rfl ?_
  refine ev_callV dM_step_1 cv_M_121 rfl rfl (Nat.le_of_ble_eq_true rfl) (ct_Mreduce (d := d) (rs := rs) ok) (Nat.le_refl _) (Nat.le_refl _) rfl (fun v h' q => ?_)
  obtain ⟨qv, y', qR, rfl⟩ := q
  cases Sum.inl.inj qv
  have hb := rd_iter_b2 6 0 (rd_st (L, n, tn, P, K) rs) (by omega) (rd_st_inv (s := (L, n, tn, P, K)) ok)
  have hb2 := rd_iter_bd 6 0 (rd_st (L, n, tn, P, K) rs) (by omega) (rd_st_inv (s := (L, n, tn, P, K)) ok)
  obtain ⟨ya, yb, yc, yn, yk, yp, ym⟩ := y'
  have hm : ym = (rd_iter 6 (rd_st (L, n, tn, P, K) rs)).2.1 := qR.2.1
  have hst : ∀ j, 0 ≤ j → j < ym → yk j = (rd_iter 6 (rd_st (L, n, tn, P, K) rs)).2.2.2.2.2.1 j ∧ yp j = (rd_iter 6 (rd_st (L, n, tn, P, K) rs)).2.2.2.2.2.2 j := fun j j0 j1 => qR.2.2.2.2 j j0 (by omega)
  have badC : ∀ q : Int, lb_step (L, n, tn, P, K) rs i w = .inr 7 → ev_E g false mM_step (d + 2) 43 [some (.ref 16), some (ev_i i), some (ev_i w)] [ev_i q, ev_i 1, .ref 16] (MHy c th L n tn P K S ty z ya yb yc yn yk yp ym t) 0 0 (fun o h' => o = .inl (some (ev_i (mo_v (lb_step (L, n, tn, P, K) rs i w)))) ∧ ∃ y', h' = MH c (mo_c cd_O (lb_step (L, n, tn, P, K) rs i w)) L n tn P K S ty z y' t) := by
    intro q e
    rw [e]
    refine ev_cV dM_step_43 cv_M_59 (ct_Mref1 (y := (ya, yb, yc, yn, yk, yp, ym))) rfl rfl rfl (Nat.le_of_ble_eq_true rfl) (Nat.le_of_ble_eq_true rfl) (Nat.le_of_ble_eq_true rfl) ?_
    refine ev_if_eq (tgt := 51) dM_step_46 rfl (by omega) (by omega) (fun h3 => ?_) (fun h3 => ?_)
    · omega
    · refine ev_iconst dM_step_49 ?_
      refine ev_ireturn dM_step_50 rfl ?_
      exact ⟨rfl, (ya, yb, yc, yn, yk, yp, ym), rfl⟩
  have badA : lb_step (L, n, tn, P, K) rs i w = .inr 7 → ev_E g false mM_step (d + 2) 24 [some (.ref 16), some (ev_i i), some (ev_i w)] [.ref 16] (MHy c th L n tn P K S ty z ya yb yc yn yk yp ym t) 0 0 (fun o h' => o = .inl (some (ev_i (mo_v (lb_step (L, n, tn, P, K) rs i w)))) ∧ ∃ y', h' = MH c (mo_c cd_O (lb_step (L, n, tn, P, K) rs i w)) L n tn P K S ty z y' t) := by
    intro e
    refine ev_iconst dM_step_24 ?_
    refine ev_goto (tgt := 29) dM_step_25 rfl ?_
    refine ev_iload_n dM_step_29 rfl ?_
    refine ev_if_lt (tgt := 38) dM_step_30 rfl (by omega) (by omega) (fun h1 => ?_) (fun h1 => ?_)
    · refine ev_iconst dM_step_38 ?_
      refine ev_goto (tgt := 43) dM_step_39 rfl ?_
      exact badC 1 e
    · refine ev_iload_n dM_step_33 rfl ?_
      refine ev_iconst dM_step_34 ?_
      refine ev_icmp_le (tgt := 42) dM_step_35 rfl (by omega) (by omega) (by omega) (by omega) (fun h2 => ?_) (fun h2 => ?_)
      · refine ev_iconst dM_step_42 ?_
        exact badC 0 e
      · refine ev_iconst dM_step_38 ?_
        refine ev_goto (tgt := 43) dM_step_39 rfl ?_
        exact badC 1 e
  refine ev_hp (h' := MHy c th L n tn P K S ty z ya yb yc yn yk yp ym t) rfl ?_
  refine ev_aload_n dM_step_4 rfl ?_
  refine ev_aload_n dM_step_5 rfl ?_
  refine ev_cV dM_step_6 cv_M_74 (ct_Mfree (th := th) (y := (ya, yb, yc, yn, yk, yp, ym)) ok.2.2.1 hn (sp_Kb ok)) rfl rfl rfl (Nat.le_of_ble_eq_true rfl) (Nat.le_of_ble_eq_true rfl) (Nat.le_of_ble_eq_true rfl) ?_
  refine ev_hp (h' := MHy c th L n tn P K S ty z ya yb yc yn yk yp ym t) rfl ?_
  refine ev_if_gt (tgt := 24) dM_step_9 rfl (by omega) (by omega) (fun b1 => ?_) (fun b1 => ?_)
  · refine badA ?_
    have es : lb_steps (L, n, tn, P, K) rs = -1 := if_pos b1
    unfold lb_step
    rw [es, if_pos (by omega)]
  · have er : rd_go (L, n, tn, P, K) rs = rd_iter 6 (rd_st (L, n, tn, P, K) rs) := if_neg (show ¬ 0 < sp_fr K n.toNat by omega)
    have es : lb_steps (L, n, tn, P, K) rs = ym := by
      unfold lb_steps
      rw [if_neg (show ¬ 0 < sp_fr K n.toNat by omega), er, hm]
    refine ev_iload_n dM_step_12 rfl ?_
    refine ev_if_lt (tgt := 24) dM_step_13 rfl (by omega) (by omega) (fun b2 => ?_) (fun b2 => ?_)
    · refine badA ?_
      unfold lb_step
      rw [if_pos (Or.inl b2)]
    · refine ev_iload_n dM_step_16 rfl ?_
      refine ev_aload_n dM_step_17 rfl ?_
      refine ev_get dM_step_18 fl_M_107 rfl rfl ?_
      refine ev_icmp_lt (tgt := 28) dM_step_21 rfl (by omega) (by omega) (by omega) (by omega) (fun b3 => ?_) (fun b3 => ?_)
      · have hs := hst i b2 b3
        have e0 : lb_step (L, n, tn, P, K) rs i w = if w = 0 then .inl (yk i) else if w = 1 then .inl (yp i) else .inr 5 := by
          unfold lb_step
          rw [es, er, if_neg (by omega), hs.1, hs.2]
        rw [e0]
        have badW : w ≠ 0 → w ≠ 1 → ev_E g false mM_step (d + 2) 38 [some (.ref 16), some (ev_i i), some (ev_i w)] [ev_i 0, .ref 16] (MHy c th L n tn P K S ty z ya yb yc yn yk yp ym t) 0 0 (fun o h' => o = .inl (some (ev_i (mo_v (if w = 0 then .inl (yk i) else if w = 1 then .inl (yp i) else .inr 5)))) ∧ ∃ y', h' = MH c (mo_c cd_O (if w = 0 then .inl (yk i) else if w = 1 then .inl (yp i) else .inr 5)) L n tn P K S ty z y' t) := by
          intro g0 g1
          rw [if_neg g0, if_neg g1]
          refine ev_iconst dM_step_38 ?_
          refine ev_goto (tgt := 43) dM_step_39 rfl ?_
          refine ev_cV dM_step_43 cv_M_59 (ct_Mref2 (y := (ya, yb, yc, yn, yk, yp, ym))) rfl rfl rfl (Nat.le_of_ble_eq_true rfl) (Nat.le_of_ble_eq_true rfl) (Nat.le_of_ble_eq_true rfl) ?_
          refine ev_if_eq (tgt := 51) dM_step_46 rfl (by omega) (by omega) (fun h3 => ?_) (fun h3 => ?_)
          · omega
          · refine ev_iconst dM_step_49 ?_
            refine ev_ireturn dM_step_50 rfl ?_
            exact ⟨rfl, (ya, yb, yc, yn, yk, yp, ym), rfl⟩
        refine ev_iconst dM_step_28 ?_
        refine ev_iload_n dM_step_29 rfl ?_
        refine ev_if_lt (tgt := 38) dM_step_30 rfl (by omega) (by omega) (fun c1 => ?_) (fun c1 => ?_)
        · exact badW (by omega) (by omega)
        · refine ev_iload_n dM_step_33 rfl ?_
          refine ev_iconst dM_step_34 ?_
          refine ev_icmp_le (tgt := 42) dM_step_35 rfl (by omega) (by omega) (by omega) (by omega) (fun c2 => ?_) (fun c2 => ?_)
          · refine ev_iconst dM_step_42 ?_
            refine ev_cV dM_step_43 cv_M_59 (ct_Mref0 (y := (ya, yb, yc, yn, yk, yp, ym))) rfl rfl rfl (Nat.le_of_ble_eq_true rfl) (Nat.le_of_ble_eq_true rfl) (Nat.le_of_ble_eq_true rfl) ?_
            refine ev_if_eq (tgt := 51) dM_step_46 rfl (by omega) (by omega) (fun h3 => ?_) (fun h3 => ?_)
            · refine ev_hp (h' := MHy c 0 L n tn P K S ty z ya yb yc yn yk yp ym t) rfl ?_
              refine ev_iload_n dM_step_51 rfl ?_
              refine ev_if_ne (tgt := 64) dM_step_52 rfl (by omega) (by omega) (fun c3 => ?_) (fun c3 => ?_)
              · rw [if_neg c3, if_pos (by omega)]
                refine ev_aload_n dM_step_64 rfl ?_
                refine ev_get dM_step_65 fl_M_53 rfl rfl ?_
                refine ev_iload_n dM_step_68 rfl ?_
                refine ev_iald dM_step_69 rfl (by omega) (by omega) (by decide) ?_
                refine ev_ireturn dM_step_70 rfl ?_
                exact ⟨rfl, (ya, yb, yc, yn, yk, yp, ym), rfl⟩
              · rw [if_pos c3]
                refine ev_aload_n dM_step_55 rfl ?_
                refine ev_get dM_step_56 fl_M_50 rfl rfl ?_
                refine ev_iload_n dM_step_59 rfl ?_
                refine ev_iald dM_step_60 rfl (by omega) (by omega) (by decide) ?_
                refine ev_goto (tgt := 70) dM_step_61 rfl ?_
                refine ev_ireturn dM_step_70 rfl ?_
                exact ⟨rfl, (ya, yb, yc, yn, yk, yp, ym), rfl⟩
            · omega
          · exact badW (by omega) (by omega)
      · refine badA ?_
        unfold lb_step
        rw [es, if_pos (Or.inr b3)]
end R9b
