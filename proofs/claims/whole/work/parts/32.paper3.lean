/-! Paper: what is written -/
def sp_sh (P : Int → Int) (n j : Int) : Int → Int := fun x => if j < x ∧ x ≤ n then P (x - 1) else P x
def sp_ins (P : Int → Int) (n i v : Int) : Int → Int := ev_up (sp_sh P n i) i v
def sp_dl (P : Int → Int) (i j : Int) : Int → Int := fun x => if i ≤ x ∧ x < j then P (x + 1) else P x
theorem sp_sh_n (P : Int → Int) (n : Int) : sp_sh P n n = P := by
  funext x
  exact if_neg (by omega)
theorem sp_sh_s {P : Int → Int} {n j : Int} (h : j ≤ n) : ev_up (sp_sh P n j) j (sp_sh P n j (j - 1)) = sp_sh P n (j - 1) := by
  funext x
  unfold ev_up sp_sh
  by_cases hx : x = j
  · subst hx; rw [if_pos rfl, if_neg (by omega), if_pos (by omega)]
  · rw [if_neg hx]
    by_cases h1 : j < x ∧ x ≤ n
    · rw [if_pos h1, if_pos (by omega)]
    · rw [if_neg h1, if_neg (by omega)]
theorem sp_dl_0 (P : Int → Int) (i : Int) : sp_dl P i i = P := by
  funext x
  exact if_neg (by omega)
theorem sp_dl_s {P : Int → Int} {i j : Int} (h : i ≤ j) : ev_up (sp_dl P i j) j (sp_dl P i j (j + 1)) = sp_dl P i (j + 1) := by
  funext x
  unfold ev_up sp_dl
  by_cases hx : x = j
  · subst hx; rw [if_pos rfl, if_neg (by omega), if_pos (by omega)]
  · rw [if_neg hx]
    by_cases h1 : i ≤ x ∧ x < j
    · rw [if_pos h1, if_pos (by omega)]
    · rw [if_neg h1, if_neg (by omega)]
section PC
variable {g : ev_G} {d : Nat} {L n : Int} {tn : Bool} {P K B lo hi : Int → Int} {c0 : ev_AC} {t : List ev_AC} {h : List ev_AC}
theorem ct_insert {i p m : Int} (h0 : 0 ≤ i) (hi1 : i ≤ n) (hn : n < 6) :
    ev_C g mP_insertCrease d [.ref 1, ev_i i, ev_i p, ev_i m] (pw L n tn P K B lo hi c0 t) 0 0 (ev_V none (pw L (n + 1) tn (sp_ins P n i p) (sp_ins K n i m) B lo hi c0 t)) := by
  refine ev_ofE (by decide +kernel) rfl (Nat.le_of_ble_eq_true rfl) rfl rfl ?_
  refine ev_aload_n dP_insertCrease_0 rfl ?_
  refine ev_get dP_insertCrease_1 fl_P_35 rfl rfl ?_
  refine ev_istore dP_insertCrease_4 (Nat.le_of_ble_eq_true rfl) ?_
  have loop : ∀ (k : Nat) (j : Int), j = i + k → j ≤ n → ev_E g false mP_insertCrease d 6 [some (.ref 1), some (ev_i i), some (ev_i p), some (ev_i m), some (ev_i j)] [] (pw L n tn (sp_sh P n j) (sp_sh K n j) B lo hi c0 t) 0 0 (ev_V none (pw L (n + 1) tn (sp_ins P n i p) (sp_ins K n i m) B lo hi c0 t)) := by
    intro k
    induction k with
    | zero =>
      intro j hj hjn
      have hji : j = i := by omega
      subst hji
      refine ev_iload dP_insertCrease_6 rfl ?_
      refine ev_iload_n dP_insertCrease_8 rfl ?_
      refine ev_icmp_le (tgt := 50) dP_insertCrease_9 rfl (by omega) (by omega) (by omega) (by omega) (fun hb => ?_) (fun hb => ?_)
      · refine ev_aload_n dP_insertCrease_50 rfl ?_
        refine ev_get dP_insertCrease_51 fl_P_9 rfl rfl ?_
        refine ev_iload_n dP_insertCrease_54 rfl ?_
        refine ev_iload_n dP_insertCrease_55 rfl ?_
        refine ev_iast dP_insertCrease_56 rfl (by omega) (by omega) (by decide) ?_
        refine ev_aload_n dP_insertCrease_57 rfl ?_
        refine ev_get dP_insertCrease_58 fl_P_15 rfl rfl ?_
        refine ev_iload_n dP_insertCrease_61 rfl ?_
        refine ev_iload_n dP_insertCrease_62 rfl ?_
        refine ev_iast dP_insertCrease_63 rfl (by omega) (by omega) (by decide) ?_
        refine ev_aload_n dP_insertCrease_64 rfl ?_
        refine ev_dup dP_insertCrease_65 rfl ?_
        refine ev_get dP_insertCrease_66 fl_P_35 rfl rfl ?_
        refine ev_iconst dP_insertCrease_69 ?_
        refine ev_iadd dP_insertCrease_70 ?_
        refine ev_put dP_insertCrease_71 fp_P_35 (fun q => by cases q) rfl (Nat.le_of_ble_eq_true rfl) rfl rfl ?_
        refine ev_return dP_insertCrease_74 rfl ?_
        exact ⟨rfl, rfl⟩
      · omega
    | succ k ih =>
      intro j hj hjn
      refine ev_iload dP_insertCrease_6 rfl ?_
      refine ev_iload_n dP_insertCrease_8 rfl ?_
      refine ev_icmp_le (tgt := 50) dP_insertCrease_9 rfl (by omega) (by omega) (by omega) (by omega) (fun hb => ?_) (fun hb => ?_)
      · omega
      · refine ev_aload_n dP_insertCrease_12 rfl ?_
        refine ev_get dP_insertCrease_13 fl_P_9 rfl rfl ?_
        refine ev_iload dP_insertCrease_16 rfl ?_
        refine ev_aload_n dP_insertCrease_18 rfl ?_
        refine ev_get dP_insertCrease_19 fl_P_9 rfl rfl ?_
        refine ev_iload dP_insertCrease_22 rfl ?_
        refine ev_iconst dP_insertCrease_24 ?_
        refine ev_isub dP_insertCrease_25 ?_
        refine ev_iald dP_insertCrease_26 rfl (by omega) (by omega) (by decide) ?_
        refine ev_iast dP_insertCrease_27 rfl (by omega) (by omega) (by decide) ?_
        refine ev_aload_n dP_insertCrease_28 rfl ?_
        refine ev_get dP_insertCrease_29 fl_P_15 rfl rfl ?_
        refine ev_iload dP_insertCrease_32 rfl ?_
        refine ev_aload_n dP_insertCrease_34 rfl ?_
        refine ev_get dP_insertCrease_35 fl_P_15 rfl rfl ?_
        refine ev_iload dP_insertCrease_38 rfl ?_
        refine ev_iconst dP_insertCrease_40 ?_
        refine ev_isub dP_insertCrease_41 ?_
        refine ev_iald dP_insertCrease_42 rfl (by omega) (by omega) (by decide) ?_
        refine ev_iast dP_insertCrease_43 rfl (by omega) (by omega) (by decide) ?_
        refine ev_iinc dP_insertCrease_44 rfl ?_
        refine ev_goto (tgt := 6) dP_insertCrease_47 rfl ?_
        rw [sp_sh_s hjn, sp_sh_s hjn]
        exact ih (j - 1) (by omega) (by omega)
  have := loop (n - i).toNat n (by omega) (by omega)
  rw [sp_sh_n, sp_sh_n] at this
  exact this
theorem ct_remove {i : Int} (h0 : 0 ≤ i) (hi1 : i < n) (hn : n ≤ 6) :
    ev_C g mP_removeCrease d [.ref 1, ev_i i] (pw L n tn P K B lo hi c0 t) 0 0 (ev_V none (pw L (n - 1) tn (sp_dl P i (n - 1)) (sp_dl K i (n - 1)) B lo hi c0 t)) := by
  refine ev_ofE (by decide +kernel) rfl (Nat.le_of_ble_eq_true rfl) rfl rfl ?_
  refine ev_aload_n dP_removeCrease_0 rfl ?_
  refine ev_dup dP_removeCrease_1 rfl ?_
  refine ev_get dP_removeCrease_2 fl_P_35 rfl rfl ?_
  refine ev_iconst dP_removeCrease_5 ?_
  refine ev_isub dP_removeCrease_6 ?_
  refine ev_put dP_removeCrease_7 fp_P_35 (fun q => by cases q) rfl (Nat.le_of_ble_eq_true rfl) rfl rfl ?_
  refine ev_iload_n dP_removeCrease_10 rfl ?_
  refine ev_istore_n dP_removeCrease_11 (Nat.le_of_ble_eq_true rfl) ?_
  have loop : ∀ (k : Nat) (j : Int), j + k = n - 1 → i ≤ j → ev_E g false mP_removeCrease d 12 [some (.ref 1), some (ev_i i), some (ev_i j)] [] (pw L (n - 1) tn (sp_dl P i j) (sp_dl K i j) B lo hi c0 t) 0 0 (ev_V none (pw L (n - 1) tn (sp_dl P i (n - 1)) (sp_dl K i (n - 1)) B lo hi c0 t)) := by
    intro k
    induction k with
    | zero =>
      intro j hj hij
      have hjn : j = n - 1 := by omega
      subst hjn
      refine ev_iload_n dP_removeCrease_12 rfl ?_
      refine ev_aload_n dP_removeCrease_13 rfl ?_
      refine ev_get dP_removeCrease_14 fl_P_35 rfl rfl ?_
      refine ev_icmp_ge (tgt := 54) dP_removeCrease_17 rfl (by omega) (by omega) (by omega) (by omega) (fun hb => ?_) (fun hb => ?_)
      · refine ev_return dP_removeCrease_54 rfl ?_
        exact ⟨rfl, rfl⟩
      · omega
    | succ k ih =>
      intro j hj hij
      refine ev_iload_n dP_removeCrease_12 rfl ?_
      refine ev_aload_n dP_removeCrease_13 rfl ?_
      refine ev_get dP_removeCrease_14 fl_P_35 rfl rfl ?_
      refine ev_icmp_ge (tgt := 54) dP_removeCrease_17 rfl (by omega) (by omega) (by omega) (by omega) (fun hb => ?_) (fun hb => ?_)
      · omega
      · refine ev_aload_n dP_removeCrease_20 rfl ?_
        refine ev_get dP_removeCrease_21 fl_P_9 rfl rfl ?_
        refine ev_iload_n dP_removeCrease_24 rfl ?_
        refine ev_aload_n dP_removeCrease_25 rfl ?_
        refine ev_get dP_removeCrease_26 fl_P_9 rfl rfl ?_
        refine ev_iload_n dP_removeCrease_29 rfl ?_
        refine ev_iconst dP_removeCrease_30 ?_
        refine ev_iadd dP_removeCrease_31 ?_
        refine ev_iald dP_removeCrease_32 rfl (by omega) (by omega) (by decide) ?_
        refine ev_iast dP_removeCrease_33 rfl (by omega) (by omega) (by decide) ?_
        refine ev_aload_n dP_removeCrease_34 rfl ?_
        refine ev_get dP_removeCrease_35 fl_P_15 rfl rfl ?_
        refine ev_iload_n dP_removeCrease_38 rfl ?_
        refine ev_aload_n dP_removeCrease_39 rfl ?_
        refine ev_get dP_removeCrease_40 fl_P_15 rfl rfl ?_
        refine ev_iload_n dP_removeCrease_43 rfl ?_
        refine ev_iconst dP_removeCrease_44 ?_
        refine ev_iadd dP_removeCrease_45 ?_
        refine ev_iald dP_removeCrease_46 rfl (by omega) (by omega) (by decide) ?_
        refine ev_iast dP_removeCrease_47 rfl (by omega) (by omega) (by decide) ?_
        refine ev_iinc dP_removeCrease_48 rfl ?_
        refine ev_goto (tgt := 12) dP_removeCrease_51 rfl ?_
        rw [sp_dl_s hij, sp_dl_s hij]
        exact ih (j + 1) (by omega) (by omega)
  have := loop (n - 1 - i).toNat i (by omega) (by omega)
  rw [sp_dl_0, sp_dl_0] at this
  exact this
theorem ct_fold (ok : sp_ok L n P K) : ev_C g mP_fold (d + 2) [.ref 1] (pw L n tn P K B lo hi c0 t) 0 0
    (ev_V none (pw L n tn P K (ev_ov (sp_B L n P) B (n + 2)) (ev_ov (sp_lo L n P) lo (n + 1)) (ev_ov (sp_hi L n P) hi (n + 1)) c0 t)) := by
  have hn0 := ok.2.2.1
  have hn := ok.2.2.2.1
  refine ev_ofE (by decide +kernel) rfl (Nat.le_of_ble_eq_true rfl) rfl rfl ?_
  refine ev_aload_n dP_fold_0 rfl ?_
  refine ev_get dP_fold_1 fl_P_18 rfl rfl ?_
  refine ev_iconst dP_fold_4 ?_
  refine ev_iconst dP_fold_5 ?_
  refine ev_iast dP_fold_6 rfl (by omega) (by omega) (by decide) ?_
  refine ev_iconst dP_fold_7 ?_
  refine ev_istore_n dP_fold_8 (Nat.le_of_ble_eq_true rfl) ?_
  have loop : ∀ (k : Nat) (i : Int), 0 ≤ i → i + k = n + 1 → ev_E g false mP_fold (d + 2) 9 [some (.ref 1), some (ev_i i)] [] (pw L n tn P K (ev_ov (sp_B L n P) B (i + 1)) (ev_ov (sp_lo L n P) lo i) (ev_ov (sp_hi L n P) hi i) c0 t) 0 0
      (ev_V none (pw L n tn P K (ev_ov (sp_B L n P) B (n + 2)) (ev_ov (sp_lo L n P) lo (n + 1)) (ev_ov (sp_hi L n P) hi (n + 1)) c0 t)) := by
    intro k
    induction k with
    | zero =>
      intro i h0 hk
      have hin : i = n + 1 := by omega
      subst hin
      refine ev_iload_n dP_fold_9 rfl ?_
      refine ev_aload_n dP_fold_10 rfl ?_
      refine ev_get dP_fold_11 fl_P_35 rfl rfl ?_
      refine ev_icmp_gt (tgt := 94) dP_fold_14 rfl (by omega) (by omega) (by omega) (by omega) (fun hb => ?_) (fun hb => ?_)
      · refine ev_return dP_fold_94 rfl ?_
        exact ⟨rfl, by rw [show n + 1 + 1 = n + 2 by omega]⟩
      · omega
    | succ k ih =>
      intro i h0 hk
      have b1 := sp_B_60 ok (i := i) h0 (by omega)
      have b2 := sp_B_60 ok (i := i + 1) (by omega) (by omega)
      refine ev_iload_n dP_fold_9 rfl ?_
      refine ev_aload_n dP_fold_10 rfl ?_
      refine ev_get dP_fold_11 fl_P_35 rfl rfl ?_
      refine ev_icmp_gt (tgt := 94) dP_fold_14 rfl (by omega) (by omega) (by omega) (by omega) (fun hb => ?_) (fun hb => ?_)
      · omega
      · refine ev_aload_n dP_fold_17 rfl ?_
        refine ev_get dP_fold_18 fl_P_18 rfl rfl ?_
        refine ev_iload_n dP_fold_21 rfl ?_
        refine ev_iconst dP_fold_22 ?_
        refine ev_iadd dP_fold_23 ?_
        refine ev_aload_n dP_fold_24 rfl ?_
        refine ev_get dP_fold_25 fl_P_18 rfl rfl ?_
        refine ev_iload_n dP_fold_28 rfl ?_
        refine ev_iald dP_fold_29 rfl (by omega) (by omega) (by decide) ?_
        refine ev_iload_n dP_fold_30 rfl ?_
        refine ev_cS dP_fold_31 cs_P_60 (ct_dir h0 (by omega)) rfl rfl (Nat.le_of_ble_eq_true rfl) (Nat.le_of_ble_eq_true rfl) (Nat.le_of_ble_eq_true rfl) ?_
        refine ev_aload_n dP_fold_34 rfl ?_
        refine ev_iload_n dP_fold_35 rfl ?_
        refine ev_cV dP_fold_36 cv_P_63 (ct_segLen h0 (by omega) hn0 hn) rfl rfl rfl (Nat.le_of_ble_eq_true rfl) (Nat.le_of_ble_eq_true rfl) (Nat.le_of_ble_eq_true rfl) ?_
        refine ev_imul dP_fold_39 ?_
        refine ev_iadd dP_fold_40 ?_
        refine ev_iast dP_fold_41 rfl (by omega) (by omega) (by decide) ?_
        have e1 : ev_up (ev_ov (sp_B L n P) B (i + 1)) (i + 1) (ev_ov (sp_B L n P) B (i + 1) i + sp_dir i * (sp_re L n P i - sp_le P i)) = ev_ov (sp_B L n P) B (i + 1 + 1) := ev_ov_s (by omega) (by rw [ev_ov_in h0 (by omega), sp_B_s h0])
        rw [e1]
        have v1 : ev_ov (sp_B L n P) B (i + 1 + 1) i = sp_B L n P i := ev_ov_in h0 (by omega)
        have v2 : ev_ov (sp_B L n P) B (i + 1 + 1) (i + 1) = sp_B L n P (i + 1) := ev_ov_in (by omega) (by omega)
        refine ev_aload_n dP_fold_42 rfl ?_
        refine ev_get dP_fold_43 fl_P_21 rfl rfl ?_
        refine ev_iload_n dP_fold_46 rfl ?_
        refine ev_aload_n dP_fold_47 rfl ?_
        refine ev_get dP_fold_48 fl_P_18 rfl rfl ?_
        refine ev_iload_n dP_fold_51 rfl ?_
        refine ev_iald dP_fold_52 rfl (by omega) (by omega) (by decide) ?_
        refine ev_aload_n dP_fold_53 rfl ?_
        refine ev_get dP_fold_54 fl_P_18 rfl rfl ?_
        refine ev_iload_n dP_fold_57 rfl ?_
        refine ev_iconst dP_fold_58 ?_
        refine ev_iadd dP_fold_59 ?_
        refine ev_iald dP_fold_60 rfl (by omega) (by omega) (by decide) ?_
        rw [v1, v2]
        refine ev_min dP_fold_61 wm_P_66 ws_min wc_min (Nat.le_of_ble_eq_true rfl) (by omega) (by omega) (by omega) (by omega) ?_
        refine ev_iast dP_fold_64 rfl (by omega) (by omega) (by decide) ?_
        have e2 : ev_up (ev_ov (sp_lo L n P) lo i) i (if sp_B L n P (i + 1) < sp_B L n P i then sp_B L n P (i + 1) else sp_B L n P i) = ev_ov (sp_lo L n P) lo (i + 1) := ev_ov_s h0 rfl
        rw [e2]
        refine ev_aload_n dP_fold_65 rfl ?_
        refine ev_get dP_fold_66 fl_P_24 rfl rfl ?_
        refine ev_iload_n dP_fold_69 rfl ?_
        refine ev_aload_n dP_fold_70 rfl ?_
        refine ev_get dP_fold_71 fl_P_18 rfl rfl ?_
        refine ev_iload_n dP_fold_74 rfl ?_
        refine ev_iald dP_fold_75 rfl (by omega) (by omega) (by decide) ?_
        refine ev_aload_n dP_fold_76 rfl ?_
        refine ev_get dP_fold_77 fl_P_18 rfl rfl ?_
        refine ev_iload_n dP_fold_80 rfl ?_
        refine ev_iconst dP_fold_81 ?_
        refine ev_iadd dP_fold_82 ?_
        refine ev_iald dP_fold_83 rfl (by omega) (by omega) (by decide) ?_
        rw [v1, v2]
        refine ev_max dP_fold_84 wm_P_72 ws_max wc_max (Nat.le_of_ble_eq_true rfl) (by omega) (by omega) (by omega) (by omega) ?_
        refine ev_iast dP_fold_87 rfl (by omega) (by omega) (by decide) ?_
        have e3 : ev_up (ev_ov (sp_hi L n P) hi i) i (if sp_B L n P i < sp_B L n P (i + 1) then sp_B L n P (i + 1) else sp_B L n P i) = ev_ov (sp_hi L n P) hi (i + 1) := ev_ov_s h0 rfl
        rw [e3]
        refine ev_iinc dP_fold_88 rfl ?_
        refine ev_goto (tgt := 9) dP_fold_91 rfl ?_
        exact ih (i + 1) (by omega) (by omega)
  have := loop (n + 1).toNat 0 (by omega) (by omega)
  have e0 : ev_up B 0 0 = ev_ov (sp_B L n P) B (0 + 1) := by
    have := ev_ov_s (F := sp_B L n P) (G := B) (k := 0) (z := 0) (by omega) rfl
    rwa [ev_ov_0 _ _ (Int.le_refl _)] at this
  rw [e0]
  rw [ev_ov_0 _ _ (Int.le_refl _), ev_ov_0 _ _ (Int.le_refl _)] at this
  exact this
theorem ct_renew {L' : Int} (h1 : 1 ≤ L') (h2 : L' ≤ 60) : ev_C g mP_renew (d + 3) [.ref 1, ev_i L'] (pw L n tn P K B lo hi c0 t) 0 0
    (ev_V none (pw L' 0 false P K (ev_ov (sp_B L' 0 P) B 2) (ev_ov (sp_lo L' 0 P) lo 1) (ev_ov (sp_hi L' 0 P) hi 1) c0 t)) := by
  have ok : sp_ok L' 0 P K := ⟨h1, h2, by omega, by omega, fun i a b => by omega, fun i j a b c => by omega⟩
  refine ev_ofE (by decide +kernel) rfl (Nat.le_of_ble_eq_true rfl) rfl rfl ?_
  refine ev_aload_n dP_renew_0 rfl ?_
  refine ev_iload_n dP_renew_1 rfl ?_
  refine ev_put dP_renew_2 fp_P_31 (fun q => by cases q) rfl (Nat.le_of_ble_eq_true rfl) rfl rfl ?_
  refine ev_aload_n dP_renew_5 rfl ?_
  refine ev_iconst dP_renew_6 ?_
  refine ev_put dP_renew_7 fp_P_35 (fun q => by cases q) rfl (Nat.le_of_ble_eq_true rfl) rfl rfl ?_
  refine ev_aload_n dP_renew_10 rfl ?_
  refine ev_iconst dP_renew_11 ?_
  refine ev_put dP_renew_12 fp_P_38 (fun q => by cases q) rfl (Nat.le_of_ble_eq_true rfl) (ev_nbz (by first | decide | exact ev_b01 _)) (ev_fbz (by first | decide | exact ev_b01 _)) ?_
  refine ev_aload_n dP_renew_15 rfl ?_
  refine ev_cVv dP_renew_16 cv_P_42 (ct_fold (L := L') (n := 0) (tn := false) ok) rfl rfl rfl (Nat.le_of_ble_eq_true rfl) (Nat.le_of_ble_eq_true rfl) (Nat.le_of_ble_eq_true rfl) ?_
  refine ev_return dP_renew_19 rfl ?_
  exact ⟨rfl, rfl⟩
theorem ct_Pinit : ev_C g mP_init (d + 4) [.ref 1] [c0, .inr (1, [ev_i 0, ev_i 0, ev_i 0, .null, .null, .null, .null, .null])] 5 34
    (ev_V none (pw 1 0 false (fun _ => 0) (fun _ => 0) (ev_ov (sp_B 1 0 (fun _ => 0)) (fun _ => 0) 2) (ev_ov (sp_lo 1 0 (fun _ => 0)) (fun _ => 0) 1) (ev_ov (sp_hi 1 0 (fun _ => 0)) (fun _ => 0) 1) c0 [])) := by
  refine ev_ofE (by decide +kernel) rfl (Nat.le_of_ble_eq_true rfl) rfl rfl ?_
  refine ev_aload_n dP_init_0 rfl ?_
  refine ev_obj dP_init_1 wm_P_3 wo_i wo_c (Nat.le_of_ble_eq_true rfl) ?_
  refine ev_aload_n dP_init_4 rfl ?_
  refine ev_bipush dP_init_5 rfl ?_
  refine ev_nI (n := 6) dP_init_7 rfl (by decide) ?_
  refine ev_put dP_init_9 fp_P_9 (fun _ => rfl) rfl (Nat.le_of_ble_eq_true rfl) rfl rfl ?_
  refine ev_aload_n dP_init_12 rfl ?_
  refine ev_bipush dP_init_13 rfl ?_
  refine ev_nI (n := 6) dP_init_15 rfl (by decide) ?_
  refine ev_put dP_init_17 fp_P_15 (fun _ => rfl) rfl (Nat.le_of_ble_eq_true rfl) rfl rfl ?_
  refine ev_aload_n dP_init_20 rfl ?_
  refine ev_bipush dP_init_21 rfl ?_
  refine ev_nI (n := 8) dP_init_23 rfl (by decide) ?_
  refine ev_put dP_init_25 fp_P_18 (fun _ => rfl) rfl (Nat.le_of_ble_eq_true rfl) rfl rfl ?_
  refine ev_aload_n dP_init_28 rfl ?_
  refine ev_bipush dP_init_29 rfl ?_
  refine ev_nI (n := 7) dP_init_31 rfl (by decide) ?_
  refine ev_put dP_init_33 fp_P_21 (fun _ => rfl) rfl (Nat.le_of_ble_eq_true rfl) rfl rfl ?_
  refine ev_aload_n dP_init_36 rfl ?_
  refine ev_bipush dP_init_37 rfl ?_
  refine ev_nI (n := 7) dP_init_39 rfl (by decide) ?_
  refine ev_put dP_init_41 fp_P_24 (fun _ => rfl) rfl (Nat.le_of_ble_eq_true rfl) rfl rfl ?_
  refine ev_aload_n dP_init_44 rfl ?_
  refine ev_iconst dP_init_45 ?_
  refine ev_cVv dP_init_46 cv_P_27 (ct_renew (L := 0) (n := 0) (tn := false) (P := fun _ => 0) (K := fun _ => 0) (B := fun _ => 0) (lo := fun _ => 0) (hi := fun _ => 0) (L' := 1) (t := []) (by decide) (by decide)) rfl rfl rfl (Nat.le_of_ble_eq_true rfl) (Nat.le_of_ble_eq_true rfl) (Nat.le_of_ble_eq_true rfl) ?_
  refine ev_return dP_init_49 rfl ?_
  exact ⟨rfl, rfl⟩
def sp_has (n : Int) (P : Int → Int) (p : Int) : Prop := sp_bef n P p < n ∧ P (sp_bef n P p) = p
/-- 0: the crease is taken; 1: a wrong argument; 2: no room -/
def sp_jd (L n : Int) (P : Int → Int) (p m : Int) : Int :=
  if p < 1 ∨ L ≤ p ∨ m < 0 ∨ 3 < m then 1 else if sp_bef n P p < n ∧ P (sp_bef n P p) = p then 0 else if m = 3 then 1 else if n < 6 then 0 else 2
theorem ct_judge {p m : Int} (p1 : -2147483648 ≤ p) (p2 : p < 2147483648) (m1 : -2147483648 ≤ m) (m2 : m < 2147483648) (ok : sp_ok L n P K) :
    ev_C g mP_judgeCrease (d + 2) [.ref 1, ev_i p, ev_i m] (pw L n tn P K B lo hi c0 t) 0 0 (ev_V (some (ev_i (sp_jd L n P p m))) (pw L n tn P K B lo hi c0 t)) := by
  have hL := ok.1
  have hL2 := ok.2.1
  have hn0 := ok.2.2.1
  have hn := ok.2.2.2.1
  have hP : ∀ i, 0 ≤ i → i < n → 0 ≤ P i ∧ P i ≤ 60 := fun i a b => by have := ok.2.2.2.2.1 i a b; omega
  refine ev_ofE (by decide +kernel) rfl (Nat.le_of_ble_eq_true rfl) rfl rfl ?_
  refine ev_iload_n dP_judgeCrease_0 rfl ?_
  refine ev_iconst dP_judgeCrease_1 ?_
  refine ev_icmp_lt (tgt := 22) dP_judgeCrease_2 rfl (by omega) (by omega) (by omega) (by omega) (fun hb => ?_) (fun hb => ?_)
  · refine ev_iconst dP_judgeCrease_22 ?_
    refine ev_ireturn dP_judgeCrease_23 rfl ?_
    exact ⟨by rw [sp_jd, if_pos (by omega)], rfl⟩
  · refine ev_iload_n dP_judgeCrease_5 rfl ?_
    refine ev_aload_n dP_judgeCrease_6 rfl ?_
    refine ev_get dP_judgeCrease_7 fl_P_31 rfl rfl ?_
    refine ev_icmp_ge (tgt := 22) dP_judgeCrease_10 rfl (by omega) (by omega) (by omega) (by omega) (fun hb2 => ?_) (fun hb2 => ?_)
    · refine ev_iconst dP_judgeCrease_22 ?_
      refine ev_ireturn dP_judgeCrease_23 rfl ?_
      exact ⟨by rw [sp_jd, if_pos (by omega)], rfl⟩
    · refine ev_iload_n dP_judgeCrease_13 rfl ?_
      refine ev_if_lt (tgt := 22) dP_judgeCrease_14 rfl (by omega) (by omega) (fun hb3 => ?_) (fun hb3 => ?_)
      · refine ev_iconst dP_judgeCrease_22 ?_
        refine ev_ireturn dP_judgeCrease_23 rfl ?_
        exact ⟨by rw [sp_jd, if_pos (by omega)], rfl⟩
      · refine ev_iload_n dP_judgeCrease_17 rfl ?_
        refine ev_iconst dP_judgeCrease_18 ?_
        refine ev_icmp_le (tgt := 24) dP_judgeCrease_19 rfl (by omega) (by omega) (by omega) (by omega) (fun hb4 => ?_) (fun hb4 => ?_)
        · refine ev_aload_n dP_judgeCrease_24 rfl ?_
          refine ev_iload_n dP_judgeCrease_25 rfl ?_
          refine ev_cV dP_judgeCrease_26 cv_P_45 (ct_hasCrease p1 p2 hn0 hn hP) rfl rfl rfl (Nat.le_of_ble_eq_true rfl) (Nat.le_of_ble_eq_true rfl) (Nat.le_of_ble_eq_true rfl) ?_
          refine ev_bz (tgt := 34) dP_judgeCrease_29 rfl (fun hb5 => ?_) (fun hb5 => ?_)
          · refine ev_iload_n dP_judgeCrease_34 rfl ?_
            refine ev_iconst dP_judgeCrease_35 ?_
            have h5 := of_decide_eq_false hb5
            refine ev_icmp_ne (tgt := 41) dP_judgeCrease_36 rfl (by omega) (by omega) (by omega) (by omega) (fun hb6 => ?_) (fun hb6 => ?_)
            · refine ev_aload_n dP_judgeCrease_41 rfl ?_
              refine ev_get dP_judgeCrease_42 fl_P_35 rfl rfl ?_
              refine ev_bipush dP_judgeCrease_45 rfl ?_
              refine ev_icmp_ge (tgt := 54) dP_judgeCrease_47 rfl (by omega) (by omega) (by omega) (by omega) (fun hb7 => ?_) (fun hb7 => ?_)
              · refine ev_iconst dP_judgeCrease_54 ?_
                refine ev_ireturn dP_judgeCrease_55 rfl ?_
                exact ⟨by rw [sp_jd, if_neg (by omega), if_neg h5, if_neg hb6, if_neg (by omega)], rfl⟩
              · refine ev_iconst dP_judgeCrease_50 ?_
                refine ev_goto (tgt := 55) dP_judgeCrease_51 rfl ?_
                refine ev_ireturn dP_judgeCrease_55 rfl ?_
                exact ⟨by rw [sp_jd, if_neg (by omega), if_neg h5, if_neg hb6, if_pos (by omega)], rfl⟩
            · refine ev_iconst dP_judgeCrease_39 ?_
              refine ev_ireturn dP_judgeCrease_40 rfl ?_
              exact ⟨by rw [sp_jd, if_neg (by omega), if_neg h5, if_pos hb6], rfl⟩
          · refine ev_iconst dP_judgeCrease_32 ?_
            refine ev_ireturn dP_judgeCrease_33 rfl ?_
            exact ⟨by rw [sp_jd, if_neg (by omega), if_pos (of_decide_eq_true hb5)], rfl⟩
        · refine ev_iconst dP_judgeCrease_22 ?_
          refine ev_ireturn dP_judgeCrease_23 rfl ?_
          exact ⟨by rw [sp_jd, if_pos (by omega)], rfl⟩
theorem ct_foldedPlace {p : Int} (p0 : 0 ≤ p) (p2 : p ≤ 60) (ok : sp_ok L n P K) :
    ev_C g mP_foldedPlace (d + 2) [.ref 1, ev_i p] (pw L n tn P K B lo hi c0 t) 0 0 (ev_V (some (ev_i (B (sp_bef n P p) + sp_dir (sp_bef n P p) * (p - sp_le P (sp_bef n P p))))) (pw L n tn P K B lo hi c0 t)) := by
  have hn0 := ok.2.2.1
  have hn := ok.2.2.2.1
  have hP : ∀ i, 0 ≤ i → i < n → 0 ≤ P i ∧ P i ≤ 60 := fun i a b => by have := ok.2.2.2.2.1 i a b; have := ok.2.1; omega
  have hs := sp_bef_spec (n := n) (P := P) (p := p) hn0
  refine ev_ofE (by decide +kernel) rfl (Nat.le_of_ble_eq_true rfl) rfl rfl ?_
  refine ev_aload_n dP_foldedPlace_0 rfl ?_
  refine ev_iload_n dP_foldedPlace_1 rfl ?_
  refine ev_cV dP_foldedPlace_2 cv_P_49 (ct_before (by omega) (by omega) hn0 hn hP) rfl rfl rfl (Nat.le_of_ble_eq_true rfl) (Nat.le_of_ble_eq_true rfl) (Nat.le_of_ble_eq_true rfl) ?_
  refine ev_istore_n dP_foldedPlace_5 (Nat.le_of_ble_eq_true rfl) ?_
  refine ev_aload_n dP_foldedPlace_6 rfl ?_
  refine ev_get dP_foldedPlace_7 fl_P_18 rfl rfl ?_
  refine ev_iload_n dP_foldedPlace_10 rfl ?_
  refine ev_iald dP_foldedPlace_11 rfl (by omega) (by omega) (by decide) ?_
  refine ev_iload_n dP_foldedPlace_12 rfl ?_
  refine ev_cS dP_foldedPlace_13 cs_P_60 (ct_dir hs.1 (by omega)) rfl rfl (Nat.le_of_ble_eq_true rfl) (Nat.le_of_ble_eq_true rfl) (Nat.le_of_ble_eq_true rfl) ?_
  refine ev_iload_n dP_foldedPlace_16 rfl ?_
  refine ev_aload_n dP_foldedPlace_17 rfl ?_
  refine ev_iload_n dP_foldedPlace_18 rfl ?_
  refine ev_cV dP_foldedPlace_19 cv_P_78 (ct_leftEnd hs.1 (by omega)) rfl rfl rfl (Nat.le_of_ble_eq_true rfl) (Nat.le_of_ble_eq_true rfl) (Nat.le_of_ble_eq_true rfl) ?_
  refine ev_isub dP_foldedPlace_22 ?_
  refine ev_imul dP_foldedPlace_23 ?_
  refine ev_iadd dP_foldedPlace_24 ?_
  refine ev_ireturn dP_foldedPlace_25 rfl ?_
  exact ⟨rfl, rfl⟩
end PC
