/-! The laboratory: making it; readers -/
def rq (s : RS) : ev_AC := .inr (2, [.ref 1, .ref 8, .ref 9, .ref 10, ev_i s.1, ev_i s.2.1, .ref 11, .ref 12])
/-- the class's heap, the reductions' cells with it -/
def LR (s : SG) (ty : Int) (rs : RS) (kn : Bool) (fo : Int) (r : Nat) (mk : Int64) (t : List ev_AC) (h : List ev_AC) : Prop :=
  LB s ty (rq rs) (ev_ia 7 rs.2.2.1) (ev_ia 6 rs.2.2.2.1) (ev_ia 6 rs.2.2.2.2.1) (ev_ia 6 rs.2.2.2.2.2.1) (ev_ia 6 rs.2.2.2.2.2.2) kn fo r mk t h
def rd_st (s : SG) (rs : RS) : RS := (s.2.1 + 1, 0, ev_ov (sp_len s.1 s.2.1 s.2.2.2.1) rs.2.2.1 (s.2.1 + 1), ev_ov s.2.2.2.1 rs.2.2.2.1 s.2.1, ev_ov s.2.2.2.2 rs.2.2.2.2.1 s.2.1, rs.2.2.2.2.2.1, rs.2.2.2.2.2.2)
def rd_go (s : SG) (rs : RS) : RS := if 0 < sp_fr s.2.2.2.2 s.2.1.toNat then rs else rd_iter 6 (rd_st s rs)
theorem sp_fr_bd {K : Int → Int} : ∀ k : Nat, 0 ≤ sp_fr K k ∧ sp_fr K k ≤ k
  | 0 => by simp [sp_fr]
  | k + 1 => by
    have := sp_fr_bd (K := K) k
    unfold sp_fr
    split <;> push_cast <;> omega
section LB2
variable {g : ev_G} {d : Nat} {s : SG} {ty : Int} {rs : RS} {q1 q2 q3 q4 q5 q6 x : ev_AC} {kn : Bool} {fo : Int} {r : Nat} {mk : Int64} {S : Int → Int} {t : List ev_AC} {h : List ev_AC}
theorem ct_Finit : ev_C g mF_init (d + 5) [.ref 0] [.inr (0, [.null, .null, .null, .null, ev_i 0])] 15 210 (fun o h' => o = .inl none ∧ LR (1, 0, false, fun _ => 0, fun _ => 0) 0 (0, 0, fun _ => 0, fun _ => 0, fun _ => 0, fun _ => 0, fun _ => 0) false 0 14 0 [ev_ia 64 (fun _ => 0), ev_ia 60 (fun _ => 0)] h') := by
  refine ev_ofE (by decide +kernel) rfl (Nat.le_of_ble_eq_true rfl) rfl rfl ?_
  refine ev_aload_n dF_init_0 rfl ?_
  refine ev_obj dF_init_1 wm_F_3 wo_i wo_c (Nat.le_of_ble_eq_true rfl) ?_
  refine ev_aload_n dF_init_4 rfl ?_
  refine ev_new (M := mF_init) dF_init_5 nc_F_9 ?_
  refine ev_dup dF_init_8 rfl ?_
  refine ev_cI dF_init_9 ci_F_11 (ct_Pinit (c0 := .inr (0, [.null, .null, .null, .null, ev_i 0]))) rfl rfl rfl rfl (Nat.le_of_ble_eq_true rfl) (Nat.le_of_ble_eq_true rfl) (Nat.le_of_ble_eq_true rfl) ?_
  refine ev_put dF_init_12 fp_F_12 (fun _ => rfl) rfl (Nat.le_of_ble_eq_true rfl) rfl rfl ?_
  refine ev_aload_n dF_init_15 rfl ?_
  refine ev_new (M := mF_init) dF_init_16 nc_F_16 ?_
  refine ev_dup dF_init_19 rfl ?_
  refine ev_aload_n dF_init_20 rfl ?_
  refine ev_get dF_init_21 fl_F_12 rfl rfl ?_
  refine ev_cI dF_init_24 ci_F_18 (ct_Rinit (d := d + 3) (L := 1) (n := 0) (tn := false) (P := fun _ => 0) (K := fun _ => 0) (B := ev_ov (sp_B 1 0 (fun _ => 0)) (fun _ => 0) 2) (lo := ev_ov (sp_lo 1 0 (fun _ => 0)) (fun _ => 0) 1) (hi := ev_ov (sp_hi 1 0 (fun _ => 0)) (fun _ => 0) 1) (c0 := .inr (0, [.ref 1, .null, .null, .null, ev_i 0]))) rfl rfl rfl rfl (Nat.le_of_ble_eq_true rfl) (Nat.le_of_ble_eq_true rfl) (Nat.le_of_ble_eq_true rfl) ?_
  refine ev_put dF_init_27 fp_F_21 (fun _ => rfl) rfl (Nat.le_of_ble_eq_true rfl) rfl rfl ?_
  refine ev_aload_n dF_init_30 rfl ?_
  refine ev_new (M := mF_init) dF_init_31 nc_F_25 ?_
  refine ev_dup dF_init_34 rfl ?_
  refine ev_aload_n dF_init_35 rfl ?_
  refine ev_get dF_init_36 fl_F_12 rfl rfl ?_
  refine ev_cI dF_init_39 ci_F_27 (ct_Oinit (d := d + 3) (L := 1) (n := 0) (tn := false) (P := fun _ => 0) (K := fun _ => 0) (B := ev_ov (sp_B 1 0 (fun _ => 0)) (fun _ => 0) 2) (lo := ev_ov (sp_lo 1 0 (fun _ => 0)) (fun _ => 0) 1) (hi := ev_ov (sp_hi 1 0 (fun _ => 0)) (fun _ => 0) 1) (c0 := .inr (0, [.ref 1, .ref 7, .null, .null, ev_i 0])) (q1 := rq (0, 0, fun _ => 0, fun _ => 0, fun _ => 0, fun _ => 0, fun _ => 0)) (q2 := ev_ia 7 (fun _ => 0)) (q3 := ev_ia 6 (fun _ => 0)) (q4 := ev_ia 6 (fun _ => 0)) (q5 := ev_ia 6 (fun _ => 0)) (q6 := ev_ia 6 (fun _ => 0))) rfl rfl rfl rfl (Nat.le_of_ble_eq_true rfl) (Nat.le_of_ble_eq_true rfl) (Nat.le_of_ble_eq_true rfl) ?_
  refine ev_put dF_init_42 fp_F_28 (fun _ => rfl) rfl (Nat.le_of_ble_eq_true rfl) rfl rfl ?_
  refine ev_aload_n dF_init_45 rfl ?_
  refine ev_bipush dF_init_46 rfl ?_
  refine ev_nI (n := 60) dF_init_48 rfl (by decide) ?_
  refine ev_put dF_init_50 fp_F_32 (fun _ => rfl) rfl (Nat.le_of_ble_eq_true rfl) rfl rfl ?_
  refine ev_aload_n dF_init_53 rfl ?_
  refine ev_iconst dF_init_54 ?_
  refine ev_put dF_init_55 fp_F_36 (fun q => by cases q) rfl (Nat.le_of_ble_eq_true rfl) rfl rfl ?_
  refine ev_return dF_init_58 rfl ?_
  refine ⟨rfl, ⟨by decide, by decide, Int.le_refl 0, by show (0 : Int) ≤ 6; decide, fun i a b => by have : i < 0 := b; omega, fun i j a b c => by have : j < 0 := c; omega⟩, ev_ov (sp_B 1 0 (fun _ => 0)) (fun _ => 0) 2, ev_ov (sp_lo 1 0 (fun _ => 0)) (fun _ => 0) 1, ev_ov (sp_hi 1 0 (fun _ => 0)) (fun _ => 0) 1, rfl, gv_ov (1, 0, false, fun _ => 0, fun _ => 0) _ _ _⟩
theorem ct_Fwidth {B lo hi : Int → Int} (ok : sg_ok s) (gvv : gv s B lo hi) : ev_C g mF_width (d + 2) [.ref 0] (oh s.1 s.2.1 s.2.2.1 s.2.2.2.1 s.2.2.2.2 B lo hi (lc ty) q1 q2 q3 q4 q5 q6 kn fo r mk t) 0 0
    (ev_V (some (ev_i (sp_mx B (s.2.1 + 1).toNat - sp_mi B (s.2.1 + 1).toNat))) (oh s.1 s.2.1 s.2.2.1 s.2.2.2.1 s.2.2.2.2 B lo hi (lc ty) q1 q2 q3 q4 q5 q6 kn fo r mk t)) := by
  refine ev_ofE (by decide +kernel) rfl (Nat.le_of_ble_eq_true rfl) rfl rfl ?_
  refine ev_aload_n dF_width_0 rfl ?_
  refine ev_get dF_width_1 fl_F_12 rfl rfl ?_
  refine ev_cV dF_width_4 cv_F_116 (ct_reach ok.2.2.1 ok.2.2.2.1 (gv_B ok gvv)) rfl rfl rfl (Nat.le_of_ble_eq_true rfl) (Nat.le_of_ble_eq_true rfl) (Nat.le_of_ble_eq_true rfl) ?_
  refine ev_ireturn dF_width_7 rfl ?_
  exact ⟨rfl, rfl⟩
theorem ct_Fthick {B lo hi : Int → Int} (ok : sg_ok s) (gvv : gv s B lo hi) : ev_C g mF_thickness (d + 3) [.ref 0] (oh s.1 s.2.1 s.2.2.1 s.2.2.2.1 s.2.2.2.2 B lo hi (lc ty) q1 q2 q3 q4 q5 q6 kn fo r mk t) 0 0
    (ev_V (some (ev_i (sp_mo (fun i => sp_im lo hi (lo i) (s.2.1 + 1).toNat) (s.2.1 + 1).toNat))) (oh s.1 s.2.1 s.2.2.1 s.2.2.2.1 s.2.2.2.2 B lo hi (lc ty) q1 q2 q3 q4 q5 q6 kn fo r mk t)) := by
  refine ev_ofE (by decide +kernel) rfl (Nat.le_of_ble_eq_true rfl) rfl rfl ?_
  refine ev_aload_n dF_thickness_0 rfl ?_
  refine ev_get dF_thickness_1 fl_F_12 rfl rfl ?_
  refine ev_cV dF_thickness_4 cv_F_119 (ct_mostImages ok.2.2.1 ok.2.2.2.1 (gv_lo ok gvv) (gv_hi ok gvv)) rfl rfl rfl (Nat.le_of_ble_eq_true rfl) (Nat.le_of_ble_eq_true rfl) (Nat.le_of_ble_eq_true rfl) ?_
  refine ev_ireturn dF_thickness_7 rfl ?_
  exact ⟨rfl, rfl⟩
theorem ct_Fcount {B lo hi : Int → Int} {w : Int} (w1 : -2147483648 ≤ w) (w2 : w < 2147483648) (ok : sg_ok s) : ev_C g mF_count (d + 1) [.ref 0, ev_i w] (oh s.1 s.2.1 s.2.2.1 s.2.2.2.1 s.2.2.2.2 B lo hi (lc ty) q1 q2 q3 q4 q5 q6 kn fo r mk t) 0 0
    (ev_V (some (ev_i (if w = 0 then s.1 else if w = 1 then s.2.1 else if w = 2 then sp_fr s.2.2.2.2 s.2.1.toNat else if w = 3 then ty else -1))) (oh s.1 s.2.1 s.2.2.1 s.2.2.2.1 s.2.2.2.2 B lo hi (lc ty) q1 q2 q3 q4 q5 q6 kn fo r mk t)) := by
  refine ev_ofE (by decide +kernel) rfl (Nat.le_of_ble_eq_true rfl) rfl rfl ?_
  refine ev_iload_n dF_count_0 rfl ?_
  by_cases h0 : w = 0
  · subst h0
    refine ev_tableIn (tgt := 32) dF_count_1 w1 w2 (by decide) (by decide) rfl rfl ?_
    refine ev_aload_n dF_count_32 rfl ?_
    refine ev_get dF_count_33 fl_F_12 rfl rfl ?_
    refine ev_get dF_count_36 fl_F_75 rfl rfl ?_
    refine ev_ireturn dF_count_39 rfl ?_
    exact ⟨rfl, rfl⟩
  · by_cases h1 : w = 1
    · subst h1
      refine ev_tableIn (tgt := 40) dF_count_1 w1 w2 (by decide) (by decide) rfl rfl ?_
      refine ev_aload_n dF_count_40 rfl ?_
      refine ev_get dF_count_41 fl_F_12 rfl rfl ?_
      refine ev_get dF_count_44 fl_F_62 rfl rfl ?_
      refine ev_ireturn dF_count_47 rfl ?_
      exact ⟨rfl, rfl⟩
    · by_cases h2 : w = 2
      · subst h2
        refine ev_tableIn (tgt := 48) dF_count_1 w1 w2 (by decide) (by decide) rfl rfl ?_
        refine ev_aload_n dF_count_48 rfl ?_
        refine ev_get dF_count_49 fl_F_12 rfl rfl ?_
        refine ev_cV dF_count_52 cv_F_78 (ct_free ok.2.2.1 ok.2.2.2.1 (fun i a b => (ok.2.2.2.2.1 i a b).2.2)) rfl rfl rfl (Nat.le_of_ble_eq_true rfl) (Nat.le_of_ble_eq_true rfl) (Nat.le_of_ble_eq_true rfl) ?_
        refine ev_ireturn dF_count_55 rfl ?_
        exact ⟨rfl, rfl⟩
      · by_cases h3 : w = 3
        · subst h3
          refine ev_tableIn (tgt := 56) dF_count_1 w1 w2 (by decide) (by decide) rfl rfl ?_
          refine ev_aload_n dF_count_56 rfl ?_
          refine ev_get dF_count_57 fl_F_36 rfl rfl ?_
          refine ev_ireturn dF_count_60 rfl ?_
          exact ⟨rfl, rfl⟩
        · refine ev_tableOut (tgt := 61) dF_count_1 w1 w2 (by omega) rfl ?_
          refine ev_iconst dF_count_61 ?_
          refine ev_ireturn dF_count_62 rfl ?_
          exact ⟨by rw [if_neg h0, if_neg h1, if_neg h2, if_neg h3], rfl⟩
theorem rd_iter_bd : ∀ (k i : Nat) (s : RS), i + k ≤ 6 → rd_inv i s → 1 ≤ (rd_iter k s).1 ∧ (rd_iter k s).1 ≤ 7 ∧ 0 ≤ (rd_iter k s).2.1 ∧ (rd_iter k s).2.1 ≤ 7
  | 0, _, s, _, h => ⟨h.1, h.2.1, h.2.2.1, by have := h.2.2.2.1; have := h.1; show s.2.1 ≤ 7; omega⟩
  | k + 1, i, s, hk, h => by
    unfold rd_iter
    by_cases h1 : 1 < s.1
    · rw [if_pos h1]
      cases he : rd_step s with
      | none => exact ⟨h.1, h.2.1, h.2.2.1, by have := h.2.2.2.1; have := h.1; show s.2.1 ≤ 7; omega⟩
      | some s' => exact rd_iter_bd k (i + 1) s' (by omega) (rd_inv_s (by omega) h h1 he)
    · rw [if_neg h1]
      exact ⟨h.1, h.2.1, h.2.2.1, by have := h.2.2.2.1; have := h.1; show s.2.1 ≤ 7; omega⟩
theorem rd_st_inv (ok : sg_ok s) : rd_inv 0 (rd_st s rs) := by
  have hn0 := ok.2.2.1
  have hn := ok.2.2.2.1
  refine ⟨by show 1 ≤ s.2.1 + 1; omega, by show s.2.1 + 1 ≤ 7; omega, Int.le_refl _, by show 0 + (s.2.1 + 1) ≤ 7; omega, fun j j0 j1 => ?_, fun j j0 j1 => ?_⟩
  · have j1 : j < s.2.1 + 1 := j1
    show 0 ≤ ev_ov (sp_len s.1 s.2.1 s.2.2.2.1) rs.2.2.1 (s.2.1 + 1) j ∧ ev_ov (sp_len s.1 s.2.1 s.2.2.2.1) rs.2.2.1 (s.2.1 + 1) j ≤ 60
    rw [ev_ov_in j0 j1]
    have := sp_len_bd ok j0 (by omega); omega
  · have j1 : j < s.2.1 + 1 - 1 := j1
    show 0 ≤ ev_ov s.2.2.2.2 rs.2.2.2.2.1 s.2.1 j ∧ ev_ov s.2.2.2.2 rs.2.2.2.2.1 s.2.1 j ≤ 2
    rw [ev_ov_in j0 (by omega)]
    have := ok.2.2.2.2.1 j j0 (by omega); omega
theorem ct_Ffoldable (hh : LR s ty rs kn fo r mk t h) : ev_C g mF_foldable (d + 4) [.ref 0] h 0 0
    (fun o h' => o = .inl (some (ev_i (if 0 < sp_fr s.2.2.2.2 s.2.1.toNat then -1 else if (rd_go s rs).1 = 1 then 1 else 0))) ∧ LR s ty (rd_go s rs) kn fo r mk t h') := by
  obtain ⟨L, n, tn, P, K⟩ := s
  obtain ⟨rem, dn, le, rp, rm, kd, wa⟩ := rs
  obtain ⟨ok, B, lo, hi, rfl, gvv⟩ := hh
  have hf := sp_fr_bd (K := K) n.toNat
  have hn : n ≤ 6 := ok.2.2.2.1
  refine ev_ofE (by decide +kernel) rfl (Nat.le_of_ble_eq_true rfl) rfl rfl ?_
  refine ev_aload_n dF_foldable_0 rfl ?_
  refine ev_get dF_foldable_1 fl_F_12 rfl rfl ?_
  refine ev_cV dF_foldable_4 cv_F_78 (ct_free (d := d + 3) (L := L) (n := n) (tn := tn) (P := P) (K := K) (B := B) (lo := lo) (hi := hi) ok.2.2.1 ok.2.2.2.1 (fun i a b => (ok.2.2.2.2.1 i a b).2.2)) rfl rfl rfl (Nat.le_of_ble_eq_true rfl) (Nat.le_of_ble_eq_true rfl) (Nat.le_of_ble_eq_true rfl) ?_
  refine ev_if_le (tgt := 12) dF_foldable_7 rfl (by omega) (by omega) (fun hb => ?_) (fun hb => ?_)
  · have e : rd_go (L, n, tn, P, K) (rem, dn, le, rp, rm, kd, wa) = rd_iter 6 (rd_st (L, n, tn, P, K) (rem, dn, le, rp, rm, kd, wa)) := if_neg (by show ¬ 0 < sp_fr K n.toNat; omega)
    have hbd := rd_iter_bd 6 0 _ (by omega) (rd_st_inv (s := (L, n, tn, P, K)) (rs := (rem, dn, le, rp, rm, kd, wa)) ok)
    refine ev_aload_n dF_foldable_12 rfl ?_
    refine ev_get dF_foldable_13 fl_F_21 rfl rfl ?_
    refine ev_cVv dF_foldable_16 cv_F_122 (ct_reduce (d := d) (L := L) (n := n) (tn := tn) (P := P) (K := K) (B := B) (lo := lo) (hi := hi) (rem := rem) (dn := dn) (le := le) (rp := rp) (rm := rm) (kd := kd) (wa := wa) ok) rfl rfl rfl (Nat.le_of_ble_eq_true rfl) (Nat.le_of_ble_eq_true rfl) (Nat.le_of_ble_eq_true rfl) ?_
    have e2 : rd_iter 6 (n + 1, 0, ev_ov (sp_len L n P) le (n + 1), ev_ov P rp n, ev_ov K rm n, kd, wa) = rd_go (L, n, tn, P, K) (rem, dn, le, rp, rm, kd, wa) := e.symm
    rw [← e] at hbd
    rw [e2]
    generalize rd_go (L, n, tn, P, K) (rem, dn, le, rp, rm, kd, wa) = fin at *
    refine ev_aload_n dF_foldable_19 rfl ?_
    refine ev_get dF_foldable_20 fl_F_21 rfl rfl ?_
    refine ev_get dF_foldable_23 fl_F_125 rfl rfl ?_
    refine ev_iconst dF_foldable_26 ?_
    refine ev_icmp_ne (tgt := 34) dF_foldable_27 rfl (by omega) (by omega) (by omega) (by omega) (fun hb2 => ?_) (fun hb2 => ?_)
    · refine ev_iconst dF_foldable_34 ?_
      refine ev_ireturn dF_foldable_35 rfl ?_
      exact ⟨by rw [if_neg (by show ¬ 0 < sp_fr K n.toNat; omega), if_neg hb2], ok, B, lo, hi, rfl, gvv⟩
    · refine ev_iconst dF_foldable_30 ?_
      refine ev_goto (tgt := 35) dF_foldable_31 rfl ?_
      refine ev_ireturn dF_foldable_35 rfl ?_
      exact ⟨by rw [if_neg (by show ¬ 0 < sp_fr K n.toNat; omega), if_pos hb2], ok, B, lo, hi, rfl, gvv⟩
  · have e : rd_go (L, n, tn, P, K) (rem, dn, le, rp, rm, kd, wa) = (rem, dn, le, rp, rm, kd, wa) := if_pos hb
    rw [e]
    refine ev_iconst dF_foldable_10 ?_
    refine ev_ireturn dF_foldable_11 rfl ?_
    exact ⟨by rw [if_pos (show 0 < sp_fr K n.toNat from hb)], ok, B, lo, hi, rfl, gvv⟩
theorem ct_Fsteps (hh : LR s ty rs kn fo r mk t h) : ev_C g mF_steps (d + 4) [.ref 0] h 0 0
    (fun o h' => o = .inl (some (ev_i (if 0 < sp_fr s.2.2.2.2 s.2.1.toNat then -1 else (rd_go s rs).2.1))) ∧ LR s ty (rd_go s rs) kn fo r mk t h') := by
  obtain ⟨L, n, tn, P, K⟩ := s
  obtain ⟨rem, dn, le, rp, rm, kd, wa⟩ := rs
  obtain ⟨ok, B, lo, hi, rfl, gvv⟩ := hh
  have hf := sp_fr_bd (K := K) n.toNat
  have hn : n ≤ 6 := ok.2.2.2.1
  refine ev_ofE (by decide +kernel) rfl (Nat.le_of_ble_eq_true rfl) rfl rfl ?_
  refine ev_aload_n dF_steps_0 rfl ?_
  refine ev_get dF_steps_1 fl_F_12 rfl rfl ?_
  refine ev_cV dF_steps_4 cv_F_78 (ct_free (d := d + 3) (L := L) (n := n) (tn := tn) (P := P) (K := K) (B := B) (lo := lo) (hi := hi) ok.2.2.1 ok.2.2.2.1 (fun i a b => (ok.2.2.2.2.1 i a b).2.2)) rfl rfl rfl (Nat.le_of_ble_eq_true rfl) (Nat.le_of_ble_eq_true rfl) (Nat.le_of_ble_eq_true rfl) ?_
  refine ev_if_le (tgt := 12) dF_steps_7 rfl (by omega) (by omega) (fun hb => ?_) (fun hb => ?_)
  · have e : rd_go (L, n, tn, P, K) (rem, dn, le, rp, rm, kd, wa) = rd_iter 6 (rd_st (L, n, tn, P, K) (rem, dn, le, rp, rm, kd, wa)) := if_neg (by show ¬ 0 < sp_fr K n.toNat; omega)
    refine ev_aload_n dF_steps_12 rfl ?_
    refine ev_get dF_steps_13 fl_F_21 rfl rfl ?_
    refine ev_cVv dF_steps_16 cv_F_122 (ct_reduce (d := d) (L := L) (n := n) (tn := tn) (P := P) (K := K) (B := B) (lo := lo) (hi := hi) (rem := rem) (dn := dn) (le := le) (rp := rp) (rm := rm) (kd := kd) (wa := wa) ok) rfl rfl rfl (Nat.le_of_ble_eq_true rfl) (Nat.le_of_ble_eq_true rfl) (Nat.le_of_ble_eq_true rfl) ?_
    have e2 : rd_iter 6 (n + 1, 0, ev_ov (sp_len L n P) le (n + 1), ev_ov P rp n, ev_ov K rm n, kd, wa) = rd_go (L, n, tn, P, K) (rem, dn, le, rp, rm, kd, wa) := e.symm
    rw [e2]
    generalize rd_go (L, n, tn, P, K) (rem, dn, le, rp, rm, kd, wa) = fin at *
    refine ev_aload_n dF_steps_19 rfl ?_
    refine ev_get dF_steps_20 fl_F_21 rfl rfl ?_
    refine ev_get dF_steps_23 fl_F_128 rfl rfl ?_
    refine ev_ireturn dF_steps_26 rfl ?_
    exact ⟨by rw [if_neg (by show ¬ 0 < sp_fr K n.toNat; omega)], ok, B, lo, hi, rfl, gvv⟩
  · have e : rd_go (L, n, tn, P, K) (rem, dn, le, rp, rm, kd, wa) = (rem, dn, le, rp, rm, kd, wa) := if_pos hb
    rw [e]
    refine ev_iconst dF_steps_10 ?_
    refine ev_ireturn dF_steps_11 rfl ?_
    exact ⟨by rw [if_pos (show 0 < sp_fr K n.toNat from hb)], ok, B, lo, hi, rfl, gvv⟩
end LB2
