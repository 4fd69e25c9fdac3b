/-! The reference: segment, width, thickness -/
theorem sp_F_bd (n : Int) (P : Int → Int) : ∀ p : Nat, -(p : Int) ≤ sp_F n P p ∧ sp_F n P p ≤ p
  | 0 => ⟨by show (0 : Int) ≤ 0; decide, by show (0 : Int) ≤ 0; decide⟩
  | p + 1 => by
    have ih := sp_F_bd n P p
    unfold sp_F
    split <;> push_cast <;> omega
/-- the least and the greatest folded place of the first k points -/
def mw_l (n : Int) (P : Int → Int) : Nat → Int
  | 0 => 0
  | k + 1 => if sp_F n P k < mw_l n P k then sp_F n P k else mw_l n P k
def mw_m (n : Int) (P : Int → Int) : Nat → Int
  | 0 => 0
  | k + 1 => if mw_m n P k < sp_F n P k then sp_F n P k else mw_m n P k
theorem mw_bd (n : Int) (P : Int → Int) : ∀ k : Nat, -(k : Int) ≤ mw_l n P k ∧ mw_l n P k ≤ 0 ∧ 0 ≤ mw_m n P k ∧ mw_m n P k ≤ k
  | 0 => ⟨by show (0 : Int) ≤ 0; decide, by show (0 : Int) ≤ 0; decide, by show (0 : Int) ≤ 0; decide, by show (0 : Int) ≤ 0; decide⟩
  | k + 1 => by
    have ih := mw_bd n P k
    have hf := sp_F_bd n P k
    unfold mw_l mw_m
    split <;> split <;> push_cast <;> omega
section R6
variable {g : ev_G} {d : Nat} {c : Nat → ev_AC} {h : List ev_AC} {th L n : Int} {tn : Bool} {P K S : Int → Int} {ty : Int} {z : MZ} {y : MY} {t : List ev_AC}
abbrev mo_Q (r : Int ⊕ Nat) (cd : Nat → Int) (H : Int → List ev_AC) : ev_O → List ev_AC → Prop := ev_V (some (ev_i (mo_v r))) (H (mo_c cd r))
theorem ct_Msegment {i w : Int} (i1 : -2147483648 ≤ i) (i2 : i < 2147483648) (w1 : -2147483648 ≤ w) (w2 : w < 2147483648) (ok : sp_ok L n P K) : ev_C g mM_segment (d + 3) [.ref 16, ev_i i, ev_i w] (MH c th L n tn P K S ty z y t) 0 0
    (mo_Q (lb_seg (L, n, tn, P, K) i w) cd_O (fun th => MH c th L n tn P K S ty z y t)) := by
  have hn0 := ok.2.2.1
  have hn := ok.2.2.2.1
  refine ev_ofE (by decide +kernel) rfl (Nat.le_of_ble_eq_true rfl) rfl rfl ?_
  have badC : ∀ {q : Int}, ¬ (0 ≤ i ∧ i ≤ n) → ev_E g false mM_segment (d + 3) 32 [some (.ref 16), some (ev_i i), some (ev_i w)] [ev_i q, ev_i 1, .ref 16] (MH c th L n tn P K S ty z y t) 0 0 (mo_Q (lb_seg (L, n, tn, P, K) i w) cd_O (fun th => MH c th L n tn P K S ty z y t)) := by
    intro q hi
    rw [show lb_seg (L, n, tn, P, K) i w = .inr 7 from if_neg hi]
    refine ev_cV dM_segment_32 cv_M_59 (ct_Mref1) rfl rfl rfl (Nat.le_of_ble_eq_true rfl) (Nat.le_of_ble_eq_true rfl) (Nat.le_of_ble_eq_true rfl) ?_
    refine ev_if_eq (tgt := 40) dM_segment_35 rfl (by omega) (by omega) (fun h3 => ?_) (fun h3 => ?_)
    · omega
    · refine ev_iconst dM_segment_38 ?_
      refine ev_ireturn dM_segment_39 rfl ?_
      exact ⟨rfl, rfl⟩
  have badA : ¬ (0 ≤ i ∧ i ≤ n) → ev_E g false mM_segment (d + 3) 18 [some (.ref 16), some (ev_i i), some (ev_i w)] [ev_i 1, .ref 16] (MH c th L n tn P K S ty z y t) 0 0 (mo_Q (lb_seg (L, n, tn, P, K) i w) cd_O (fun th => MH c th L n tn P K S ty z y t)) := by
    intro hi
    refine ev_iload_n dM_segment_18 rfl ?_
    refine ev_if_lt (tgt := 27) dM_segment_19 rfl (by omega) (by omega) (fun h1 => ?_) (fun h1 => ?_)
    · refine ev_iconst dM_segment_27 ?_
      refine ev_goto (tgt := 32) dM_segment_28 rfl ?_
      exact badC hi
    · refine ev_iload_n dM_segment_22 rfl ?_
      refine ev_iconst dM_segment_23 ?_
      refine ev_icmp_le (tgt := 31) dM_segment_24 rfl (by omega) (by omega) (by omega) (by omega) (fun h2 => ?_) (fun h2 => ?_)
      · refine ev_iconst dM_segment_31 ?_
        exact badC hi
      · refine ev_iconst dM_segment_27 ?_
        refine ev_goto (tgt := 32) dM_segment_28 rfl ?_
        exact badC hi
  have badW : (0 ≤ i ∧ i ≤ n) → (w < 0 ∨ 5 < w) → ev_E g false mM_segment (d + 3) 27 [some (.ref 16), some (ev_i i), some (ev_i w)] [ev_i 0, .ref 16] (MH c th L n tn P K S ty z y t) 0 0 (mo_Q (lb_seg (L, n, tn, P, K) i w) cd_O (fun th => MH c th L n tn P K S ty z y t)) := by
    intro hi hw
    have e : lb_seg (L, n, tn, P, K) i w = .inr 5 := by
      unfold lb_seg
      rw [if_pos hi, if_neg (by omega), if_neg (by omega), if_neg (by omega), if_neg (by omega), if_neg (by omega), if_neg (by omega)]
    rw [e]
    refine ev_iconst dM_segment_27 ?_
    refine ev_goto (tgt := 32) dM_segment_28 rfl ?_
    refine ev_cV dM_segment_32 cv_M_59 (ct_Mref2) rfl rfl rfl (Nat.le_of_ble_eq_true rfl) (Nat.le_of_ble_eq_true rfl) (Nat.le_of_ble_eq_true rfl) ?_
    refine ev_if_eq (tgt := 40) dM_segment_35 rfl (by omega) (by omega) (fun h3 => ?_) (fun h3 => ?_)
    · omega
    · refine ev_iconst dM_segment_38 ?_
      refine ev_ireturn dM_segment_39 rfl ?_
      exact ⟨rfl, rfl⟩
  have good : (0 ≤ i ∧ i ≤ n) → (0 ≤ w ∧ w ≤ 5) → ev_E g false mM_segment (d + 3) 31 [some (.ref 16), some (ev_i i), some (ev_i w)] [ev_i 0, .ref 16] (MH c th L n tn P K S ty z y t) 0 0 (mo_Q (lb_seg (L, n, tn, P, K) i w) cd_O (fun th => MH c th L n tn P K S ty z y t)) := by
    intro hi hw
    refine ev_iconst dM_segment_31 ?_
    refine ev_cV dM_segment_32 cv_M_59 (ct_Mref0) rfl rfl rfl (Nat.le_of_ble_eq_true rfl) (Nat.le_of_ble_eq_true rfl) (Nat.le_of_ble_eq_true rfl) ?_
    refine ev_if_eq (tgt := 40) dM_segment_35 rfl (by omega) (by omega) (fun h3 => ?_) (fun h3 => ?_)
    · refine ev_iload_n dM_segment_40 rfl ?_
      have hw6 : w = 0 ∨ w = 1 ∨ w = 2 ∨ w = 3 ∨ w = 4 ∨ w = 5 := by omega
      rcases hw6 with rfl | rfl | rfl | rfl | rfl | rfl
      · rw [show lb_seg (L, n, tn, P, K) i 0 = .inl (sp_le P i) by unfold lb_seg; rw [if_pos hi, if_pos rfl]]
        refine ev_tableIn (tgt := 76) dM_segment_41 w1 w2 (by decide) (by decide) rfl rfl ?_
        refine ev_aload_n dM_segment_76 rfl ?_
        refine ev_iload_n dM_segment_77 rfl ?_
        refine ev_cV dM_segment_78 cv_M_81 (ct_MleftEnd (th := 0) hi.1 (by omega)) rfl rfl rfl (Nat.le_of_ble_eq_true rfl) (Nat.le_of_ble_eq_true rfl) (Nat.le_of_ble_eq_true rfl) ?_
        refine ev_ireturn dM_segment_81 rfl ?_
        exact ⟨rfl, rfl⟩
      · rw [show lb_seg (L, n, tn, P, K) i 1 = .inl (sp_re L n P i) by unfold lb_seg; rw [if_pos hi, if_neg (by decide), if_pos rfl]]
        refine ev_tableIn (tgt := 82) dM_segment_41 w1 w2 (by decide) (by decide) rfl rfl ?_
        refine ev_aload_n dM_segment_82 rfl ?_
        refine ev_iload_n dM_segment_83 rfl ?_
        refine ev_cV dM_segment_84 cv_M_87 (ct_MrightEnd (th := 0) hi.1 hi.2 hn) rfl rfl rfl (Nat.le_of_ble_eq_true rfl) (Nat.le_of_ble_eq_true rfl) (Nat.le_of_ble_eq_true rfl) ?_
        refine ev_ireturn dM_segment_87 rfl ?_
        exact ⟨rfl, rfl⟩
      · rw [show lb_seg (L, n, tn, P, K) i 2 = .inl (sp_lo L n P i) by unfold lb_seg; rw [if_pos hi, if_neg (by decide), if_neg (by decide), if_pos rfl]]
        refine ev_tableIn (tgt := 88) dM_segment_41 w1 w2 (by decide) (by decide) rfl rfl ?_
        refine ev_aload_n dM_segment_88 rfl ?_
        refine ev_iload_n dM_segment_89 rfl ?_
        refine ev_cV dM_segment_90 cv_M_90 (ct_Mlow (th := 0) ok hi.1 hi.2) rfl rfl rfl (Nat.le_of_ble_eq_true rfl) (Nat.le_of_ble_eq_true rfl) (Nat.le_of_ble_eq_true rfl) ?_
        refine ev_ireturn dM_segment_93 rfl ?_
        exact ⟨rfl, rfl⟩
      · rw [show lb_seg (L, n, tn, P, K) i 3 = .inl (sp_hi L n P i) by unfold lb_seg; rw [if_pos hi, if_neg (by decide), if_neg (by decide), if_neg (by decide), if_pos rfl]]
        refine ev_tableIn (tgt := 94) dM_segment_41 w1 w2 (by decide) (by decide) rfl rfl ?_
        refine ev_aload_n dM_segment_94 rfl ?_
        refine ev_iload_n dM_segment_95 rfl ?_
        refine ev_cV dM_segment_96 cv_M_93 (ct_Mhigh (th := 0) ok hi.1 hi.2) rfl rfl rfl (Nat.le_of_ble_eq_true rfl) (Nat.le_of_ble_eq_true rfl) (Nat.le_of_ble_eq_true rfl) ?_
        refine ev_ireturn dM_segment_99 rfl ?_
        exact ⟨rfl, rfl⟩
      · rw [show lb_seg (L, n, tn, P, K) i 4 = .inl (ev_b (sp_up tn i)) by unfold lb_seg; rw [if_pos hi, if_neg (by decide), if_neg (by decide), if_neg (by decide), if_neg (by decide), if_pos rfl]]
        refine ev_tableIn (tgt := 100) dM_segment_41 w1 w2 (by decide) (by decide) rfl rfl ?_
        refine ev_aload_n dM_segment_100 rfl ?_
        refine ev_iload_n dM_segment_101 rfl ?_
        refine ev_cV dM_segment_102 cv_M_96 (ct_MisUp (th := 0) hi.1 i2) rfl rfl rfl (Nat.le_of_ble_eq_true rfl) (Nat.le_of_ble_eq_true rfl) (Nat.le_of_ble_eq_true rfl) ?_
        refine ev_bz (tgt := 112) dM_segment_105 rfl (fun hb => ?_) (fun hb => ?_)
        · refine ev_iconst dM_segment_112 ?_
          refine ev_ireturn dM_segment_113 rfl ?_
          exact ⟨by rw [hb]; rfl, rfl⟩
        · refine ev_iconst dM_segment_108 ?_
          refine ev_goto (tgt := 113) dM_segment_109 rfl ?_
          refine ev_ireturn dM_segment_113 rfl ?_
          exact ⟨by rw [hb]; rfl, rfl⟩
      · rw [show lb_seg (L, n, tn, P, K) i 5 = .inl (if i < n then K i else -1) by unfold lb_seg; rw [if_pos hi, if_neg (by decide), if_neg (by decide), if_neg (by decide), if_neg (by decide), if_neg (by decide), if_pos rfl]]
        refine ev_tableOut (tgt := 114) dM_segment_41 w1 w2 (Or.inr (by decide)) rfl ?_
        refine ev_iload_n dM_segment_114 rfl ?_
        refine ev_aload_n dM_segment_115 rfl ?_
        refine ev_get dM_segment_116 fl_M_63 rfl rfl ?_
        refine ev_icmp_ge (tgt := 131) dM_segment_119 rfl (by omega) (by omega) (by omega) (by omega) (fun hb => ?_) (fun hb => ?_)
        · rw [if_neg (by omega)]
          refine ev_iconst dM_segment_131 ?_
          refine ev_ireturn dM_segment_132 rfl ?_
          exact ⟨rfl, rfl⟩
        · rw [if_pos hb]
          have hi1 := hi.1
          refine ev_aload_n dM_segment_122 rfl ?_
          refine ev_get dM_segment_123 fl_M_17 rfl rfl ?_
          refine ev_iload_n dM_segment_126 rfl ?_
          refine ev_iald dM_segment_127 rfl (by omega) (by omega) (by decide) ?_
          refine ev_goto (tgt := 132) dM_segment_128 rfl ?_
          refine ev_ireturn dM_segment_132 rfl ?_
          exact ⟨rfl, rfl⟩
    · omega
  refine ev_aload_n dM_segment_0 rfl ?_
  refine ev_iload_n dM_segment_1 rfl ?_
  refine ev_if_lt (tgt := 13) dM_segment_2 rfl (by omega) (by omega) (fun h1 => ?_) (fun h1 => ?_)
  · refine ev_iconst dM_segment_13 ?_
    refine ev_goto (tgt := 18) dM_segment_14 rfl ?_
    exact badA (by omega)
  · refine ev_iload_n dM_segment_5 rfl ?_
    refine ev_aload_n dM_segment_6 rfl ?_
    refine ev_get dM_segment_7 fl_M_63 rfl rfl ?_
    refine ev_icmp_le (tgt := 17) dM_segment_10 rfl (by omega) (by omega) (by omega) (by omega) (fun h2 => ?_) (fun h2 => ?_)
    · refine ev_iconst dM_segment_17 ?_
      refine ev_iload_n dM_segment_18 rfl ?_
      refine ev_if_lt (tgt := 27) dM_segment_19 rfl (by omega) (by omega) (fun h3 => ?_) (fun h3 => ?_)
      · exact badW ⟨h1, h2⟩ (Or.inl h3)
      · refine ev_iload_n dM_segment_22 rfl ?_
        refine ev_iconst dM_segment_23 ?_
        refine ev_icmp_le (tgt := 31) dM_segment_24 rfl (by omega) (by omega) (by omega) (by omega) (fun h4 => ?_) (fun h4 => ?_)
        · exact good ⟨h1, h2⟩ ⟨h3, h4⟩
        · exact badW ⟨h1, h2⟩ (Or.inr h4)
    · refine ev_iconst dM_segment_13 ?_
      refine ev_goto (tgt := 18) dM_segment_14 rfl ?_
      exact badA (by omega)
theorem ct_Mwidth (ok : sp_ok L n P K) : ev_C g mM_width (d + 1) [.ref 16] (MH c th L n tn P K S ty z y t) 0 0
    (ev_V (some (ev_i (mw_m n P (L + 1).toNat - mw_l n P (L + 1).toNat))) (MH c 0 L n tn P K S ty z y t)) := by
  have hn0 := ok.2.2.1
  have hn := ok.2.2.2.1
  have hL0 := ok.1
  have hL := ok.2.1
  refine ev_ofE (by decide +kernel) rfl (Nat.le_of_ble_eq_true rfl) rfl rfl ?_
  have mid : ∀ (i : Nat) (l : Int), (i : Int) ≤ L →
      ev_E g false mM_width (d + 1) 11 [some (.ref 16), some (ev_i l), some (ev_i (mw_m n P (i + 1))), some (ev_i ((i + 1 : Nat) : Int))] [] (MH c 0 L n tn P K S ty z y t) 0 0 (ev_V (some (ev_i (mw_m n P (L + 1).toNat - mw_l n P (L + 1).toNat))) (MH c 0 L n tn P K S ty z y t)) →
      ev_E g false mM_width (d + 1) 38 [some (.ref 16), some (ev_i l), some (ev_i (mw_m n P i)), some (ev_i (i : Int))] [] (MH c 0 L n tn P K S ty z y t) 0 0 (ev_V (some (ev_i (mw_m n P (L + 1).toNat - mw_l n P (L + 1).toNat))) (MH c 0 L n tn P K S ty z y t)) := by
    intro i l hi cont
    have hf := sp_F_bd n P i
    have hm := mw_bd n P i
    refine ev_aload_n dM_width_38 rfl ?_
    refine ev_iload_n dM_width_39 rfl ?_
    refine ev_cV dM_width_40 cv_M_84 (ct_MfoldN (p := i) (th := 0) (by omega) hn0 hn (sp_P60 ok)) rfl rfl rfl (Nat.le_of_ble_eq_true rfl) (Nat.le_of_ble_eq_true rfl) (Nat.le_of_ble_eq_true rfl) ?_
    refine ev_iload_n dM_width_43 rfl ?_
    refine ev_icmp_le (tgt := 55) dM_width_44 rfl (by omega) (by omega) (by omega) (by omega) (fun hb => ?_) (fun hb => ?_)
    · rw [mw_m, if_neg (by omega)] at cont
      refine ev_iload_n dM_width_55 rfl ?_
      refine ev_istore_n dM_width_56 (Nat.le_of_ble_eq_true rfl) ?_
      refine ev_iinc dM_width_57 rfl ?_
      refine ev_goto (tgt := 11) dM_width_60 rfl ?_
      exact cont
    · rw [mw_m, if_pos hb] at cont
      refine ev_aload_n dM_width_47 rfl ?_
      refine ev_iload_n dM_width_48 rfl ?_
      refine ev_cV dM_width_49 cv_M_84 (ct_MfoldN (p := i) (th := 0) (by omega) hn0 hn (sp_P60 ok)) rfl rfl rfl (Nat.le_of_ble_eq_true rfl) (Nat.le_of_ble_eq_true rfl) (Nat.le_of_ble_eq_true rfl) ?_
      refine ev_goto (tgt := 56) dM_width_52 rfl ?_
      refine ev_istore_n dM_width_56 (Nat.le_of_ble_eq_true rfl) ?_
      refine ev_iinc dM_width_57 rfl ?_
      refine ev_goto (tgt := 11) dM_width_60 rfl ?_
      exact cont
  have loop : ∀ (k i : Nat), (i : Int) + k = L + 1 →
      ev_E g false mM_width (d + 1) 11 [some (.ref 16), some (ev_i (mw_l n P i)), some (ev_i (mw_m n P i)), some (ev_i (i : Int))] [] (MH c 0 L n tn P K S ty z y t) 0 0 (ev_V (some (ev_i (mw_m n P (L + 1).toNat - mw_l n P (L + 1).toNat))) (MH c 0 L n tn P K S ty z y t)) := by
    intro k
    induction k with
    | zero =>
      intro i hk
      refine ev_iload_n dM_width_11 rfl ?_
      refine ev_aload_n dM_width_12 rfl ?_
      refine ev_get dM_width_13 fl_M_7 rfl rfl ?_
      refine ev_icmp_gt (tgt := 63) dM_width_16 rfl (by omega) (by omega) (by omega) (by omega) (fun hb => ?_) (fun hb => ?_)
      · refine ev_iload_n dM_width_63 rfl ?_
        refine ev_iload_n dM_width_64 rfl ?_
        refine ev_isub dM_width_65 ?_
        refine ev_ireturn dM_width_66 rfl ?_
        exact ⟨by rw [show (L + 1).toNat = i by omega], rfl⟩
      · omega
    | succ k ih =>
      intro i hk
      have := ih (i + 1) (by omega)
      have hf := sp_F_bd n P i
      have hm := mw_bd n P i
      refine ev_iload_n dM_width_11 rfl ?_
      refine ev_aload_n dM_width_12 rfl ?_
      refine ev_get dM_width_13 fl_M_7 rfl rfl ?_
      refine ev_icmp_gt (tgt := 63) dM_width_16 rfl (by omega) (by omega) (by omega) (by omega) (fun hb => ?_) (fun hb => ?_)
      · omega
      · refine ev_aload_n dM_width_19 rfl ?_
        refine ev_iload_n dM_width_20 rfl ?_
        refine ev_cV dM_width_21 cv_M_84 (ct_MfoldN (p := i) (th := 0) (by omega) hn0 hn (sp_P60 ok)) rfl rfl rfl (Nat.le_of_ble_eq_true rfl) (Nat.le_of_ble_eq_true rfl) (Nat.le_of_ble_eq_true rfl) ?_
        refine ev_iload_n dM_width_24 rfl ?_
        refine ev_icmp_ge (tgt := 36) dM_width_25 rfl (by omega) (by omega) (by omega) (by omega) (fun hb2 => ?_) (fun hb2 => ?_)
        · rw [mw_l, if_neg (by omega)] at this
          refine ev_iload_n dM_width_36 rfl ?_
          refine ev_istore_n dM_width_37 (Nat.le_of_ble_eq_true rfl) ?_
          exact mid i _ hb this
        · rw [mw_l, if_pos hb2] at this
          refine ev_aload_n dM_width_28 rfl ?_
          refine ev_iload_n dM_width_29 rfl ?_
          refine ev_cV dM_width_30 cv_M_84 (ct_MfoldN (p := i) (th := 0) (by omega) hn0 hn (sp_P60 ok)) rfl rfl rfl (Nat.le_of_ble_eq_true rfl) (Nat.le_of_ble_eq_true rfl) (Nat.le_of_ble_eq_true rfl) ?_
          refine ev_goto (tgt := 37) dM_width_33 rfl ?_
          refine ev_istore_n dM_width_37 (Nat.le_of_ble_eq_true rfl) ?_
          exact mid i _ hb this
  refine ev_aload_n dM_width_0 rfl ?_
  refine ev_iconst dM_width_1 ?_
  refine ev_put dM_width_2 fp_M_56 (fun q => by cases q) rfl (Nat.le_of_ble_eq_true rfl) rfl rfl ?_
  refine ev_iconst dM_width_5 ?_
  refine ev_istore_n dM_width_6 (Nat.le_of_ble_eq_true rfl) ?_
  refine ev_iconst dM_width_7 ?_
  refine ev_istore_n dM_width_8 (Nat.le_of_ble_eq_true rfl) ?_
  refine ev_iconst dM_width_9 ?_
  refine ev_istore_n dM_width_10 (Nat.le_of_ble_eq_true rfl) ?_
  exact loop (L + 1).toNat 0 (by omega)
/-- how many images lie over the place q -/
abbrev mt_n (L n : Int) (P : Int → Int) (q : Int) : Int := sp_im (sp_lo L n P) (sp_hi L n P) q (n + 1).toNat
theorem ct_Mthick (ok : sp_ok L n P K) : ev_C g mM_thickness (d + 4) [.ref 16] (MH c th L n tn P K S ty z y t) 0 0
    (ev_V (some (ev_i (sp_mo (fun j => mt_n L n P (j - 60)) 120))) (MH c 0 L n tn P K S ty z y t)) := by
  have hn0 := ok.2.2.1
  have hn := ok.2.2.2.1
  have hf : ∀ j, 0 ≤ (fun j => mt_n L n P (j - 60)) j ∧ (fun j => mt_n L n P (j - 60)) j ≤ 60 := by
    intro j
    have := sp_im_bd (lo := sp_lo L n P) (hi := sp_hi L n P) (j - 60) (n + 1).toNat
    show 0 ≤ sp_im (sp_lo L n P) (sp_hi L n P) (j - 60) (n + 1).toNat ∧ sp_im (sp_lo L n P) (sp_hi L n P) (j - 60) (n + 1).toNat ≤ 60
    omega
  refine ev_ofE (by decide +kernel) rfl (Nat.le_of_ble_eq_true rfl) rfl rfl ?_
  have inner : ∀ (Q : ev_O → List ev_AC → Prop) (q m : Int), -60 ≤ q → q < 60 →
      ev_E g false mM_thickness (d + 4) 54 [some (.ref 16), some (ev_i m), some (ev_i q), some (ev_i (mt_n L n P q)), some (ev_i (n + 1))] [] (MH c 0 L n tn P K S ty z y t) 0 0 Q →
      ∀ (k i : Nat), (i : Int) + k = n + 1 →
      ev_E g false mM_thickness (d + 4) 21 [some (.ref 16), some (ev_i m), some (ev_i q), some (ev_i (sp_im (sp_lo L n P) (sp_hi L n P) q i)), some (ev_i i)] [] (MH c 0 L n tn P K S ty z y t) 0 0 Q := by
    intro Q q m q1 q2 cont k
    induction k with
    | zero =>
      intro i hk
      refine ev_iload dM_thickness_21 rfl ?_
      refine ev_aload_n dM_thickness_23 rfl ?_
      refine ev_get dM_thickness_24 fl_M_63 rfl rfl ?_
      refine ev_icmp_gt (tgt := 54) dM_thickness_27 rfl (by omega) (by omega) (by omega) (by omega) (fun hb => ?_) (fun hb => ?_)
      · have e1 : (n + 1).toNat = i := by omega
        have e2 : n + 1 = (i : Int) := by omega
        unfold mt_n at cont
        rw [e1, e2] at cont
        exact cont
      · omega
    | succ k ih =>
      intro i hk
      have := ih (i + 1) (by omega)
      refine ev_iload dM_thickness_21 rfl ?_
      refine ev_aload_n dM_thickness_23 rfl ?_
      refine ev_get dM_thickness_24 fl_M_63 rfl rfl ?_
      refine ev_icmp_gt (tgt := 54) dM_thickness_27 rfl (by omega) (by omega) (by omega) (by omega) (fun hb => ?_) (fun hb => ?_)
      · omega
      · refine ev_iload_n dM_thickness_30 rfl ?_
        refine ev_aload_n dM_thickness_31 rfl ?_
        refine ev_iload dM_thickness_32 rfl ?_
        refine ev_iload_n dM_thickness_34 rfl ?_
        refine ev_cV dM_thickness_35 cv_M_100 (ct_Mcovers (th := 0) ok (by omega) hb (by omega) (by omega)) rfl rfl rfl (Nat.le_of_ble_eq_true rfl) (Nat.le_of_ble_eq_true rfl) (Nat.le_of_ble_eq_true rfl) ?_
        refine ev_bz (tgt := 45) dM_thickness_38 rfl (fun hb2 => ?_) (fun hb2 => ?_)
        · rw [sp_im, if_neg (of_decide_eq_false hb2)] at this
          refine ev_iconst dM_thickness_45 ?_
          refine ev_iadd dM_thickness_46 ?_
          refine ev_istore_n dM_thickness_47 (Nat.le_of_ble_eq_true rfl) ?_
          refine ev_iinc dM_thickness_48 rfl ?_
          refine ev_goto (tgt := 21) dM_thickness_51 rfl ?_
          exact this
        · rw [sp_im, if_pos (of_decide_eq_true hb2)] at this
          refine ev_iconst dM_thickness_41 ?_
          refine ev_goto (tgt := 46) dM_thickness_42 rfl ?_
          refine ev_iadd dM_thickness_46 ?_
          refine ev_istore_n dM_thickness_47 (Nat.le_of_ble_eq_true rfl) ?_
          refine ev_iinc dM_thickness_48 rfl ?_
          refine ev_goto (tgt := 21) dM_thickness_51 rfl ?_
          exact this
  have outer : ∀ (k j : Nat) (o3 o4 : Option Value), j + k = 120 →
      ev_E g false mM_thickness (d + 4) 10 [some (.ref 16), some (ev_i (sp_mo (fun j => mt_n L n P (j - 60)) j)), some (ev_i ((j : Int) - 60)), o3, o4] [] (MH c 0 L n tn P K S ty z y t) 0 0 (ev_V (some (ev_i (sp_mo (fun j => mt_n L n P (j - 60)) 120))) (MH c 0 L n tn P K S ty z y t)) := by
    intro k
    induction k with
    | zero =>
      intro j o3 o4 hk
      refine ev_iload_n dM_thickness_10 rfl ?_
      refine ev_bipush dM_thickness_11 rfl ?_
      refine ev_icmp_ge (tgt := 71) dM_thickness_13 rfl (by omega) (by omega) (by omega) (by omega) (fun hb => ?_) (fun hb => ?_)
      · refine ev_iload_n dM_thickness_71 rfl ?_
        refine ev_ireturn dM_thickness_72 rfl ?_
        exact ⟨by rw [show (120 : Nat) = j by omega], rfl⟩
      · omega
    | succ k ih =>
      intro j o3 o4 hk
      have hmo := sp_mo_bd hf j
      have hfj := hf j
      have := ih (j + 1) (some (ev_i (mt_n L n P ((j : Int) - 60)))) (some (ev_i (n + 1))) (by omega)
      refine ev_iload_n dM_thickness_10 rfl ?_
      refine ev_bipush dM_thickness_11 rfl ?_
      refine ev_icmp_ge (tgt := 71) dM_thickness_13 rfl (by omega) (by omega) (by omega) (by omega) (fun hb => ?_) (fun hb => ?_)
      · omega
      · refine ev_iconst dM_thickness_16 ?_
        refine ev_istore_n dM_thickness_17 (Nat.le_of_ble_eq_true rfl) ?_
        refine ev_iconst dM_thickness_18 ?_
        refine ev_istore dM_thickness_19 (Nat.le_of_ble_eq_true rfl) ?_
        refine inner _ _ _ (by omega) (by omega) ?_ (n + 1).toNat 0 (by omega)
        refine ev_iload_n dM_thickness_54 rfl ?_
        refine ev_iload_n dM_thickness_55 rfl ?_
        have hfj' : 0 ≤ mt_n L n P ((j : Int) - 60) ∧ mt_n L n P ((j : Int) - 60) ≤ 60 := hfj
        refine ev_icmp_le (tgt := 63) dM_thickness_56 rfl (by omega) (by omega) (by omega) (by omega) (fun hb2 => ?_) (fun hb2 => ?_)
        · rw [sp_mo, if_neg (show ¬ sp_mo (fun j => mt_n L n P (j - 60)) j < mt_n L n P ((j : Int) - 60) by omega)] at this
          refine ev_iload_n dM_thickness_63 rfl ?_
          refine ev_istore_n dM_thickness_64 (Nat.le_of_ble_eq_true rfl) ?_
          refine ev_iinc dM_thickness_65 rfl ?_
          refine ev_goto (tgt := 10) dM_thickness_68 rfl ?_
          rw [show (j : Int) - 60 + 1 = ((j + 1 : Nat) : Int) - 60 by omega]
          exact this
        · rw [sp_mo, if_pos (show sp_mo (fun j => mt_n L n P (j - 60)) j < mt_n L n P ((j : Int) - 60) from hb2)] at this
          refine ev_iload_n dM_thickness_59 rfl ?_
          refine ev_goto (tgt := 64) dM_thickness_60 rfl ?_
          refine ev_istore_n dM_thickness_64 (Nat.le_of_ble_eq_true rfl) ?_
          refine ev_iinc dM_thickness_65 rfl ?_
          refine ev_goto (tgt := 10) dM_thickness_68 rfl ?_
          rw [show (j : Int) - 60 + 1 = ((j + 1 : Nat) : Int) - 60 by omega]
          exact this
  refine ev_aload_n dM_thickness_0 rfl ?_
  refine ev_iconst dM_thickness_1 ?_
  refine ev_put dM_thickness_2 fp_M_56 (fun q => by cases q) rfl (Nat.le_of_ble_eq_true rfl) rfl rfl ?_
  refine ev_iconst dM_thickness_5 ?_
  refine ev_istore_n dM_thickness_6 (Nat.le_of_ble_eq_true rfl) ?_
  refine ev_bipush dM_thickness_7 rfl ?_
  refine ev_istore_n dM_thickness_9 (Nat.le_of_ble_eq_true rfl) ?_
  exact outer 120 0 none none rfl
end R6
