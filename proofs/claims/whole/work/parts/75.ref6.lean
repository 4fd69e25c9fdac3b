/-! The reference: refuse, fold, low, high, covers, strip, count, whereIs, type -/
/-- the answer, and the code that the reference keeps, out of the class's answer -/
def mo_v : Int ⊕ Nat → Int
  | .inl v => v
  | .inr _ => 0
def mo_c (cd : Nat → Int) : Int ⊕ Nat → Int
  | .inl _ => 0
  | .inr ci => cd ci
theorem sp_cnt_bd (P : Int → Int) (q : Int) : ∀ k : Nat, 0 ≤ sp_cnt P q k ∧ sp_cnt P q k ≤ k
  | 0 => ⟨Int.le_refl _, Int.le_refl _⟩
  | k + 1 => by
    have ih := sp_cnt_bd P q k
    unfold sp_cnt
    split <;> push_cast <;> omega
section SQ
variable {L n : Int} {P K : Int → Int}
theorem sp_lh (ok : sp_ok L n P K) {i : Int} (h0 : 0 ≤ i) (hi : i ≤ n) : (-60 ≤ sp_lo L n P i ∧ sp_lo L n P i ≤ 60) ∧ (-60 ≤ sp_hi L n P i ∧ sp_hi L n P i ≤ 60) ∧ sp_lo L n P i < sp_hi L n P i ∧ sp_lo L n P i + sp_re L n P i - sp_le P i = sp_hi L n P i := by
  have h1 := sp_B_60 ok h0 (by omega)
  have h2 := sp_B_60 ok (i := i + 1) (by omega) (by omega)
  have h3 := sp_B_s (L := L) (n := n) (P := P) h0
  have h4 := sp_le_lt_re ok h0 hi
  unfold sp_lo sp_hi
  rcases sp_dir_or i with q | q <;> rw [q] at h3 <;> (split <;> split <;> omega)
end SQ
section R5
variable {g : ev_G} {d : Nat} {c : Nat → ev_AC} {h : List ev_AC} {th L n : Int} {tn : Bool} {P K S : Int → Int} {ty : Int} {z : MZ} {y : MY} {t : List ev_AC}
theorem ct_Mref0 : ev_C g mM_refuse d [.ref 16, ev_i 0, ev_i 0] (MH c th L n tn P K S ty z y t) 0 0 (ev_V (some (ev_i 0)) (MH c 0 L n tn P K S ty z y t)) := by
  refine ev_ofE (by decide +kernel) rfl (Nat.le_of_ble_eq_true rfl) rfl rfl ?_
  refine ev_aload_n dM_refuse_0 rfl ?_
  refine ev_iload_n dM_refuse_1 rfl ?_
  refine ev_if_eq (tgt := 9) dM_refuse_2 rfl (by omega) (by omega) (fun h1 => ?_) (fun h1 => ?_)
  · refine ev_iload_n dM_refuse_9 rfl ?_
    refine ev_if_eq (tgt := 17) dM_refuse_10 rfl (by omega) (by omega) (fun h2 => ?_) (fun h2 => ?_)
    · refine ev_iconst dM_refuse_17 ?_
      refine ev_put dM_refuse_18 fp_M_56 (fun q => by cases q) rfl (Nat.le_of_ble_eq_true rfl) rfl rfl ?_
      refine ev_aload_n dM_refuse_21 rfl ?_
      refine ev_get dM_refuse_22 fl_M_56 rfl rfl ?_
      refine ev_if_le (tgt := 32) dM_refuse_25 rfl (by omega) (by omega) (fun h3 => ?_) (fun h3 => ?_)
      · refine ev_iconst dM_refuse_32 ?_
        refine ev_zreturn dM_refuse_33 rfl ?_ ?_
        · decide
        · exact ⟨rfl, rfl⟩
      · omega
    · omega
  · omega
theorem ct_Mref1 {q : Int} : ev_C g mM_refuse d [.ref 16, ev_i 1, ev_i q] (MH c th L n tn P K S ty z y t) 0 0 (ev_V (some (ev_i 1)) (MH c 1 L n tn P K S ty z y t)) := by
  refine ev_ofE (by decide +kernel) rfl (Nat.le_of_ble_eq_true rfl) rfl rfl ?_
  refine ev_aload_n dM_refuse_0 rfl ?_
  refine ev_iload_n dM_refuse_1 rfl ?_
  refine ev_if_eq (tgt := 9) dM_refuse_2 rfl (by omega) (by omega) (fun h1 => ?_) (fun h1 => ?_)
  · omega
  · refine ev_iconst dM_refuse_5 ?_
    refine ev_goto (tgt := 18) dM_refuse_6 rfl ?_
    refine ev_put dM_refuse_18 fp_M_56 (fun q => by cases q) rfl (Nat.le_of_ble_eq_true rfl) rfl rfl ?_
    refine ev_aload_n dM_refuse_21 rfl ?_
    refine ev_get dM_refuse_22 fl_M_56 rfl rfl ?_
    refine ev_if_le (tgt := 32) dM_refuse_25 rfl (by omega) (by omega) (fun h3 => ?_) (fun h3 => ?_)
    · omega
    · refine ev_iconst dM_refuse_28 ?_
      refine ev_goto (tgt := 33) dM_refuse_29 rfl ?_
      refine ev_zreturn dM_refuse_33 rfl ?_ ?_
      · decide
      · exact ⟨rfl, rfl⟩
theorem ct_Mref2 : ev_C g mM_refuse d [.ref 16, ev_i 0, ev_i 1] (MH c th L n tn P K S ty z y t) 0 0 (ev_V (some (ev_i 1)) (MH c 2 L n tn P K S ty z y t)) := by
  refine ev_ofE (by decide +kernel) rfl (Nat.le_of_ble_eq_true rfl) rfl rfl ?_
  refine ev_aload_n dM_refuse_0 rfl ?_
  refine ev_iload_n dM_refuse_1 rfl ?_
  refine ev_if_eq (tgt := 9) dM_refuse_2 rfl (by omega) (by omega) (fun h1 => ?_) (fun h1 => ?_)
  · refine ev_iload_n dM_refuse_9 rfl ?_
    refine ev_if_eq (tgt := 17) dM_refuse_10 rfl (by omega) (by omega) (fun h2 => ?_) (fun h2 => ?_)
    · omega
    · refine ev_iconst dM_refuse_13 ?_
      refine ev_goto (tgt := 18) dM_refuse_14 rfl ?_
      refine ev_put dM_refuse_18 fp_M_56 (fun q => by cases q) rfl (Nat.le_of_ble_eq_true rfl) rfl rfl ?_
      refine ev_aload_n dM_refuse_21 rfl ?_
      refine ev_get dM_refuse_22 fl_M_56 rfl rfl ?_
      refine ev_if_le (tgt := 32) dM_refuse_25 rfl (by omega) (by omega) (fun h3 => ?_) (fun h3 => ?_)
      · omega
      · refine ev_iconst dM_refuse_28 ?_
        refine ev_goto (tgt := 33) dM_refuse_29 rfl ?_
        refine ev_zreturn dM_refuse_33 rfl ?_ ?_
        · decide
        · exact ⟨rfl, rfl⟩
  · omega
theorem ct_MfoldN {p : Nat} (hp : p ≤ 60) (hn0 : 0 ≤ n) (hn : n ≤ 6) (hP : ∀ i, 0 ≤ i → i < n → 0 ≤ P i ∧ P i ≤ 60) :
    ev_C g mM_fold d [.ref 16, ev_i p] (MH c th L n tn P K S ty z y t) 0 0 (ev_V (some (ev_i (sp_F n P p))) (MH c th L n tn P K S ty z y t)) := by
  refine ev_ofE (by decide +kernel) rfl (Nat.le_of_ble_eq_true rfl) rfl rfl ?_
  have inner : ∀ (q : Nat) (x : Int), q < p →
      ev_E g false mM_fold d 51 [some (.ref 16), some (ev_i p), some (ev_i x), some (ev_i q), some (ev_i (sp_cnt P q n.toNat)), some (ev_i n)] [] (MH c th L n tn P K S ty z y t) 0 0 (ev_V (some (ev_i (sp_F n P p))) (MH c th L n tn P K S ty z y t)) →
      ∀ (k i : Nat), (i : Int) + k = n → ev_E g false mM_fold d 15 [some (.ref 16), some (ev_i p), some (ev_i x), some (ev_i q), some (ev_i (sp_cnt P q i)), some (ev_i i)] [] (MH c th L n tn P K S ty z y t) 0 0 (ev_V (some (ev_i (sp_F n P p))) (MH c th L n tn P K S ty z y t)) := by
    intro q x hq cont k
    induction k with
    | zero =>
      intro i hk
      refine ev_iload dM_fold_15 rfl ?_
      refine ev_aload_n dM_fold_17 rfl ?_
      refine ev_get dM_fold_18 fl_M_63 rfl rfl ?_
      refine ev_icmp_ge (tgt := 51) dM_fold_21 rfl (by omega) (by omega) (by omega) (by omega) (fun hb => ?_) (fun hb => ?_)
      · rw [show n.toNat = i by omega, show n = (i : Int) by omega] at cont
        rw [show n = (i : Int) by omega]
        exact cont
      · omega
    | succ k ih =>
      intro i hk
      refine ev_iload dM_fold_15 rfl ?_
      refine ev_aload_n dM_fold_17 rfl ?_
      refine ev_get dM_fold_18 fl_M_63 rfl rfl ?_
      refine ev_icmp_ge (tgt := 51) dM_fold_21 rfl (by omega) (by omega) (by omega) (by omega) (fun hb => ?_) (fun hb => ?_)
      · omega
      · refine ev_iload dM_fold_24 rfl ?_
        refine ev_aload_n dM_fold_26 rfl ?_
        refine ev_get dM_fold_27 fl_M_13 rfl rfl ?_
        refine ev_iload dM_fold_30 rfl ?_
        refine ev_iald dM_fold_32 rfl (by omega) (by omega) (by decide) ?_
        refine ev_iload_n dM_fold_33 rfl ?_
        have hPi := hP i (by omega) hb
        have := ih (i + 1) (by omega)
        refine ev_icmp_gt (tgt := 41) dM_fold_34 rfl (by omega) (by omega) (by omega) (by omega) (fun hb2 => ?_) (fun hb2 => ?_)
        · refine ev_iconst dM_fold_41 ?_
          refine ev_iadd dM_fold_42 ?_
          refine ev_istore dM_fold_43 (Nat.le_of_ble_eq_true rfl) ?_
          refine ev_iinc dM_fold_45 rfl ?_
          refine ev_goto (tgt := 15) dM_fold_48 rfl ?_
          rw [sp_cnt, if_neg (by omega)] at this
          exact this
        · refine ev_iconst dM_fold_37 ?_
          refine ev_goto (tgt := 42) dM_fold_38 rfl ?_
          refine ev_iadd dM_fold_42 ?_
          refine ev_istore dM_fold_43 (Nat.le_of_ble_eq_true rfl) ?_
          refine ev_iinc dM_fold_45 rfl ?_
          refine ev_goto (tgt := 15) dM_fold_48 rfl ?_
          rw [sp_cnt, if_pos hb2] at this
          exact this
  have outer : ∀ (k q : Nat) (o4 o5 : Option Value), q + k = p → ev_E g false mM_fold d 4 [some (.ref 16), some (ev_i p), some (ev_i (sp_F n P q)), some (ev_i q), o4, o5] [] (MH c th L n tn P K S ty z y t) 0 0 (ev_V (some (ev_i (sp_F n P p))) (MH c th L n tn P K S ty z y t)) := by
    intro k
    induction k with
    | zero =>
      intro q o4 o5 hk
      refine ev_iload_n dM_fold_4 rfl ?_
      refine ev_iload_n dM_fold_5 rfl ?_
      refine ev_icmp_ge (tgt := 72) dM_fold_6 rfl (by omega) (by omega) (by omega) (by omega) (fun hb => ?_) (fun hb => ?_)
      · refine ev_iload_n dM_fold_72 rfl ?_
        refine ev_ireturn dM_fold_73 rfl ?_
        exact ⟨by rw [show p = q by omega], rfl⟩
      · omega
    | succ k ih =>
      intro q o4 o5 hk
      refine ev_iload_n dM_fold_4 rfl ?_
      refine ev_iload_n dM_fold_5 rfl ?_
      refine ev_icmp_ge (tgt := 72) dM_fold_6 rfl (by omega) (by omega) (by omega) (by omega) (fun hb => ?_) (fun hb => ?_)
      · omega
      · refine ev_iconst dM_fold_9 ?_
        refine ev_istore dM_fold_10 (Nat.le_of_ble_eq_true rfl) ?_
        refine ev_iconst dM_fold_12 ?_
        refine ev_istore dM_fold_13 (Nat.le_of_ble_eq_true rfl) ?_
        refine inner q _ (by omega) ?_ n.toNat 0 (by omega)
        have hc := sp_cnt_bd P q n.toNat
        have := ih (q + 1) (some (ev_i (sp_cnt P q n.toNat))) (some (ev_i n)) (by omega)
        refine ev_iload_n dM_fold_51 rfl ?_
        refine ev_iload dM_fold_52 rfl ?_
        refine ev_iconst dM_fold_54 ?_
        refine ev_rem dM_fold_55 (by omega) (by omega) (by decide) (by decide) ?_
        refine ev_if_ne (tgt := 63) dM_fold_56 rfl (by omega) (by omega) (fun hb2 => ?_) (fun hb2 => ?_)
        · refine ev_iconst dM_fold_63 ?_
          refine ev_iadd dM_fold_64 ?_
          refine ev_istore_n dM_fold_65 (Nat.le_of_ble_eq_true rfl) ?_
          refine ev_iinc dM_fold_66 rfl ?_
          refine ev_goto (tgt := 4) dM_fold_69 rfl ?_
          rw [sp_F, if_neg hb2] at this
          exact this
        · refine ev_iconst dM_fold_59 ?_
          refine ev_goto (tgt := 64) dM_fold_60 rfl ?_
          refine ev_iadd dM_fold_64 ?_
          refine ev_istore_n dM_fold_65 (Nat.le_of_ble_eq_true rfl) ?_
          refine ev_iinc dM_fold_66 rfl ?_
          refine ev_goto (tgt := 4) dM_fold_69 rfl ?_
          rw [sp_F, if_pos hb2] at this
          exact this
  refine ev_iconst dM_fold_0 ?_
  refine ev_istore_n dM_fold_1 (Nat.le_of_ble_eq_true rfl) ?_
  refine ev_iconst dM_fold_2 ?_
  refine ev_istore_n dM_fold_3 (Nat.le_of_ble_eq_true rfl) ?_
  exact outer p 0 none none (by omega)
theorem ct_Mfold {p : Int} (p0 : 0 ≤ p) (hp : p ≤ 60) (hn0 : 0 ≤ n) (hn : n ≤ 6) (hP : ∀ i, 0 ≤ i → i < n → 0 ≤ P i ∧ P i ≤ 60) :
    ev_C g mM_fold d [.ref 16, ev_i p] (MH c th L n tn P K S ty z y t) 0 0 (ev_V (some (ev_i (sp_F n P p.toNat))) (MH c th L n tn P K S ty z y t)) := by
  have := ct_MfoldN (g := g) (d := d) (c := c) (th := th) (L := L) (n := n) (tn := tn) (P := P) (K := K) (S := S) (ty := ty) (z := z) (y := y) (t := t) (p := p.toNat) (by omega) hn0 hn hP
  rw [Int.toNat_of_nonneg p0] at this
  exact this
theorem sp_P60 (ok : sp_ok L n P K) : ∀ i, 0 ≤ i → i < n → 0 ≤ P i ∧ P i ≤ 60 := fun i h0 h1 => by
  have := ok.2.2.2.2.1 i h0 h1
  have := ok.2.1
  omega
theorem ct_Mlow {i : Int} (ok : sp_ok L n P K) (i0 : 0 ≤ i) (i1 : i ≤ n) : ev_C g mM_low (d + 1) [.ref 16, ev_i i] (MH c th L n tn P K S ty z y t) 0 0 (ev_V (some (ev_i (sp_lo L n P i))) (MH c th L n tn P K S ty z y t)) := by
  have hn0 := ok.2.2.1
  have hn := ok.2.2.2.1
  have h1 := sp_B_60 ok i0 (by omega)
  have h2 := sp_B_60 ok (i := i + 1) (by omega) (by omega)
  have h4 := sp_le_lt_re ok i0 i1
  have h5 := sp_re_le ok i0
  have h6 := sp_le_nonneg ok i0 i1
  have hL := ok.2.1
  refine ev_ofE (by decide +kernel) rfl (Nat.le_of_ble_eq_true rfl) rfl rfl ?_
  refine ev_aload_n dM_low_0 rfl ?_
  refine ev_aload_n dM_low_1 rfl ?_
  refine ev_iload_n dM_low_2 rfl ?_
  refine ev_cV dM_low_3 cv_M_81 (ct_MleftEnd i0 (by omega)) rfl rfl rfl (Nat.le_of_ble_eq_true rfl) (Nat.le_of_ble_eq_true rfl) (Nat.le_of_ble_eq_true rfl) ?_
  refine ev_cV dM_low_6 cv_M_84 (ct_Mfold h6 (by omega) hn0 hn (sp_P60 ok)) rfl rfl rfl (Nat.le_of_ble_eq_true rfl) (Nat.le_of_ble_eq_true rfl) (Nat.le_of_ble_eq_true rfl) ?_
  rw [sp_F_le ok i0 i1]
  refine ev_istore_n dM_low_9 (Nat.le_of_ble_eq_true rfl) ?_
  refine ev_aload_n dM_low_10 rfl ?_
  refine ev_aload_n dM_low_11 rfl ?_
  refine ev_iload_n dM_low_12 rfl ?_
  refine ev_cV dM_low_13 cv_M_87 (ct_MrightEnd i0 i1 hn) rfl rfl rfl (Nat.le_of_ble_eq_true rfl) (Nat.le_of_ble_eq_true rfl) (Nat.le_of_ble_eq_true rfl) ?_
  refine ev_cV dM_low_16 cv_M_84 (ct_Mfold (by omega) (by omega) hn0 hn (sp_P60 ok)) rfl rfl rfl (Nat.le_of_ble_eq_true rfl) (Nat.le_of_ble_eq_true rfl) (Nat.le_of_ble_eq_true rfl) ?_
  rw [sp_F_re ok i0 i1]
  refine ev_istore_n dM_low_19 (Nat.le_of_ble_eq_true rfl) ?_
  refine ev_iload_n dM_low_20 rfl ?_
  refine ev_iload_n dM_low_21 rfl ?_
  refine ev_icmp_ge (tgt := 29) dM_low_22 rfl (by omega) (by omega) (by omega) (by omega) (fun hb => ?_) (fun hb => ?_)
  · have e : sp_lo L n P i = sp_B L n P (i + 1) := by unfold sp_lo; split <;> omega
    refine ev_iload_n dM_low_29 rfl ?_
    refine ev_ireturn dM_low_30 rfl ?_
    exact ⟨by rw [e], rfl⟩
  · have e : sp_lo L n P i = sp_B L n P i := by unfold sp_lo; split <;> omega
    refine ev_iload_n dM_low_25 rfl ?_
    refine ev_goto (tgt := 30) dM_low_26 rfl ?_
    refine ev_ireturn dM_low_30 rfl ?_
    exact ⟨by rw [e], rfl⟩
theorem ct_Mhigh {i : Int} (ok : sp_ok L n P K) (i0 : 0 ≤ i) (i1 : i ≤ n) : ev_C g mM_high (d + 2) [.ref 16, ev_i i] (MH c th L n tn P K S ty z y t) 0 0 (ev_V (some (ev_i (sp_hi L n P i))) (MH c th L n tn P K S ty z y t)) := by
  have hn := ok.2.2.2.1
  refine ev_ofE (by decide +kernel) rfl (Nat.le_of_ble_eq_true rfl) rfl rfl ?_
  refine ev_aload_n dM_high_0 rfl ?_
  refine ev_iload_n dM_high_1 rfl ?_
  refine ev_cV dM_high_2 cv_M_90 (ct_Mlow ok i0 i1) rfl rfl rfl (Nat.le_of_ble_eq_true rfl) (Nat.le_of_ble_eq_true rfl) (Nat.le_of_ble_eq_true rfl) ?_
  refine ev_aload_n dM_high_5 rfl ?_
  refine ev_iload_n dM_high_6 rfl ?_
  refine ev_cV dM_high_7 cv_M_87 (ct_MrightEnd i0 i1 hn) rfl rfl rfl (Nat.le_of_ble_eq_true rfl) (Nat.le_of_ble_eq_true rfl) (Nat.le_of_ble_eq_true rfl) ?_
  refine ev_iadd dM_high_10 ?_
  refine ev_aload_n dM_high_11 rfl ?_
  refine ev_iload_n dM_high_12 rfl ?_
  refine ev_cV dM_high_13 cv_M_81 (ct_MleftEnd i0 (by omega)) rfl rfl rfl (Nat.le_of_ble_eq_true rfl) (Nat.le_of_ble_eq_true rfl) (Nat.le_of_ble_eq_true rfl) ?_
  refine ev_isub dM_high_16 ?_
  refine ev_ireturn dM_high_17 rfl ?_
  exact ⟨by rw [← (sp_lh ok i0 i1).2.2.2], rfl⟩
theorem ct_Mcovers {i q : Int} (ok : sp_ok L n P K) (i0 : 0 ≤ i) (i1 : i ≤ n) (q1 : -2147483648 ≤ q) (q2 : q < 2147483648) : ev_C g mM_covers (d + 3) [.ref 16, ev_i i, ev_i q] (MH c th L n tn P K S ty z y t) 0 0 (ev_V (some (ev_i (ev_b (decide (sp_lo L n P i ≤ q ∧ q < sp_hi L n P i))))) (MH c th L n tn P K S ty z y t)) := by
  have hb := sp_lh ok i0 i1
  refine ev_ofE (by decide +kernel) rfl (Nat.le_of_ble_eq_true rfl) rfl rfl ?_
  refine ev_aload_n dM_covers_0 rfl ?_
  refine ev_iload_n dM_covers_1 rfl ?_
  refine ev_cV dM_covers_2 cv_M_90 (ct_Mlow ok i0 i1) rfl rfl rfl (Nat.le_of_ble_eq_true rfl) (Nat.le_of_ble_eq_true rfl) (Nat.le_of_ble_eq_true rfl) ?_
  refine ev_iload_n dM_covers_5 rfl ?_
  refine ev_icmp_gt (tgt := 22) dM_covers_6 rfl (by omega) (by omega) (by omega) (by omega) (fun h1 => ?_) (fun h1 => ?_)
  · refine ev_iconst dM_covers_22 ?_
    refine ev_zreturn dM_covers_23 rfl ?_ ?_
    · decide
    · exact ⟨by rw [decide_eq_false (by omega)]; rfl, rfl⟩
  · refine ev_iload_n dM_covers_9 rfl ?_
    refine ev_aload_n dM_covers_10 rfl ?_
    refine ev_iload_n dM_covers_11 rfl ?_
    refine ev_cV dM_covers_12 cv_M_93 (ct_Mhigh ok i0 i1) rfl rfl rfl (Nat.le_of_ble_eq_true rfl) (Nat.le_of_ble_eq_true rfl) (Nat.le_of_ble_eq_true rfl) ?_
    refine ev_icmp_ge (tgt := 22) dM_covers_15 rfl (by omega) (by omega) (by omega) (by omega) (fun h2 => ?_) (fun h2 => ?_)
    · refine ev_iconst dM_covers_22 ?_
      refine ev_zreturn dM_covers_23 rfl ?_ ?_
      · decide
      · exact ⟨by rw [decide_eq_false (by omega)]; rfl, rfl⟩
    · refine ev_iconst dM_covers_18 ?_
      refine ev_goto (tgt := 23) dM_covers_19 rfl ?_
      refine ev_zreturn dM_covers_23 rfl ?_ ?_
      · decide
      · exact ⟨by rw [decide_eq_true ⟨h1, h2⟩]; rfl, rfl⟩
theorem ct_Mstrip {l : Int} (l1 : -2147483648 ≤ l) (l2 : l < 2147483648) : ev_C g mM_strip (d + 1) [.ref 16, ev_i l] (MH c th L n tn P K S ty z y t) 0 0
    (ev_V none (if 1 ≤ l ∧ l ≤ 60 then MH c 0 l 0 false P K S ty z y t else MH c 1 L n tn P K S ty z y t)) := by
  refine ev_ofE (by decide +kernel) rfl (Nat.le_of_ble_eq_true rfl) rfl rfl ?_
  refine ev_aload_n dM_strip_0 rfl ?_
  refine ev_iload_n dM_strip_1 rfl ?_
  refine ev_iconst dM_strip_2 ?_
  refine ev_icmp_lt (tgt := 12) dM_strip_3 rfl (by omega) (by omega) (by omega) (by omega) (fun h1 => ?_) (fun h1 => ?_)
  · refine ev_iconst dM_strip_12 ?_
    refine ev_goto (tgt := 17) dM_strip_13 rfl ?_
    refine ev_iconst dM_strip_17 ?_
    refine ev_cV dM_strip_18 cv_M_59 (ct_Mref1) rfl rfl rfl (Nat.le_of_ble_eq_true rfl) (Nat.le_of_ble_eq_true rfl) (Nat.le_of_ble_eq_true rfl) ?_
    refine ev_if_eq (tgt := 25) dM_strip_21 rfl (by omega) (by omega) (fun h3 => ?_) (fun h3 => ?_)
    · omega
    · refine ev_return dM_strip_24 rfl ?_
      exact ⟨rfl, by rw [if_neg (by omega)]⟩
  · refine ev_iload_n dM_strip_6 rfl ?_
    refine ev_bipush dM_strip_7 rfl ?_
    refine ev_icmp_le (tgt := 16) dM_strip_9 rfl (by omega) (by omega) (by omega) (by omega) (fun h2 => ?_) (fun h2 => ?_)
    · refine ev_iconst dM_strip_16 ?_
      refine ev_iconst dM_strip_17 ?_
      refine ev_cV dM_strip_18 cv_M_59 (ct_Mref0) rfl rfl rfl (Nat.le_of_ble_eq_true rfl) (Nat.le_of_ble_eq_true rfl) (Nat.le_of_ble_eq_true rfl) ?_
      refine ev_if_eq (tgt := 25) dM_strip_21 rfl (by omega) (by omega) (fun h3 => ?_) (fun h3 => ?_)
      · refine ev_aload_n dM_strip_25 rfl ?_
        refine ev_iload_n dM_strip_26 rfl ?_
        refine ev_put dM_strip_27 fp_M_7 (fun q => by cases q) rfl (Nat.le_of_ble_eq_true rfl) rfl rfl ?_
        refine ev_aload_n dM_strip_30 rfl ?_
        refine ev_iconst dM_strip_31 ?_
        refine ev_put dM_strip_32 fp_M_63 (fun q => by cases q) rfl (Nat.le_of_ble_eq_true rfl) rfl rfl ?_
        refine ev_aload_n dM_strip_35 rfl ?_
        refine ev_iconst dM_strip_36 ?_
        refine ev_put dM_strip_37 fp_M_66 (fun q => by cases q) rfl (Nat.le_of_ble_eq_true rfl) (ev_nbz (by first | decide | exact ev_b01 _)) (ev_fbz (by first | decide | exact ev_b01 _)) ?_
        refine ev_return dM_strip_40 rfl ?_
        exact ⟨rfl, by rw [if_pos (by omega)]; rfl⟩
      · omega
    · refine ev_iconst dM_strip_12 ?_
      refine ev_goto (tgt := 17) dM_strip_13 rfl ?_
      refine ev_iconst dM_strip_17 ?_
      refine ev_cV dM_strip_18 cv_M_59 (ct_Mref1) rfl rfl rfl (Nat.le_of_ble_eq_true rfl) (Nat.le_of_ble_eq_true rfl) (Nat.le_of_ble_eq_true rfl) ?_
      refine ev_if_eq (tgt := 25) dM_strip_21 rfl (by omega) (by omega) (fun h3 => ?_) (fun h3 => ?_)
      · omega
      · refine ev_return dM_strip_24 rfl ?_
        exact ⟨rfl, by rw [if_neg (by omega)]⟩
theorem ct_Mcount {w : Int} (w1 : -2147483648 ≤ w) (w2 : w < 2147483648) (ok : sp_ok L n P K) : ev_C g mM_count (d + 1) [.ref 16, ev_i w] (MH c th L n tn P K S ty z y t) 0 0
    (ev_V (some (ev_i (if w = 0 then L else if w = 1 then n else if w = 2 then sp_fr K n.toNat else if w = 3 then ty else -1))) (MH c 0 L n tn P K S ty z y t)) := by
  refine ev_ofE (by decide +kernel) rfl (Nat.le_of_ble_eq_true rfl) rfl rfl ?_
  refine ev_aload_n dM_count_0 rfl ?_
  refine ev_iconst dM_count_1 ?_
  refine ev_put dM_count_2 fp_M_56 (fun q => by cases q) rfl (Nat.le_of_ble_eq_true rfl) rfl rfl ?_
  refine ev_iload_n dM_count_5 rfl ?_
  refine ev_if_ne (tgt := 16) dM_count_6 rfl (by omega) (by omega) (fun h0 => ?_) (fun h0 => ?_)
  · rw [if_neg h0]
    refine ev_iload_n dM_count_16 rfl ?_
    refine ev_iconst dM_count_17 ?_
    refine ev_icmp_ne (tgt := 28) dM_count_18 rfl (by omega) (by omega) (by omega) (by omega) (fun h1 => ?_) (fun h1 => ?_)
    · rw [if_neg h1]
      refine ev_iload_n dM_count_28 rfl ?_
      refine ev_iconst dM_count_29 ?_
      refine ev_icmp_ne (tgt := 40) dM_count_30 rfl (by omega) (by omega) (by omega) (by omega) (fun h2 => ?_) (fun h2 => ?_)
      · rw [if_neg h2]
        refine ev_iload_n dM_count_40 rfl ?_
        refine ev_iconst dM_count_41 ?_
        refine ev_icmp_ne (tgt := 52) dM_count_42 rfl (by omega) (by omega) (by omega) (by omega) (fun h3 => ?_) (fun h3 => ?_)
        · rw [if_neg h3]
          refine ev_iconst dM_count_52 ?_
          refine ev_ireturn dM_count_53 rfl ?_
          exact ⟨rfl, rfl⟩
        · rw [if_pos h3]
          refine ev_aload_n dM_count_45 rfl ?_
          refine ev_get dM_count_46 fl_M_78 rfl rfl ?_
          refine ev_goto (tgt := 53) dM_count_49 rfl ?_
          refine ev_ireturn dM_count_53 rfl ?_
          exact ⟨rfl, rfl⟩
      · rw [if_pos h2]
        refine ev_aload_n dM_count_33 rfl ?_
        refine ev_cV dM_count_34 cv_M_74 (ct_Mfree (th := 0) ok.2.2.1 ok.2.2.2.1 (fun i q0 q1 => ⟨(ok.2.2.2.2.1 i q0 q1).2.2.1, (ok.2.2.2.2.1 i q0 q1).2.2.2⟩)) rfl rfl rfl (Nat.le_of_ble_eq_true rfl) (Nat.le_of_ble_eq_true rfl) (Nat.le_of_ble_eq_true rfl) ?_
        refine ev_goto (tgt := 53) dM_count_37 rfl ?_
        refine ev_ireturn dM_count_53 rfl ?_
        exact ⟨rfl, rfl⟩
    · rw [if_pos h1]
      refine ev_aload_n dM_count_21 rfl ?_
      refine ev_get dM_count_22 fl_M_63 rfl rfl ?_
      refine ev_goto (tgt := 53) dM_count_25 rfl ?_
      refine ev_ireturn dM_count_53 rfl ?_
      exact ⟨rfl, rfl⟩
  · rw [if_pos h0]
    refine ev_aload_n dM_count_9 rfl ?_
    refine ev_get dM_count_10 fl_M_7 rfl rfl ?_
    refine ev_goto (tgt := 53) dM_count_13 rfl ?_
    refine ev_ireturn dM_count_53 rfl ?_
    exact ⟨rfl, rfl⟩
theorem ct_MwhereIs {p : Int} (p1 : -2147483648 ≤ p) (p2 : p < 2147483648) (ok : sp_ok L n P K) : ev_C g mM_whereIs (d + 1) [.ref 16, ev_i p] (MH c th L n tn P K S ty z y t) 0 0
    (ev_V (some (ev_i (if p < 0 ∨ L < p then 0 else sp_F n P p.toNat))) (MH c (if p < 0 ∨ L < p then 1 else 0) L n tn P K S ty z y t)) := by
  have hL := ok.2.1
  have hL0 := ok.1
  refine ev_ofE (by decide +kernel) rfl (Nat.le_of_ble_eq_true rfl) rfl rfl ?_
  refine ev_aload_n dM_whereIs_0 rfl ?_
  refine ev_iload_n dM_whereIs_1 rfl ?_
  refine ev_if_lt (tgt := 13) dM_whereIs_2 rfl (by omega) (by omega) (fun h1 => ?_) (fun h1 => ?_)
  · rw [if_pos (Or.inl h1), if_pos (Or.inl h1)]
    refine ev_iconst dM_whereIs_13 ?_
    refine ev_goto (tgt := 18) dM_whereIs_14 rfl ?_
    refine ev_iconst dM_whereIs_18 ?_
    refine ev_cV dM_whereIs_19 cv_M_59 (ct_Mref1) rfl rfl rfl (Nat.le_of_ble_eq_true rfl) (Nat.le_of_ble_eq_true rfl) (Nat.le_of_ble_eq_true rfl) ?_
    refine ev_if_eq (tgt := 27) dM_whereIs_22 rfl (by omega) (by omega) (fun h3 => ?_) (fun h3 => ?_)
    · omega
    · refine ev_iconst dM_whereIs_25 ?_
      refine ev_ireturn dM_whereIs_26 rfl ?_
      exact ⟨rfl, rfl⟩
  · refine ev_iload_n dM_whereIs_5 rfl ?_
    refine ev_aload_n dM_whereIs_6 rfl ?_
    refine ev_get dM_whereIs_7 fl_M_7 rfl rfl ?_
    refine ev_icmp_le (tgt := 17) dM_whereIs_10 rfl (by omega) (by omega) (by omega) (by omega) (fun h2 => ?_) (fun h2 => ?_)
    · rw [if_neg (by omega), if_neg (by omega)]
      refine ev_iconst dM_whereIs_17 ?_
      refine ev_iconst dM_whereIs_18 ?_
      refine ev_cV dM_whereIs_19 cv_M_59 (ct_Mref0) rfl rfl rfl (Nat.le_of_ble_eq_true rfl) (Nat.le_of_ble_eq_true rfl) (Nat.le_of_ble_eq_true rfl) ?_
      refine ev_if_eq (tgt := 27) dM_whereIs_22 rfl (by omega) (by omega) (fun h3 => ?_) (fun h3 => ?_)
      · refine ev_aload_n dM_whereIs_27 rfl ?_
        refine ev_iload_n dM_whereIs_28 rfl ?_
        refine ev_cV dM_whereIs_29 cv_M_84 (ct_Mfold h1 (by omega) ok.2.2.1 ok.2.2.2.1 (sp_P60 ok)) rfl rfl rfl (Nat.le_of_ble_eq_true rfl) (Nat.le_of_ble_eq_true rfl) (Nat.le_of_ble_eq_true rfl) ?_
        refine ev_ireturn dM_whereIs_32 rfl ?_
        exact ⟨rfl, rfl⟩
      · omega
    · rw [if_pos (Or.inr h2), if_pos (Or.inr h2)]
      refine ev_iconst dM_whereIs_13 ?_
      refine ev_goto (tgt := 18) dM_whereIs_14 rfl ?_
      refine ev_iconst dM_whereIs_18 ?_
      refine ev_cV dM_whereIs_19 cv_M_59 (ct_Mref1) rfl rfl rfl (Nat.le_of_ble_eq_true rfl) (Nat.le_of_ble_eq_true rfl) (Nat.le_of_ble_eq_true rfl) ?_
      refine ev_if_eq (tgt := 27) dM_whereIs_22 rfl (by omega) (by omega) (fun h3 => ?_) (fun h3 => ?_)
      · omega
      · refine ev_iconst dM_whereIs_25 ?_
        refine ev_ireturn dM_whereIs_26 rfl ?_
        exact ⟨rfl, rfl⟩
theorem ct_Mtype {w : Int} (w1 : -2147483648 ≤ w) (w2 : w < 2147483648) (t0 : 0 ≤ ty) (t1 : ty ≤ 60) : ev_C g mM_type (d + 1) [.ref 16, ev_i w] (MH c th L n tn P K S ty z y t) 0 0
    (ev_V (some (ev_i (mo_v (lb_type ty w)))) (MH c (mo_c cd_A (lb_type ty w)) L n tn P K (if (32 ≤ w ∧ w ≤ 126) ∧ ty < 60 then ev_up S ty w else S) (if (32 ≤ w ∧ w ≤ 126) ∧ ty < 60 then ty + 1 else ty) z y t)) := by
  refine ev_ofE (by decide +kernel) rfl (Nat.le_of_ble_eq_true rfl) rfl rfl ?_
  have bad : ∀ {q : Int}, (w < 32 ∨ 126 < w) → ev_E g false mM_type (d + 1) 32 [some (.ref 16), some (ev_i w)] [ev_i q, ev_i 1, .ref 16] (MH c th L n tn P K S ty z y t) 0 0 (ev_V (some (ev_i (mo_v (lb_type ty w)))) (MH c (mo_c cd_A (lb_type ty w)) L n tn P K (if (32 ≤ w ∧ w ≤ 126) ∧ ty < 60 then ev_up S ty w else S) (if (32 ≤ w ∧ w ≤ 126) ∧ ty < 60 then ty + 1 else ty) z y t)) := by
    intro q hw
    rw [if_neg (by omega), if_neg (by omega), show lb_type ty w = .inr 5 from if_pos hw]
    refine ev_cV dM_type_32 cv_M_59 (ct_Mref1) rfl rfl rfl (Nat.le_of_ble_eq_true rfl) (Nat.le_of_ble_eq_true rfl) (Nat.le_of_ble_eq_true rfl) ?_
    refine ev_if_eq (tgt := 40) dM_type_35 rfl (by omega) (by omega) (fun h3 => ?_) (fun h3 => ?_)
    · omega
    · refine ev_iconst dM_type_38 ?_
      refine ev_ireturn dM_type_39 rfl ?_
      exact ⟨rfl, rfl⟩
  have badA : (w < 32 ∨ 126 < w) → ev_E g false mM_type (d + 1) 18 [some (.ref 16), some (ev_i w)] [ev_i 1, .ref 16] (MH c th L n tn P K S ty z y t) 0 0 (ev_V (some (ev_i (mo_v (lb_type ty w)))) (MH c (mo_c cd_A (lb_type ty w)) L n tn P K (if (32 ≤ w ∧ w ≤ 126) ∧ ty < 60 then ev_up S ty w else S) (if (32 ≤ w ∧ w ≤ 126) ∧ ty < 60 then ty + 1 else ty) z y t)) := by
    intro hw
    refine ev_aload_n dM_type_18 rfl ?_
    refine ev_get dM_type_19 fl_M_78 rfl rfl ?_
    refine ev_bipush dM_type_22 rfl ?_
    refine ev_icmp_ne (tgt := 31) dM_type_24 rfl (by omega) (by omega) (by omega) (by omega) (fun h4 => ?_) (fun h4 => ?_)
    · refine ev_iconst dM_type_31 ?_
      exact bad hw
    · refine ev_iconst dM_type_27 ?_
      refine ev_goto (tgt := 32) dM_type_28 rfl ?_
      exact bad hw
  refine ev_aload_n dM_type_0 rfl ?_
  refine ev_iload_n dM_type_1 rfl ?_
  refine ev_bipush dM_type_2 rfl ?_
  refine ev_icmp_lt (tgt := 13) dM_type_4 rfl (by omega) (by omega) (by omega) (by omega) (fun h1 => ?_) (fun h1 => ?_)
  · refine ev_iconst dM_type_13 ?_
    refine ev_goto (tgt := 18) dM_type_14 rfl ?_
    exact badA (Or.inl h1)
  · refine ev_iload_n dM_type_7 rfl ?_
    refine ev_bipush dM_type_8 rfl ?_
    refine ev_icmp_le (tgt := 17) dM_type_10 rfl (by omega) (by omega) (by omega) (by omega) (fun h2 => ?_) (fun h2 => ?_)
    · refine ev_iconst dM_type_17 ?_
      refine ev_aload_n dM_type_18 rfl ?_
      refine ev_get dM_type_19 fl_M_78 rfl rfl ?_
      refine ev_bipush dM_type_22 rfl ?_
      refine ev_icmp_ne (tgt := 31) dM_type_24 rfl (by omega) (by omega) (by omega) (by omega) (fun h4 => ?_) (fun h4 => ?_)
      · rw [if_pos (by omega), if_pos (by omega), show lb_type ty w = .inl (ty + 1) by unfold lb_type; rw [if_neg (by omega), if_neg (by omega)]]
        refine ev_iconst dM_type_31 ?_
        refine ev_cV dM_type_32 cv_M_59 (ct_Mref0) rfl rfl rfl (Nat.le_of_ble_eq_true rfl) (Nat.le_of_ble_eq_true rfl) (Nat.le_of_ble_eq_true rfl) ?_
        refine ev_if_eq (tgt := 40) dM_type_35 rfl (by omega) (by omega) (fun h3 => ?_) (fun h3 => ?_)
        · refine ev_aload_n dM_type_40 rfl ?_
          refine ev_get dM_type_41 fl_M_20 rfl rfl ?_
          refine ev_aload_n dM_type_44 rfl ?_
          refine ev_get dM_type_45 fl_M_78 rfl rfl ?_
          refine ev_iload_n dM_type_48 rfl ?_
          refine ev_iast dM_type_49 rfl (by omega) (by omega) (by decide) ?_
          refine ev_aload_n dM_type_50 rfl ?_
          refine ev_dup dM_type_51 rfl ?_
          refine ev_get dM_type_52 fl_M_78 rfl rfl ?_
          refine ev_iconst dM_type_55 ?_
          refine ev_iadd dM_type_56 ?_
          refine ev_put dM_type_57 fp_M_78 (fun q => by cases q) rfl (Nat.le_of_ble_eq_true rfl) rfl rfl ?_
          refine ev_aload_n dM_type_60 rfl ?_
          refine ev_get dM_type_61 fl_M_78 rfl rfl ?_
          refine ev_ireturn dM_type_64 rfl ?_
          exact ⟨rfl, rfl⟩
        · omega
      · rw [if_neg (by omega), if_neg (by omega), show lb_type ty w = .inr 6 by unfold lb_type; rw [if_neg (by omega), if_pos (by omega)]]
        refine ev_iconst dM_type_27 ?_
        refine ev_goto (tgt := 32) dM_type_28 rfl ?_
        refine ev_cV dM_type_32 cv_M_59 (ct_Mref2) rfl rfl rfl (Nat.le_of_ble_eq_true rfl) (Nat.le_of_ble_eq_true rfl) (Nat.le_of_ble_eq_true rfl) ?_
        refine ev_if_eq (tgt := 40) dM_type_35 rfl (by omega) (by omega) (fun h3 => ?_) (fun h3 => ?_)
        · omega
        · refine ev_iconst dM_type_38 ?_
          refine ev_ireturn dM_type_39 rfl ?_
          exact ⟨rfl, rfl⟩
    · refine ev_iconst dM_type_13 ?_
      refine ev_goto (tgt := 18) dM_type_14 rfl ?_
      exact badA (Or.inr h2)
end R5
