/-! setting a crease -/
def sp_n1 (n : Int) (P : Int → Int) (p m : Int) : Int := if m = 3 then n - 1 else if sp_bef n P p < n ∧ P (sp_bef n P p) = p then n else n + 1
def sp_P1 (n : Int) (P : Int → Int) (p m : Int) : Int → Int := if m = 3 then sp_dl P (sp_bef n P p) (n - 1) else if sp_bef n P p < n ∧ P (sp_bef n P p) = p then P else sp_ins P n (sp_bef n P p) p
def sp_K1 (n : Int) (P K : Int → Int) (p m : Int) : Int → Int := if m = 3 then sp_dl K (sp_bef n P p) (n - 1) else if sp_bef n P p < n ∧ P (sp_bef n P p) = p then ev_up K (sp_bef n P p) m else sp_ins K n (sp_bef n P p) m
section PD
variable {g : ev_G} {d : Nat} {L n : Int} {tn : Bool} {P K B lo hi : Int → Int} {c0 : ev_AC} {t : List ev_AC} {h : List ev_AC}
theorem sp_jd0 {p m : Int} (hj : sp_jd L n P p m = 0) : 1 ≤ p ∧ p < L ∧ 0 ≤ m ∧ m ≤ 3 ∧ ((sp_bef n P p < n ∧ P (sp_bef n P p) = p) ∨ (¬ (sp_bef n P p < n ∧ P (sp_bef n P p) = p) ∧ m ≠ 3 ∧ n < 6)) := by
  unfold sp_jd at hj
  by_cases h1 : p < 1 ∨ L ≤ p ∨ m < 0 ∨ 3 < m
  · rw [if_pos h1] at hj; exact absurd hj (by decide)
  · rw [if_neg h1] at hj
    refine ⟨by omega, by omega, by omega, by omega, ?_⟩
    by_cases h2 : sp_bef n P p < n ∧ P (sp_bef n P p) = p
    · exact Or.inl h2
    · rw [if_neg h2] at hj
      by_cases h3 : m = 3
      · rw [if_pos h3] at hj; exact absurd hj (by decide)
      · rw [if_neg h3] at hj
        by_cases h4 : n < 6
        · exact Or.inr ⟨h2, h3, h4⟩
        · rw [if_neg h4] at hj; exact absurd hj (by decide)
theorem sp_ok1 {p m : Int} (ok : sp_ok L n P K) (hj : sp_jd L n P p m = 0) : sp_ok L (sp_n1 n P p m) (sp_P1 n P p m) (sp_K1 n P K p m) := by
  obtain ⟨p1, p2, m1, m2, hc⟩ := sp_jd0 hj
  obtain ⟨l1, l2, n0, n6, hb, hs⟩ := ok
  obtain ⟨b0, b1, b2, b3⟩ := sp_bef_spec (n := n) (P := P) (p := p) n0
  unfold sp_n1 sp_P1 sp_K1
  generalize sp_bef n P p = b at *
  by_cases h3 : m = 3
  · rw [if_pos h3, if_pos h3, if_pos h3]
    have hh : b < n := hc.elim (fun h => h.1) (fun h => absurd h3 h.2.1)
    refine ⟨l1, l2, by omega, by omega, fun i i0 i1 => ?_, fun i j i0 ij j1 => ?_⟩
    · unfold sp_dl
      by_cases h : b ≤ i ∧ i < n - 1
      · rw [if_pos h, if_pos h]; exact hb (i + 1) (by omega) (by omega)
      · rw [if_neg h, if_neg h]; exact hb i i0 (by omega)
    · unfold sp_dl
      by_cases h : b ≤ i ∧ i < n - 1
      · rw [if_pos h, if_pos (by omega)]; exact hs (i + 1) (j + 1) (by omega) (by omega) (by omega)
      · rw [if_neg h]
        by_cases h2 : b ≤ j ∧ j < n - 1
        · rw [if_pos h2]; exact hs i (j + 1) i0 (by omega) (by omega)
        · rw [if_neg h2]; exact hs i j i0 ij (by omega)
  · rw [if_neg h3, if_neg h3, if_neg h3]
    rcases hc with hh | ⟨hh, -, h6⟩
    · rw [if_pos hh, if_pos hh, if_pos hh]
      refine ⟨l1, l2, n0, n6, fun i i0 i1 => ?_, hs⟩
      have := hb i i0 i1
      unfold ev_up
      split <;> omega
    · rw [if_neg hh, if_neg hh, if_neg hh]
      have hpb : b < n → p < P b := fun h => by
        have := b3 h
        have : P b ≠ p := fun e => hh ⟨h, e⟩
        omega
      have hin : ∀ (F : Int → Int) (v i : Int), i < b → sp_ins F n b v i = F i := fun F v i h => by
        unfold sp_ins ev_up sp_sh
        rw [if_neg (by omega), if_neg (by omega)]
      have hat : ∀ (F : Int → Int) (v : Int), sp_ins F n b v b = v := fun F v => if_pos rfl
      have hgt : ∀ (F : Int → Int) (v i : Int), b < i → i ≤ n → sp_ins F n b v i = F (i - 1) := fun F v i h h2 => by
        unfold sp_ins ev_up sp_sh
        rw [if_neg (by omega), if_pos (by omega)]
      refine ⟨l1, l2, by omega, by omega, fun i i0 i1 => ?_, fun i j i0 ij j1 => ?_⟩
      · rcases Int.lt_trichotomy i b with h | h | h
        · rw [hin _ _ _ h, hin _ _ _ h]; exact hb i i0 (by omega)
        · rw [h, hat, hat]; omega
        · rw [hgt _ _ _ h (by omega), hgt _ _ _ h (by omega)]; exact hb (i - 1) (by omega) (by omega)
      · rcases Int.lt_trichotomy i b with h | h | h
        · rw [hin _ _ _ h]
          rcases Int.lt_trichotomy j b with h2 | h2 | h2
          · rw [hin _ _ _ h2]; exact hs i j i0 ij (by omega)
          · rw [h2, hat]; exact b2 i i0 h
          · rw [hgt _ _ _ h2 (by omega)]; exact hs i (j - 1) i0 (by omega) (by omega)
        · rw [h, hat, hgt _ _ _ (by omega) (by omega)]
          have h1 := hpb (by omega)
          by_cases hjb : j - 1 = b
          · rw [hjb]; exact h1
          · have := hs b (j - 1) b0 (by omega) (by omega); omega
        · rw [hgt _ _ _ h (by omega), hgt _ _ _ (by omega) (by omega)]
          exact hs (i - 1) (j - 1) (by omega) (by omega) (by omega)
theorem ct_setCrease {p m : Int} (ok : sp_ok L n P K) (hj : sp_jd L n P p m = 0) :
    ev_C g mP_setCrease (d + 3) [.ref 1, ev_i p, ev_i m] (pw L n tn P K B lo hi c0 t) 0 0
      (ev_V none (pw L (sp_n1 n P p m) tn (sp_P1 n P p m) (sp_K1 n P K p m) (ev_ov (sp_B L (sp_n1 n P p m) (sp_P1 n P p m)) B (sp_n1 n P p m + 2)) (ev_ov (sp_lo L (sp_n1 n P p m) (sp_P1 n P p m)) lo (sp_n1 n P p m + 1)) (ev_ov (sp_hi L (sp_n1 n P p m) (sp_P1 n P p m)) hi (sp_n1 n P p m + 1)) c0 t)) := by
  have ok1 := sp_ok1 ok hj
  obtain ⟨p1, p2, m1, m2, hc⟩ := sp_jd0 hj
  have hL2 := ok.2.1
  have hn0 := ok.2.2.1
  have hn := ok.2.2.2.1
  have hP : ∀ i, 0 ≤ i → i < n → 0 ≤ P i ∧ P i ≤ 60 := fun i a b => by have := ok.2.2.2.2.1 i a b; omega
  obtain ⟨b0, b1, b2, b3⟩ := sp_bef_spec (n := n) (P := P) (p := p) hn0
  refine ev_ofE (by decide +kernel) rfl (Nat.le_of_ble_eq_true rfl) rfl rfl ?_
  refine ev_aload_n dP_setCrease_0 rfl ?_
  refine ev_iload_n dP_setCrease_1 rfl ?_
  refine ev_cV dP_setCrease_2 cv_P_49 (ct_before (by omega) (by omega) hn0 hn hP) rfl rfl rfl (Nat.le_of_ble_eq_true rfl) (Nat.le_of_ble_eq_true rfl) (Nat.le_of_ble_eq_true rfl) ?_
  refine ev_istore_n dP_setCrease_5 (Nat.le_of_ble_eq_true rfl) ?_
  refine ev_iload_n dP_setCrease_6 rfl ?_
  refine ev_iconst dP_setCrease_7 ?_
  refine ev_icmp_ne (tgt := 19) dP_setCrease_8 rfl (by omega) (by omega) (by omega) (by omega) (fun hb => ?_) (fun hb => ?_)
  · refine ev_aload_n dP_setCrease_19 rfl ?_
    refine ev_iload_n dP_setCrease_20 rfl ?_
    refine ev_cV dP_setCrease_21 cv_P_45 (ct_hasCrease (by omega) (by omega) hn0 hn hP) rfl rfl rfl (Nat.le_of_ble_eq_true rfl) (Nat.le_of_ble_eq_true rfl) (Nat.le_of_ble_eq_true rfl) ?_
    refine ev_bz (tgt := 37) dP_setCrease_24 rfl (fun hb2 => ?_) (fun hb2 => ?_)
    · have h2 := of_decide_eq_false hb2
      have h6 : n < 6 := hc.elim (fun h => absurd h h2) (fun h => h.2.2)
      have e1 : sp_n1 n P p m = n + 1 := by rw [sp_n1, if_neg hb, if_neg h2]
      have e2 : sp_P1 n P p m = sp_ins P n (sp_bef n P p) p := by rw [sp_P1, if_neg hb, if_neg h2]
      have e3 : sp_K1 n P K p m = sp_ins K n (sp_bef n P p) m := by rw [sp_K1, if_neg hb, if_neg h2]
      rw [e1, e2, e3] at ok1 ⊢
      refine ev_aload_n dP_setCrease_37 rfl ?_
      refine ev_iload_n dP_setCrease_38 rfl ?_
      refine ev_iload_n dP_setCrease_39 rfl ?_
      refine ev_iload_n dP_setCrease_40 rfl ?_
      refine ev_cVv dP_setCrease_41 cv_P_56 (ct_insert b0 b1 h6) rfl rfl rfl (Nat.le_of_ble_eq_true rfl) (Nat.le_of_ble_eq_true rfl) (Nat.le_of_ble_eq_true rfl) ?_
      refine ev_aload_n dP_setCrease_44 rfl ?_
      refine ev_cVv dP_setCrease_45 cv_P_42 (ct_fold ok1) rfl rfl rfl (Nat.le_of_ble_eq_true rfl) (Nat.le_of_ble_eq_true rfl) (Nat.le_of_ble_eq_true rfl) ?_
      refine ev_return dP_setCrease_48 rfl ?_
      exact ⟨rfl, rfl⟩
    · have h2 := of_decide_eq_true hb2
      have e1 : sp_n1 n P p m = n := by rw [sp_n1, if_neg hb, if_pos h2]
      have e2 : sp_P1 n P p m = P := by rw [sp_P1, if_neg hb, if_pos h2]
      have e3 : sp_K1 n P K p m = ev_up K (sp_bef n P p) m := by rw [sp_K1, if_neg hb, if_pos h2]
      rw [e1, e2, e3] at ok1 ⊢
      have h3 := h2.1
      refine ev_aload_n dP_setCrease_27 rfl ?_
      refine ev_get dP_setCrease_28 fl_P_15 rfl rfl ?_
      refine ev_iload_n dP_setCrease_31 rfl ?_
      refine ev_iload_n dP_setCrease_32 rfl ?_
      refine ev_iast dP_setCrease_33 rfl (by omega) (by omega) (by decide) ?_
      refine ev_goto (tgt := 44) dP_setCrease_34 rfl ?_
      refine ev_aload_n dP_setCrease_44 rfl ?_
      refine ev_cVv dP_setCrease_45 cv_P_42 (ct_fold (L := L) (n := n) (P := P) (K := ev_up K (sp_bef n P p) m) ok1) rfl rfl rfl (Nat.le_of_ble_eq_true rfl) (Nat.le_of_ble_eq_true rfl) (Nat.le_of_ble_eq_true rfl) ?_
      refine ev_return dP_setCrease_48 rfl ?_
      exact ⟨rfl, rfl⟩
  · have h2 : sp_bef n P p < n := hc.elim (fun h => h.1) (fun h => absurd hb h.2.1)
    have e1 : sp_n1 n P p m = n - 1 := by rw [sp_n1, if_pos hb]
    have e2 : sp_P1 n P p m = sp_dl P (sp_bef n P p) (n - 1) := by rw [sp_P1, if_pos hb]
    have e3 : sp_K1 n P K p m = sp_dl K (sp_bef n P p) (n - 1) := by rw [sp_K1, if_pos hb]
    rw [e1, e2, e3] at ok1 ⊢
    refine ev_aload_n dP_setCrease_11 rfl ?_
    refine ev_iload_n dP_setCrease_12 rfl ?_
    refine ev_cVv dP_setCrease_13 cv_P_53 (ct_remove b0 h2 hn) rfl rfl rfl (Nat.le_of_ble_eq_true rfl) (Nat.le_of_ble_eq_true rfl) (Nat.le_of_ble_eq_true rfl) ?_
    refine ev_goto (tgt := 44) dP_setCrease_16 rfl ?_
    refine ev_aload_n dP_setCrease_44 rfl ?_
    refine ev_cVv dP_setCrease_45 cv_P_42 (ct_fold ok1) rfl rfl rfl (Nat.le_of_ble_eq_true rfl) (Nat.le_of_ble_eq_true rfl) (Nat.le_of_ble_eq_true rfl) ?_
    refine ev_return dP_setCrease_48 rfl ?_
    exact ⟨rfl, rfl⟩
end PD
