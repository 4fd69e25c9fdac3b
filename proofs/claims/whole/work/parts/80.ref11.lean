/-! The reference: the search's rules -/
/-- a proposition as a truth value -/
noncomputable def bd (p : Prop) : Bool := @decide p (Classical.propDecidable p)
theorem bd_iff {p : Prop} : bd p = true ↔ p := by
  unfold bd
  exact @decide_eq_true_iff p (Classical.propDecidable p)
theorem bd_of {p : Prop} {b : Bool} (h : b = true ↔ p) : b = bd p := Bool.eq_iff_iff.mpr (h.trans bd_iff.symm)
theorem bd_cg {p q : Prop} (h : p ↔ q) : bd p = bd q := bd_of (bd_iff.trans h)
abbrev mz_g (z : MZ) (a b : Int) : Int := z.1 (7 * a + b)
/-- the search's cells hold what can be compared -/
def mz_ok (n : Int) (z : MZ) : Prop := (∀ i, 0 ≤ i → i < 49 → -2 ≤ z.1 i ∧ z.1 i ≤ 1) ∧ (∀ i, 0 ≤ i → i ≤ n → -100 ≤ z.2.2.2.1 i ∧ z.2.2.2.1 i ≤ 100) ∧ (∀ i, 0 ≤ i → i ≤ n → -100 ≤ z.2.2.2.2.1 i ∧ z.2.2.2.2.1 i ≤ 100) ∧
  ∀ i, 0 ≤ i → i < n → -100 ≤ z.2.2.2.2.2.1 i ∧ z.2.2.2.2.2.1 i ≤ 100
def mz_tr (z : MZ) (a b c : Int) : Bool := decide ((mz_g z a b = 1 ∧ mz_g z b c = 1 ∧ mz_g z c a = 1) ∨ (mz_g z a b = 0 ∧ mz_g z b c = 0 ∧ mz_g z c a = 0))
def mz_mk (K : Int → Int) (tn : Bool) (z : MZ) (c : Int) : Bool := decide (mz_g z (c + 1) c = -2 ∨ K c = 0 ∨ mz_g z (c + 1) c = ev_b (decide (K c = 2) == sp_up tn c))
def mz_ins (z : MZ) (c s : Int) : Prop := s ≠ c ∧ s ≠ c + 1 ∧ z.2.2.2.1 s < z.2.2.2.2.2.1 c ∧ z.2.2.2.2.2.1 c < z.2.2.2.2.1 s
def mz_cl (n : Int) (z : MZ) (c : Int) : Prop := ∀ s, 0 ≤ s → s ≤ n → mz_ins z c s → mz_bt z s c (c + 1) ≠ 1
def mz_all (z : MZ) (c e : Int) : Prop := z.2.2.2.2.2.1 c = z.2.2.2.2.2.1 e ∧ mz_ov z c e = true ∧ mz_ov z c (e + 1) = true ∧ mz_ov z (c + 1) e = true ∧ mz_ov z (c + 1) (e + 1) = true
def mz_pc (z : MZ) (c e : Int) : Prop := mz_all z c e → mz_bt z e c (c + 1) = -2 ∨ mz_bt z (e + 1) c (c + 1) = -2 ∨ mz_bt z e c (c + 1) = mz_bt z (e + 1) c (c + 1)
def mz_T (z : MZ) (a b c : Int) : Prop := ¬ (mz_ov z a b = true ∧ mz_ov z b c = true ∧ mz_ov z a c = true ∧ mz_tr z a b c = true)
def mz_B (n : Int) (K : Int → Int) (tn : Bool) (z : MZ) (c : Int) : Prop := mz_mk K tn z c = true ∧ mz_cl n z c ∧ ∀ e, 0 ≤ e → e < n → e ≠ c → mz_pc z c e
def mz_H (n : Int) (K : Int → Int) (tn : Bool) (z : MZ) : Prop := (∀ a b c, 0 ≤ a → a < b → b < c → c ≤ n → mz_T z a b c) ∧ ∀ c, 0 ≤ c → c < n → mz_B n K tn z c
section R10
variable {g : ev_G} {d : Nat} {c : Nat → ev_AC} {h : List ev_AC} {th L n : Int} {tn : Bool} {P K S : Int → Int} {ty : Int} {z : MZ} {y : MY} {t : List ev_AC}
theorem ct_Mset {a b v : Int} (a0 : 0 ≤ a) (a1 : a ≤ 6) (b0 : 0 ≤ b) (b1 : b ≤ 6) (v1 : -2 ≤ v) (v2 : v ≤ 1) : ev_C g mM_set d [.ref 16, ev_i a, ev_i b, ev_i v] (MH c th L n tn P K S ty z y t) 0 0
    (ev_V none (MH c th L n tn P K S ty (ev_up (ev_up z.1 (7 * a + b) v) (7 * b + a) (if v < 0 then v else 1 - v), z.2) y t)) := by
  obtain ⟨zo, zr⟩ := z
  refine ev_ofE (by decide +kernel) rfl (Nat.le_of_ble_eq_true rfl) rfl rfl ?_
  refine ev_aload_n dM_set_0 rfl ?_
  refine ev_get dM_set_1 fl_M_23 rfl rfl ?_
  refine ev_bipush dM_set_4 rfl ?_
  refine ev_iload_n dM_set_6 rfl ?_
  refine ev_imul dM_set_7 ?_
  refine ev_iload_n dM_set_8 rfl ?_
  refine ev_iadd dM_set_9 ?_
  refine ev_iload_n dM_set_10 rfl ?_
  refine ev_iast dM_set_11 rfl (by omega) (by omega) (by decide) ?_
  refine ev_aload_n dM_set_12 rfl ?_
  refine ev_get dM_set_13 fl_M_23 rfl rfl ?_
  refine ev_bipush dM_set_16 rfl ?_
  refine ev_iload_n dM_set_18 rfl ?_
  refine ev_imul dM_set_19 ?_
  refine ev_iload_n dM_set_20 rfl ?_
  refine ev_iadd dM_set_21 ?_
  refine ev_iload_n dM_set_22 rfl ?_
  refine ev_if_ge (tgt := 30) dM_set_23 rfl (by omega) (by omega) (fun h1 => ?_) (fun h1 => ?_)
  · rw [if_neg (by omega)]
    refine ev_iconst dM_set_30 ?_
    refine ev_iload_n dM_set_31 rfl ?_
    refine ev_isub dM_set_32 ?_
    refine ev_iast dM_set_33 rfl (by omega) (by omega) (by decide) ?_
    refine ev_return dM_set_34 rfl ?_
    exact ⟨rfl, rfl⟩
  · rw [if_pos h1]
    refine ev_iload_n dM_set_26 rfl ?_
    refine ev_goto (tgt := 33) dM_set_27 rfl ?_
    refine ev_iast dM_set_33 rfl (by omega) (by omega) (by decide) ?_
    refine ev_return dM_set_34 rfl ?_
    exact ⟨rfl, rfl⟩
theorem ct_MturnsRound {a b e : Int} (a0 : 0 ≤ a) (a1 : a ≤ 6) (b0 : 0 ≤ b) (b1 : b ≤ 6) (e0 : 0 ≤ e) (e1 : e ≤ 6) (hz : ∀ i, 0 ≤ i → i < 49 → -2 ≤ z.1 i ∧ z.1 i ≤ 1) :
    ev_C g mM_turnsRound (d + 1) [.ref 16, ev_i a, ev_i b, ev_i e] (MH c th L n tn P K S ty z y t) 0 0 (ev_V (some (ev_i (ev_b (mz_tr z a b e)))) (MH c th L n tn P K S ty z y t)) := by
  have za := hz (7 * a + b) (by omega) (by omega)
  have zb := hz (7 * b + e) (by omega) (by omega)
  have zc := hz (7 * e + a) (by omega) (by omega)
  unfold mz_tr mz_g
  refine ev_ofE (by decide +kernel) rfl (Nat.le_of_ble_eq_true rfl) rfl rfl ?_
  have snd : ¬ (z.1 (7 * a + b) = 1 ∧ z.1 (7 * b + e) = 1 ∧ z.1 (7 * e + a) = 1) → ev_E g false mM_turnsRound (d + 1) 30 [some (.ref 16), some (ev_i a), some (ev_i b), some (ev_i e)] [] (MH c th L n tn P K S ty z y t) 0 0 (ev_V (some (ev_i (ev_b (decide ((z.1 (7 * a + b) = 1 ∧ z.1 (7 * b + e) = 1 ∧ z.1 (7 * e + a) = 1) ∨ (z.1 (7 * a + b) = 0 ∧ z.1 (7 * b + e) = 0 ∧ z.1 (7 * e + a) = 0)))))) (MH c th L n tn P K S ty z y t)) := by
    intro hno
    refine ev_aload_n dM_turnsRound_30 rfl ?_
    refine ev_iload_n dM_turnsRound_31 rfl ?_
    refine ev_iload_n dM_turnsRound_32 rfl ?_
    refine ev_cV dM_turnsRound_33 cv_M_124 (ct_Mget a0 a1 b0 b1) rfl rfl rfl (Nat.le_of_ble_eq_true rfl) (Nat.le_of_ble_eq_true rfl) (Nat.le_of_ble_eq_true rfl) ?_
    refine ev_if_ne (tgt := 61) dM_turnsRound_36 rfl (by omega) (by omega) (fun g1 => ?_) (fun g1 => ?_)
    · refine ev_iconst dM_turnsRound_61 ?_
      refine ev_zreturn dM_turnsRound_62 rfl ?_ ?_
      · decide
      · exact ⟨by rw [decide_eq_false (by omega)]; rfl, rfl⟩
    · refine ev_aload_n dM_turnsRound_39 rfl ?_
      refine ev_iload_n dM_turnsRound_40 rfl ?_
      refine ev_iload_n dM_turnsRound_41 rfl ?_
      refine ev_cV dM_turnsRound_42 cv_M_124 (ct_Mget b0 b1 e0 e1) rfl rfl rfl (Nat.le_of_ble_eq_true rfl) (Nat.le_of_ble_eq_true rfl) (Nat.le_of_ble_eq_true rfl) ?_
      refine ev_if_ne (tgt := 61) dM_turnsRound_45 rfl (by omega) (by omega) (fun g2 => ?_) (fun g2 => ?_)
      · refine ev_iconst dM_turnsRound_61 ?_
        refine ev_zreturn dM_turnsRound_62 rfl ?_ ?_
        · decide
        · exact ⟨by rw [decide_eq_false (by omega)]; rfl, rfl⟩
      · refine ev_aload_n dM_turnsRound_48 rfl ?_
        refine ev_iload_n dM_turnsRound_49 rfl ?_
        refine ev_iload_n dM_turnsRound_50 rfl ?_
        refine ev_cV dM_turnsRound_51 cv_M_124 (ct_Mget e0 e1 a0 a1) rfl rfl rfl (Nat.le_of_ble_eq_true rfl) (Nat.le_of_ble_eq_true rfl) (Nat.le_of_ble_eq_true rfl) ?_
        refine ev_if_ne (tgt := 61) dM_turnsRound_54 rfl (by omega) (by omega) (fun g3 => ?_) (fun g3 => ?_)
        · refine ev_iconst dM_turnsRound_61 ?_
          refine ev_zreturn dM_turnsRound_62 rfl ?_ ?_
          · decide
          · exact ⟨by rw [decide_eq_false (by omega)]; rfl, rfl⟩
        · refine ev_iconst dM_turnsRound_57 ?_
          refine ev_goto (tgt := 62) dM_turnsRound_58 rfl ?_
          refine ev_zreturn dM_turnsRound_62 rfl ?_ ?_
          · decide
          · exact ⟨by rw [decide_eq_true (Or.inr ⟨g1, g2, g3⟩)]; rfl, rfl⟩
  refine ev_aload_n dM_turnsRound_0 rfl ?_
  refine ev_iload_n dM_turnsRound_1 rfl ?_
  refine ev_iload_n dM_turnsRound_2 rfl ?_
  refine ev_cV dM_turnsRound_3 cv_M_124 (ct_Mget a0 a1 b0 b1) rfl rfl rfl (Nat.le_of_ble_eq_true rfl) (Nat.le_of_ble_eq_true rfl) (Nat.le_of_ble_eq_true rfl) ?_
  refine ev_iconst dM_turnsRound_6 ?_
  refine ev_icmp_ne (tgt := 30) dM_turnsRound_7 rfl (by omega) (by omega) (by omega) (by omega) (fun g1 => ?_) (fun g1 => ?_)
  · exact snd (fun q => g1 q.1)
  · refine ev_aload_n dM_turnsRound_10 rfl ?_
    refine ev_iload_n dM_turnsRound_11 rfl ?_
    refine ev_iload_n dM_turnsRound_12 rfl ?_
    refine ev_cV dM_turnsRound_13 cv_M_124 (ct_Mget b0 b1 e0 e1) rfl rfl rfl (Nat.le_of_ble_eq_true rfl) (Nat.le_of_ble_eq_true rfl) (Nat.le_of_ble_eq_true rfl) ?_
    refine ev_iconst dM_turnsRound_16 ?_
    refine ev_icmp_ne (tgt := 30) dM_turnsRound_17 rfl (by omega) (by omega) (by omega) (by omega) (fun g2 => ?_) (fun g2 => ?_)
    · exact snd (fun q => g2 q.2.1)
    · refine ev_aload_n dM_turnsRound_20 rfl ?_
      refine ev_iload_n dM_turnsRound_21 rfl ?_
      refine ev_iload_n dM_turnsRound_22 rfl ?_
      refine ev_cV dM_turnsRound_23 cv_M_124 (ct_Mget e0 e1 a0 a1) rfl rfl rfl (Nat.le_of_ble_eq_true rfl) (Nat.le_of_ble_eq_true rfl) (Nat.le_of_ble_eq_true rfl) ?_
      refine ev_iconst dM_turnsRound_26 ?_
      refine ev_icmp_eq (tgt := 57) dM_turnsRound_27 rfl (by omega) (by omega) (by omega) (by omega) (fun g3 => ?_) (fun g3 => ?_)
      · refine ev_iconst dM_turnsRound_57 ?_
        refine ev_goto (tgt := 62) dM_turnsRound_58 rfl ?_
        refine ev_zreturn dM_turnsRound_62 rfl ?_ ?_
        · decide
        · exact ⟨by rw [decide_eq_true (Or.inl ⟨g1, g2, g3⟩)]; rfl, rfl⟩
      · exact snd (fun q => g3 q.2.2)
theorem ct_MisMarked {e : Int} (e0 : 0 ≤ e) (e1 : e < n) (hn : n ≤ 6) (hK : ∀ i, 0 ≤ i → i < n → 0 ≤ K i ∧ K i ≤ 2) (hz : ∀ i, 0 ≤ i → i < 49 → -2 ≤ z.1 i ∧ z.1 i ≤ 1) :
    ev_C g mM_isMarked (d + 1) [.ref 16, ev_i e] (MH c th L n tn P K S ty z y t) 0 0 (ev_V (some (ev_i (ev_b (mz_mk K tn z e)))) (MH c th L n tn P K S ty z y t)) := by
  have za := hz (7 * (e + 1) + e) (by omega) (by omega)
  have hKe := hK e e0 e1
  unfold mz_mk mz_g
  refine ev_ofE (by decide +kernel) rfl (Nat.le_of_ble_eq_true rfl) rfl rfl ?_
  have h24 : ∀ (b : Bool) (o2 : Option Value), b = decide (K e = 2) → ev_E g false mM_isMarked (d + 1) 24 [some (.ref 16), some (ev_i e), some (ev_i (z.1 (7 * (e + 1) + e))), o2] [ev_i (ev_b b)] (MH c th L n tn P K S ty z y t) 0 0
      (ev_V (some (ev_i (ev_b (decide (z.1 (7 * (e + 1) + e) = -2 ∨ K e = 0 ∨ z.1 (7 * (e + 1) + e) = ev_b (decide (K e = 2) == sp_up tn e)))))) (MH c th L n tn P K S ty z y t)) := by
    intro b o2 hb
    refine ev_istore_n dM_isMarked_24 (Nat.le_of_ble_eq_true rfl) ?_
    refine ev_iload_n dM_isMarked_25 rfl ?_
    refine ev_bipush dM_isMarked_26 rfl ?_
    refine ev_icmp_eq (tgt := 58) dM_isMarked_28 rfl (by omega) (by omega) (by omega) (by omega) (fun g1 => ?_) (fun g1 => ?_)
    · refine ev_iconst dM_isMarked_58 ?_
      refine ev_goto (tgt := 63) dM_isMarked_59 rfl ?_
      refine ev_zreturn dM_isMarked_63 rfl ?_ ?_
      · decide
      · exact ⟨by rw [decide_eq_true (Or.inl g1)]; rfl, rfl⟩
    · refine ev_aload_n dM_isMarked_31 rfl ?_
      refine ev_get dM_isMarked_32 fl_M_17 rfl rfl ?_
      refine ev_iload_n dM_isMarked_35 rfl ?_
      refine ev_iald dM_isMarked_36 rfl (by omega) (by omega) (by decide) ?_
      refine ev_if_eq (tgt := 58) dM_isMarked_37 rfl (by omega) (by omega) (fun g2 => ?_) (fun g2 => ?_)
      · refine ev_iconst dM_isMarked_58 ?_
        refine ev_goto (tgt := 63) dM_isMarked_59 rfl ?_
        refine ev_zreturn dM_isMarked_63 rfl ?_ ?_
        · decide
        · exact ⟨by rw [decide_eq_true (Or.inr (Or.inl g2))]; rfl, rfl⟩
      · refine ev_iload_n dM_isMarked_40 rfl ?_
        refine ev_iload_n dM_isMarked_41 rfl ?_
        refine ev_aload_n dM_isMarked_42 rfl ?_
        refine ev_iload_n dM_isMarked_43 rfl ?_
        refine ev_cV dM_isMarked_44 cv_M_96 (ct_MisUp e0 (by omega)) rfl rfl rfl (Nat.le_of_ble_eq_true rfl) (Nat.le_of_ble_eq_true rfl) (Nat.le_of_ble_eq_true rfl) ?_
        refine ev_qne (tgt := 54) dM_isMarked_47 rfl (fun g3 => ?_) (fun g3 => ?_)
        · have ev : (decide (K e = 2) == sp_up tn e) = false := by rw [← hb]; exact beq_false_of_ne g3
          rw [ev, ev_b_f]
          refine ev_iconst dM_isMarked_54 ?_
          refine ev_icmp_ne (tgt := 62) dM_isMarked_55 rfl (by omega) (by omega) (by omega) (by omega) (fun g4 => ?_) (fun g4 => ?_)
          · refine ev_iconst dM_isMarked_62 ?_
            refine ev_zreturn dM_isMarked_63 rfl ?_ ?_
            · decide
            · exact ⟨by rw [decide_eq_false (show ¬ (z.1 (7 * (e + 1) + e) = -2 ∨ K e = 0 ∨ z.1 (7 * (e + 1) + e) = 0) by omega)]; rfl, rfl⟩
          · refine ev_iconst dM_isMarked_58 ?_
            refine ev_goto (tgt := 63) dM_isMarked_59 rfl ?_
            refine ev_zreturn dM_isMarked_63 rfl ?_ ?_
            · decide
            · exact ⟨by rw [decide_eq_true (Or.inr (Or.inr g4))]; rfl, rfl⟩
        · have ev : (decide (K e = 2) == sp_up tn e) = true := by rw [← hb]; exact beq_iff_eq.mpr g3
          rw [ev, ev_b_t]
          refine ev_iconst dM_isMarked_50 ?_
          refine ev_goto (tgt := 55) dM_isMarked_51 rfl ?_
          refine ev_icmp_ne (tgt := 62) dM_isMarked_55 rfl (by omega) (by omega) (by omega) (by omega) (fun g4 => ?_) (fun g4 => ?_)
          · refine ev_iconst dM_isMarked_62 ?_
            refine ev_zreturn dM_isMarked_63 rfl ?_ ?_
            · decide
            · exact ⟨by rw [decide_eq_false (show ¬ (z.1 (7 * (e + 1) + e) = -2 ∨ K e = 0 ∨ z.1 (7 * (e + 1) + e) = 1) by omega)]; rfl, rfl⟩
          · refine ev_iconst dM_isMarked_58 ?_
            refine ev_goto (tgt := 63) dM_isMarked_59 rfl ?_
            refine ev_zreturn dM_isMarked_63 rfl ?_ ?_
            · decide
            · exact ⟨by rw [decide_eq_true (Or.inr (Or.inr g4))]; rfl, rfl⟩
  refine ev_aload_n dM_isMarked_0 rfl ?_
  refine ev_iload_n dM_isMarked_1 rfl ?_
  refine ev_iconst dM_isMarked_2 ?_
  refine ev_iadd dM_isMarked_3 ?_
  refine ev_iload_n dM_isMarked_4 rfl ?_
  refine ev_cV dM_isMarked_5 cv_M_124 (ct_Mget (i := e + 1) (j := e) (by omega) (by omega) e0 (by omega)) rfl rfl rfl (Nat.le_of_ble_eq_true rfl) (Nat.le_of_ble_eq_true rfl) (Nat.le_of_ble_eq_true rfl) ?_
  refine ev_istore_n dM_isMarked_8 (Nat.le_of_ble_eq_true rfl) ?_
  refine ev_aload_n dM_isMarked_9 rfl ?_
  refine ev_get dM_isMarked_10 fl_M_17 rfl rfl ?_
  refine ev_iload_n dM_isMarked_13 rfl ?_
  refine ev_iald dM_isMarked_14 rfl (by omega) (by omega) (by decide) ?_
  refine ev_iconst dM_isMarked_15 ?_
  refine ev_icmp_ne (tgt := 23) dM_isMarked_16 rfl (by omega) (by omega) (by omega) (by omega) (fun f1 => ?_) (fun f1 => ?_)
  · refine ev_iconst dM_isMarked_23 ?_
    exact h24 false none (decide_eq_false f1).symm
  · refine ev_iconst dM_isMarked_19 ?_
    refine ev_goto (tgt := 24) dM_isMarked_20 rfl ?_
    exact h24 true none (decide_eq_true f1).symm
theorem ct_MisClear {e : Int} (e0 : 0 ≤ e) (e1 : e < n) (hn : n ≤ 6) (hz : mz_ok n z) :
    ev_C g mM_isClear (d + 2) [.ref 16, ev_i e] (MH c th L n tn P K S ty z y t) 0 0 (ev_V (some (ev_i (ev_b (bd (mz_cl n z e))))) (MH c th L n tn P K S ty z y t)) := by
  obtain ⟨hz1, hz2, hz3, hz4⟩ := hz
  have hm := hz4 e e0 e1
  refine ev_ofE (by decide +kernel) rfl (Nat.le_of_ble_eq_true rfl) rfl rfl ?_
  have loop : ∀ (k s : Nat) (b : Bool) (o5 : Option Value), (s : Int) + k = n + 1 → (b = true ↔ ∀ x, 0 ≤ x → x < (s : Int) → mz_ins z e x → mz_bt z x e (e + 1) ≠ 1) →
      ev_E g false mM_isClear (d + 2) 12 [some (.ref 16), some (ev_i e), some (ev_i (z.2.2.2.2.2.1 e)), some (ev_i (ev_b b)), some (ev_i s), o5] [] (MH c th L n tn P K S ty z y t) 0 0 (ev_V (some (ev_i (ev_b (bd (mz_cl n z e))))) (MH c th L n tn P K S ty z y t)) := by
    intro k
    induction k with
    | zero =>
      intro s b o5 hk hb
      refine ev_iload dM_isClear_12 rfl ?_
      refine ev_aload_n dM_isClear_14 rfl ?_
      refine ev_get dM_isClear_15 fl_M_63 rfl rfl ?_
      refine ev_icmp_gt (tgt := 99) dM_isClear_18 rfl (by omega) (by omega) (by omega) (by omega) (fun g1 => ?_) (fun g1 => ?_)
      · have : b = bd (mz_cl n z e) := bd_of (hb.trans ⟨fun q x x0 x1 => q x x0 (by omega), fun q x x0 x1 => q x x0 (by omega)⟩)
        refine ev_iload_n dM_isClear_99 rfl ?_
        refine ev_zreturn dM_isClear_100 rfl ?_ ?_
        · exact ev_b01 _
        · exact ⟨by rw [this], rfl⟩
      · omega
    | succ k ih =>
      intro s b o5 hk hb
      have l1 := hz2 s (by omega) (by omega)
      have l2 := hz3 s (by omega) (by omega)
      have put : ∀ (b' : Bool) (o5 : Option Value), (b' = true ↔ (b = true ∧ (mz_ins z e s → mz_bt z s e (e + 1) ≠ 1))) → ev_E g false mM_isClear (d + 2) 92 [some (.ref 16), some (ev_i e), some (ev_i (z.2.2.2.2.2.1 e)), some (ev_i (ev_b b)), some (ev_i s), o5] [ev_i (ev_b b')] (MH c th L n tn P K S ty z y t) 0 0 (ev_V (some (ev_i (ev_b (bd (mz_cl n z e))))) (MH c th L n tn P K S ty z y t)) := by
        intro b' o5 hb'
        refine ev_istore_n dM_isClear_92 (Nat.le_of_ble_eq_true rfl) ?_
        refine ev_iinc dM_isClear_93 rfl ?_
        refine ev_goto (tgt := 12) dM_isClear_96 rfl ?_
        refine ih (s + 1) b' o5 (by omega) (hb'.trans ?_)
        rw [hb]
        constructor
        · rintro ⟨q1, q2⟩ x x0 x1
          by_cases hx : x = (s : Int)
          · rw [hx]; exact q2
          · exact q1 x x0 (by push_cast at x1; omega)
        · intro q
          exact ⟨fun x x0 x1 => q x x0 (by push_cast; omega), q s (by omega) (by push_cast; omega)⟩
      have h62 : ∀ i5 : Bool, (i5 = true ↔ mz_ins z e s) → ev_E g false mM_isClear (d + 2) 62 [some (.ref 16), some (ev_i e), some (ev_i (z.2.2.2.2.2.1 e)), some (ev_i (ev_b b)), some (ev_i s), o5] [ev_i (ev_b i5)] (MH c th L n tn P K S ty z y t) 0 0 (ev_V (some (ev_i (ev_b (bd (mz_cl n z e))))) (MH c th L n tn P K S ty z y t)) := by
        intro i5 hi5
        refine ev_istore dM_isClear_62 (Nat.le_of_ble_eq_true rfl) ?_
        refine ev_iload_n dM_isClear_64 rfl ?_
        refine ev_bz (tgt := 91) dM_isClear_65 rfl (fun f1 => ?_) (fun f1 => ?_)
        · refine ev_iconst dM_isClear_91 ?_
          exact put false _ ⟨fun q => (by cases q), fun q => (by rw [f1] at q; cases q.1)⟩
        · refine ev_iload dM_isClear_68 rfl ?_
          refine ev_bz (tgt := 87) dM_isClear_70 rfl (fun f2 => ?_) (fun f2 => ?_)
          · refine ev_iconst dM_isClear_87 ?_
            refine ev_goto (tgt := 92) dM_isClear_88 rfl ?_
            exact put true _ ⟨fun _ => ⟨f1, fun q => (by rw [hi5.mpr q] at f2; cases f2)⟩, fun _ => rfl⟩
          · have hbt : mz_bt z s e (e + 1) = -2 ∨ mz_bt z s e (e + 1) = 0 ∨ mz_bt z s e (e + 1) = 1 := by
              unfold mz_bt
              split
              · exact Or.inl rfl
              · split
                · exact Or.inr (Or.inl rfl)
                · exact Or.inr (Or.inr rfl)
            refine ev_aload_n dM_isClear_73 rfl ?_
            refine ev_iload dM_isClear_74 rfl ?_
            refine ev_iload_n dM_isClear_76 rfl ?_
            refine ev_iload_n dM_isClear_77 rfl ?_
            refine ev_iconst dM_isClear_78 ?_
            refine ev_iadd dM_isClear_79 ?_
            refine ev_cV dM_isClear_80 cv_M_128 (ct_Mbetween (s := (s : Int)) (a := e) (b := e + 1) (by omega) (by omega) e0 (by omega) (by omega) (by omega) hz1) rfl rfl rfl (Nat.le_of_ble_eq_true rfl) (Nat.le_of_ble_eq_true rfl) (Nat.le_of_ble_eq_true rfl) ?_
            refine ev_iconst dM_isClear_83 ?_
            refine ev_icmp_eq (tgt := 91) dM_isClear_84 rfl (by omega) (by omega) (by omega) (by omega) (fun f3 => ?_) (fun f3 => ?_)
            · refine ev_iconst dM_isClear_91 ?_
              exact put false _ ⟨fun q => (by cases q), fun q => absurd f3 (q.2 (hi5.mp f2))⟩
            · refine ev_iconst dM_isClear_87 ?_
              refine ev_goto (tgt := 92) dM_isClear_88 rfl ?_
              exact put true _ ⟨fun _ => ⟨f1, fun _ => f3⟩, fun _ => rfl⟩
      have no : ¬ mz_ins z e s → ev_E g false mM_isClear (d + 2) 61 [some (.ref 16), some (ev_i e), some (ev_i (z.2.2.2.2.2.1 e)), some (ev_i (ev_b b)), some (ev_i s), o5] [] (MH c th L n tn P K S ty z y t) 0 0 (ev_V (some (ev_i (ev_b (bd (mz_cl n z e))))) (MH c th L n tn P K S ty z y t)) := by
        intro hno
        refine ev_iconst dM_isClear_61 ?_
        exact h62 false ⟨fun q => (by cases q), fun q => absurd q hno⟩
      refine ev_iload dM_isClear_12 rfl ?_
      refine ev_aload_n dM_isClear_14 rfl ?_
      refine ev_get dM_isClear_15 fl_M_63 rfl rfl ?_
      refine ev_icmp_gt (tgt := 99) dM_isClear_18 rfl (by omega) (by omega) (by omega) (by omega) (fun g1 => ?_) (fun g1 => ?_)
      · omega
      · refine ev_iload dM_isClear_21 rfl ?_
        refine ev_iload_n dM_isClear_23 rfl ?_
        refine ev_icmp_eq (tgt := 61) dM_isClear_24 rfl (by omega) (by omega) (by omega) (by omega) (fun g2 => ?_) (fun g2 => ?_)
        · exact no (fun q => q.1 g2)
        · refine ev_iload dM_isClear_27 rfl ?_
          refine ev_iload_n dM_isClear_29 rfl ?_
          refine ev_iconst dM_isClear_30 ?_
          refine ev_iadd dM_isClear_31 ?_
          refine ev_icmp_eq (tgt := 61) dM_isClear_32 rfl (by omega) (by omega) (by omega) (by omega) (fun g3 => ?_) (fun g3 => ?_)
          · exact no (fun q => q.2.1 g3)
          · refine ev_aload_n dM_isClear_35 rfl ?_
            refine ev_get dM_isClear_36 fl_M_32 rfl rfl ?_
            refine ev_iload dM_isClear_39 rfl ?_
            refine ev_iald dM_isClear_41 rfl (by omega) (by omega) (by decide) ?_
            refine ev_iload_n dM_isClear_42 rfl ?_
            refine ev_icmp_ge (tgt := 61) dM_isClear_43 rfl (by omega) (by omega) (by omega) (by omega) (fun g4 => ?_) (fun g4 => ?_)
            · exact no (fun q => by have := q.2.2.1; omega)
            · refine ev_iload_n dM_isClear_46 rfl ?_
              refine ev_aload_n dM_isClear_47 rfl ?_
              refine ev_get dM_isClear_48 fl_M_35 rfl rfl ?_
              refine ev_iload dM_isClear_51 rfl ?_
              refine ev_iald dM_isClear_53 rfl (by omega) (by omega) (by decide) ?_
              refine ev_icmp_ge (tgt := 61) dM_isClear_54 rfl (by omega) (by omega) (by omega) (by omega) (fun g5 => ?_) (fun g5 => ?_)
              · exact no (fun q => by have := q.2.2.2; omega)
              · refine ev_iconst dM_isClear_57 ?_
                refine ev_goto (tgt := 62) dM_isClear_58 rfl ?_
                exact h62 true ⟨fun _ => ⟨g2, g3, g4, g5⟩, fun _ => rfl⟩
  refine ev_aload_n dM_isClear_0 rfl ?_
  refine ev_get dM_isClear_1 fl_M_38 rfl rfl ?_
  refine ev_iload_n dM_isClear_4 rfl ?_
  refine ev_iald dM_isClear_5 rfl (by omega) (by omega) (by decide) ?_
  refine ev_istore_n dM_isClear_6 (Nat.le_of_ble_eq_true rfl) ?_
  refine ev_iconst dM_isClear_7 ?_
  refine ev_istore_n dM_isClear_8 (Nat.le_of_ble_eq_true rfl) ?_
  refine ev_iconst dM_isClear_9 ?_
  refine ev_istore dM_isClear_10 (Nat.le_of_ble_eq_true rfl) ?_
  exact loop (n + 1).toNat 0 true none (by omega) ⟨fun _ x x0 x1 => (by have : x < 0 := x1; omega), fun _ => rfl⟩
theorem mz_bt_bd {s a b : Int} : -2 ≤ mz_bt z s a b ∧ mz_bt z s a b ≤ 1 := by
  unfold mz_bt
  split
  · decide
  · split <;> decide
theorem ct_MarePeaceful {e f : Int} (e0 : 0 ≤ e) (e1 : e < n) (f0 : 0 ≤ f) (f1 : f < n) (hn : n ≤ 6) (hz : mz_ok n z) :
    ev_C g mM_arePeaceful (d + 2) [.ref 16, ev_i e, ev_i f] (MH c th L n tn P K S ty z y t) 0 0 (ev_V (some (ev_i (ev_b (bd (mz_pc z e f))))) (MH c th L n tn P K S ty z y t)) := by
  obtain ⟨hz1, hz2, hz3, hz4⟩ := hz
  have hm := hz4 e e0 e1
  have hm2 := hz4 f f0 f1
  have b1 := mz_bt_bd (z := z) (s := f) (a := e) (b := e + 1)
  have b2 := mz_bt_bd (z := z) (s := f + 1) (a := e) (b := e + 1)
  have l1 := hz2 e e0 (by omega)
  have l2 := hz2 (e + 1) (by omega) (by omega)
  have l3 := hz2 f f0 (by omega)
  have l4 := hz2 (f + 1) (by omega) (by omega)
  have u1 := hz3 e e0 (by omega)
  have u2 := hz3 (e + 1) (by omega) (by omega)
  have u3 := hz3 f f0 (by omega)
  have u4 := hz3 (f + 1) (by omega) (by omega)
  refine ev_ofE (by decide +kernel) rfl (Nat.le_of_ble_eq_true rfl) rfl rfl ?_
  have yes : mz_pc z e f → ∀ o3 o4 o5, ev_E g false mM_arePeaceful (d + 2) 124 [some (.ref 16), some (ev_i e), some (ev_i f), o3, o4, o5] [] (MH c th L n tn P K S ty z y t) 0 0 (ev_V (some (ev_i (ev_b (bd (mz_pc z e f))))) (MH c th L n tn P K S ty z y t)) := by
    intro q o3 o4 o5
    rw [bd_iff.mpr q]
    refine ev_iconst dM_arePeaceful_124 ?_
    refine ev_goto (tgt := 129) dM_arePeaceful_125 rfl ?_
    refine ev_zreturn dM_arePeaceful_129 rfl ?_ ?_
    · decide
    · exact ⟨rfl, rfl⟩
  have h74 : ∀ (b : Bool) (o3 : Option Value), (b = true ↔ mz_all z e f) → ev_E g false mM_arePeaceful (d + 2) 74 [some (.ref 16), some (ev_i e), some (ev_i f), o3, none, none] [ev_i (ev_b b)] (MH c th L n tn P K S ty z y t) 0 0 (ev_V (some (ev_i (ev_b (bd (mz_pc z e f))))) (MH c th L n tn P K S ty z y t)) := by
    intro b o3 hb
    refine ev_istore_n dM_arePeaceful_74 (Nat.le_of_ble_eq_true rfl) ?_
    refine ev_aload_n dM_arePeaceful_75 rfl ?_
    refine ev_iload_n dM_arePeaceful_76 rfl ?_
    refine ev_iload_n dM_arePeaceful_77 rfl ?_
    refine ev_iload_n dM_arePeaceful_78 rfl ?_
    refine ev_iconst dM_arePeaceful_79 ?_
    refine ev_iadd dM_arePeaceful_80 ?_
    refine ev_cV dM_arePeaceful_81 cv_M_128 (ct_Mbetween (s := f) (a := e) (b := e + 1) f0 (by omega) e0 (by omega) (by omega) (by omega) hz1) rfl rfl rfl (Nat.le_of_ble_eq_true rfl) (Nat.le_of_ble_eq_true rfl) (Nat.le_of_ble_eq_true rfl) ?_
    refine ev_istore dM_arePeaceful_84 (Nat.le_of_ble_eq_true rfl) ?_
    refine ev_aload_n dM_arePeaceful_86 rfl ?_
    refine ev_iload_n dM_arePeaceful_87 rfl ?_
    refine ev_iconst dM_arePeaceful_88 ?_
    refine ev_iadd dM_arePeaceful_89 ?_
    refine ev_iload_n dM_arePeaceful_90 rfl ?_
    refine ev_iload_n dM_arePeaceful_91 rfl ?_
    refine ev_iconst dM_arePeaceful_92 ?_
    refine ev_iadd dM_arePeaceful_93 ?_
    refine ev_cV dM_arePeaceful_94 cv_M_128 (ct_Mbetween (s := f + 1) (a := e) (b := e + 1) (by omega) (by omega) e0 (by omega) (by omega) (by omega) hz1) rfl rfl rfl (Nat.le_of_ble_eq_true rfl) (Nat.le_of_ble_eq_true rfl) (Nat.le_of_ble_eq_true rfl) ?_
    refine ev_istore dM_arePeaceful_97 (Nat.le_of_ble_eq_true rfl) ?_
    refine ev_iload_n dM_arePeaceful_99 rfl ?_
    refine ev_bz (tgt := 124) dM_arePeaceful_100 rfl (fun g1 => ?_) (fun g1 => ?_)
    · exact yes (fun q => by rw [hb.mpr q] at g1; cases g1) _ _ _
    · refine ev_iload dM_arePeaceful_103 rfl ?_
      refine ev_bipush dM_arePeaceful_105 rfl ?_
      refine ev_icmp_eq (tgt := 124) dM_arePeaceful_107 rfl (by omega) (by omega) (by omega) (by omega) (fun g2 => ?_) (fun g2 => ?_)
      · exact yes (fun _ => Or.inl g2) _ _ _
      · refine ev_iload dM_arePeaceful_110 rfl ?_
        refine ev_bipush dM_arePeaceful_112 rfl ?_
        refine ev_icmp_eq (tgt := 124) dM_arePeaceful_114 rfl (by omega) (by omega) (by omega) (by omega) (fun g3 => ?_) (fun g3 => ?_)
        · exact yes (fun _ => Or.inr (Or.inl g3)) _ _ _
        · refine ev_iload dM_arePeaceful_117 rfl ?_
          refine ev_iload dM_arePeaceful_119 rfl ?_
          refine ev_icmp_ne (tgt := 128) dM_arePeaceful_121 rfl (by omega) (by omega) (by omega) (by omega) (fun g4 => ?_) (fun g4 => ?_)
          · have hno : bd (mz_pc z e f) = false := by
              cases hq : bd (mz_pc z e f) with
              | false => rfl
              | true =>
                rcases bd_iff.mp hq (hb.mp g1) with q | q | q
                · exact absurd q g2
                · exact absurd q g3
                · exact absurd q g4
            rw [hno]
            refine ev_iconst dM_arePeaceful_128 ?_
            refine ev_zreturn dM_arePeaceful_129 rfl ?_ ?_
            · decide
            · exact ⟨rfl, rfl⟩
          · exact yes (fun _ => Or.inr (Or.inr g4)) _ _ _
  have no : ¬ mz_all z e f → ∀ o3, ev_E g false mM_arePeaceful (d + 2) 73 [some (.ref 16), some (ev_i e), some (ev_i f), o3, none, none] [] (MH c th L n tn P K S ty z y t) 0 0 (ev_V (some (ev_i (ev_b (bd (mz_pc z e f))))) (MH c th L n tn P K S ty z y t)) := by
    intro q o3
    refine ev_iconst dM_arePeaceful_73 ?_
    exact h74 false o3 ⟨fun r => (by cases r), fun r => absurd r q⟩
  refine ev_aload_n dM_arePeaceful_0 rfl ?_
  refine ev_get dM_arePeaceful_1 fl_M_38 rfl rfl ?_
  refine ev_iload_n dM_arePeaceful_4 rfl ?_
  refine ev_iald dM_arePeaceful_5 rfl (by omega) (by omega) (by decide) ?_
  refine ev_aload_n dM_arePeaceful_6 rfl ?_
  refine ev_get dM_arePeaceful_7 fl_M_38 rfl rfl ?_
  refine ev_iload_n dM_arePeaceful_10 rfl ?_
  refine ev_iald dM_arePeaceful_11 rfl (by omega) (by omega) (by decide) ?_
  refine ev_icmp_ne (tgt := 19) dM_arePeaceful_12 rfl (by omega) (by omega) (by omega) (by omega) (fun g1 => ?_) (fun g1 => ?_)
  · refine ev_iconst dM_arePeaceful_19 ?_
    refine ev_istore_n dM_arePeaceful_20 (Nat.le_of_ble_eq_true rfl) ?_
    refine ev_iload_n dM_arePeaceful_21 rfl ?_
    refine ev_if_eq (tgt := 73) dM_arePeaceful_22 rfl (by omega) (by omega) (fun g2 => ?_) (fun g2 => ?_)
    · exact no (fun q => g1 q.1) _
    · omega
  · refine ev_iconst dM_arePeaceful_15 ?_
    refine ev_goto (tgt := 20) dM_arePeaceful_16 rfl ?_
    refine ev_istore_n dM_arePeaceful_20 (Nat.le_of_ble_eq_true rfl) ?_
    refine ev_iload_n dM_arePeaceful_21 rfl ?_
    refine ev_if_eq (tgt := 73) dM_arePeaceful_22 rfl (by omega) (by omega) (fun g2 => ?_) (fun g2 => ?_)
    · omega
    · refine ev_aload_n dM_arePeaceful_25 rfl ?_
      refine ev_iload_n dM_arePeaceful_26 rfl ?_
      refine ev_iload_n dM_arePeaceful_27 rfl ?_
      refine ev_cV dM_arePeaceful_28 cv_M_132 (ct_Moverlap e0 (by omega) f0 (by omega) l1 l3 u1 u3) rfl rfl rfl (Nat.le_of_ble_eq_true rfl) (Nat.le_of_ble_eq_true rfl) (Nat.le_of_ble_eq_true rfl) ?_
      refine ev_bz (tgt := 73) dM_arePeaceful_31 rfl (fun g3 => ?_) (fun g3 => ?_)
      · exact no (fun q => by rw [q.2.1] at g3; cases g3) _
      · refine ev_aload_n dM_arePeaceful_34 rfl ?_
        refine ev_iload_n dM_arePeaceful_35 rfl ?_
        refine ev_iload_n dM_arePeaceful_36 rfl ?_
        refine ev_iconst dM_arePeaceful_37 ?_
        refine ev_iadd dM_arePeaceful_38 ?_
        refine ev_cV dM_arePeaceful_39 cv_M_132 (ct_Moverlap e0 (by omega) (by omega) (by omega) l1 l4 u1 u4) rfl rfl rfl (Nat.le_of_ble_eq_true rfl) (Nat.le_of_ble_eq_true rfl) (Nat.le_of_ble_eq_true rfl) ?_
        refine ev_bz (tgt := 73) dM_arePeaceful_42 rfl (fun g4 => ?_) (fun g4 => ?_)
        · exact no (fun q => by rw [q.2.2.1] at g4; cases g4) _
        · refine ev_aload_n dM_arePeaceful_45 rfl ?_
          refine ev_iload_n dM_arePeaceful_46 rfl ?_
          refine ev_iconst dM_arePeaceful_47 ?_
          refine ev_iadd dM_arePeaceful_48 ?_
          refine ev_iload_n dM_arePeaceful_49 rfl ?_
          refine ev_cV dM_arePeaceful_50 cv_M_132 (ct_Moverlap (by omega) (by omega) f0 (by omega) l2 l3 u2 u3) rfl rfl rfl (Nat.le_of_ble_eq_true rfl) (Nat.le_of_ble_eq_true rfl) (Nat.le_of_ble_eq_true rfl) ?_
          refine ev_bz (tgt := 73) dM_arePeaceful_53 rfl (fun g5 => ?_) (fun g5 => ?_)
          · exact no (fun q => by rw [q.2.2.2.1] at g5; cases g5) _
          · refine ev_aload_n dM_arePeaceful_56 rfl ?_
            refine ev_iload_n dM_arePeaceful_57 rfl ?_
            refine ev_iconst dM_arePeaceful_58 ?_
            refine ev_iadd dM_arePeaceful_59 ?_
            refine ev_iload_n dM_arePeaceful_60 rfl ?_
            refine ev_iconst dM_arePeaceful_61 ?_
            refine ev_iadd dM_arePeaceful_62 ?_
            refine ev_cV dM_arePeaceful_63 cv_M_132 (ct_Moverlap (by omega) (by omega) (by omega) (by omega) l2 l4 u2 u4) rfl rfl rfl (Nat.le_of_ble_eq_true rfl) (Nat.le_of_ble_eq_true rfl) (Nat.le_of_ble_eq_true rfl) ?_
            refine ev_bz (tgt := 73) dM_arePeaceful_66 rfl (fun g6 => ?_) (fun g6 => ?_)
            · exact no (fun q => by rw [q.2.2.2.2] at g6; cases g6) _
            · refine ev_iconst dM_arePeaceful_69 ?_
              refine ev_goto (tgt := 74) dM_arePeaceful_70 rfl ?_
              exact h74 true _ ⟨fun _ => ⟨g1, g3, g4, g5, g6⟩, fun _ => rfl⟩
theorem ct_Mholds (hn0 : 0 ≤ n) (hn : n ≤ 6) (hK : ∀ i, 0 ≤ i → i < n → 0 ≤ K i ∧ K i ≤ 2) (hz : mz_ok n z) :
    ev_C g mM_holds (d + 3) [.ref 16] (MH c th L n tn P K S ty z y t) 0 0 (ev_V (some (ev_i (ev_b (bd (mz_H n K tn z))))) (MH c th L n tn P K S ty z y t)) := by
  have hz0 := hz
  obtain ⟨hz1, hz2, hz3, hz4⟩ := hz
  refine ev_ofE (by decide +kernel) rfl (Nat.le_of_ble_eq_true rfl) rfl rfl ?_
  generalize hQ : (ev_V (some (ev_i (ev_b (bd (mz_H n K tn z))))) (MH c th L n tn P K S ty z y t)) = Q
  have ov : ∀ a b : Int, 0 ≤ a → a ≤ n → 0 ≤ b → b ≤ n → ev_C g mM_overlap (d + 2) [.ref 16, ev_i a, ev_i b] (MH c th L n tn P K S ty z y t) 0 0 (ev_V (some (ev_i (ev_b (mz_ov z a b)))) (MH c th L n tn P K S ty z y t)) :=
    fun a b a0 a1 b0 b1 => ct_Moverlap a0 (by omega) b0 (by omega) (hz2 a a0 a1) (hz2 b b0 b1) (hz3 a a0 a1) (hz3 b b0 b1)
  have lc : ∀ (G0 : Prop) (a b : Int), 0 ≤ a → a < b → b ≤ n →
      (∀ (gd : Bool) (o5 : Option Value), (gd = true ↔ (G0 ∧ ∀ e, b < e → e ≤ n → mz_T z a b e)) → ev_E g false mM_holds (d + 3) 98 [some (.ref 16), some (ev_i (ev_b gd)), some (ev_i (n + 1)), some (ev_i a), some (ev_i b), o5] [] (MH c th L n tn P K S ty z y t) 0 0 Q) →
      ∀ (k : Nat) (e : Int) (gd : Bool), e + k = n + 1 → b < e → (gd = true ↔ (G0 ∧ ∀ x, b < x → x < e → mz_T z a b x)) → ev_E g false mM_holds (d + 3) 33 [some (.ref 16), some (ev_i (ev_b gd)), some (ev_i (n + 1)), some (ev_i a), some (ev_i b), some (ev_i e)] [] (MH c th L n tn P K S ty z y t) 0 0 Q := by
    intro G0 a b a0 ab bn cont k
    induction k with
    | zero =>
      intro e gd hk be hg
      refine ev_iload dM_holds_33 rfl ?_
      refine ev_iload_n dM_holds_35 rfl ?_
      refine ev_icmp_ge (tgt := 98) dM_holds_36 rfl (by omega) (by omega) (by omega) (by omega) (fun g1 => ?_) (fun g1 => ?_)
      · exact cont gd _ (hg.trans ⟨fun q => ⟨q.1, fun x x0 x1 => q.2 x x0 (by omega)⟩, fun q => ⟨q.1, fun x x0 x1 => q.2 x x0 (by omega)⟩⟩)
      · omega
    | succ k ih =>
      intro e gd hk be hg
      have put : ∀ gd' : Bool, (gd' = true ↔ (gd = true ∧ mz_T z a b e)) → ev_E g false mM_holds (d + 3) 91 [some (.ref 16), some (ev_i (ev_b gd)), some (ev_i (n + 1)), some (ev_i a), some (ev_i b), some (ev_i e)] [ev_i (ev_b gd')] (MH c th L n tn P K S ty z y t) 0 0 Q := by
        intro gd' hg'
        refine ev_istore_n dM_holds_91 (Nat.le_of_ble_eq_true rfl) ?_
        refine ev_iinc dM_holds_92 rfl ?_
        refine ev_goto (tgt := 33) dM_holds_95 rfl ?_
        refine ih (e + 1) gd' (by omega) (by omega) (hg'.trans ?_)
        rw [hg]
        constructor
        · rintro ⟨⟨q0, q1⟩, q2⟩
          refine ⟨q0, fun x x0 x1 => ?_⟩
          by_cases hx : x = e
          · rw [hx]; exact q2
          · exact q1 x x0 (by omega)
        · rintro ⟨q0, q⟩
          exact ⟨⟨q0, fun x x0 x1 => q x x0 (by omega)⟩, q e be (by omega)⟩
      have pos : mz_T z a b e → gd = true → ev_E g false mM_holds (d + 3) 86 [some (.ref 16), some (ev_i (ev_b gd)), some (ev_i (n + 1)), some (ev_i a), some (ev_i b), some (ev_i e)] [] (MH c th L n tn P K S ty z y t) 0 0 Q := by
        intro q q1
        refine ev_iconst dM_holds_86 ?_
        refine ev_goto (tgt := 91) dM_holds_87 rfl ?_
        exact put true ⟨fun _ => ⟨q1, q⟩, fun _ => rfl⟩
      refine ev_iload dM_holds_33 rfl ?_
      refine ev_iload_n dM_holds_35 rfl ?_
      refine ev_icmp_ge (tgt := 98) dM_holds_36 rfl (by omega) (by omega) (by omega) (by omega) (fun g1 => ?_) (fun g1 => ?_)
      · omega
      · refine ev_iload_n dM_holds_39 rfl ?_
        refine ev_bz (tgt := 90) dM_holds_40 rfl (fun g2 => ?_) (fun g2 => ?_)
        · refine ev_iconst dM_holds_90 ?_
          exact put false ⟨fun q => (by cases q), fun q => (by rw [g2] at q; cases q.1)⟩
        · refine ev_aload_n dM_holds_43 rfl ?_
          refine ev_iload_n dM_holds_44 rfl ?_
          refine ev_iload dM_holds_45 rfl ?_
          refine ev_cV dM_holds_47 cv_M_132 (ov a b a0 (by omega) (by omega) bn) rfl rfl rfl (Nat.le_of_ble_eq_true rfl) (Nat.le_of_ble_eq_true rfl) (Nat.le_of_ble_eq_true rfl) ?_
          refine ev_bz (tgt := 86) dM_holds_50 rfl (fun g3 => ?_) (fun g3 => ?_)
          · exact pos (fun q => by rw [q.1] at g3; cases g3) g2
          · refine ev_aload_n dM_holds_53 rfl ?_
            refine ev_iload dM_holds_54 rfl ?_
            refine ev_iload dM_holds_56 rfl ?_
            refine ev_cV dM_holds_58 cv_M_132 (ov b e (by omega) bn (by omega) (by omega)) rfl rfl rfl (Nat.le_of_ble_eq_true rfl) (Nat.le_of_ble_eq_true rfl) (Nat.le_of_ble_eq_true rfl) ?_
            refine ev_bz (tgt := 86) dM_holds_61 rfl (fun g4 => ?_) (fun g4 => ?_)
            · exact pos (fun q => by rw [q.2.1] at g4; cases g4) g2
            · refine ev_aload_n dM_holds_64 rfl ?_
              refine ev_iload_n dM_holds_65 rfl ?_
              refine ev_iload dM_holds_66 rfl ?_
              refine ev_cV dM_holds_68 cv_M_132 (ov a e a0 (by omega) (by omega) (by omega)) rfl rfl rfl (Nat.le_of_ble_eq_true rfl) (Nat.le_of_ble_eq_true rfl) (Nat.le_of_ble_eq_true rfl) ?_
              refine ev_bz (tgt := 86) dM_holds_71 rfl (fun g5 => ?_) (fun g5 => ?_)
              · exact pos (fun q => by rw [q.2.2.1] at g5; cases g5) g2
              · refine ev_aload_n dM_holds_74 rfl ?_
                refine ev_iload_n dM_holds_75 rfl ?_
                refine ev_iload dM_holds_76 rfl ?_
                refine ev_iload dM_holds_78 rfl ?_
                refine ev_cV dM_holds_80 cv_M_135 (ct_MturnsRound (a := a) (b := b) (e := e) a0 (by omega) (by omega) (by omega) (by omega) (by omega) hz1) rfl rfl rfl (Nat.le_of_ble_eq_true rfl) (Nat.le_of_ble_eq_true rfl) (Nat.le_of_ble_eq_true rfl) ?_
                refine ev_bn (tgt := 90) dM_holds_83 rfl (fun g6 => ?_) (fun g6 => ?_)
                · refine ev_iconst dM_holds_90 ?_
                  exact put false ⟨fun q => (by cases q), fun q => absurd ⟨g3, g4, g5, g6⟩ q.2⟩
                · exact pos (fun q => by rw [q.2.2.2] at g6; cases g6) g2
  have lb : ∀ (G0 : Prop) (a : Int), 0 ≤ a → a ≤ n →
      (∀ (gd : Bool) (o4 o5 : Option Value), (gd = true ↔ (G0 ∧ ∀ b e, a < b → b < e → e ≤ n → mz_T z a b e)) → ev_E g false mM_holds (d + 3) 104 [some (.ref 16), some (ev_i (ev_b gd)), some (ev_i (n + 1)), some (ev_i a), o4, o5] [] (MH c th L n tn P K S ty z y t) 0 0 Q) →
      ∀ (k : Nat) (b : Int) (gd : Bool) (o5 : Option Value), b + k = n + 1 → a < b → (gd = true ↔ (G0 ∧ ∀ x e, a < x → x < b → x < e → e ≤ n → mz_T z a x e)) → ev_E g false mM_holds (d + 3) 21 [some (.ref 16), some (ev_i (ev_b gd)), some (ev_i (n + 1)), some (ev_i a), some (ev_i b), o5] [] (MH c th L n tn P K S ty z y t) 0 0 Q := by
    intro G0 a a0 an cont k
    induction k with
    | zero =>
      intro b gd o5 hk ab hg
      refine ev_iload dM_holds_21 rfl ?_
      refine ev_iload_n dM_holds_23 rfl ?_
      refine ev_icmp_ge (tgt := 104) dM_holds_24 rfl (by omega) (by omega) (by omega) (by omega) (fun g1 => ?_) (fun g1 => ?_)
      · exact cont gd _ _ (hg.trans ⟨fun q => ⟨q.1, fun x e x0 x1 x2 => q.2 x e x0 (by omega) x1 x2⟩, fun q => ⟨q.1, fun x e x0 _ x1 x2 => q.2 x e x0 x1 x2⟩⟩)
      · omega
    | succ k ih =>
      intro b gd o5 hk ab hg
      refine ev_iload dM_holds_21 rfl ?_
      refine ev_iload_n dM_holds_23 rfl ?_
      refine ev_icmp_ge (tgt := 104) dM_holds_24 rfl (by omega) (by omega) (by omega) (by omega) (fun g1 => ?_) (fun g1 => ?_)
      · omega
      · refine ev_iload dM_holds_27 rfl ?_
        refine ev_iconst dM_holds_29 ?_
        refine ev_iadd dM_holds_30 ?_
        refine ev_istore dM_holds_31 (Nat.le_of_ble_eq_true rfl) ?_
        refine lc (G0 ∧ ∀ x e, a < x → x < b → x < e → e ≤ n → mz_T z a x e) a b a0 ab (by omega) ?_ (n - b).toNat (b + 1) gd (by omega) (by omega) (hg.trans ⟨fun q => ⟨q, fun x x0 x1 => by omega⟩, fun q => q.1⟩)
        intro gd' o5 hg'
        refine ev_iinc dM_holds_98 rfl ?_
        refine ev_goto (tgt := 21) dM_holds_101 rfl ?_
        refine ih (b + 1) gd' o5 (by omega) (by omega) (hg'.trans ?_)
        constructor
        · rintro ⟨⟨q0, q1⟩, q2⟩
          refine ⟨q0, fun x e x0 x1 x2 x3 => ?_⟩
          by_cases hx : x = b
          · subst hx
            exact q2 e x2 x3
          · exact q1 x e x0 (by omega) x2 x3
        · rintro ⟨q0, q⟩
          exact ⟨⟨q0, fun x e x0 x1 x2 x3 => q x e x0 (by omega) x2 x3⟩, fun e e0 e1 => q b e ab (by omega) e0 e1⟩
  have ld : ∀ (G0 : Prop) (a : Int), 0 ≤ a → a < n →
      (∀ (gd : Bool) (o4 o5 : Option Value), (gd = true ↔ (G0 ∧ ∀ e, 0 ≤ e → e < n → e ≠ a → mz_pc z a e)) → ev_E g false mM_holds (d + 3) 190 [some (.ref 16), some (ev_i (ev_b gd)), some (ev_i (n + 1)), some (ev_i a), o4, o5] [] (MH c th L n tn P K S ty z y t) 0 0 Q) →
      ∀ (k : Nat) (e : Int) (gd : Bool) (o5 : Option Value), e + k = n → 0 ≤ e → (gd = true ↔ (G0 ∧ ∀ x, 0 ≤ x → x < e → x ≠ a → mz_pc z a x)) → ev_E g false mM_holds (d + 3) 149 [some (.ref 16), some (ev_i (ev_b gd)), some (ev_i (n + 1)), some (ev_i a), some (ev_i e), o5] [] (MH c th L n tn P K S ty z y t) 0 0 Q := by
    intro G0 a a0 an cont k
    induction k with
    | zero =>
      intro e gd o5 hk e0 hg
      refine ev_iload dM_holds_149 rfl ?_
      refine ev_aload_n dM_holds_151 rfl ?_
      refine ev_get dM_holds_152 fl_M_63 rfl rfl ?_
      refine ev_icmp_ge (tgt := 190) dM_holds_155 rfl (by omega) (by omega) (by omega) (by omega) (fun g1 => ?_) (fun g1 => ?_)
      · exact cont gd _ _ (hg.trans ⟨fun q => ⟨q.1, fun x x0 x1 => q.2 x x0 (by omega)⟩, fun q => ⟨q.1, fun x x0 x1 => q.2 x x0 (by omega)⟩⟩)
      · omega
    | succ k ih =>
      intro e gd o5 hk e0 hg
      have put : ∀ gd' : Bool, gd = true → (gd' = true ↔ (e ≠ a → mz_pc z a e)) → ev_E g false mM_holds (d + 3) 183 [some (.ref 16), some (ev_i (ev_b gd)), some (ev_i (n + 1)), some (ev_i a), some (ev_i e), o5] [ev_i (ev_b gd')] (MH c th L n tn P K S ty z y t) 0 0 Q := by
        intro gd' gt hg'
        refine ev_istore_n dM_holds_183 (Nat.le_of_ble_eq_true rfl) ?_
        refine ev_iinc dM_holds_184 rfl ?_
        refine ev_goto (tgt := 149) dM_holds_187 rfl ?_
        refine ih (e + 1) gd' o5 (by omega) (by omega) (hg'.trans ?_)
        have hgt := hg.mp gt
        constructor
        · intro q2
          refine ⟨hgt.1, fun x x0 x1 x2 => ?_⟩
          by_cases hx : x = e
          · rw [hx] at x2 ⊢; exact q2 x2
          · exact hgt.2 x x0 (by omega) x2
        · rintro ⟨q0, q⟩
          exact q e e0 (by omega)
      refine ev_iload dM_holds_149 rfl ?_
      refine ev_aload_n dM_holds_151 rfl ?_
      refine ev_get dM_holds_152 fl_M_63 rfl rfl ?_
      refine ev_icmp_ge (tgt := 190) dM_holds_155 rfl (by omega) (by omega) (by omega) (by omega) (fun g1 => ?_) (fun g1 => ?_)
      · omega
      · refine ev_iload_n dM_holds_158 rfl ?_
        refine ev_bz (tgt := 190) dM_holds_159 rfl (fun g2 => ?_) (fun g2 => ?_)
        · refine cont gd _ _ ⟨fun q => (by rw [g2] at q; cases q), fun q => ?_⟩
          exact hg.mpr ⟨q.1, fun x x0 x1 x2 => q.2 x x0 (by omega) x2⟩
        · refine ev_iload dM_holds_162 rfl ?_
          refine ev_iload_n dM_holds_164 rfl ?_
          refine ev_icmp_eq (tgt := 178) dM_holds_165 rfl (by omega) (by omega) (by omega) (by omega) (fun g3 => ?_) (fun g3 => ?_)
          · refine ev_iconst dM_holds_178 ?_
            refine ev_goto (tgt := 183) dM_holds_179 rfl ?_
            exact put true g2 ⟨fun _ q => absurd g3 q, fun _ => rfl⟩
          · refine ev_aload_n dM_holds_168 rfl ?_
            refine ev_iload_n dM_holds_169 rfl ?_
            refine ev_iload dM_holds_170 rfl ?_
            refine ev_cV dM_holds_172 cv_M_145 (ct_MarePeaceful (e := a) (f := e) a0 an e0 (by omega) hn hz0) rfl rfl rfl (Nat.le_of_ble_eq_true rfl) (Nat.le_of_ble_eq_true rfl) (Nat.le_of_ble_eq_true rfl) ?_
            refine ev_bz (tgt := 182) dM_holds_175 rfl (fun g4 => ?_) (fun g4 => ?_)
            · refine ev_iconst dM_holds_182 ?_
              exact put false g2 ⟨fun q => (by cases q), fun q => (by rw [bd_iff.mpr (q g3)] at g4; cases g4)⟩
            · refine ev_iconst dM_holds_178 ?_
              refine ev_goto (tgt := 183) dM_holds_179 rfl ?_
              exact put true g2 ⟨fun _ _ => bd_iff.mp g4, fun _ => rfl⟩
  have le : ∀ (G0 : Prop), (∀ gd : Bool, (gd = true ↔ (G0 ∧ ∀ e, 0 ≤ e → e < n → mz_B n K tn z e)) → ∀ o3 o4 o5, ev_E g false mM_holds (d + 3) 196 [some (.ref 16), some (ev_i (ev_b gd)), some (ev_i (n + 1)), o3, o4, o5] [] (MH c th L n tn P K S ty z y t) 0 0 Q) →
      ∀ (k : Nat) (e : Int) (gd : Bool) (o4 o5 : Option Value), e + k = n → 0 ≤ e → (gd = true ↔ (G0 ∧ ∀ x, 0 ≤ x → x < e → mz_B n K tn z x)) → ev_E g false mM_holds (d + 3) 112 [some (.ref 16), some (ev_i (ev_b gd)), some (ev_i (n + 1)), some (ev_i e), o4, o5] [] (MH c th L n tn P K S ty z y t) 0 0 Q := by
    intro G0 cont k
    induction k with
    | zero =>
      intro e gd o4 o5 hk e0 hg
      refine ev_iload_n dM_holds_112 rfl ?_
      refine ev_aload_n dM_holds_113 rfl ?_
      refine ev_get dM_holds_114 fl_M_63 rfl rfl ?_
      refine ev_icmp_ge (tgt := 196) dM_holds_117 rfl (by omega) (by omega) (by omega) (by omega) (fun g1 => ?_) (fun g1 => ?_)
      · exact cont gd (hg.trans ⟨fun q => ⟨q.1, fun x x0 x1 => q.2 x x0 (by omega)⟩, fun q => ⟨q.1, fun x x0 x1 => q.2 x x0 (by omega)⟩⟩) _ _ _
      · omega
    | succ k ih =>
      intro e gd o4 o5 hk e0 hg
      have put : ∀ gd' : Bool, gd = true → (gd' = true ↔ (mz_mk K tn z e = true ∧ mz_cl n z e)) → ev_E g false mM_holds (d + 3) 145 [some (.ref 16), some (ev_i (ev_b gd)), some (ev_i (n + 1)), some (ev_i e), o4, o5] [ev_i (ev_b gd')] (MH c th L n tn P K S ty z y t) 0 0 Q := by
        intro gd' gt hg'
        refine ev_istore_n dM_holds_145 (Nat.le_of_ble_eq_true rfl) ?_
        refine ev_iconst dM_holds_146 ?_
        refine ev_istore dM_holds_147 (Nat.le_of_ble_eq_true rfl) ?_
        refine ld (mz_mk K tn z e = true ∧ mz_cl n z e) e e0 (by omega) ?_ n.toNat 0 gd' _ (by omega) (by omega) (hg'.trans ⟨fun q => ⟨q, fun x x0 x1 => by omega⟩, fun q => q.1⟩)
        intro g2 o4 o5 hg2
        refine ev_iinc dM_holds_190 rfl ?_
        refine ev_goto (tgt := 112) dM_holds_193 rfl ?_
        have hgt := hg.mp gt
        refine ih (e + 1) g2 o4 o5 (by omega) (by omega) (hg2.trans ?_)
        constructor
        · rintro ⟨⟨q0, q1⟩, q2⟩
          refine ⟨hgt.1, fun x x0 x1 => ?_⟩
          by_cases hx : x = e
          · rw [hx]; exact ⟨q0, q1, q2⟩
          · exact hgt.2 x x0 (by omega)
        · rintro ⟨q0, q⟩
          obtain ⟨r0, r1, r2⟩ := q e e0 (by omega)
          exact ⟨⟨r0, r1⟩, r2⟩
      refine ev_iload_n dM_holds_112 rfl ?_
      refine ev_aload_n dM_holds_113 rfl ?_
      refine ev_get dM_holds_114 fl_M_63 rfl rfl ?_
      refine ev_icmp_ge (tgt := 196) dM_holds_117 rfl (by omega) (by omega) (by omega) (by omega) (fun g1 => ?_) (fun g1 => ?_)
      · omega
      · refine ev_iload_n dM_holds_120 rfl ?_
        refine ev_bz (tgt := 196) dM_holds_121 rfl (fun g2 => ?_) (fun g2 => ?_)
        · refine cont gd ⟨fun q => (by rw [g2] at q; cases q), fun q => ?_⟩ _ _ _
          exact hg.mpr ⟨q.1, fun x x0 x1 => q.2 x x0 (by omega)⟩
        · refine ev_aload_n dM_holds_124 rfl ?_
          refine ev_iload_n dM_holds_125 rfl ?_
          refine ev_cV dM_holds_126 cv_M_139 (ct_MisMarked (e := e) e0 (by omega) hn hK hz1) rfl rfl rfl (Nat.le_of_ble_eq_true rfl) (Nat.le_of_ble_eq_true rfl) (Nat.le_of_ble_eq_true rfl) ?_
          refine ev_bz (tgt := 144) dM_holds_129 rfl (fun g3 => ?_) (fun g3 => ?_)
          · refine ev_iconst dM_holds_144 ?_
            exact put false g2 ⟨fun q => (by cases q), fun q => (by rw [q.1] at g3; cases g3)⟩
          · refine ev_aload_n dM_holds_132 rfl ?_
            refine ev_iload_n dM_holds_133 rfl ?_
            refine ev_cV dM_holds_134 cv_M_142 (ct_MisClear (e := e) e0 (by omega) hn hz0) rfl rfl rfl (Nat.le_of_ble_eq_true rfl) (Nat.le_of_ble_eq_true rfl) (Nat.le_of_ble_eq_true rfl) ?_
            refine ev_bz (tgt := 144) dM_holds_137 rfl (fun g4 => ?_) (fun g4 => ?_)
            · refine ev_iconst dM_holds_144 ?_
              exact put false g2 ⟨fun q => (by cases q), fun q => (by rw [bd_iff.mpr q.2] at g4; cases g4)⟩
            · refine ev_iconst dM_holds_140 ?_
              refine ev_goto (tgt := 145) dM_holds_141 rfl ?_
              exact put true g2 ⟨fun _ => ⟨g3, bd_iff.mp g4⟩, fun _ => rfl⟩
  have la : ∀ (k : Nat) (a : Int) (gd : Bool) (o4 o5 : Option Value), a + k = n + 1 → 0 ≤ a → (gd = true ↔ ∀ x b e, 0 ≤ x → x < a → x < b → b < e → e ≤ n → mz_T z x b e) → ev_E g false mM_holds (d + 3) 11 [some (.ref 16), some (ev_i (ev_b gd)), some (ev_i (n + 1)), some (ev_i a), o4, o5] [] (MH c th L n tn P K S ty z y t) 0 0 Q := by
    intro k
    induction k with
    | zero =>
      intro a gd o4 o5 hk a0 hg
      refine ev_iload_n dM_holds_11 rfl ?_
      refine ev_iload_n dM_holds_12 rfl ?_
      refine ev_icmp_ge (tgt := 110) dM_holds_13 rfl (by omega) (by omega) (by omega) (by omega) (fun g1 => ?_) (fun g1 => ?_)
      · refine ev_iconst dM_holds_110 ?_
        refine ev_istore_n dM_holds_111 (Nat.le_of_ble_eq_true rfl) ?_
        refine le (∀ x b e, 0 ≤ x → x < b → b < e → e ≤ n → mz_T z x b e) ?_ n.toNat 0 gd _ _ (by omega) (by omega) (hg.trans ⟨fun q => ⟨fun x b e x0 x1 x2 x3 => q x b e x0 (by omega) x1 x2 x3, fun x x0 x1 => by omega⟩, fun q x b e x0 _ x1 x2 x3 => q.1 x b e x0 x1 x2 x3⟩)
        intro g2 hg2 o3 o4 o5
        have : g2 = bd (mz_H n K tn z) := bd_of hg2
        subst this
        subst hQ
        refine ev_iload_n dM_holds_196 rfl ?_
        refine ev_zreturn dM_holds_197 rfl ?_ ?_
        · exact ev_b01 _
        · exact ⟨rfl, rfl⟩
      · omega
    | succ k ih =>
      intro a gd o4 o5 hk a0 hg
      refine ev_iload_n dM_holds_11 rfl ?_
      refine ev_iload_n dM_holds_12 rfl ?_
      refine ev_icmp_ge (tgt := 110) dM_holds_13 rfl (by omega) (by omega) (by omega) (by omega) (fun g1 => ?_) (fun g1 => ?_)
      · omega
      · refine ev_iload_n dM_holds_16 rfl ?_
        refine ev_iconst dM_holds_17 ?_
        refine ev_iadd dM_holds_18 ?_
        refine ev_istore dM_holds_19 (Nat.le_of_ble_eq_true rfl) ?_
        refine lb (∀ x b e, 0 ≤ x → x < a → x < b → b < e → e ≤ n → mz_T z x b e) a a0 (by omega) ?_ (n - a).toNat (a + 1) gd _ (by omega) (by omega) (hg.trans ⟨fun q => ⟨q, fun x e x0 x1 => by omega⟩, fun q => q.1⟩)
        intro g2 o4 o5 hg2
        refine ev_iinc dM_holds_104 rfl ?_
        refine ev_goto (tgt := 11) dM_holds_107 rfl ?_
        refine ih (a + 1) g2 o4 o5 (by omega) (by omega) (hg2.trans ?_)
        constructor
        · rintro ⟨q1, q2⟩ x b e x0 x1 x2 x3 x4
          by_cases hx : x = a
          · subst hx
            exact q2 b e x2 x3 x4
          · exact q1 x b e x0 (by omega) x2 x3 x4
        · intro q
          exact ⟨fun x b e x0 x1 x2 x3 x4 => q x b e x0 (by omega) x2 x3 x4, fun b e b0 b1 b2 => q a b e a0 (by omega) b0 b1 b2⟩
  refine ev_iconst dM_holds_0 ?_
  refine ev_istore_n dM_holds_1 (Nat.le_of_ble_eq_true rfl) ?_
  refine ev_aload_n dM_holds_2 rfl ?_
  refine ev_get dM_holds_3 fl_M_63 rfl rfl ?_
  refine ev_iconst dM_holds_6 ?_
  refine ev_iadd dM_holds_7 ?_
  refine ev_istore_n dM_holds_8 (Nat.le_of_ble_eq_true rfl) ?_
  refine ev_iconst dM_holds_9 ?_
  refine ev_istore_n dM_holds_10 (Nat.le_of_ble_eq_true rfl) ?_
  exact la (n + 1).toNat 0 true none none (by omega) (by omega) ⟨fun _ x b e x0 x1 => (by omega), fun _ => rfl⟩
end R10
