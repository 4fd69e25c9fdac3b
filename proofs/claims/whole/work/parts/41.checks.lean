/-! LayerOrders: what is asked of a choice -/
def oh (L n : Int) (tn : Bool) (P K B lo hi : Int → Int) (c0 q1 q2 q3 q4 q5 q6 : ev_AC) (kn : Bool) (fo : Int) (r : Nat) (mk : Int64) (t : List ev_AC) : List ev_AC :=
  pw L n tn P K B lo hi c0 (q1 :: q2 :: q3 :: q4 :: q5 :: q6 :: .inr (3, [.ref 1, ev_i (ev_b kn), ev_i fo, .ref r, .long mk]) :: t)
def ly_ov (lo hi : Int → Int) (a b : Int) : Bool := decide (lo a < hi b ∧ lo b < hi a)
def ly_in (lo hi : Int → Int) (i q : Int) : Bool := decide (lo i < q ∧ q < hi i)
def ly_mk (K : Int → Int) (tn : Bool) (o : Nat) (a b : Int) : Bool := if b ≠ a + 1 ∨ K a = 0 then true else (ly_ab o b a == (decide (K a = 2) == sp_up tn a))
def ly_r1 (lo hi : Int → Int) (o : Nat) (a b c : Int) : Bool := ly_ov lo hi c a && (ly_ov lo hi c b && ((ly_ab o a b == ly_ab o b c) && (ly_ab o b c == ly_ab o c a)))
def ly_rdN (lo hi : Int → Int) (o : Nat) (a b : Int) : Nat → Int → Bool
  | 0, _ => true
  | k + 1, c => if ly_r1 lo hi o a b c then false else ly_rdN lo hi o a b k (c + 1)
def ly_rd (lo hi : Int → Int) (o : Nat) (a b : Int) : Bool := ly_rdN lo hi o a b a.toNat 0
def ly_cr (B lo hi : Int → Int) (o : Nat) (a b : Int) : Bool :=
  if 0 < a ∧ ly_in lo hi b (B a) = true ∧ ly_bt o b (a - 1) a = true then false else if ly_in lo hi a (B b) = true ∧ ly_bt o a (b - 1) b = true then false else true
def ly_ne (B : Int → Int) (o : Nat) (a b : Int) : Bool := if a = 0 ∨ B a ≠ B b then true else (ly_bt o (b - 1) (a - 1) a == ly_bt o b (a - 1) a)
section LC
variable {g : ev_G} {d : Nat} {L n : Int} {tn : Bool} {P K B lo hi : Int → Int} {c0 q1 q2 q3 q4 q5 q6 : ev_AC} {kn : Bool} {fo : Int} {r : Nat} {mk : Int64} {t : List ev_AC}
theorem ct_keepsMark {o : Nat} {a b : Int} (a0 : 0 ≤ a) (ab : a < b) (bn : b ≤ n) (hn : n ≤ 6) (hK : ∀ i, 0 ≤ i → i < n → 0 ≤ K i ∧ K i ≤ 2) :
    ev_C g mO_keepsMark (d + 2) [.ref 13, ev_i o, ev_i a, ev_i b] (oh L n tn P K B lo hi c0 q1 q2 q3 q4 q5 q6 kn fo r mk t) 0 0 (ev_V (some (ev_i (ev_b (ly_mk K tn o a b)))) (oh L n tn P K B lo hi c0 q1 q2 q3 q4 q5 q6 kn fo r mk t)) := by
  have hKa := hK a a0 (by omega)
  refine ev_ofE (by decide +kernel) rfl (Nat.le_of_ble_eq_true rfl) rfl rfl ?_
  refine ev_iload_n dO_keepsMark_0 rfl ?_
  refine ev_iload_n dO_keepsMark_1 rfl ?_
  refine ev_iconst dO_keepsMark_2 ?_
  refine ev_iadd dO_keepsMark_3 ?_
  refine ev_icmp_ne (tgt := 19) dO_keepsMark_4 rfl (by omega) (by omega) (by omega) (by omega) (fun hb => ?_) (fun hb => ?_)
  · refine ev_iconst dO_keepsMark_19 ?_
    refine ev_zreturn dO_keepsMark_20 rfl ?_ ?_
    · decide
    · exact ⟨by rw [ly_mk, if_pos (Or.inl hb)]; rfl, rfl⟩
  · refine ev_aload_n dO_keepsMark_7 rfl ?_
    refine ev_get dO_keepsMark_8 fl_O_9 rfl rfl ?_
    refine ev_get dO_keepsMark_11 fl_O_78 rfl rfl ?_
    refine ev_iload_n dO_keepsMark_14 rfl ?_
    refine ev_iald dO_keepsMark_15 rfl (by omega) (by omega) (by decide) ?_
    refine ev_if_ne (tgt := 21) dO_keepsMark_16 rfl (by omega) (by omega) (fun hb2 => ?_) (fun hb2 => ?_)
    · have e : ly_mk K tn o a b = (ly_ab o b a == (decide (K a = 2) == sp_up tn a)) := if_neg (by omega)
      rw [e]
      refine ev_aload_n dO_keepsMark_21 rfl ?_
      refine ev_get dO_keepsMark_22 fl_O_9 rfl rfl ?_
      refine ev_get dO_keepsMark_25 fl_O_78 rfl rfl ?_
      refine ev_iload_n dO_keepsMark_28 rfl ?_
      refine ev_iald dO_keepsMark_29 rfl (by omega) (by omega) (by decide) ?_
      refine ev_iconst dO_keepsMark_30 ?_
      have fin : ∀ z : Bool, z = (decide (K a = 2) == sp_up tn a) → ev_E g false mO_keepsMark (d + 2) 55 [some (.ref 13), some (ev_i o), some (ev_i a), some (ev_i b), none] [ev_i (ev_b z)] (oh L n tn P K B lo hi c0 q1 q2 q3 q4 q5 q6 kn fo r mk t) 0 0 (ev_V (some (ev_i (ev_b (ly_ab o b a == (decide (K a = 2) == sp_up tn a))))) (oh L n tn P K B lo hi c0 q1 q2 q3 q4 q5 q6 kn fo r mk t)) := by
        intro z hz
        rw [← hz]
        refine ev_istore dO_keepsMark_55 (Nat.le_of_ble_eq_true rfl) ?_
        refine ev_iload_n dO_keepsMark_57 rfl ?_
        refine ev_iload_n dO_keepsMark_58 rfl ?_
        refine ev_iload_n dO_keepsMark_59 rfl ?_
        refine ev_cS dO_keepsMark_60 cs_O_75 (ct_isAbove (by omega) (by omega) (by omega) (by omega)) rfl rfl (Nat.le_of_ble_eq_true rfl) (Nat.le_of_ble_eq_true rfl) (Nat.le_of_ble_eq_true rfl) ?_
        refine ev_iload dO_keepsMark_63 rfl ?_
        refine ev_qne (tgt := 72) dO_keepsMark_65 rfl (fun hb4 => ?_) (fun hb4 => ?_)
        · refine ev_iconst dO_keepsMark_72 ?_
          refine ev_zreturn dO_keepsMark_73 rfl ?_ ?_
          · decide
          · exact ⟨by rw [beq_eq_false_iff_ne.mpr hb4]; rfl, rfl⟩
        · refine ev_iconst dO_keepsMark_68 ?_
          refine ev_goto (tgt := 73) dO_keepsMark_69 rfl ?_
          refine ev_zreturn dO_keepsMark_73 rfl ?_ ?_
          · decide
          · exact ⟨by rw [hb4]; simp [ev_b], rfl⟩
      refine ev_icmp_ne (tgt := 38) dO_keepsMark_31 rfl (by omega) (by omega) (by omega) (by omega) (fun hb3 => ?_) (fun hb3 => ?_)
      · refine ev_iconst dO_keepsMark_38 ?_
        refine ev_aload_n dO_keepsMark_39 rfl ?_
        refine ev_get dO_keepsMark_40 fl_O_9 rfl rfl ?_
        refine ev_iload_n dO_keepsMark_43 rfl ?_
        refine ev_cV dO_keepsMark_44 cv_O_81 (ct_frontUp a0 (by omega)) rfl rfl rfl (Nat.le_of_ble_eq_true rfl) (Nat.le_of_ble_eq_true rfl) (Nat.le_of_ble_eq_true rfl) ?_
        refine ev_qne (x := false) (tgt := 54) dO_keepsMark_47 rfl (fun hb4 => ?_) (fun hb4 => ?_)
        · refine ev_iconst dO_keepsMark_54 ?_
          exact fin false (by rw [decide_eq_false hb3]; exact (beq_eq_false_iff_ne.mpr hb4).symm)
        · refine ev_iconst dO_keepsMark_50 ?_
          refine ev_goto (tgt := 55) dO_keepsMark_51 rfl ?_
          exact fin true (by rw [decide_eq_false hb3, ← hb4]; rfl)
      · refine ev_iconst dO_keepsMark_34 ?_
        refine ev_goto (tgt := 39) dO_keepsMark_35 rfl ?_
        refine ev_aload_n dO_keepsMark_39 rfl ?_
        refine ev_get dO_keepsMark_40 fl_O_9 rfl rfl ?_
        refine ev_iload_n dO_keepsMark_43 rfl ?_
        refine ev_cV dO_keepsMark_44 cv_O_81 (ct_frontUp a0 (by omega)) rfl rfl rfl (Nat.le_of_ble_eq_true rfl) (Nat.le_of_ble_eq_true rfl) (Nat.le_of_ble_eq_true rfl) ?_
        refine ev_qne (x := true) (tgt := 54) dO_keepsMark_47 rfl (fun hb4 => ?_) (fun hb4 => ?_)
        · refine ev_iconst dO_keepsMark_54 ?_
          exact fin false (by rw [decide_eq_true hb3]; exact (beq_eq_false_iff_ne.mpr hb4).symm)
        · refine ev_iconst dO_keepsMark_50 ?_
          refine ev_goto (tgt := 55) dO_keepsMark_51 rfl ?_
          exact fin true (by rw [decide_eq_true hb3, ← hb4]; rfl)
    · refine ev_iconst dO_keepsMark_19 ?_
      refine ev_zreturn dO_keepsMark_20 rfl ?_ ?_
      · decide
      · exact ⟨by rw [ly_mk, if_pos (Or.inr hb2)]; rfl, rfl⟩
theorem ct_noRound {o : Nat} {a b : Int} (a0 : 0 ≤ a) (ab : a < b) (bn : b ≤ n) (hn : n ≤ 6) (hl : ∀ i, 0 ≤ i → i ≤ n → -60 ≤ lo i ∧ lo i ≤ 60) (hh : ∀ i, 0 ≤ i → i ≤ n → -60 ≤ hi i ∧ hi i ≤ 60) :
    ev_C g mO_makesNoRound (d + 2) [.ref 13, ev_i o, ev_i a, ev_i b] (oh L n tn P K B lo hi c0 q1 q2 q3 q4 q5 q6 kn fo r mk t) 0 0 (ev_V (some (ev_i (ev_b (ly_rd lo hi o a b)))) (oh L n tn P K B lo hi c0 q1 q2 q3 q4 q5 q6 kn fo r mk t)) := by
  refine ev_ofE (by decide +kernel) rfl (Nat.le_of_ble_eq_true rfl) rfl rfl ?_
  refine ev_iconst dO_makesNoRound_0 ?_
  refine ev_istore dO_makesNoRound_1 (Nat.le_of_ble_eq_true rfl) ?_
  have loop : ∀ (k : Nat) (c : Int), c + k = a → 0 ≤ c → ev_E g false mO_makesNoRound (d + 2) 3 [some (.ref 13), some (ev_i o), some (ev_i a), some (ev_i b), some (ev_i c)] [] (oh L n tn P K B lo hi c0 q1 q2 q3 q4 q5 q6 kn fo r mk t) 0 0 (ev_V (some (ev_i (ev_b (ly_rdN lo hi o a b k c)))) (oh L n tn P K B lo hi c0 q1 q2 q3 q4 q5 q6 kn fo r mk t)) := by
    intro k
    induction k with
    | zero =>
      intro c hk h0
      refine ev_iload dO_makesNoRound_3 rfl ?_
      refine ev_iload_n dO_makesNoRound_5 rfl ?_
      refine ev_icmp_ge (tgt := 76) dO_makesNoRound_6 rfl (by omega) (by omega) (by omega) (by omega) (fun hb => ?_) (fun hb => ?_)
      · refine ev_iconst dO_makesNoRound_76 ?_
        refine ev_zreturn dO_makesNoRound_77 rfl ?_ ?_
        · decide
        · exact ⟨rfl, rfl⟩
      · omega
    | succ k ih =>
      intro c hk h0
      have next := ih (c + 1) (by omega) (by omega)
      refine ev_iload dO_makesNoRound_3 rfl ?_
      refine ev_iload_n dO_makesNoRound_5 rfl ?_
      refine ev_icmp_ge (tgt := 76) dO_makesNoRound_6 rfl (by omega) (by omega) (by omega) (by omega) (fun hb => ?_) (fun hb => ?_)
      · omega
      · refine ev_aload_n dO_makesNoRound_9 rfl ?_
        refine ev_get dO_makesNoRound_10 fl_O_9 rfl rfl ?_
        refine ev_iload dO_makesNoRound_13 rfl ?_
        refine ev_iload_n dO_makesNoRound_15 rfl ?_
        refine ev_cV dO_makesNoRound_16 cv_O_44 (ct_overlap h0 (by omega) a0 (by omega) (hl c h0 (by omega)) (hh c h0 (by omega)) (hl a a0 (by omega)) (hh a a0 (by omega))) rfl rfl rfl (Nat.le_of_ble_eq_true rfl) (Nat.le_of_ble_eq_true rfl) (Nat.le_of_ble_eq_true rfl) ?_
        refine ev_bz (tgt := 70) dO_makesNoRound_19 rfl (fun hb1 => ?_) (fun hb1 => ?_)
        · refine ev_iinc dO_makesNoRound_70 rfl ?_
          refine ev_goto (tgt := 3) dO_makesNoRound_73 rfl ?_
          have e : ly_r1 lo hi o a b c = false := by
            show (decide (lo c < hi a ∧ lo a < hi c) && _) = false
            rw [hb1]; rfl
          rw [ly_rdN, e]
          exact next
        · refine ev_aload_n dO_makesNoRound_22 rfl ?_
          refine ev_get dO_makesNoRound_23 fl_O_9 rfl rfl ?_
          refine ev_iload dO_makesNoRound_26 rfl ?_
          refine ev_iload_n dO_makesNoRound_28 rfl ?_
          refine ev_cV dO_makesNoRound_29 cv_O_44 (ct_overlap h0 (by omega) (by omega) (by omega) (hl c h0 (by omega)) (hh c h0 (by omega)) (hl b (by omega) bn) (hh b (by omega) bn)) rfl rfl rfl (Nat.le_of_ble_eq_true rfl) (Nat.le_of_ble_eq_true rfl) (Nat.le_of_ble_eq_true rfl) ?_
          refine ev_bz (tgt := 70) dO_makesNoRound_32 rfl (fun hb2 => ?_) (fun hb2 => ?_)
          · refine ev_iinc dO_makesNoRound_70 rfl ?_
            refine ev_goto (tgt := 3) dO_makesNoRound_73 rfl ?_
            have e : ly_r1 lo hi o a b c = false := by
              show (decide (lo c < hi a ∧ lo a < hi c) && (decide (lo c < hi b ∧ lo b < hi c) && _)) = false
              rw [hb1, hb2]; rfl
            rw [ly_rdN, e]
            exact next
          · refine ev_iload_n dO_makesNoRound_35 rfl ?_
            refine ev_iload_n dO_makesNoRound_36 rfl ?_
            refine ev_iload_n dO_makesNoRound_37 rfl ?_
            refine ev_cS dO_makesNoRound_38 cs_O_75 (ct_isAbove a0 (by omega) (by omega) (by omega)) rfl rfl (Nat.le_of_ble_eq_true rfl) (Nat.le_of_ble_eq_true rfl) (Nat.le_of_ble_eq_true rfl) ?_
            refine ev_iload_n dO_makesNoRound_41 rfl ?_
            refine ev_iload_n dO_makesNoRound_42 rfl ?_
            refine ev_iload dO_makesNoRound_43 rfl ?_
            refine ev_cS dO_makesNoRound_45 cs_O_75 (ct_isAbove (by omega) (by omega) h0 (by omega)) rfl rfl (Nat.le_of_ble_eq_true rfl) (Nat.le_of_ble_eq_true rfl) (Nat.le_of_ble_eq_true rfl) ?_
            refine ev_qne (tgt := 70) dO_makesNoRound_48 rfl (fun hb3 => ?_) (fun hb3 => ?_)
            · refine ev_iinc dO_makesNoRound_70 rfl ?_
              refine ev_goto (tgt := 3) dO_makesNoRound_73 rfl ?_
              have e : ly_r1 lo hi o a b c = false := by
                show (decide (lo c < hi a ∧ lo a < hi c) && (decide (lo c < hi b ∧ lo b < hi c) && _)) = false
                rw [hb1, hb2, beq_eq_false_iff_ne.mpr hb3]; rfl
              rw [ly_rdN, e]
              exact next
            · refine ev_iload_n dO_makesNoRound_51 rfl ?_
              refine ev_iload_n dO_makesNoRound_52 rfl ?_
              refine ev_iload dO_makesNoRound_53 rfl ?_
              refine ev_cS dO_makesNoRound_55 cs_O_75 (ct_isAbove (by omega) (by omega) h0 (by omega)) rfl rfl (Nat.le_of_ble_eq_true rfl) (Nat.le_of_ble_eq_true rfl) (Nat.le_of_ble_eq_true rfl) ?_
              refine ev_iload_n dO_makesNoRound_58 rfl ?_
              refine ev_iload dO_makesNoRound_59 rfl ?_
              refine ev_iload_n dO_makesNoRound_61 rfl ?_
              refine ev_cS dO_makesNoRound_62 cs_O_75 (ct_isAbove h0 (by omega) a0 (by omega)) rfl rfl (Nat.le_of_ble_eq_true rfl) (Nat.le_of_ble_eq_true rfl) (Nat.le_of_ble_eq_true rfl) ?_
              refine ev_qne (tgt := 70) dO_makesNoRound_65 rfl (fun hb4 => ?_) (fun hb4 => ?_)
              · refine ev_iinc dO_makesNoRound_70 rfl ?_
                refine ev_goto (tgt := 3) dO_makesNoRound_73 rfl ?_
                have e : ly_r1 lo hi o a b c = false := by
                  show (decide (lo c < hi a ∧ lo a < hi c) && (decide (lo c < hi b ∧ lo b < hi c) && _)) = false
                  rw [hb1, hb2, beq_eq_false_iff_ne.mpr hb4]; simp
                rw [ly_rdN, e]
                exact next
              · refine ev_iconst dO_makesNoRound_68 ?_
                refine ev_zreturn dO_makesNoRound_69 rfl ?_ ?_
                · decide
                · have e : ly_r1 lo hi o a b c = true := by
                    show (decide (lo c < hi a ∧ lo a < hi c) && (decide (lo c < hi b ∧ lo b < hi c) && _)) = true
                    rw [hb1, hb2, hb3, hb4]; simp
                  exact ⟨by rw [ly_rdN, e]; rfl, rfl⟩
  exact loop a.toNat 0 (by omega) (by omega)
theorem ct_noCross {o : Nat} {a b : Int} (a0 : 0 ≤ a) (ab : a < b) (bn : b ≤ n) (hn : n ≤ 6) (hl : ∀ i, 0 ≤ i → i ≤ n → -60 ≤ lo i ∧ lo i ≤ 60) (hh : ∀ i, 0 ≤ i → i ≤ n → -60 ≤ hi i ∧ hi i ≤ 60) (hB : ∀ i, 0 ≤ i → i ≤ n + 1 → -60 ≤ B i ∧ B i ≤ 60) :
    ev_C g mO_crossesNoCrease (d + 3) [.ref 13, ev_i o, ev_i a, ev_i b] (oh L n tn P K B lo hi c0 q1 q2 q3 q4 q5 q6 kn fo r mk t) 0 0 (ev_V (some (ev_i (ev_b (ly_cr B lo hi o a b)))) (oh L n tn P K B lo hi c0 q1 q2 q3 q4 q5 q6 kn fo r mk t)) := by
  have hBb := hB b (by omega) (by omega)
  have second : ¬ (0 < a ∧ ly_in lo hi b (B a) = true ∧ ly_bt o b (a - 1) a = true) → ev_E g false mO_crossesNoCrease (d + 3) 39 [some (.ref 13), some (ev_i o), some (ev_i a), some (ev_i b)] [] (oh L n tn P K B lo hi c0 q1 q2 q3 q4 q5 q6 kn fo r mk t) 0 0 (ev_V (some (ev_i (ev_b (ly_cr B lo hi o a b)))) (oh L n tn P K B lo hi c0 q1 q2 q3 q4 q5 q6 kn fo r mk t)) := by
    intro h1
    refine ev_aload_n dO_crossesNoCrease_39 rfl ?_
    refine ev_get dO_crossesNoCrease_40 fl_O_9 rfl rfl ?_
    refine ev_iload_n dO_crossesNoCrease_43 rfl ?_
    refine ev_aload_n dO_crossesNoCrease_44 rfl ?_
    refine ev_get dO_crossesNoCrease_45 fl_O_9 rfl rfl ?_
    refine ev_iload_n dO_crossesNoCrease_48 rfl ?_
    refine ev_iconst dO_crossesNoCrease_49 ?_
    refine ev_isub dO_crossesNoCrease_50 ?_
    refine ev_cV dO_crossesNoCrease_51 cv_O_85 (ct_foldedCrease (by omega) (by omega)) rfl rfl rfl (Nat.le_of_ble_eq_true rfl) (Nat.le_of_ble_eq_true rfl) (Nat.le_of_ble_eq_true rfl) ?_
    rw [show b - 1 + 1 = b by omega]
    refine ev_cV dO_crossesNoCrease_54 cv_O_88 (ct_hasInside a0 (by omega) (by omega) (by omega) (hl a a0 (by omega)) (hh a a0 (by omega))) rfl rfl rfl (Nat.le_of_ble_eq_true rfl) (Nat.le_of_ble_eq_true rfl) (Nat.le_of_ble_eq_true rfl) ?_
    refine ev_bz (tgt := 72) dO_crossesNoCrease_57 rfl (fun hb1 => ?_) (fun hb1 => ?_)
    · refine ev_iconst dO_crossesNoCrease_72 ?_
      refine ev_goto (tgt := 77) dO_crossesNoCrease_73 rfl ?_
      refine ev_zreturn dO_crossesNoCrease_77 rfl ?_ ?_
      · decide
      · refine ⟨?_, rfl⟩
        rw [ly_cr, if_neg h1, if_neg (fun q => by rw [ly_in] at q; rw [hb1] at q; exact absurd q.1 (by decide))]
        rfl
    · refine ev_iload_n dO_crossesNoCrease_60 rfl ?_
      refine ev_iload_n dO_crossesNoCrease_61 rfl ?_
      refine ev_iload_n dO_crossesNoCrease_62 rfl ?_
      refine ev_iconst dO_crossesNoCrease_63 ?_
      refine ev_isub dO_crossesNoCrease_64 ?_
      refine ev_iload_n dO_crossesNoCrease_65 rfl ?_
      refine ev_cS dO_crossesNoCrease_66 cs_O_91 (ct_isBetween a0 (by omega) (by omega) (by omega) (by omega) (by omega)) rfl rfl (Nat.le_of_ble_eq_true rfl) (Nat.le_of_ble_eq_true rfl) (Nat.le_of_ble_eq_true rfl) ?_
      refine ev_bn (tgt := 76) dO_crossesNoCrease_69 rfl (fun hb2 => ?_) (fun hb2 => ?_)
      · refine ev_iconst dO_crossesNoCrease_76 ?_
        refine ev_zreturn dO_crossesNoCrease_77 rfl ?_ ?_
        · decide
        · exact ⟨by rw [ly_cr, if_neg h1, if_pos ⟨hb1, hb2⟩]; rfl, rfl⟩
      · refine ev_iconst dO_crossesNoCrease_72 ?_
        refine ev_goto (tgt := 77) dO_crossesNoCrease_73 rfl ?_
        refine ev_zreturn dO_crossesNoCrease_77 rfl ?_ ?_
        · decide
        · exact ⟨by rw [ly_cr, if_neg h1, if_neg (fun q => by rw [hb2] at q; exact absurd q.2 (by decide))]; rfl, rfl⟩
  refine ev_ofE (by decide +kernel) rfl (Nat.le_of_ble_eq_true rfl) rfl rfl ?_
  refine ev_iload_n dO_crossesNoCrease_0 rfl ?_
  refine ev_if_le (tgt := 39) dO_crossesNoCrease_1 rfl (by omega) (by omega) (fun hb => ?_) (fun hb => ?_)
  · exact second (by omega)
  · have hBa := hB a a0 (by omega)
    refine ev_aload_n dO_crossesNoCrease_4 rfl ?_
    refine ev_get dO_crossesNoCrease_5 fl_O_9 rfl rfl ?_
    refine ev_iload_n dO_crossesNoCrease_8 rfl ?_
    refine ev_aload_n dO_crossesNoCrease_9 rfl ?_
    refine ev_get dO_crossesNoCrease_10 fl_O_9 rfl rfl ?_
    refine ev_iload_n dO_crossesNoCrease_13 rfl ?_
    refine ev_iconst dO_crossesNoCrease_14 ?_
    refine ev_isub dO_crossesNoCrease_15 ?_
    refine ev_cV dO_crossesNoCrease_16 cv_O_85 (ct_foldedCrease (by omega) (by omega)) rfl rfl rfl (Nat.le_of_ble_eq_true rfl) (Nat.le_of_ble_eq_true rfl) (Nat.le_of_ble_eq_true rfl) ?_
    rw [show a - 1 + 1 = a by omega]
    refine ev_cV dO_crossesNoCrease_19 cv_O_88 (ct_hasInside (by omega) (by omega) (by omega) (by omega) (hl b (by omega) bn) (hh b (by omega) bn)) rfl rfl rfl (Nat.le_of_ble_eq_true rfl) (Nat.le_of_ble_eq_true rfl) (Nat.le_of_ble_eq_true rfl) ?_
    refine ev_bz (tgt := 39) dO_crossesNoCrease_22 rfl (fun hb1 => ?_) (fun hb1 => ?_)
    · exact second (fun q => by have q := q.2.1; rw [ly_in, hb1] at q; exact absurd q (by decide))
    · refine ev_iload_n dO_crossesNoCrease_25 rfl ?_
      refine ev_iload_n dO_crossesNoCrease_26 rfl ?_
      refine ev_iload_n dO_crossesNoCrease_27 rfl ?_
      refine ev_iconst dO_crossesNoCrease_28 ?_
      refine ev_isub dO_crossesNoCrease_29 ?_
      refine ev_iload_n dO_crossesNoCrease_30 rfl ?_
      refine ev_cS dO_crossesNoCrease_31 cs_O_91 (ct_isBetween (by omega) (by omega) (by omega) (by omega) a0 (by omega)) rfl rfl (Nat.le_of_ble_eq_true rfl) (Nat.le_of_ble_eq_true rfl) (Nat.le_of_ble_eq_true rfl) ?_
      refine ev_bz (tgt := 39) dO_crossesNoCrease_34 rfl (fun hb2 => ?_) (fun hb2 => ?_)
      · exact second (fun q => by have q := q.2.2; rw [hb2] at q; exact absurd q (by decide))
      · refine ev_iconst dO_crossesNoCrease_37 ?_
        refine ev_zreturn dO_crossesNoCrease_38 rfl ?_ ?_
        · decide
        · exact ⟨by rw [ly_cr, if_pos ⟨hb, hb1, hb2⟩]; rfl, rfl⟩
theorem ct_nest {o : Nat} {a b : Int} (a0 : 0 ≤ a) (ab : a < b) (bn : b ≤ n) (hn : n ≤ 6) (hB : ∀ i, 0 ≤ i → i ≤ n + 1 → -60 ≤ B i ∧ B i ≤ 60) :
    ev_C g mO_creasesNest (d + 3) [.ref 13, ev_i o, ev_i a, ev_i b] (oh L n tn P K B lo hi c0 q1 q2 q3 q4 q5 q6 kn fo r mk t) 0 0 (ev_V (some (ev_i (ev_b (ly_ne B o a b)))) (oh L n tn P K B lo hi c0 q1 q2 q3 q4 q5 q6 kn fo r mk t)) := by
  have hBb := hB b (by omega) (by omega)
  have hBa := hB a a0 (by omega)
  refine ev_ofE (by decide +kernel) rfl (Nat.le_of_ble_eq_true rfl) rfl rfl ?_
  refine ev_iload_n dO_creasesNest_0 rfl ?_
  refine ev_if_eq (tgt := 27) dO_creasesNest_1 rfl (by omega) (by omega) (fun hb => ?_) (fun hb => ?_)
  · refine ev_iconst dO_creasesNest_27 ?_
    refine ev_zreturn dO_creasesNest_28 rfl ?_ ?_
    · decide
    · exact ⟨by rw [ly_ne, if_pos (Or.inl hb)]; rfl, rfl⟩
  · refine ev_aload_n dO_creasesNest_4 rfl ?_
    refine ev_get dO_creasesNest_5 fl_O_9 rfl rfl ?_
    refine ev_iload_n dO_creasesNest_8 rfl ?_
    refine ev_iconst dO_creasesNest_9 ?_
    refine ev_isub dO_creasesNest_10 ?_
    refine ev_cV dO_creasesNest_11 cv_O_85 (ct_foldedCrease (by omega) (by omega)) rfl rfl rfl (Nat.le_of_ble_eq_true rfl) (Nat.le_of_ble_eq_true rfl) (Nat.le_of_ble_eq_true rfl) ?_
    rw [show a - 1 + 1 = a by omega]
    refine ev_aload_n dO_creasesNest_14 rfl ?_
    refine ev_get dO_creasesNest_15 fl_O_9 rfl rfl ?_
    refine ev_iload_n dO_creasesNest_18 rfl ?_
    refine ev_iconst dO_creasesNest_19 ?_
    refine ev_isub dO_creasesNest_20 ?_
    refine ev_cV dO_creasesNest_21 cv_O_85 (ct_foldedCrease (by omega) (by omega)) rfl rfl rfl (Nat.le_of_ble_eq_true rfl) (Nat.le_of_ble_eq_true rfl) (Nat.le_of_ble_eq_true rfl) ?_
    rw [show b - 1 + 1 = b by omega]
    refine ev_icmp_eq (tgt := 29) dO_creasesNest_24 rfl (by omega) (by omega) (by omega) (by omega) (fun hb1 => ?_) (fun hb1 => ?_)
    · refine ev_iload_n dO_creasesNest_29 rfl ?_
      refine ev_iload_n dO_creasesNest_30 rfl ?_
      refine ev_iconst dO_creasesNest_31 ?_
      refine ev_isub dO_creasesNest_32 ?_
      refine ev_iload_n dO_creasesNest_33 rfl ?_
      refine ev_iconst dO_creasesNest_34 ?_
      refine ev_isub dO_creasesNest_35 ?_
      refine ev_iload_n dO_creasesNest_36 rfl ?_
      refine ev_cS dO_creasesNest_37 cs_O_91 (ct_isBetween (by omega) (by omega) (by omega) (by omega) a0 (by omega)) rfl rfl (Nat.le_of_ble_eq_true rfl) (Nat.le_of_ble_eq_true rfl) (Nat.le_of_ble_eq_true rfl) ?_
      refine ev_iload_n dO_creasesNest_40 rfl ?_
      refine ev_iload_n dO_creasesNest_41 rfl ?_
      refine ev_iload_n dO_creasesNest_42 rfl ?_
      refine ev_iconst dO_creasesNest_43 ?_
      refine ev_isub dO_creasesNest_44 ?_
      refine ev_iload_n dO_creasesNest_45 rfl ?_
      refine ev_cS dO_creasesNest_46 cs_O_91 (ct_isBetween (by omega) (by omega) (by omega) (by omega) a0 (by omega)) rfl rfl (Nat.le_of_ble_eq_true rfl) (Nat.le_of_ble_eq_true rfl) (Nat.le_of_ble_eq_true rfl) ?_
      have e : ly_ne B o a b = (ly_bt o (b - 1) (a - 1) a == ly_bt o b (a - 1) a) := if_neg (by omega)
      rw [e]
      refine ev_qne (tgt := 56) dO_creasesNest_49 rfl (fun hb2 => ?_) (fun hb2 => ?_)
      · refine ev_iconst dO_creasesNest_56 ?_
        refine ev_zreturn dO_creasesNest_57 rfl ?_ ?_
        · decide
        · exact ⟨by rw [beq_eq_false_iff_ne.mpr hb2]; rfl, rfl⟩
      · refine ev_iconst dO_creasesNest_52 ?_
        refine ev_goto (tgt := 57) dO_creasesNest_53 rfl ?_
        refine ev_zreturn dO_creasesNest_57 rfl ?_ ?_
        · decide
        · exact ⟨by rw [hb2]; simp [ev_b], rfl⟩
    · refine ev_iconst dO_creasesNest_27 ?_
      refine ev_zreturn dO_creasesNest_28 rfl ?_ ?_
      · decide
      · exact ⟨by rw [ly_ne, if_pos (Or.inr hb1)]; rfl, rfl⟩
end LC
