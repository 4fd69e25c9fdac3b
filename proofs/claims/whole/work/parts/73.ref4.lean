/-! The reference: overlap -/
section R3
variable {g : ev_G} {d : Nat} {c : Nat → ev_AC} {h : List ev_AC} {th L n : Int} {tn : Bool} {P K S : Int → Int} {ty : Int} {z : MZ} {y : MY} {t : List ev_AC}
def mz_ov (z : MZ) (a b : Int) : Bool := decide (a ≠ b ∧ (if z.2.2.2.1 b < z.2.2.2.1 a then z.2.2.2.1 a else z.2.2.2.1 b) < (if z.2.2.2.2.1 a < z.2.2.2.2.1 b then z.2.2.2.2.1 a else z.2.2.2.2.1 b))
theorem ct_Moverlap {a b : Int} (a0 : 0 ≤ a) (a1 : a ≤ 6) (b0 : 0 ≤ b) (b1 : b ≤ 6) (la : -100 ≤ z.2.2.2.1 a ∧ z.2.2.2.1 a ≤ 100) (lb : -100 ≤ z.2.2.2.1 b ∧ z.2.2.2.1 b ≤ 100) (ha : -100 ≤ z.2.2.2.2.1 a ∧ z.2.2.2.2.1 a ≤ 100) (hb' : -100 ≤ z.2.2.2.2.1 b ∧ z.2.2.2.2.1 b ≤ 100) :
    ev_C g mM_overlap d [.ref 16, ev_i a, ev_i b] (MH c th L n tn P K S ty z y t) 0 0 (ev_V (some (ev_i (ev_b (mz_ov z a b)))) (MH c th L n tn P K S ty z y t)) := by
  unfold mz_ov
  have fin : ∀ u v : Int, -100 ≤ u → u ≤ 100 → -100 ≤ v → v ≤ 100 → ev_E g false mM_overlap d 63 [some (.ref 16), some (ev_i a), some (ev_i b), some (ev_i u), some (ev_i v)] [] (MH c th L n tn P K S ty z y t) 0 0 (ev_V (some (ev_i (ev_b (decide (a ≠ b ∧ u < v))))) (MH c th L n tn P K S ty z y t)) := by
    intro u v u1 u2 v1 v2
    refine ev_iload_n dM_overlap_63 rfl ?_
    refine ev_iload_n dM_overlap_64 rfl ?_
    refine ev_icmp_eq (tgt := 78) dM_overlap_65 rfl (by omega) (by omega) (by omega) (by omega) (fun h1 => ?_) (fun h1 => ?_)
    · refine ev_iconst dM_overlap_78 ?_
      refine ev_zreturn dM_overlap_79 rfl ?_ ?_
      · decide
      · exact ⟨by rw [decide_eq_false (by omega)]; rfl, rfl⟩
    · refine ev_iload_n dM_overlap_68 rfl ?_
      refine ev_iload dM_overlap_69 rfl ?_
      refine ev_icmp_ge (tgt := 78) dM_overlap_71 rfl (by omega) (by omega) (by omega) (by omega) (fun h2 => ?_) (fun h2 => ?_)
      · refine ev_iconst dM_overlap_78 ?_
        refine ev_zreturn dM_overlap_79 rfl ?_ ?_
        · decide
        · exact ⟨by rw [decide_eq_false (by omega)]; rfl, rfl⟩
      · refine ev_iconst dM_overlap_74 ?_
        refine ev_goto (tgt := 79) dM_overlap_75 rfl ?_
        refine ev_zreturn dM_overlap_79 rfl ?_ ?_
        · decide
        · exact ⟨by rw [decide_eq_true ⟨h1, by omega⟩]; rfl, rfl⟩
  refine ev_ofE (by decide +kernel) rfl (Nat.le_of_ble_eq_true rfl) rfl rfl ?_
  refine ev_aload_n dM_overlap_0 rfl ?_
  refine ev_get dM_overlap_1 fl_M_32 rfl rfl ?_
  refine ev_iload_n dM_overlap_4 rfl ?_
  refine ev_iald dM_overlap_5 rfl (by omega) (by omega) (by decide) ?_
  refine ev_aload_n dM_overlap_6 rfl ?_
  refine ev_get dM_overlap_7 fl_M_32 rfl rfl ?_
  refine ev_iload_n dM_overlap_10 rfl ?_
  refine ev_iald dM_overlap_11 rfl (by omega) (by omega) (by decide) ?_
  refine ev_icmp_le (tgt := 24) dM_overlap_12 rfl (by omega) (by omega) (by omega) (by omega) (fun h1 => ?_) (fun h1 => ?_)
  · rw [if_neg (by omega)]
    refine ev_aload_n dM_overlap_24 rfl ?_
    refine ev_get dM_overlap_25 fl_M_32 rfl rfl ?_
    refine ev_iload_n dM_overlap_28 rfl ?_
    refine ev_iald dM_overlap_29 rfl (by omega) (by omega) (by decide) ?_
    refine ev_istore_n dM_overlap_30 (Nat.le_of_ble_eq_true rfl) ?_
    refine ev_aload_n dM_overlap_31 rfl ?_
    refine ev_get dM_overlap_32 fl_M_35 rfl rfl ?_
    refine ev_iload_n dM_overlap_35 rfl ?_
    refine ev_iald dM_overlap_36 rfl (by omega) (by omega) (by decide) ?_
    refine ev_aload_n dM_overlap_37 rfl ?_
    refine ev_get dM_overlap_38 fl_M_35 rfl rfl ?_
    refine ev_iload_n dM_overlap_41 rfl ?_
    refine ev_iald dM_overlap_42 rfl (by omega) (by omega) (by decide) ?_
    refine ev_icmp_ge (tgt := 55) dM_overlap_43 rfl (by omega) (by omega) (by omega) (by omega) (fun h2 => ?_) (fun h2 => ?_)
    · rw [if_neg (by omega)]
      refine ev_aload_n dM_overlap_55 rfl ?_
      refine ev_get dM_overlap_56 fl_M_35 rfl rfl ?_
      refine ev_iload_n dM_overlap_59 rfl ?_
      refine ev_iald dM_overlap_60 rfl (by omega) (by omega) (by decide) ?_
      refine ev_istore dM_overlap_61 (Nat.le_of_ble_eq_true rfl) ?_
      exact fin _ _ lb.1 lb.2 hb'.1 hb'.2
    · rw [if_pos (by omega)]
      refine ev_aload_n dM_overlap_46 rfl ?_
      refine ev_get dM_overlap_47 fl_M_35 rfl rfl ?_
      refine ev_iload_n dM_overlap_50 rfl ?_
      refine ev_iald dM_overlap_51 rfl (by omega) (by omega) (by decide) ?_
      refine ev_goto (tgt := 61) dM_overlap_52 rfl ?_
      refine ev_istore dM_overlap_61 (Nat.le_of_ble_eq_true rfl) ?_
      exact fin _ _ lb.1 lb.2 ha.1 ha.2
  · rw [if_pos (by omega)]
    refine ev_aload_n dM_overlap_15 rfl ?_
    refine ev_get dM_overlap_16 fl_M_32 rfl rfl ?_
    refine ev_iload_n dM_overlap_19 rfl ?_
    refine ev_iald dM_overlap_20 rfl (by omega) (by omega) (by decide) ?_
    refine ev_goto (tgt := 30) dM_overlap_21 rfl ?_
    refine ev_istore_n dM_overlap_30 (Nat.le_of_ble_eq_true rfl) ?_
    refine ev_aload_n dM_overlap_31 rfl ?_
    refine ev_get dM_overlap_32 fl_M_35 rfl rfl ?_
    refine ev_iload_n dM_overlap_35 rfl ?_
    refine ev_iald dM_overlap_36 rfl (by omega) (by omega) (by decide) ?_
    refine ev_aload_n dM_overlap_37 rfl ?_
    refine ev_get dM_overlap_38 fl_M_35 rfl rfl ?_
    refine ev_iload_n dM_overlap_41 rfl ?_
    refine ev_iald dM_overlap_42 rfl (by omega) (by omega) (by decide) ?_
    refine ev_icmp_ge (tgt := 55) dM_overlap_43 rfl (by omega) (by omega) (by omega) (by omega) (fun h2 => ?_) (fun h2 => ?_)
    · rw [if_neg (by omega)]
      refine ev_aload_n dM_overlap_55 rfl ?_
      refine ev_get dM_overlap_56 fl_M_35 rfl rfl ?_
      refine ev_iload_n dM_overlap_59 rfl ?_
      refine ev_iald dM_overlap_60 rfl (by omega) (by omega) (by decide) ?_
      refine ev_istore dM_overlap_61 (Nat.le_of_ble_eq_true rfl) ?_
      exact fin _ _ la.1 la.2 hb'.1 hb'.2
    · rw [if_pos (by omega)]
      refine ev_aload_n dM_overlap_46 rfl ?_
      refine ev_get dM_overlap_47 fl_M_35 rfl rfl ?_
      refine ev_iload_n dM_overlap_50 rfl ?_
      refine ev_iald dM_overlap_51 rfl (by omega) (by omega) (by decide) ?_
      refine ev_goto (tgt := 61) dM_overlap_52 rfl ?_
      refine ev_istore dM_overlap_61 (Nat.le_of_ble_eq_true rfl) ?_
      exact fin _ _ la.1 la.2 ha.1 ha.2
end R3
