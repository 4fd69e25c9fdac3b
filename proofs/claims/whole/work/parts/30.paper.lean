/-! Paper: its cells, its readers -/
/-- the paper's cells: the laboratory's own cell c0 ahead, all others behind -/
def pw (L n : Int) (tn : Bool) (P K B lo hi : Int → Int) (c0 : ev_AC) (t : List ev_AC) : List ev_AC :=
  c0 :: .inr (1, [ev_i L, ev_i n, ev_i (ev_b tn), .ref 2, .ref 3, .ref 4, .ref 5, .ref 6]) :: ev_ia 6 P :: ev_ia 6 K :: ev_ia 8 B :: ev_ia 7 lo :: ev_ia 7 hi :: t
section PA
variable {g : ev_G} {d : Nat} {L n : Int} {tn : Bool} {P K B lo hi : Int → Int} {c0 : ev_AC} {t : List ev_AC} {h : List ev_AC}
theorem ct_dir {i : Int} (h0 : 0 ≤ i) (h1 : i < 2147483648) : ev_C g mP_direction d [ev_i i] h 0 0 (ev_V (some (ev_i (sp_dir i))) h) := by
  refine ev_ofE (by decide +kernel) rfl (Nat.le_of_ble_eq_true rfl) rfl rfl ?_
  refine ev_iload_n dP_direction_0 rfl ?_
  refine ev_iconst dP_direction_1 ?_
  refine ev_rem dP_direction_2 h0 h1 (by decide) (by decide) ?_
  refine ev_if_ne (tgt := 10) dP_direction_3 rfl (by omega) (by omega) (fun hb => ?_) (fun hb => ?_)
  · refine ev_iconst dP_direction_10 ?_
    refine ev_ireturn dP_direction_11 rfl ?_
    exact ⟨by rw [sp_dir, if_neg hb], rfl⟩
  · refine ev_iconst dP_direction_6 ?_
    refine ev_goto (tgt := 11) dP_direction_7 rfl ?_
    refine ev_ireturn dP_direction_11 rfl ?_
    exact ⟨by rw [sp_dir, if_pos hb], rfl⟩
theorem ct_leftEnd {i : Int} (h0 : 0 ≤ i) (h1 : i ≤ 6) : ev_C g mP_leftEnd d [.ref 1, ev_i i] (pw L n tn P K B lo hi c0 t) 0 0 (ev_V (some (ev_i (sp_le P i))) (pw L n tn P K B lo hi c0 t)) := by
  refine ev_ofE (by decide +kernel) rfl (Nat.le_of_ble_eq_true rfl) rfl rfl ?_
  refine ev_iload_n dP_leftEnd_0 rfl ?_
  refine ev_if_ne (tgt := 8) dP_leftEnd_1 rfl (by omega) (by omega) (fun hb => ?_) (fun hb => ?_)
  · refine ev_aload_n dP_leftEnd_8 rfl ?_
    refine ev_get dP_leftEnd_9 fl_P_9 rfl rfl ?_
    refine ev_iload_n dP_leftEnd_12 rfl ?_
    refine ev_iconst dP_leftEnd_13 ?_
    refine ev_isub dP_leftEnd_14 ?_
    refine ev_iald dP_leftEnd_15 rfl (by omega) (by omega) (by decide) ?_
    refine ev_ireturn dP_leftEnd_16 rfl ?_
    exact ⟨by rw [sp_le, if_neg hb], rfl⟩
  · refine ev_iconst dP_leftEnd_4 ?_
    refine ev_goto (tgt := 16) dP_leftEnd_5 rfl ?_
    refine ev_ireturn dP_leftEnd_16 rfl ?_
    exact ⟨by rw [sp_le, if_pos hb], rfl⟩
theorem ct_rightEnd {i : Int} (h0 : 0 ≤ i) (h1 : i ≤ 6) (hn0 : 0 ≤ n) (hn : n ≤ 6) : ev_C g mP_rightEnd d [.ref 1, ev_i i] (pw L n tn P K B lo hi c0 t) 0 0 (ev_V (some (ev_i (sp_re L n P i))) (pw L n tn P K B lo hi c0 t)) := by
  refine ev_ofE (by decide +kernel) rfl (Nat.le_of_ble_eq_true rfl) rfl rfl ?_
  refine ev_iload_n dP_rightEnd_0 rfl ?_
  refine ev_aload_n dP_rightEnd_1 rfl ?_
  refine ev_get dP_rightEnd_2 fl_P_35 rfl rfl ?_
  refine ev_icmp_ge (tgt := 17) dP_rightEnd_5 rfl (by omega) (by omega) (by omega) (by omega) (fun hb => ?_) (fun hb => ?_)
  · refine ev_aload_n dP_rightEnd_17 rfl ?_
    refine ev_get dP_rightEnd_18 fl_P_31 rfl rfl ?_
    refine ev_ireturn dP_rightEnd_21 rfl ?_
    exact ⟨by rw [sp_re, if_neg (by omega)], rfl⟩
  · refine ev_aload_n dP_rightEnd_8 rfl ?_
    refine ev_get dP_rightEnd_9 fl_P_9 rfl rfl ?_
    refine ev_iload_n dP_rightEnd_12 rfl ?_
    refine ev_iald dP_rightEnd_13 rfl (by omega) (by omega) (by decide) ?_
    refine ev_goto (tgt := 21) dP_rightEnd_14 rfl ?_
    refine ev_ireturn dP_rightEnd_21 rfl ?_
    exact ⟨by rw [sp_re, if_pos hb], rfl⟩
theorem ct_segLen {i : Int} (h0 : 0 ≤ i) (h1 : i ≤ 6) (hn0 : 0 ≤ n) (hn : n ≤ 6) : ev_C g mP_segmentLength (d + 1) [.ref 1, ev_i i] (pw L n tn P K B lo hi c0 t) 0 0 (ev_V (some (ev_i (sp_re L n P i - sp_le P i))) (pw L n tn P K B lo hi c0 t)) := by
  refine ev_ofE (by decide +kernel) rfl (Nat.le_of_ble_eq_true rfl) rfl rfl ?_
  refine ev_aload_n dP_segmentLength_0 rfl ?_
  refine ev_iload_n dP_segmentLength_1 rfl ?_
  refine ev_cV dP_segmentLength_2 cv_P_75 (ct_rightEnd h0 h1 hn0 hn) rfl rfl rfl (Nat.le_of_ble_eq_true rfl) (Nat.le_of_ble_eq_true rfl) (Nat.le_of_ble_eq_true rfl) ?_
  refine ev_aload_n dP_segmentLength_5 rfl ?_
  refine ev_iload_n dP_segmentLength_6 rfl ?_
  refine ev_cV dP_segmentLength_7 cv_P_78 (ct_leftEnd h0 h1) rfl rfl rfl (Nat.le_of_ble_eq_true rfl) (Nat.le_of_ble_eq_true rfl) (Nat.le_of_ble_eq_true rfl) ?_
  refine ev_isub dP_segmentLength_10 ?_
  refine ev_ireturn dP_segmentLength_11 rfl ?_
  exact ⟨rfl, rfl⟩
end PA
