/-! The reference: its heap; the small readers -/
/-- sixteen cells that the reference never sees, then t -/
def rp (c : Nat → ev_AC) (t : List ev_AC) : List ev_AC := c 0 :: c 1 :: c 2 :: c 3 :: c 4 :: c 5 :: c 6 :: c 7 :: c 8 :: c 9 :: c 10 :: c 11 :: c 12 :: c 13 :: c 14 :: c 15 :: t
/-- the search's cells: order, pairA, pairB, lows, highs, meets, found -/
abbrev MZ : Type := (Int → Int) × (Int → Int) × (Int → Int) × (Int → Int) × (Int → Int) × (Int → Int) × Int
/-- the reductions' cells: row, rowMarks, rowPlaces, rowCount, stepKinds, stepPlaces, stepCount -/
abbrev MY : Type := (Int → Int) × (Int → Int) × (Int → Int) × Int × (Int → Int) × (Int → Int) × Int
/-- the reference's heap: what was thrown, the strip, the text, the search, the reductions -/
def MH (c : Nat → ev_AC) (th L n : Int) (tn : Bool) (P K S : Int → Int) (ty : Int) (z : MZ) (y : MY) (t : List ev_AC) : List ev_AC :=
  rp c (.inr (4, [ev_i th, ev_i L, ev_i (ev_b tn), .ref 17, .ref 18, ev_i n, .ref 19, ev_i ty, .ref 20, .ref 21, .ref 22, .ref 23, .ref 24, .ref 25, ev_i z.2.2.2.2.2.2, .ref 26, .ref 27, .ref 28, ev_i y.2.2.2.1, .ref 29, .ref 30, ev_i y.2.2.2.2.2.2]) ::
    ev_ia 6 P :: ev_ia 6 K :: ev_ia 60 S :: ev_ia 49 z.1 :: ev_ia 21 z.2.1 :: ev_ia 21 z.2.2.1 :: ev_ia 7 z.2.2.2.1 :: ev_ia 7 z.2.2.2.2.1 :: ev_ia 6 z.2.2.2.2.2.1 :: ev_ia 7 y.1 :: ev_ia 7 y.2.1 :: ev_ia 7 y.2.2.1 :: ev_ia 7 y.2.2.2.2.1 :: ev_ia 7 y.2.2.2.2.2.1 :: t)
section R0
variable {g : ev_G} {d : Nat} {c : Nat → ev_AC} {th L n : Int} {tn : Bool} {P K S : Int → Int} {ty : Int} {z : MZ} {y : MY} {t : List ev_AC}
theorem ct_Mthrown : ev_C g mM_thrown d [.ref 16] (MH c th L n tn P K S ty z y t) 0 0 (ev_V (some (ev_i th)) (MH c th L n tn P K S ty z y t)) := by
  refine ev_ofE (by decide +kernel) rfl (Nat.le_of_ble_eq_true rfl) rfl rfl ?_
  refine ev_aload_n dM_thrown_0 rfl ?_
  refine ev_get dM_thrown_1 fl_M_56 rfl rfl ?_
  refine ev_ireturn dM_thrown_4 rfl ?_
  exact ⟨rfl, rfl⟩
theorem ct_MleftEnd {i : Int} (h0 : 0 ≤ i) (h1 : i ≤ 6) : ev_C g mM_leftEnd d [.ref 16, ev_i i] (MH c th L n tn P K S ty z y t) 0 0 (ev_V (some (ev_i (sp_le P i))) (MH c th L n tn P K S ty z y t)) := by
  refine ev_ofE (by decide +kernel) rfl (Nat.le_of_ble_eq_true rfl) rfl rfl ?_
  refine ev_iload_n dM_leftEnd_0 rfl ?_
  refine ev_if_ne (tgt := 8) dM_leftEnd_1 rfl (by omega) (by omega) (fun hb => ?_) (fun hb => ?_)
  · refine ev_aload_n dM_leftEnd_8 rfl ?_
    refine ev_get dM_leftEnd_9 fl_M_13 rfl rfl ?_
    refine ev_iload_n dM_leftEnd_12 rfl ?_
    refine ev_iconst dM_leftEnd_13 ?_
    refine ev_isub dM_leftEnd_14 ?_
    refine ev_iald dM_leftEnd_15 rfl (by omega) (by omega) (by decide) ?_
    refine ev_ireturn dM_leftEnd_16 rfl ?_
    exact ⟨by unfold sp_le; rw [if_neg hb], rfl⟩
  · refine ev_iconst dM_leftEnd_4 ?_
    refine ev_goto (tgt := 16) dM_leftEnd_5 rfl ?_
    refine ev_ireturn dM_leftEnd_16 rfl ?_
    exact ⟨by unfold sp_le; rw [if_pos hb], rfl⟩
theorem ct_MrightEnd {i : Int} (h0 : 0 ≤ i) (h1 : i ≤ n) (hn : n ≤ 6) : ev_C g mM_rightEnd d [.ref 16, ev_i i] (MH c th L n tn P K S ty z y t) 0 0 (ev_V (some (ev_i (sp_re L n P i))) (MH c th L n tn P K S ty z y t)) := by
  refine ev_ofE (by decide +kernel) rfl (Nat.le_of_ble_eq_true rfl) rfl rfl ?_
  refine ev_iload_n dM_rightEnd_0 rfl ?_
  refine ev_aload_n dM_rightEnd_1 rfl ?_
  refine ev_get dM_rightEnd_2 fl_M_63 rfl rfl ?_
  refine ev_icmp_ne (tgt := 15) dM_rightEnd_5 rfl (by omega) (by omega) (by omega) (by omega) (fun hb => ?_) (fun hb => ?_)
  · refine ev_aload_n dM_rightEnd_15 rfl ?_
    refine ev_get dM_rightEnd_16 fl_M_13 rfl rfl ?_
    refine ev_iload_n dM_rightEnd_19 rfl ?_
    refine ev_iald dM_rightEnd_20 rfl (by omega) (by omega) (by decide) ?_
    refine ev_ireturn dM_rightEnd_21 rfl ?_
    exact ⟨by unfold sp_re; rw [if_pos (by omega)], rfl⟩
  · refine ev_aload_n dM_rightEnd_8 rfl ?_
    refine ev_get dM_rightEnd_9 fl_M_7 rfl rfl ?_
    refine ev_goto (tgt := 21) dM_rightEnd_12 rfl ?_
    refine ev_ireturn dM_rightEnd_21 rfl ?_
    exact ⟨by unfold sp_re; rw [if_neg (by omega)], rfl⟩
theorem ct_Msign {i j : Int} (h0 : 0 ≤ i) (h1 : i ≤ 60) (j0 : 0 ≤ j) (j1 : j ≤ 60) : ev_C g mM_sign d [.ref 16, ev_i i, ev_i j] (MH c th L n tn P K S ty z y t) 0 0 (ev_V (some (ev_i (if i < j then S i else 0))) (MH c th L n tn P K S ty z y t)) := by
  refine ev_ofE (by decide +kernel) rfl (Nat.le_of_ble_eq_true rfl) rfl rfl ?_
  refine ev_iload_n dM_sign_0 rfl ?_
  refine ev_iload_n dM_sign_1 rfl ?_
  refine ev_icmp_ge (tgt := 14) dM_sign_2 rfl (by omega) (by omega) (by omega) (by omega) (fun hb => ?_) (fun hb => ?_)
  · refine ev_iconst dM_sign_14 ?_
    refine ev_ireturn dM_sign_15 rfl ?_
    exact ⟨by rw [if_neg (by omega)], rfl⟩
  · refine ev_aload_n dM_sign_5 rfl ?_
    refine ev_get dM_sign_6 fl_M_20 rfl rfl ?_
    refine ev_iload_n dM_sign_9 rfl ?_
    refine ev_iald dM_sign_10 rfl (by omega) (by omega) (by decide) ?_
    refine ev_goto (tgt := 15) dM_sign_11 rfl ?_
    refine ev_ireturn dM_sign_15 rfl ?_
    exact ⟨by rw [if_pos (by omega)], rfl⟩
end R0
