/-! The reference: does, run -/
theorem lb_strip_ok {s : SG} {l : Int} (ok : sg_ok s) : sg_ok (lb_strip s l).2 := by
  unfold lb_strip
  by_cases hl : 1 ≤ l ∧ l ≤ 60
  · rw [if_pos hl]
    exact ⟨hl.1, hl.2, Int.le_refl _, by show (0 : Int) ≤ 6; decide, fun i a b => by have : i < 0 := b; omega, fun i j a b q => by have : j < 0 := q; omega⟩
  · rw [if_neg hl]
    exact ok
theorem lb_crease_ok {s : SG} {p m : Int} (ok : sg_ok s) : sg_ok (lb_crease s p m).2 := by
  unfold lb_crease
  by_cases hj : sp_jd s.1 s.2.1 s.2.2.2.1 p m = 0
  · rw [if_pos hj]
    exact sp_ok1 ok hj
  · rw [if_neg hj]
    exact ok
theorem lb_crV_bd {s : SG} {p m : Int} (ok : sg_ok s) : 0 ≤ lb_crV s p m ∧ lb_crV s p m ≤ 6 := by
  have h := lb_crease_ok (p := p) (m := m) ok
  have h1 := h.2.2.1
  have h2 := h.2.2.2.1
  unfold lb_crV
  split
  · exact ⟨h1, h2⟩
  · decide
/-- the letter's operation -/
def tx_do (s : SG) (x c : Int) : Int × SG := if c = 115 then lb_strip s x else lb_crease s x (tx_mark c)
theorem tx_do_ok {s : SG} {x c : Int} (ok : sg_ok s) : sg_ok (tx_do s x c).2 := by
  unfold tx_do
  split
  · exact lb_strip_ok ok
  · exact lb_crease_ok ok
section R8
variable {g : ev_G} {d : Nat} {c : Nat → ev_AC} {h : List ev_AC} {th : Int} {s : SG} {S : Int → Int} {ty : Int} {z : MZ} {y : MY} {t : List ev_AC}
theorem ct_MdoesS {x : Int} (x1 : -2147483648 ≤ x) (x2 : x < 2147483648) : ev_C g mM_does (d + 2) [.ref 16, ev_i 115, ev_i x] (MS c th s S ty z y t) 0 0
    (ev_V (some (ev_i (ev_b (decide ((tx_do s x 115).1 = 0))))) (MS c (tx_do s x 115).1 (tx_do s x 115).2 S ty z y t)) := by
  rw [show tx_do s x 115 = lb_strip s x from if_pos rfl]
  have hc : (lb_strip s x).1 = 0 ∨ (lb_strip s x).1 = 1 := by
    unfold lb_strip
    split
    · exact Or.inl rfl
    · exact Or.inr rfl
  refine ev_ofE (by decide +kernel) rfl (Nat.le_of_ble_eq_true rfl) rfl rfl ?_
  refine ev_iload_n dM_does_0 rfl ?_
  refine ev_lookup (tgt := 44) dM_does_1 (by decide) (by decide) (by decide) rfl rfl ?_
  refine ev_aload_n dM_does_44 rfl ?_
  refine ev_iload_n dM_does_45 rfl ?_
  refine ev_cVv dM_does_46 cv_M_166 (ct_MstripS x1 x2) rfl rfl rfl (Nat.le_of_ble_eq_true rfl) (Nat.le_of_ble_eq_true rfl) (Nat.le_of_ble_eq_true rfl) ?_
  refine ev_aload_n dM_does_49 rfl ?_
  refine ev_get dM_does_50 fl_M_56 rfl rfl ?_
  refine ev_if_ne (tgt := 60) dM_does_53 rfl (by omega) (by omega) (fun h1 => ?_) (fun h1 => ?_)
  · refine ev_iconst dM_does_60 ?_
    refine ev_zreturn dM_does_61 rfl ?_ ?_
    · decide
    · exact ⟨by rw [decide_eq_false h1]; rfl, rfl⟩
  · refine ev_iconst dM_does_56 ?_
    refine ev_goto (tgt := 61) dM_does_57 rfl ?_
    refine ev_zreturn dM_does_61 rfl ?_ ?_
    · decide
    · exact ⟨by rw [decide_eq_true h1]; rfl, rfl⟩
theorem ct_Mdoesf {x : Int} (x1 : -2147483648 ≤ x) (x2 : x < 2147483648) (ok : sg_ok s) : ev_C g mM_does (d + 2) [.ref 16, ev_i 102, ev_i x] (MS c th s S ty z y t) 0 0
    (ev_V (some (ev_i (ev_b (decide ((tx_do s x 102).1 = 0))))) (MS c (tx_do s x 102).1 (tx_do s x 102).2 S ty z y t)) := by
  rw [show tx_do s x 102 = lb_crease s x 0 from if_neg (by decide)]
  have hj : 0 ≤ (lb_crease s x 0).1 ∧ (lb_crease s x 0).1 ≤ 2 := sp_jd_bd
  have hv := lb_crV_bd (p := x) (m := 0) ok
  have hv1 : -2147483648 ≤ lb_crV s x 0 := by omega
  have hv2 : lb_crV s x 0 < 2147483648 := by omega
  have hj1 : -2147483648 ≤ (lb_crease s x 0).1 := by omega
  have hj2 : (lb_crease s x 0).1 < 2147483648 := by omega
  refine ev_ofE (by decide +kernel) rfl (Nat.le_of_ble_eq_true rfl) rfl rfl ?_
  refine ev_iload_n dM_does_0 rfl ?_
  refine ev_lookup (tgt := 62) dM_does_1 (by decide) (by decide) (by decide) rfl rfl ?_
  refine ev_aload_n dM_does_62 rfl ?_
  refine ev_iload_n dM_does_63 rfl ?_
  refine ev_iconst dM_does_64 ?_
  refine ev_cV dM_does_65 cv_M_169 (ct_Mcrease (L := s.1) (n := s.2.1) (tn := s.2.2.1) (P := s.2.2.2.1) (K := s.2.2.2.2) (th := th) x1 x2 (by decide) (by decide) ok) rfl rfl rfl (Nat.le_of_ble_eq_true rfl) (Nat.le_of_ble_eq_true rfl) (Nat.le_of_ble_eq_true rfl) ?_
  refine ev_if_gt (tgt := 78) dM_does_68 rfl hv1 hv2 (fun h1 => ?_) (fun h1 => ?_)
  · have h0 : (lb_crease s x 0).1 = 0 := by
      refine Decidable.byContradiction (fun q => ?_)
      have : lb_crV s x 0 = 0 := if_neg q
      have h1' : 0 < lb_crV s x 0 := h1
      omega
    refine ev_iconst dM_does_78 ?_
    refine ev_goto (tgt := 83) dM_does_79 rfl ?_
    refine ev_zreturn dM_does_83 rfl ?_ ?_
    · decide
    · exact ⟨by rw [decide_eq_true h0]; rfl, rfl⟩
  · refine ev_aload_n dM_does_71 rfl ?_
    refine ev_get dM_does_72 fl_M_56 rfl rfl ?_
    refine ev_if_ne (tgt := 82) dM_does_75 rfl hj1 hj2 (fun h2 => ?_) (fun h2 => ?_)
    · refine ev_iconst dM_does_82 ?_
      refine ev_zreturn dM_does_83 rfl ?_ ?_
      · decide
      · exact ⟨by rw [decide_eq_false h2]; rfl, rfl⟩
    · refine ev_iconst dM_does_78 ?_
      refine ev_goto (tgt := 83) dM_does_79 rfl ?_
      refine ev_zreturn dM_does_83 rfl ?_ ?_
      · decide
      · exact ⟨by rw [decide_eq_true h2]; rfl, rfl⟩
theorem ct_Mdoesm {x : Int} (x1 : -2147483648 ≤ x) (x2 : x < 2147483648) (ok : sg_ok s) : ev_C g mM_does (d + 2) [.ref 16, ev_i 109, ev_i x] (MS c th s S ty z y t) 0 0
    (ev_V (some (ev_i (ev_b (decide ((tx_do s x 109).1 = 0))))) (MS c (tx_do s x 109).1 (tx_do s x 109).2 S ty z y t)) := by
  rw [show tx_do s x 109 = lb_crease s x 1 from if_neg (by decide)]
  have hj : 0 ≤ (lb_crease s x 1).1 ∧ (lb_crease s x 1).1 ≤ 2 := sp_jd_bd
  have hv := lb_crV_bd (p := x) (m := 1) ok
  have hv1 : -2147483648 ≤ lb_crV s x 1 := by omega
  have hv2 : lb_crV s x 1 < 2147483648 := by omega
  have hj1 : -2147483648 ≤ (lb_crease s x 1).1 := by omega
  have hj2 : (lb_crease s x 1).1 < 2147483648 := by omega
  refine ev_ofE (by decide +kernel) rfl (Nat.le_of_ble_eq_true rfl) rfl rfl ?_
  refine ev_iload_n dM_does_0 rfl ?_
  refine ev_lookup (tgt := 84) dM_does_1 (by decide) (by decide) (by decide) rfl rfl ?_
  refine ev_aload_n dM_does_84 rfl ?_
  refine ev_iload_n dM_does_85 rfl ?_
  refine ev_iconst dM_does_86 ?_
  refine ev_cV dM_does_87 cv_M_169 (ct_Mcrease (L := s.1) (n := s.2.1) (tn := s.2.2.1) (P := s.2.2.2.1) (K := s.2.2.2.2) (th := th) x1 x2 (by decide) (by decide) ok) rfl rfl rfl (Nat.le_of_ble_eq_true rfl) (Nat.le_of_ble_eq_true rfl) (Nat.le_of_ble_eq_true rfl) ?_
  refine ev_if_gt (tgt := 100) dM_does_90 rfl hv1 hv2 (fun h1 => ?_) (fun h1 => ?_)
  · have h0 : (lb_crease s x 1).1 = 0 := by
      refine Decidable.byContradiction (fun q => ?_)
      have : lb_crV s x 1 = 0 := if_neg q
      have h1' : 0 < lb_crV s x 1 := h1
      omega
    refine ev_iconst dM_does_100 ?_
    refine ev_goto (tgt := 105) dM_does_101 rfl ?_
    refine ev_zreturn dM_does_105 rfl ?_ ?_
    · decide
    · exact ⟨by rw [decide_eq_true h0]; rfl, rfl⟩
  · refine ev_aload_n dM_does_93 rfl ?_
    refine ev_get dM_does_94 fl_M_56 rfl rfl ?_
    refine ev_if_ne (tgt := 104) dM_does_97 rfl hj1 hj2 (fun h2 => ?_) (fun h2 => ?_)
    · refine ev_iconst dM_does_104 ?_
      refine ev_zreturn dM_does_105 rfl ?_ ?_
      · decide
      · exact ⟨by rw [decide_eq_false h2]; rfl, rfl⟩
    · refine ev_iconst dM_does_100 ?_
      refine ev_goto (tgt := 105) dM_does_101 rfl ?_
      refine ev_zreturn dM_does_105 rfl ?_ ?_
      · decide
      · exact ⟨by rw [decide_eq_true h2]; rfl, rfl⟩
theorem ct_Mdoesv {x : Int} (x1 : -2147483648 ≤ x) (x2 : x < 2147483648) (ok : sg_ok s) : ev_C g mM_does (d + 2) [.ref 16, ev_i 118, ev_i x] (MS c th s S ty z y t) 0 0
    (ev_V (some (ev_i (ev_b (decide ((tx_do s x 118).1 = 0))))) (MS c (tx_do s x 118).1 (tx_do s x 118).2 S ty z y t)) := by
  rw [show tx_do s x 118 = lb_crease s x 2 from if_neg (by decide)]
  have hj : 0 ≤ (lb_crease s x 2).1 ∧ (lb_crease s x 2).1 ≤ 2 := sp_jd_bd
  have hv := lb_crV_bd (p := x) (m := 2) ok
  have hv1 : -2147483648 ≤ lb_crV s x 2 := by omega
  have hv2 : lb_crV s x 2 < 2147483648 := by omega
  have hj1 : -2147483648 ≤ (lb_crease s x 2).1 := by omega
  have hj2 : (lb_crease s x 2).1 < 2147483648 := by omega
  refine ev_ofE (by decide +kernel) rfl (Nat.le_of_ble_eq_true rfl) rfl rfl ?_
  refine ev_iload_n dM_does_0 rfl ?_
  refine ev_lookup (tgt := 106) dM_does_1 (by decide) (by decide) (by decide) rfl rfl ?_
  refine ev_aload_n dM_does_106 rfl ?_
  refine ev_iload_n dM_does_107 rfl ?_
  refine ev_iconst dM_does_108 ?_
  refine ev_cV dM_does_109 cv_M_169 (ct_Mcrease (L := s.1) (n := s.2.1) (tn := s.2.2.1) (P := s.2.2.2.1) (K := s.2.2.2.2) (th := th) x1 x2 (by decide) (by decide) ok) rfl rfl rfl (Nat.le_of_ble_eq_true rfl) (Nat.le_of_ble_eq_true rfl) (Nat.le_of_ble_eq_true rfl) ?_
  refine ev_if_gt (tgt := 122) dM_does_112 rfl hv1 hv2 (fun h1 => ?_) (fun h1 => ?_)
  · have h0 : (lb_crease s x 2).1 = 0 := by
      refine Decidable.byContradiction (fun q => ?_)
      have : lb_crV s x 2 = 0 := if_neg q
      have h1' : 0 < lb_crV s x 2 := h1
      omega
    refine ev_iconst dM_does_122 ?_
    refine ev_goto (tgt := 127) dM_does_123 rfl ?_
    refine ev_zreturn dM_does_127 rfl ?_ ?_
    · decide
    · exact ⟨by rw [decide_eq_true h0]; rfl, rfl⟩
  · refine ev_aload_n dM_does_115 rfl ?_
    refine ev_get dM_does_116 fl_M_56 rfl rfl ?_
    refine ev_if_ne (tgt := 126) dM_does_119 rfl hj1 hj2 (fun h2 => ?_) (fun h2 => ?_)
    · refine ev_iconst dM_does_126 ?_
      refine ev_zreturn dM_does_127 rfl ?_ ?_
      · decide
      · exact ⟨by rw [decide_eq_false h2]; rfl, rfl⟩
    · refine ev_iconst dM_does_122 ?_
      refine ev_goto (tgt := 127) dM_does_123 rfl ?_
      refine ev_zreturn dM_does_127 rfl ?_ ?_
      · decide
      · exact ⟨by rw [decide_eq_true h2]; rfl, rfl⟩
theorem ct_Mdoesx {x : Int} (x1 : -2147483648 ≤ x) (x2 : x < 2147483648) (ok : sg_ok s) : ev_C g mM_does (d + 2) [.ref 16, ev_i 120, ev_i x] (MS c th s S ty z y t) 0 0
    (ev_V (some (ev_i (ev_b (decide ((tx_do s x 120).1 = 0))))) (MS c (tx_do s x 120).1 (tx_do s x 120).2 S ty z y t)) := by
  rw [show tx_do s x 120 = lb_crease s x 3 from if_neg (by decide)]
  have hj : 0 ≤ (lb_crease s x 3).1 ∧ (lb_crease s x 3).1 ≤ 2 := sp_jd_bd
  have hv := lb_crV_bd (p := x) (m := 3) ok
  have hv1 : -2147483648 ≤ lb_crV s x 3 := by omega
  have hv2 : lb_crV s x 3 < 2147483648 := by omega
  have hj1 : -2147483648 ≤ (lb_crease s x 3).1 := by omega
  have hj2 : (lb_crease s x 3).1 < 2147483648 := by omega
  refine ev_ofE (by decide +kernel) rfl (Nat.le_of_ble_eq_true rfl) rfl rfl ?_
  refine ev_iload_n dM_does_0 rfl ?_
  refine ev_lookup (tgt := 128) dM_does_1 (by decide) (by decide) (by decide) rfl rfl ?_
  refine ev_aload_n dM_does_128 rfl ?_
  refine ev_iload_n dM_does_129 rfl ?_
  refine ev_iconst dM_does_130 ?_
  refine ev_cV dM_does_131 cv_M_169 (ct_Mcrease (L := s.1) (n := s.2.1) (tn := s.2.2.1) (P := s.2.2.2.1) (K := s.2.2.2.2) (th := th) x1 x2 (by decide) (by decide) ok) rfl rfl rfl (Nat.le_of_ble_eq_true rfl) (Nat.le_of_ble_eq_true rfl) (Nat.le_of_ble_eq_true rfl) ?_
  refine ev_if_gt (tgt := 144) dM_does_134 rfl hv1 hv2 (fun h1 => ?_) (fun h1 => ?_)
  · have h0 : (lb_crease s x 3).1 = 0 := by
      refine Decidable.byContradiction (fun q => ?_)
      have : lb_crV s x 3 = 0 := if_neg q
      have h1' : 0 < lb_crV s x 3 := h1
      omega
    refine ev_iconst dM_does_144 ?_
    refine ev_goto (tgt := 149) dM_does_145 rfl ?_
    refine ev_zreturn dM_does_149 rfl ?_ ?_
    · decide
    · exact ⟨by rw [decide_eq_true h0]; rfl, rfl⟩
  · refine ev_aload_n dM_does_137 rfl ?_
    refine ev_get dM_does_138 fl_M_56 rfl rfl ?_
    refine ev_if_ne (tgt := 148) dM_does_141 rfl hj1 hj2 (fun h2 => ?_) (fun h2 => ?_)
    · refine ev_iconst dM_does_148 ?_
      refine ev_zreturn dM_does_149 rfl ?_ ?_
      · decide
      · exact ⟨by rw [decide_eq_false h2]; rfl, rfl⟩
    · refine ev_iconst dM_does_144 ?_
      refine ev_goto (tgt := 149) dM_does_145 rfl ?_
      refine ev_zreturn dM_does_149 rfl ?_ ?_
      · decide
      · exact ⟨by rw [decide_eq_true h2]; rfl, rfl⟩
theorem ct_Mdoes {x w : Int} (x1 : -2147483648 ≤ x) (x2 : x < 2147483648) (ok : sg_ok s) (hw : w = 115 ∨ w = 102 ∨ w = 109 ∨ w = 118 ∨ w = 120) : ev_C g mM_does (d + 2) [.ref 16, ev_i w, ev_i x] (MS c th s S ty z y t) 0 0
    (ev_V (some (ev_i (ev_b (decide ((tx_do s x w).1 = 0))))) (MS c (tx_do s x w).1 (tx_do s x w).2 S ty z y t)) := by
  rcases hw with rfl | rfl | rfl | rfl | rfl
  · exact ct_MdoesS x1 x2
  · exact ct_Mdoesf x1 x2 ok
  · exact ct_Mdoesm x1 x2 ok
  · exact ct_Mdoesv x1 x2 ok
  · exact ct_Mdoesx x1 x2 ok
theorem tx_takes_iff {w : Int} : tx_takes w = true ↔ (w = 115 ∨ w = 102 ∨ w = 109 ∨ w = 118 ∨ w = 120) := by
  unfold tx_takes tx_mark
  rw [decide_eq_true_iff]
  constructor
  · intro q
    by_cases h1 : w = 102
    · exact Or.inr (Or.inl h1)
    · by_cases h2 : w = 109
      · exact Or.inr (Or.inr (Or.inl h2))
      · by_cases h3 : w = 118
        · exact Or.inr (Or.inr (Or.inr (Or.inl h3)))
        · by_cases h4 : w = 120
          · exact Or.inr (Or.inr (Or.inr (Or.inr h4)))
          · rw [if_neg h1, if_neg h2, if_neg h3, if_neg h4] at q
            rcases q with q | q
            · exact Or.inl q
            · exact absurd rfl q
  · intro q
    rcases q with rfl | rfl | rfl | rfl | rfl
    · exact Or.inl rfl
    · exact Or.inr (by decide)
    · exact Or.inr (by decide)
    · exact Or.inr (by decide)
    · exact Or.inr (by decide)
theorem ct_Mrun (hS : ∀ i, 0 ≤ i → i < 60 → 0 ≤ S i ∧ S i ≤ 126) (t0 : 0 ≤ ty) (t1 : ty ≤ 60) (kn : Bool) (ok : sg_ok s) :
    ev_C g mM_run (d + 3) [.ref 16] (MS c th s S ty z y t) 0 0 (ev_V (some (ev_i (tx_run S ty 61 s kn 0 0).1)) (MS c 0 (tx_run S ty 61 s kn 0 0).2.1 S 0 z y t)) := by
  refine ev_ofE (by decide +kernel) rfl (Nat.le_of_ble_eq_true rfl) rfl rfl ?_
  refine ev_aload_n dM_run_0 rfl ?_
  refine ev_get dM_run_1 fl_M_78 rfl rfl ?_
  refine ev_istore_n dM_run_4 (Nat.le_of_ble_eq_true rfl) ?_
  refine ev_aload_n dM_run_5 rfl ?_
  refine ev_iconst dM_run_6 ?_
  refine ev_put dM_run_7 fp_M_78 (fun q => by cases q) rfl (Nat.le_of_ble_eq_true rfl) rfl rfl ?_
  refine ev_iconst dM_run_10 ?_
  refine ev_istore_n dM_run_11 (Nat.le_of_ble_eq_true rfl) ?_
  refine ev_iconst dM_run_12 ?_
  refine ev_istore_n dM_run_13 (Nat.le_of_ble_eq_true rfl) ?_
  refine ev_iconst dM_run_14 ?_
  refine ev_istore dM_run_15 (Nat.le_of_ble_eq_true rfl) ?_
  refine ev_iconst dM_run_17 ?_
  refine ev_istore dM_run_18 (Nat.le_of_ble_eq_true rfl) ?_
  have stop : ∀ (s : SG) (th ops at_ an : Int) (o6 o7 o8 : Option Value), 0 ≤ at_ → at_ ≤ 70 → ev_E g false mM_run (d + 3) 20 [some (.ref 16), some (ev_i ty), some (ev_i ops), some (ev_i at_), some (ev_i an), some (ev_i 0), o6, o7, o8] [] (MS c th s S 0 z y t) 0 0 (ev_V (some (ev_i an)) (MS c 0 s S 0 z y t)) := by
    intro s th ops at_ an o6 o7 o8 a0 a1
    have fin : ev_E g false mM_run (d + 3) 216 [some (.ref 16), some (ev_i ty), some (ev_i ops), some (ev_i at_), some (ev_i an), some (ev_i 0), o6, o7, o8] [] (MS c th s S 0 z y t) 0 0 (ev_V (some (ev_i an)) (MS c 0 s S 0 z y t)) := by
      refine ev_aload_n dM_run_216 rfl ?_
      refine ev_iconst dM_run_217 ?_
      refine ev_put dM_run_218 fp_M_56 (fun q => by cases q) rfl (Nat.le_of_ble_eq_true rfl) rfl rfl ?_
      refine ev_iload dM_run_221 rfl ?_
      refine ev_if_eq (tgt := 230) dM_run_223 rfl (by omega) (by omega) (fun h3 => ?_) (fun h3 => ?_)
      · refine ev_iload dM_run_230 rfl ?_
        refine ev_ireturn dM_run_232 rfl ?_
        exact ⟨rfl, rfl⟩
      · omega
    refine ev_iload_n dM_run_20 rfl ?_
    refine ev_iload_n dM_run_21 rfl ?_
    refine ev_icmp_ge (tgt := 216) dM_run_22 rfl (by omega) (by omega) (by omega) (by omega) (fun h1 => ?_) (fun h1 => ?_)
    · exact fin
    · refine ev_iload dM_run_25 rfl ?_
      refine ev_if_eq (tgt := 216) dM_run_27 rfl (by omega) (by omega) (fun h2 => ?_) (fun h2 => ?_)
      · exact fin
      · omega
  have loop : ∀ (k : Nat) (s : SG) (kn : Bool) (th at_ ops an : Int) (o6 o7 o8 : Option Value), sg_ok s → 0 ≤ at_ → at_ ≤ 60 → ty - at_ < k →
      ev_E g false mM_run (d + 3) 20 [some (.ref 16), some (ev_i ty), some (ev_i ops), some (ev_i at_), some (ev_i an), some (ev_i 1), o6, o7, o8] [] (MS c th s S 0 z y t) 0 0 (ev_V (some (ev_i (tx_run S ty k s kn at_ ops).1)) (MS c 0 (tx_run S ty k s kn at_ ops).2.1 S 0 z y t)) := by
    intro k
    induction k with
    | zero =>
      intro s kn th at_ ops an o6 o7 o8 ok a0 a1 hk
      refine ev_iload_n dM_run_20 rfl ?_
      refine ev_iload_n dM_run_21 rfl ?_
      refine ev_icmp_ge (tgt := 216) dM_run_22 rfl (by omega) (by omega) (by omega) (by omega) (fun h1 => ?_) (fun h1 => ?_)
      · refine ev_aload_n dM_run_216 rfl ?_
        refine ev_iconst dM_run_217 ?_
        refine ev_put dM_run_218 fp_M_56 (fun q => by cases q) rfl (Nat.le_of_ble_eq_true rfl) rfl rfl ?_
        refine ev_iload dM_run_221 rfl ?_
        refine ev_if_eq (tgt := 230) dM_run_223 rfl (by omega) (by omega) (fun h3 => ?_) (fun h3 => ?_)
        · omega
        · refine ev_iload_n dM_run_226 rfl ?_
          refine ev_goto (tgt := 232) dM_run_227 rfl ?_
          refine ev_ireturn dM_run_232 rfl ?_
          exact ⟨rfl, rfl⟩
      · omega
    | succ k ih =>
      intro s kn th at_ ops an o6 o7 o8 ok a0 a1 hk
      refine ev_iload_n dM_run_20 rfl ?_
      refine ev_iload_n dM_run_21 rfl ?_
      refine ev_icmp_ge (tgt := 216) dM_run_22 rfl (by omega) (by omega) (by omega) (by omega) (fun h1 => ?_) (fun h1 => ?_)
      · rw [tx_run, if_pos h1]
        refine ev_aload_n dM_run_216 rfl ?_
        refine ev_iconst dM_run_217 ?_
        refine ev_put dM_run_218 fp_M_56 (fun q => by cases q) rfl (Nat.le_of_ble_eq_true rfl) rfl rfl ?_
        refine ev_iload dM_run_221 rfl ?_
        refine ev_if_eq (tgt := 230) dM_run_223 rfl (by omega) (by omega) (fun h3 => ?_) (fun h3 => ?_)
        · omega
        · refine ev_iload_n dM_run_226 rfl ?_
          refine ev_goto (tgt := 232) dM_run_227 rfl ?_
          refine ev_ireturn dM_run_232 rfl ?_
          exact ⟨rfl, rfl⟩
      · have hSa := hS at_ a0 (by omega)
        refine ev_iload dM_run_25 rfl ?_
        refine ev_if_eq (tgt := 216) dM_run_27 rfl (by omega) (by omega) (fun h2 => ?_) (fun h2 => ?_)
        · omega
        · refine ev_aload_n dM_run_30 rfl ?_
          refine ev_get dM_run_31 fl_M_20 rfl rfl ?_
          refine ev_iload_n dM_run_34 rfl ?_
          refine ev_iald dM_run_35 rfl (by omega) (by omega) (by decide) ?_
          refine ev_istore dM_run_36 (Nat.le_of_ble_eq_true rfl) ?_
          refine ev_iconst dM_run_38 ?_
          refine ev_istore dM_run_39 (Nat.le_of_ble_eq_true rfl) ?_
          refine ev_iconst dM_run_41 ?_
          refine ev_istore dM_run_42 (Nat.le_of_ble_eq_true rfl) ?_
          have main : ∀ D : Nat, (D : Int) = tx_dg S ty (at_ + 1) 4 0 → ev_E g false mM_run (d + 3) 95 [some (.ref 16), some (ev_i ty), some (ev_i ops), some (ev_i at_), some (ev_i an), some (ev_i 1), some (ev_i (S at_)), some (ev_i D), some (ev_i (tx_num S (at_ + 1) D))] [] (MS c th s S 0 z y t) 0 0
              (ev_V (some (ev_i (tx_run S ty (k + 1) s kn at_ ops).1)) (MS c 0 (tx_run S ty (k + 1) s kn at_ ops).2.1 S 0 z y t)) := by
            intro D hD
            have hsp := tx_dg_spec (S := S) (en := ty) (st := at_ + 1) 4 0
            rw [← hD] at hsp
            obtain ⟨sp1, sp2, sp3, sp4⟩ := hsp
            have sp3' := sp3 (by omega)
            have hnum := tx_num_bd (S := S) (st := at_ + 1) D (by omega) sp4
            rw [tx_run, if_neg (by omega)]
            refine ev_iload dM_run_95 rfl ?_
            refine ev_bipush dM_run_97 rfl ?_
            refine ev_icmp_ne (tgt := 108) dM_run_99 rfl (by omega) (by omega) (by omega) (by omega) (fun h5 => ?_) (fun h5 => ?_)
            · rw [if_neg h5]
              refine ev_iload dM_run_108 rfl ?_
              refine ev_bipush dM_run_110 rfl ?_
              refine ev_icmp_ne (tgt := 140) dM_run_112 rfl (by omega) (by omega) (by omega) (by omega) (fun h6 => ?_) (fun h6 => ?_)
              · -- neither a space nor a t
                have badE : (tx_op s S (S at_) (at_ + 1) (tx_dgs S ty at_)) = (1, s) → ev_E g false mM_run (d + 3) 195 [some (.ref 16), some (ev_i ty), some (ev_i ops), some (ev_i at_), some (ev_i an), some (ev_i 1), some (ev_i (S at_)), some (ev_i D), some (ev_i (tx_num S (at_ + 1) D))] [] (MS c th s S 0 z y t) 0 0
                    (ev_V (some (ev_i (if (tx_op s S (S at_) (at_ + 1) (tx_dgs S ty at_)).1 = 0 then tx_run S ty k (tx_op s S (S at_) (at_ + 1) (tx_dgs S ty at_)).2 false (at_ + (1 + tx_dgs S ty at_)) (ops + 1) else (-1 - at_, (tx_op s S (S at_) (at_ + 1) (tx_dgs S ty at_)).2, kn)).1)) (MS c 0 (if (tx_op s S (S at_) (at_ + 1) (tx_dgs S ty at_)).1 = 0 then tx_run S ty k (tx_op s S (S at_) (at_ + 1) (tx_dgs S ty at_)).2 false (at_ + (1 + tx_dgs S ty at_)) (ops + 1) else (-1 - at_, (tx_op s S (S at_) (at_ + 1) (tx_dgs S ty at_)).2, kn)).2.1 S 0 z y t)) := by
                  intro e
                  rw [e, if_neg (show ¬ (1 : Int) = 0 by decide)]
                  refine ev_iconst dM_run_195 ?_
                  refine ev_istore dM_run_196 (Nat.le_of_ble_eq_true rfl) ?_
                  refine ev_iconst dM_run_198 ?_
                  refine ev_iload_n dM_run_199 rfl ?_
                  refine ev_isub dM_run_200 ?_
                  refine ev_istore dM_run_201 (Nat.le_of_ble_eq_true rfl) ?_
                  refine ev_iinc dM_run_203 rfl ?_
                  refine ev_iload_n dM_run_206 rfl ?_
                  refine ev_iconst dM_run_207 ?_
                  refine ev_iadd dM_run_208 ?_
                  refine ev_iload dM_run_209 rfl ?_
                  refine ev_iadd dM_run_211 ?_
                  refine ev_istore_n dM_run_212 (Nat.le_of_ble_eq_true rfl) ?_
                  refine ev_goto (tgt := 20) dM_run_213 rfl ?_
                  exact stop s th _ _ (-1 - at_) _ _ _ (by omega) (by omega)
                have goodE : (S at_ = 115 ∨ S at_ = 102 ∨ S at_ = 109 ∨ S at_ = 118 ∨ S at_ = 120) → ev_E g false mM_run (d + 3) 175 [some (.ref 16), some (ev_i ty), some (ev_i ops), some (ev_i at_), some (ev_i an), some (ev_i 1), some (ev_i (S at_)), some (ev_i D), some (ev_i (tx_num S (at_ + 1) D))] [] (MS c th s S 0 z y t) 0 0
                    (ev_V (some (ev_i (if (tx_op s S (S at_) (at_ + 1) (tx_dgs S ty at_)).1 = 0 then tx_run S ty k (tx_op s S (S at_) (at_ + 1) (tx_dgs S ty at_)).2 false (at_ + (1 + tx_dgs S ty at_)) (ops + 1) else (-1 - at_, (tx_op s S (S at_) (at_ + 1) (tx_dgs S ty at_)).2, kn)).1)) (MS c 0 (if (tx_op s S (S at_) (at_ + 1) (tx_dgs S ty at_)).1 = 0 then tx_run S ty k (tx_op s S (S at_) (at_ + 1) (tx_dgs S ty at_)).2 false (at_ + (1 + tx_dgs S ty at_)) (ops + 1) else (-1 - at_, (tx_op s S (S at_) (at_ + 1) (tx_dgs S ty at_)).2, kn)).2.1 S 0 z y t)) := by
                  intro hw
                  have hdg : tx_dgs S ty at_ = D := by
                    unfold tx_dgs
                    rw [if_pos (tx_takes_iff.mpr hw), hD]
                  rw [hdg] at badE ⊢
                  refine ev_iload dM_run_175 rfl ?_
                  refine ev_if_le (tgt := 195) dM_run_177 rfl (by omega) (by omega) (fun h7 => ?_) (fun h7 => ?_)
                  · refine badE ?_
                    unfold tx_op
                    rw [if_neg h6, if_pos (by omega)]
                  · have e : tx_op s S (S at_) (at_ + 1) D = tx_do s (tx_num S (at_ + 1) D) (S at_) := by
                      unfold tx_op tx_do
                      rw [if_neg h6, if_neg (by omega), Int.toNat_natCast]
                    rw [e]
                    refine ev_aload_n dM_run_180 rfl ?_
                    refine ev_iload dM_run_181 rfl ?_
                    refine ev_iload dM_run_183 rfl ?_
                    refine ev_cV dM_run_185 cv_M_178 (ct_Mdoes (by omega) (by omega) ok hw) rfl rfl rfl (Nat.le_of_ble_eq_true rfl) (Nat.le_of_ble_eq_true rfl) (Nat.le_of_ble_eq_true rfl) ?_
                    refine ev_bz (tgt := 195) dM_run_188 rfl (fun h8 => ?_) (fun h8 => ?_)
                    · have h8' := of_decide_eq_false h8
                      rw [if_neg h8']
                      refine ev_iconst dM_run_195 ?_
                      refine ev_istore dM_run_196 (Nat.le_of_ble_eq_true rfl) ?_
                      refine ev_iconst dM_run_198 ?_
                      refine ev_iload_n dM_run_199 rfl ?_
                      refine ev_isub dM_run_200 ?_
                      refine ev_istore dM_run_201 (Nat.le_of_ble_eq_true rfl) ?_
                      refine ev_iinc dM_run_203 rfl ?_
                      refine ev_iload_n dM_run_206 rfl ?_
                      refine ev_iconst dM_run_207 ?_
                      refine ev_iadd dM_run_208 ?_
                      refine ev_iload dM_run_209 rfl ?_
                      refine ev_iadd dM_run_211 ?_
                      refine ev_istore_n dM_run_212 (Nat.le_of_ble_eq_true rfl) ?_
                      refine ev_goto (tgt := 20) dM_run_213 rfl ?_
                      exact stop _ _ _ _ (-1 - at_) _ _ _ (by omega) (by omega)
                    · have h8' := of_decide_eq_true h8
                      rw [if_pos h8']
                      refine ev_iconst dM_run_191 ?_
                      refine ev_goto (tgt := 196) dM_run_192 rfl ?_
                      refine ev_istore dM_run_196 (Nat.le_of_ble_eq_true rfl) ?_
                      refine ev_iconst dM_run_198 ?_
                      refine ev_iload_n dM_run_199 rfl ?_
                      refine ev_isub dM_run_200 ?_
                      refine ev_istore dM_run_201 (Nat.le_of_ble_eq_true rfl) ?_
                      refine ev_iinc dM_run_203 rfl ?_
                      refine ev_iload_n dM_run_206 rfl ?_
                      refine ev_iconst dM_run_207 ?_
                      refine ev_iadd dM_run_208 ?_
                      refine ev_iload dM_run_209 rfl ?_
                      refine ev_iadd dM_run_211 ?_
                      refine ev_istore_n dM_run_212 (Nat.le_of_ble_eq_true rfl) ?_
                      refine ev_goto (tgt := 20) dM_run_213 rfl ?_
                      rw [show at_ + 1 + (D : Int) = at_ + (1 + D) by omega]
                      exact ih _ false _ (at_ + (1 + D)) (ops + 1) _ _ _ _ (tx_do_ok ok) (by omega) (by omega) (by omega)
                refine ev_iload dM_run_140 rfl ?_
                refine ev_bipush dM_run_142 rfl ?_
                refine ev_icmp_eq (tgt := 175) dM_run_144 rfl (by omega) (by omega) (by omega) (by omega) (fun l1 => ?_) (fun l1 => ?_)
                · exact goodE (Or.inl l1)
                · refine ev_iload dM_run_147 rfl ?_
                  refine ev_bipush dM_run_149 rfl ?_
                  refine ev_icmp_eq (tgt := 175) dM_run_151 rfl (by omega) (by omega) (by omega) (by omega) (fun l2 => ?_) (fun l2 => ?_)
                  · exact goodE (Or.inr (Or.inl l2))
                  · refine ev_iload dM_run_154 rfl ?_
                    refine ev_bipush dM_run_156 rfl ?_
                    refine ev_icmp_eq (tgt := 175) dM_run_158 rfl (by omega) (by omega) (by omega) (by omega) (fun l3 => ?_) (fun l3 => ?_)
                    · exact goodE (Or.inr (Or.inr (Or.inl l3)))
                    · refine ev_iload dM_run_161 rfl ?_
                      refine ev_bipush dM_run_163 rfl ?_
                      refine ev_icmp_eq (tgt := 175) dM_run_165 rfl (by omega) (by omega) (by omega) (by omega) (fun l4 => ?_) (fun l4 => ?_)
                      · exact goodE (Or.inr (Or.inr (Or.inr (Or.inl l4))))
                      · refine ev_iload dM_run_168 rfl ?_
                        refine ev_bipush dM_run_170 rfl ?_
                        refine ev_icmp_ne (tgt := 195) dM_run_172 rfl (by omega) (by omega) (by omega) (by omega) (fun l5 => ?_) (fun l5 => ?_)
                        · have ht : ¬ tx_takes (S at_) = true := fun q => by
                            rcases tx_takes_iff.mp q with q | q | q | q | q
                            · exact l1 q
                            · exact l2 q
                            · exact l3 q
                            · exact l4 q
                            · exact l5 q
                          refine badE ?_
                          unfold tx_op tx_dgs
                          rw [if_neg ht, if_neg h6, if_pos rfl]
                        · exact goodE (Or.inr (Or.inr (Or.inr (Or.inr l5))))
              · have e0 : tx_dgs S ty at_ = 0 := by
                  unfold tx_dgs
                  rw [if_neg (fun q => by rcases tx_takes_iff.mp q with q | q | q | q | q <;> omega)]
                have e : tx_op s S (S at_) (at_ + 1) (tx_dgs S ty at_) = (0, lb_turn s) := if_pos h6
                rw [e, e0, if_pos rfl]
                have := ih (lb_turn s) false th (at_ + 1) (ops + 1) an (some (ev_i (S at_))) (some (ev_i D)) (some (ev_i (tx_num S (at_ + 1) D))) ok (by omega) (by omega) (by omega)
                obtain ⟨sL, sn, stn, sP, sK⟩ := s
                refine ev_aload_n dM_run_115 rfl ?_
                refine ev_aload_n dM_run_116 rfl ?_
                refine ev_get dM_run_117 fl_M_66 rfl rfl ?_
                refine ev_bn (tgt := 127) dM_run_120 rfl (fun h9 => ?_) (fun h9 => ?_)
                · have h9' : stn = true := h9
                  subst h9'
                  refine ev_iconst dM_run_127 ?_
                  refine ev_put dM_run_128 fp_M_66 (fun q => by cases q) rfl (Nat.le_of_ble_eq_true rfl) (ev_nbz (by first | decide | exact ev_b01 _)) (ev_fbz (by first | decide | exact ev_b01 _)) ?_
                  refine ev_iinc dM_run_131 rfl ?_
                  refine ev_iinc dM_run_134 rfl ?_
                  refine ev_goto (tgt := 213) dM_run_137 rfl ?_
                  refine ev_goto (tgt := 20) dM_run_213 rfl ?_
                  exact this
                · have h9' : stn = false := h9
                  subst h9'
                  refine ev_iconst dM_run_123 ?_
                  refine ev_goto (tgt := 128) dM_run_124 rfl ?_
                  refine ev_put dM_run_128 fp_M_66 (fun q => by cases q) rfl (Nat.le_of_ble_eq_true rfl) (ev_nbz (by first | decide | exact ev_b01 _)) (ev_fbz (by first | decide | exact ev_b01 _)) ?_
                  refine ev_iinc dM_run_131 rfl ?_
                  refine ev_iinc dM_run_134 rfl ?_
                  refine ev_goto (tgt := 213) dM_run_137 rfl ?_
                  refine ev_goto (tgt := 20) dM_run_213 rfl ?_
                  exact this
            · rw [if_pos h5]
              refine ev_iinc dM_run_102 rfl ?_
              refine ev_goto (tgt := 213) dM_run_105 rfl ?_
              refine ev_goto (tgt := 20) dM_run_213 rfl ?_
              exact ih s kn th (at_ + 1) ops an _ _ _ ok (by omega) (by omega) (by omega)
          have dig : ∀ (kk dg : Nat), dg + kk = 4 → at_ + 1 + dg ≤ ty → (∀ D : Nat, (D : Int) = tx_dg S ty (at_ + 1) kk dg → ev_E g false mM_run (d + 3) 95 [some (.ref 16), some (ev_i ty), some (ev_i ops), some (ev_i at_), some (ev_i an), some (ev_i 1), some (ev_i (S at_)), some (ev_i D), some (ev_i (tx_num S (at_ + 1) D))] [] (MS c th s S 0 z y t) 0 0
              (ev_V (some (ev_i (tx_run S ty (k + 1) s kn at_ ops).1)) (MS c 0 (tx_run S ty (k + 1) s kn at_ ops).2.1 S 0 z y t))) →
              ev_E g false mM_run (d + 3) 44 [some (.ref 16), some (ev_i ty), some (ev_i ops), some (ev_i at_), some (ev_i an), some (ev_i 1), some (ev_i (S at_)), some (ev_i dg), some (ev_i (tx_num S (at_ + 1) dg))] [] (MS c th s S 0 z y t) 0 0
              (ev_V (some (ev_i (tx_run S ty (k + 1) s kn at_ ops).1)) (MS c 0 (tx_run S ty (k + 1) s kn at_ ops).2.1 S 0 z y t)) := by
            intro kk
            induction kk with
            | zero =>
              intro dg h4 hle cont
              refine ev_iload dM_run_44 rfl ?_
              refine ev_iconst dM_run_46 ?_
              refine ev_icmp_ge (tgt := 95) dM_run_47 rfl (by omega) (by omega) (by omega) (by omega) (fun e1 => ?_) (fun e1 => ?_)
              · exact cont dg rfl
              · omega
            | succ kk ihd =>
              intro dg h4 hle cont
              refine ev_iload dM_run_44 rfl ?_
              refine ev_iconst dM_run_46 ?_
              refine ev_icmp_ge (tgt := 95) dM_run_47 rfl (by omega) (by omega) (by omega) (by omega) (fun e1 => ?_) (fun e1 => ?_)
              · omega
              · have hv : -2147483648 ≤ (if at_ + 1 + (dg : Int) < ty then S (at_ + 1 + dg) else 0) ∧ (if at_ + 1 + (dg : Int) < ty then S (at_ + 1 + dg) else 0) < 2147483648 := by
                  split
                  · have := hS (at_ + 1 + dg) (by omega) (by omega)
                    omega
                  · omega
                refine ev_aload_n dM_run_50 rfl ?_
                refine ev_iload_n dM_run_51 rfl ?_
                refine ev_iconst dM_run_52 ?_
                refine ev_iadd dM_run_53 ?_
                refine ev_iload dM_run_54 rfl ?_
                refine ev_iadd dM_run_56 ?_
                refine ev_iload_n dM_run_57 rfl ?_
                refine ev_cV dM_run_58 cv_M_172 (ct_Msign (L := s.1) (n := s.2.1) (tn := s.2.2.1) (P := s.2.2.2.1) (K := s.2.2.2.2) (i := at_ + 1 + dg) (j := ty) (by omega) (by omega) t0 t1) rfl rfl rfl (Nat.le_of_ble_eq_true rfl) (Nat.le_of_ble_eq_true rfl) (Nat.le_of_ble_eq_true rfl) ?_
                refine ev_cS dM_run_61 cs_M_175 (ct_MisDigit hv.1 hv.2) rfl rfl (Nat.le_of_ble_eq_true rfl) (Nat.le_of_ble_eq_true rfl) (Nat.le_of_ble_eq_true rfl) ?_
                refine ev_bz (tgt := 95) dM_run_64 rfl (fun e2 => ?_) (fun e2 => ?_)
                · have e2' := of_decide_eq_false e2
                  refine cont dg ?_
                  rw [tx_dg, if_neg (fun q => e2' (by rw [if_pos q.1]; exact q.2))]
                · have e2' := of_decide_eq_true e2
                  by_cases hlt : at_ + 1 + (dg : Int) < ty
                  · rw [if_pos hlt] at e2'
                    refine ev_bipush dM_run_67 rfl ?_
                    refine ev_iload dM_run_69 rfl ?_
                    refine ev_imul dM_run_71 ?_
                    refine ev_aload_n dM_run_72 rfl ?_
                    refine ev_iload_n dM_run_73 rfl ?_
                    refine ev_iconst dM_run_74 ?_
                    refine ev_iadd dM_run_75 ?_
                    refine ev_iload dM_run_76 rfl ?_
                    refine ev_iadd dM_run_78 ?_
                    refine ev_iload_n dM_run_79 rfl ?_
                    refine ev_cV dM_run_80 cv_M_172 (ct_Msign (L := s.1) (n := s.2.1) (tn := s.2.2.1) (P := s.2.2.2.1) (K := s.2.2.2.2) (i := at_ + 1 + dg) (j := ty) (by omega) (by omega) t0 t1) rfl rfl rfl (Nat.le_of_ble_eq_true rfl) (Nat.le_of_ble_eq_true rfl) (Nat.le_of_ble_eq_true rfl) ?_
                    rw [if_pos hlt]
                    refine ev_iadd dM_run_83 ?_
                    refine ev_bipush dM_run_84 rfl ?_
                    refine ev_isub dM_run_86 ?_
                    refine ev_istore dM_run_87 (Nat.le_of_ble_eq_true rfl) ?_
                    refine ev_iinc dM_run_89 rfl ?_
                    refine ev_goto (tgt := 44) dM_run_92 rfl ?_
                    rw [show 10 * tx_num S (at_ + 1) dg + S (at_ + 1 + dg) - 48 = tx_num S (at_ + 1) (dg + 1) by show _ = tx_num S (at_ + 1) dg * 10 + (S (at_ + 1 + dg) - 48); omega]
                    refine ihd (dg + 1) (by omega) (by push_cast; omega) (fun D hD => cont D ?_)
                    rw [tx_dg, if_pos ⟨hlt, e2'⟩]
                    exact hD
                  · rw [if_neg hlt] at e2'
                    omega
          exact dig 4 0 rfl (by omega) main
  exact loop 61 s kn th 0 0 0 none none none ok (by omega) (by omega) (by omega)
end R8
