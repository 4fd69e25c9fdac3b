/-! The laboratory's throwing methods: segment, step -/
def lb_seg (s : SG) (i w : Int) : Int ⊕ Nat :=
  if 0 ≤ i ∧ i ≤ s.2.1 then
    (if w = 0 then .inl (sp_le s.2.2.2.1 i) else if w = 1 then .inl (sp_re s.1 s.2.1 s.2.2.2.1 i) else if w = 2 then .inl (sp_lo s.1 s.2.1 s.2.2.2.1 i) else if w = 3 then .inl (sp_hi s.1 s.2.1 s.2.2.2.1 i)
     else if w = 4 then .inl (ev_b (sp_up s.2.2.1 i)) else if w = 5 then .inl (if i < s.2.1 then s.2.2.2.2 i else -1) else .inr 5)
  else .inr 7
/-- how many reductions -/
def lb_steps (s : SG) (rs : RS) : Int := if 0 < sp_fr s.2.2.2.2 s.2.1.toNat then -1 else (rd_go s rs).2.1
def lb_step (s : SG) (rs : RS) (i w : Int) : Int ⊕ Nat :=
  if i < 0 ∨ lb_steps s rs ≤ i then .inr 7 else if w = 0 then .inl ((rd_go s rs).2.2.2.2.2.1 i) else if w = 1 then .inl ((rd_go s rs).2.2.2.2.2.2 i) else .inr 5
theorem rd_iter_b2 : ∀ (k i : Nat) (s : RS), i + k ≤ 6 → rd_inv i s → 1 ≤ (rd_iter k s).1 ∧ (rd_iter k s).2.1 + (rd_iter k s).1 ≤ 7
  | 0, _, s, _, h => ⟨h.1, h.2.2.2.1⟩
  | k + 1, i, s, hk, h => by
    unfold rd_iter
    by_cases h1 : 1 < s.1
    · rw [if_pos h1]
      cases he : rd_step s with
      | none => exact ⟨h.1, h.2.2.2.1⟩
      | some s' => exact rd_iter_b2 k (i + 1) s' (by omega) (rd_inv_s (by omega) h h1 he)
    · rw [if_neg h1]
      exact ⟨h.1, h.2.2.2.1⟩
theorem lb_steps_bd {s : SG} {rs : RS} (ok : sg_ok s) : -1 ≤ lb_steps s rs ∧ lb_steps s rs ≤ 6 := by
  unfold lb_steps
  split
  · omega
  · rename_i h
    rw [show rd_go s rs = rd_iter 6 (rd_st s rs) from if_neg h]
    have h1 := rd_iter_b2 6 0 _ (by omega) (rd_st_inv (rs := rs) ok)
    have h2 := rd_iter_bd 6 0 _ (by omega) (rd_st_inv (rs := rs) ok)
    omega
section LB6
variable {g : ev_G} {d : Nat} {s s' : SG} {ty : Int} {rs : RS} {kn : Bool} {S : Int → Int} {mc : List ev_AC} {e : Nat} {h : List ev_AC}
theorem ct_Fsegment {i w : Int} (i1 : -2147483648 ≤ i) (i2 : i < 2147483648) (w1 : -2147483648 ≤ w) (w2 : w < 2147483648) (hh : LO s ty rs S mc e kn h) :
    ev_T g mF_segment (d + 6) [.ref 0, ev_i i, ev_i w] h 1 6 (fun o h' => lb_out (lb_seg s i w) o h' ∧ LO s ty rs S mc e kn h') := by
  have hh0 := hh
  obtain ⟨fo, kr, R, A, mk, x, tl, hL, hr, hk, hA⟩ := hh
  obtain ⟨L, n, tn, P, K⟩ := s
  obtain ⟨ok, B, lo, hi, rfl, gvv⟩ := hL
  have hn0 : 0 ≤ n := ok.2.2.1
  have hn : n ≤ 6 := ok.2.2.2.1
  unfold lb_seg
  refine ev_ofT (by decide +kernel) rfl (Nat.le_of_ble_eq_true rfl) rfl rfl ?_
  refine ev_aload_n dF_segment_0 rfl ?_
  refine ev_get dF_segment_1 fl_F_12 rfl rfl ?_
  refine ev_iload_n dF_segment_4 rfl ?_
  refine ev_cV dF_segment_5 cv_F_82 (ct_hasSeg (d := d + 5) (L := L) (n := n) (tn := tn) (P := P) (K := K) (B := B) (lo := lo) (hi := hi) i1 i2 hn0 hn) rfl rfl rfl (Nat.le_of_ble_eq_true rfl) (Nat.le_of_ble_eq_true rfl) (Nat.le_of_ble_eq_true rfl) ?_
  refine ev_bn (tgt := 21) dF_segment_8 rfl (fun hb => ?_) (fun hb => ?_)
  · have hi' : 0 ≤ i ∧ i ≤ n := of_decide_eq_true hb
    rw [if_pos (show 0 ≤ i ∧ i ≤ (L, n, tn, P, K).2.1 from hi')]
    refine ev_iload_n dF_segment_21 rfl ?_
    by_cases h0 : w = 0
    · subst h0
      refine ev_tableIn (tgt := 60) dF_segment_22 w1 w2 (by decide) (by decide) rfl rfl ?_
      refine ev_aload_n dF_segment_60 rfl ?_
      refine ev_get dF_segment_61 fl_F_12 rfl rfl ?_
      refine ev_iload_n dF_segment_64 rfl ?_
      refine ev_cV dF_segment_65 cv_F_91 (ct_leftEnd (d := d + 5) (L := L) (n := n) (tn := tn) (P := P) (K := K) (B := B) (lo := lo) (hi := hi) hi'.1 (by omega)) rfl rfl rfl (Nat.le_of_ble_eq_true rfl) (Nat.le_of_ble_eq_true rfl) (Nat.le_of_ble_eq_true rfl) ?_
      refine ev_ireturn dF_segment_68 rfl ?_
      exact ⟨rfl, hh0⟩
    · by_cases h1 : w = 1
      · subst h1
        refine ev_tableIn (tgt := 69) dF_segment_22 w1 w2 (by decide) (by decide) rfl rfl ?_
        refine ev_aload_n dF_segment_69 rfl ?_
        refine ev_get dF_segment_70 fl_F_12 rfl rfl ?_
        refine ev_iload_n dF_segment_73 rfl ?_
        refine ev_cV dF_segment_74 cv_F_94 (ct_rightEnd (d := d + 5) (L := L) (n := n) (tn := tn) (P := P) (K := K) (B := B) (lo := lo) (hi := hi) hi'.1 (by omega) hn0 hn) rfl rfl rfl (Nat.le_of_ble_eq_true rfl) (Nat.le_of_ble_eq_true rfl) (Nat.le_of_ble_eq_true rfl) ?_
        refine ev_ireturn dF_segment_77 rfl ?_
        exact ⟨rfl, hh0⟩
      · by_cases h2 : w = 2
        · subst h2
          refine ev_tableIn (tgt := 78) dF_segment_22 w1 w2 (by decide) (by decide) rfl rfl ?_
          refine ev_aload_n dF_segment_78 rfl ?_
          refine ev_get dF_segment_79 fl_F_12 rfl rfl ?_
          refine ev_get dF_segment_82 fl_F_97 rfl rfl ?_
          refine ev_iload_n dF_segment_85 rfl ?_
          refine ev_iald dF_segment_86 rfl (by omega) (by omega) (by decide) ?_
          refine ev_ireturn dF_segment_87 rfl ?_
          refine ⟨?_, hh0⟩
          rw [(gvv.2 i hi'.1 hi'.2).1]
          rfl
        · by_cases h3 : w = 3
          · subst h3
            refine ev_tableIn (tgt := 88) dF_segment_22 w1 w2 (by decide) (by decide) rfl rfl ?_
            refine ev_aload_n dF_segment_88 rfl ?_
            refine ev_get dF_segment_89 fl_F_12 rfl rfl ?_
            refine ev_get dF_segment_92 fl_F_100 rfl rfl ?_
            refine ev_iload_n dF_segment_95 rfl ?_
            refine ev_iald dF_segment_96 rfl (by omega) (by omega) (by decide) ?_
            refine ev_ireturn dF_segment_97 rfl ?_
            refine ⟨?_, hh0⟩
            rw [(gvv.2 i hi'.1 hi'.2).2]
            rfl
          · by_cases h4 : w = 4
            · subst h4
              refine ev_tableIn (tgt := 98) dF_segment_22 w1 w2 (by decide) (by decide) rfl rfl ?_
              refine ev_aload_n dF_segment_98 rfl ?_
              refine ev_get dF_segment_99 fl_F_12 rfl rfl ?_
              refine ev_iload_n dF_segment_102 rfl ?_
              refine ev_cV dF_segment_103 cv_F_103 (ct_frontUp (d := d + 5) (L := L) (n := n) (tn := tn) (P := P) (K := K) (B := B) (lo := lo) (hi := hi) hi'.1 i2) rfl rfl rfl (Nat.le_of_ble_eq_true rfl) (Nat.le_of_ble_eq_true rfl) (Nat.le_of_ble_eq_true rfl) ?_
              refine ev_bz (tgt := 113) dF_segment_106 rfl (fun hu => ?_) (fun hu => ?_)
              · refine ev_iconst dF_segment_113 ?_
                refine ev_ireturn dF_segment_114 rfl ?_
                refine ⟨?_, hh0⟩
                show Sum.inl (some (ev_i 0)) = Sum.inl (some (ev_i (ev_b (sp_up tn i))))
                rw [hu]; rfl
              · refine ev_iconst dF_segment_109 ?_
                refine ev_goto (tgt := 114) dF_segment_110 rfl ?_
                refine ev_ireturn dF_segment_114 rfl ?_
                refine ⟨?_, hh0⟩
                show Sum.inl (some (ev_i 1)) = Sum.inl (some (ev_i (ev_b (sp_up tn i))))
                rw [hu]; rfl
            · by_cases h5 : w = 5
              · subst h5
                refine ev_tableIn (tgt := 115) dF_segment_22 w1 w2 (by decide) (by decide) rfl rfl ?_
                refine ev_iload_n dF_segment_115 rfl ?_
                refine ev_aload_n dF_segment_116 rfl ?_
                refine ev_get dF_segment_117 fl_F_12 rfl rfl ?_
                refine ev_get dF_segment_120 fl_F_62 rfl rfl ?_
                refine ev_icmp_ge (tgt := 138) dF_segment_123 rfl (by omega) (by omega) (by omega) (by omega) (fun hc => ?_) (fun hc => ?_)
                · refine ev_iconst dF_segment_138 ?_
                  refine ev_ireturn dF_segment_139 rfl ?_
                  refine ⟨?_, hh0⟩
                  show Sum.inl (some (ev_i (-1))) = Sum.inl (some (ev_i (if i < n then K i else -1)))
                  rw [if_neg (by omega)]
                · refine ev_aload_n dF_segment_126 rfl ?_
                  refine ev_get dF_segment_127 fl_F_12 rfl rfl ?_
                  refine ev_get dF_segment_130 fl_F_106 rfl rfl ?_
                  refine ev_iload_n dF_segment_133 rfl ?_
                  refine ev_iald dF_segment_134 rfl (by omega) (by omega) (by decide) ?_
                  refine ev_goto (tgt := 139) dF_segment_135 rfl ?_
                  refine ev_ireturn dF_segment_139 rfl ?_
                  refine ⟨?_, hh0⟩
                  show Sum.inl (some (ev_i (K i))) = Sum.inl (some (ev_i (if i < n then K i else -1)))
                  rw [if_pos (by omega)]
              · refine ev_tableOut (tgt := 140) dF_segment_22 w1 w2 (by omega) rfl ?_
                refine ev_throwA dF_segment_140 dF_segment_143 dF_segment_144 dF_segment_146 dF_segment_149 (by decide) rfl rfl (Nat.le_of_ble_eq_true rfl) (by omega) ?_
                refine ⟨?_, LO_push hh0⟩
                rw [if_neg h0, if_neg h1, if_neg h2, if_neg h3, if_neg h4, if_neg h5]
                exact ev_X_of
  · have hi' : ¬ (0 ≤ i ∧ i ≤ n) := of_decide_eq_false hb
    rw [if_neg (show ¬ (0 ≤ i ∧ i ≤ (L, n, tn, P, K).2.1) from hi')]
    refine ev_throwO dF_segment_11 dF_segment_14 dF_segment_15 dF_segment_17 dF_segment_20 (by decide) rfl rfl (Nat.le_of_ble_eq_true rfl) (by omega) ?_
    exact ⟨ev_X_of, LO_push hh0⟩
theorem ct_Fstep {i w : Int} (i1 : -2147483648 ≤ i) (i2 : i < 2147483648) (w1 : -2147483648 ≤ w) (w2 : w < 2147483648) (hh : LO s ty rs S mc e kn h) :
    ev_T g mF_step (d + 6) [.ref 0, ev_i i, ev_i w] h 1 6 (fun o h' => lb_out (lb_step s rs i w) o h' ∧ LO s ty (if i < 0 then rs else rd_go s rs) S mc e kn h') := by
  have hh0 := hh
  obtain ⟨fo, kr, R, A, mk, x, tl, hL, hr, hk, hA⟩ := hh
  have hL0 := hL
  obtain ⟨ok, B, lo, hi, rfl, gvv⟩ := hL
  have hb := lb_steps_bd (rs := rs) ok
  unfold lb_step
  refine ev_ofT (by decide +kernel) rfl (Nat.le_of_ble_eq_true rfl) rfl rfl ?_
  refine ev_iload_n dF_step_0 rfl ?_
  refine ev_if_lt (tgt := 12) dF_step_1 rfl (by omega) (by omega) (fun h1 => ?_) (fun h1 => ?_)
  · rw [if_pos (Or.inl h1), if_pos h1]
    refine ev_throwO dF_step_12 dF_step_15 dF_step_16 dF_step_18 dF_step_21 (by decide) rfl rfl (Nat.le_of_ble_eq_true rfl) (by omega) ?_
    exact ⟨ev_X_of, LO_push hh0⟩
  · rw [if_neg (show ¬ i < 0 by omega)]
    refine ev_iload_n dF_step_4 rfl ?_
    refine ev_aload_n dF_step_5 rfl ?_
    refine ev_callV dF_step_6 cv_F_131 rfl rfl (Nat.le_of_ble_eq_true rfl) (ct_Fsteps (d := d + 1) hL0) (Nat.zero_le _) (Nat.zero_le _) rfl (fun v h' q => ?_)
    obtain ⟨qv, q⟩ := q
    have hv : v = some (ev_i (lb_steps s rs)) := Sum.inl.inj qv
    subst hv
    have q0 : LO s ty (rd_go s rs) S mc e kn h' := ⟨fo, kr, R, A, mk, x, tl, q, hr, hk, hA⟩
    obtain ⟨ok', B', lo', hi', rfl, gvv'⟩ := q
    refine ev_icmp_lt (tgt := 22) dF_step_9 rfl (by omega) (by omega) (by omega) (by omega) (fun h2 => ?_) (fun h2 => ?_)
    · rw [if_neg (by omega)]
      refine ev_iload_n dF_step_22 rfl ?_
      refine ev_if_eq (tgt := 41) dF_step_23 rfl (by omega) (by omega) (fun h3 => ?_) (fun h3 => ?_)
      · rw [if_pos h3]
        subst h3
        refine ev_iload_n dF_step_41 rfl ?_
        refine ev_if_ne (tgt := 57) dF_step_42 rfl (by decide) (by decide) (fun hb => absurd rfl hb) (fun hb => ?_)
        refine ev_aload_n dF_step_45 rfl ?_
        refine ev_get dF_step_46 fl_F_21 rfl rfl ?_
        refine ev_get dF_step_49 fl_F_138 rfl rfl ?_
        refine ev_iload_n dF_step_52 rfl ?_
        refine ev_iald dF_step_53 rfl (by omega) (by omega) (by decide) ?_
        refine ev_goto (tgt := 66) dF_step_54 rfl ?_
        refine ev_ireturn dF_step_66 rfl ?_
        exact ⟨rfl, q0⟩
      · rw [if_neg h3]
        refine ev_iload_n dF_step_26 rfl ?_
        refine ev_iconst dF_step_27 ?_
        refine ev_icmp_eq (tgt := 41) dF_step_28 rfl (by omega) (by omega) (by omega) (by omega) (fun h4 => ?_) (fun h4 => ?_)
        · rw [if_pos h4]
          refine ev_iload_n dF_step_41 rfl ?_
          refine ev_if_ne (tgt := 57) dF_step_42 rfl (by omega) (by omega) (fun h5 => ?_) (fun h5 => ?_)
          · refine ev_aload_n dF_step_57 rfl ?_
            refine ev_get dF_step_58 fl_F_21 rfl rfl ?_
            refine ev_get dF_step_61 fl_F_141 rfl rfl ?_
            refine ev_iload_n dF_step_64 rfl ?_
            refine ev_iald dF_step_65 rfl (by omega) (by omega) (by decide) ?_
            refine ev_ireturn dF_step_66 rfl ?_
            exact ⟨rfl, q0⟩
          · exact absurd h5 h3
        · rw [if_neg h4]
          refine ev_throwA dF_step_31 dF_step_34 dF_step_35 dF_step_37 dF_step_40 (by decide) rfl rfl (Nat.le_of_ble_eq_true rfl) (by omega) ?_
          exact ⟨ev_X_of, LO_push q0⟩
    · rw [if_pos (by omega)]
      refine ev_throwO dF_step_12 dF_step_15 dF_step_16 dF_step_18 dF_step_21 (by decide) rfl rfl (Nat.le_of_ble_eq_true rfl) (by omega) ?_
      exact ⟨ev_X_of, LO_push q0⟩
end LB6
