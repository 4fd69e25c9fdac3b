/-! The laboratory's throwing methods: above, layer -/
theorem ly_all_len {s : SG} (ok : sg_ok s) : (ly_all s).length ≤ 2097152 := by
  have h1 := ly_go_len (K := s.2.2.2.2) (tn := s.2.2.1) (B := sp_B s.1 s.2.1 s.2.2.2.1) (lo := sp_lo s.1 s.2.1 s.2.2.2.1) (hi := sp_hi s.1 s.2.1 s.2.2.2.1) ((s.2.1 + 1) * s.2.1 / 2).toNat 0 1 0
  have hn0 := ok.2.2.1
  have hn := ok.2.2.2.1
  have hk21 : ((s.2.1 + 1) * s.2.1 / 2).toNat ≤ 21 := by
    generalize s.2.1 = n at *
    have h7 : n = 0 ∨ n = 1 ∨ n = 2 ∨ n = 3 ∨ n = 4 ∨ n = 5 ∨ n = 6 := by omega
    rcases h7 with rfl | rfl | rfl | rfl | rfl | rfl | rfl <;> decide
  have hp := Nat.pow_le_pow_right (n := 2) (by decide) hk21
  exact Nat.le_trans h1 (Nat.le_trans hp (by decide))
/-- the order numbered i -/
def ly_nth (s : SG) (i : Int) : Nat := ((ly_all s)[i.toNat]?).getD 0
theorem ly_nth_R {s : SG} {e k : Nat} {R : Int → Int} {t : List ev_AC} {i : Int} (hr : ly_rw (ly_all s) e k R t) (i0 : 0 ≤ i) (i1 : i < ((ly_all s).length : Nat)) : R i = ((ly_nth s i : Nat) : Int) := by
  have h1 : i.toNat < (ly_all s).length := by omega
  have h2 := List.getElem?_eq_getElem h1
  have h3 := hr.2.2 i.toNat _ h2
  rw [show ((i.toNat : Nat) : Int) = i by omega] at h3
  unfold ly_nth
  rw [h2]
  exact h3
theorem ly_bw_cg {n : Int} {lo hi lo' hi' : Int → Int} (hl : ∀ i, 0 ≤ i → i ≤ n → lo i = lo' i ∧ hi i = hi' i) {o : Nat} {s q : Int} : ∀ k : Nat, (k : Int) ≤ n + 1 → ly_bw lo hi o s q k = ly_bw lo' hi' o s q k
  | 0, _ => rfl
  | k + 1, hk => by
    unfold ly_bw
    rw [ly_bw_cg hl k (by omega), (hl k (by omega) (by omega)).1, (hl k (by omega) (by omega)).2]
theorem ly_sgN_cg {n : Int} {lo hi lo' hi' : Int → Int} (hn0 : 0 ≤ n) (hl : ∀ i, 0 ≤ i → i ≤ n → lo i = lo' i ∧ hi i = hi' i) {o : Nat} {q k : Int} : ∀ (j : Nat) (s : Int), 0 ≤ s → s + j ≤ n + 1 → ly_sgN n lo hi o q k j s = ly_sgN n lo' hi' o q k j s
  | 0, _, _, _ => rfl
  | j + 1, s, s0, s1 => by
    unfold ly_sgN
    rw [ly_sgN_cg hn0 hl j (s + 1) (by omega) (by omega), ly_bw_cg hl (n + 1).toNat (by omega), (hl s s0 (by omega)).1, (hl s s0 (by omega)).2]
def lb_above (s : SG) (i a b : Int) : Int ⊕ Nat :=
  if i < 0 ∨ ((ly_all s).length : Nat) ≤ i ∨ ¬ (0 ≤ a ∧ a ≤ s.2.1) ∨ ¬ (0 ≤ b ∧ b ≤ s.2.1) then .inr 7
  else if a = b ∨ ¬ (ly_ov (sp_lo s.1 s.2.1 s.2.2.2.1) (sp_hi s.1 s.2.1 s.2.2.2.1) a b = true) then .inl (-1) else .inl (ev_b (ly_ab (ly_nth s i) a b))
def lb_layer (s : SG) (i q k : Int) : Int ⊕ Nat :=
  if i < 0 ∨ ((ly_all s).length : Nat) ≤ i then .inr 7 else .inl (ly_sgN s.2.1 (sp_lo s.1 s.2.1 s.2.2.2.1) (sp_hi s.1 s.2.1 s.2.2.2.1) (ly_nth s i) q k (s.2.1 + 1).toNat 0)
section LB7
variable {g : ev_G} {d : Nat} {s s' : SG} {ty : Int} {rs : RS} {kn : Bool} {S : Int → Int} {mc : List ev_AC} {e : Nat} {h : List ev_AC}
theorem ct_Flayer {i w u : Int} (i1 : -2147483648 ≤ i) (i2 : i < 2147483648) (w1 : -2147483648 ≤ w) (w2 : w < 2147483648) (u1 : -2147483648 ≤ u) (u2 : u < 2147483648) (hh : LO s ty rs S mc e kn h) :
    ev_T g mF_layer (d + 27) [.ref 0, ev_i i, ev_i w, ev_i u] h (ly_e kn e s - e + 1) (128 * 2 ^ ly_e kn e s - 128 * 2 ^ e + 6) (fun o h' => lb_out (lb_layer s i w u) o h' ∧ LO s ty rs S mc (ly_e kn e s) true h') := by
  have hh0 := hh
  obtain ⟨fo, kr, R, A, mk, x, tl, hL, hr, hk, hA⟩ := hh
  obtain ⟨ok, B, lo, hi, rfl, gvv⟩ := hL
  have hN := ly_all_len ok
  refine ev_ofT (by decide +kernel) rfl (Nat.le_of_ble_eq_true rfl) rfl rfl ?_
  refine ev_aload_n dF_layer_0 rfl ?_
  refine ev_get dF_layer_1 fl_F_28 rfl rfl ?_
  refine ev_callV dF_layer_4 cv_F_144 rfl rfl (Nat.le_of_ble_eq_true rfl) (ct_find (d := d) hh0) (Nat.le_add_right _ _) (Nat.le_add_right _ _) rfl (fun v h' q => ?_)
  rw [Nat.add_sub_cancel_left, Nat.add_sub_cancel_left]
  obtain ⟨qv, q⟩ := q
  have hv : v = none := Sum.inl.inj qv
  subst hv
  have q0 := q
  clear hA hr hk
  obtain ⟨fo, kr, R, A, mk, x, tl, hL, hr, hk, hA⟩ := q
  obtain ⟨ok, B, lo, hi, rfl, gvv⟩ := hL
  obtain ⟨hfo, hAl, hmk⟩ := hA rfl
  subst hfo
  subst hAl
  have hr1 := hr.1
  have hp15 : 2 ^ ly_e kn e s ≤ 32768 := Nat.pow_le_pow_right (n := 2) (by decide) hr.2.1.2
  have hr2 := hr.2.1.1
  unfold lb_layer
  refine ev_iload_n dF_layer_7 rfl ?_
  refine ev_if_lt (tgt := 22) dF_layer_8 rfl (by omega) (by omega) (fun h1 => ?_) (fun h1 => ?_)
  · rw [if_pos (Or.inl h1)]
    refine ev_throwO dF_layer_22 dF_layer_25 dF_layer_26 dF_layer_28 dF_layer_31 (by decide) rfl rfl (Nat.le_of_ble_eq_true rfl) (by omega) ?_
    exact ⟨ev_X_of, LO_push q0⟩
  · refine ev_iload_n dF_layer_11 rfl ?_
    refine ev_aload_n dF_layer_12 rfl ?_
    refine ev_get dF_layer_13 fl_F_28 rfl rfl ?_
    refine ev_get dF_layer_16 fl_F_147 rfl rfl ?_
    refine ev_icmp_lt (tgt := 32) dF_layer_19 rfl (by omega) (by omega) (by omega) (by omega) (fun h2 => ?_) (fun h2 => ?_)
    · rw [if_neg (by omega)]
      refine ev_aload_n dF_layer_32 rfl ?_
      refine ev_get dF_layer_33 fl_F_28 rfl rfl ?_
      refine ev_aload_n dF_layer_36 rfl ?_
      refine ev_get dF_layer_37 fl_F_28 rfl rfl ?_
      refine ev_get dF_layer_40 fl_F_156 rfl rfl ?_
      refine ev_iload_n dF_layer_43 rfl ?_
      refine ev_iald dF_layer_44 hr1 (by omega) (by omega) (by omega) ?_
      rw [ly_nth_R hr (by omega) (by omega)]
      refine ev_iload_n dF_layer_45 rfl ?_
      refine ev_iload_n dF_layer_46 rfl ?_
      refine ev_cV dF_layer_47 cv_F_165 (ct_segAt (d := d + 23) (L := s.1) (n := s.2.1) (tn := s.2.2.1) (P := s.2.2.2.1) (K := s.2.2.2.2) (B := B) (lo := lo) (hi := hi) ok.2.2.1 ok.2.2.2.1 w1 w2 u1 u2 (gv_lo ok gvv) (gv_hi ok gvv)) rfl rfl rfl (Nat.le_of_ble_eq_true rfl) (Nat.zero_le _) (Nat.zero_le _) ?_
      rw [ly_sgN_cg ok.2.2.1 gvv.2 _ 0 (Int.le_refl 0) (by have := ok.2.2.1; omega)]
      refine ev_ireturn dF_layer_50 rfl ?_
      exact ⟨rfl, q0⟩
    · rw [if_pos (by omega)]
      refine ev_throwO dF_layer_22 dF_layer_25 dF_layer_26 dF_layer_28 dF_layer_31 (by decide) rfl rfl (Nat.le_of_ble_eq_true rfl) (by omega) ?_
      exact ⟨ev_X_of, LO_push q0⟩
theorem ct_Fabove {i a b : Int} (i1 : -2147483648 ≤ i) (i2 : i < 2147483648) (w1 : -2147483648 ≤ a) (w2 : a < 2147483648) (u1 : -2147483648 ≤ b) (u2 : b < 2147483648) (hh : LO s ty rs S mc e kn h) :
    ev_T g mF_above (d + 27) [.ref 0, ev_i i, ev_i a, ev_i b] h (ly_e kn e s - e + 1) (128 * 2 ^ ly_e kn e s - 128 * 2 ^ e + 6) (fun o h' => lb_out (lb_above s i a b) o h' ∧ LO s ty rs S mc (ly_e kn e s) true h') := by
  have hh0 := hh
  obtain ⟨fo, kr, R, A, mk, x, tl, hL, hr, hk, hA⟩ := hh
  obtain ⟨ok, B, lo, hi, rfl, gvv⟩ := hL
  have hN := ly_all_len ok
  refine ev_ofT (by decide +kernel) rfl (Nat.le_of_ble_eq_true rfl) rfl rfl ?_
  refine ev_aload_n dF_above_0 rfl ?_
  refine ev_get dF_above_1 fl_F_28 rfl rfl ?_
  refine ev_callV dF_above_4 cv_F_144 rfl rfl (Nat.le_of_ble_eq_true rfl) (ct_find (d := d) hh0) (Nat.le_add_right _ _) (Nat.le_add_right _ _) rfl (fun v h' q => ?_)
  rw [Nat.add_sub_cancel_left, Nat.add_sub_cancel_left]
  obtain ⟨qv, q⟩ := q
  have hv : v = none := Sum.inl.inj qv
  subst hv
  have q0 := q
  clear hA hr hk
  obtain ⟨fo, kr, R, A, mk, x, tl, hL, hr, hk, hA⟩ := q
  obtain ⟨ok, B, lo, hi, rfl, gvv⟩ := hL
  obtain ⟨hfo, hAl, hmk⟩ := hA rfl
  subst hfo
  subst hAl
  have hr1 := hr.1
  have hp15 : 2 ^ ly_e kn e s ≤ 32768 := Nat.pow_le_pow_right (n := 2) (by decide) hr.2.1.2
  have hr2 := hr.2.1.1
  have hn0 := ok.2.2.1
  have hn := ok.2.2.2.1
  unfold lb_above
  refine ev_iload_n dF_above_7 rfl ?_
  refine ev_if_lt (tgt := 44) dF_above_8 rfl (by omega) (by omega) (fun h1 => ?_) (fun h1 => ?_)
  · rw [if_pos (Or.inl h1)]
    refine ev_throwO dF_above_44 dF_above_47 dF_above_48 dF_above_50 dF_above_53 (by decide) rfl rfl (Nat.le_of_ble_eq_true rfl) (by omega) ?_
    exact ⟨ev_X_of, LO_push q0⟩
  · refine ev_iload_n dF_above_11 rfl ?_
    refine ev_aload_n dF_above_12 rfl ?_
    refine ev_get dF_above_13 fl_F_28 rfl rfl ?_
    refine ev_get dF_above_16 fl_F_147 rfl rfl ?_
    refine ev_icmp_ge (tgt := 44) dF_above_19 rfl (by omega) (by omega) (by omega) (by omega) (fun h2 => ?_) (fun h2 => ?_)
    · rw [if_pos (by omega)]
      refine ev_throwO dF_above_44 dF_above_47 dF_above_48 dF_above_50 dF_above_53 (by decide) rfl rfl (Nat.le_of_ble_eq_true rfl) (by omega) ?_
      exact ⟨ev_X_of, LO_push q0⟩
    · refine ev_aload_n dF_above_22 rfl ?_
      refine ev_get dF_above_23 fl_F_12 rfl rfl ?_
      refine ev_iload_n dF_above_26 rfl ?_
      refine ev_cV dF_above_27 cv_F_82 (ct_hasSeg (d := d + 26) (L := s.1) (n := s.2.1) (tn := s.2.2.1) (P := s.2.2.2.1) (K := s.2.2.2.2) (B := B) (lo := lo) (hi := hi) w1 w2 hn0 hn) rfl rfl rfl (Nat.le_of_ble_eq_true rfl) (Nat.le_of_ble_eq_true rfl) (Nat.le_of_ble_eq_true rfl) ?_
      refine ev_bz (tgt := 44) dF_above_30 rfl (fun h3 => ?_) (fun h3 => ?_)
      · have h3' := of_decide_eq_false h3
        rw [if_pos (Or.inr (Or.inr (Or.inl h3')))]
        refine ev_throwO dF_above_44 dF_above_47 dF_above_48 dF_above_50 dF_above_53 (by decide) rfl rfl (Nat.le_of_ble_eq_true rfl) (by omega) ?_
        exact ⟨ev_X_of, LO_push q0⟩
      · have h3' := of_decide_eq_true h3
        refine ev_aload_n dF_above_33 rfl ?_
        refine ev_get dF_above_34 fl_F_12 rfl rfl ?_
        refine ev_iload_n dF_above_37 rfl ?_
        refine ev_cV dF_above_38 cv_F_82 (ct_hasSeg (d := d + 26) (L := s.1) (n := s.2.1) (tn := s.2.2.1) (P := s.2.2.2.1) (K := s.2.2.2.2) (B := B) (lo := lo) (hi := hi) u1 u2 hn0 hn) rfl rfl rfl (Nat.le_of_ble_eq_true rfl) (Nat.le_of_ble_eq_true rfl) (Nat.le_of_ble_eq_true rfl) ?_
        refine ev_bn (tgt := 54) dF_above_41 rfl (fun h4 => ?_) (fun h4 => ?_)
        · have h4' := of_decide_eq_true h4
          rw [if_neg (by omega)]
          refine ev_iload_n dF_above_54 rfl ?_
          refine ev_iload_n dF_above_55 rfl ?_
          refine ev_icmp_eq (tgt := 71) dF_above_56 rfl (by omega) (by omega) (by omega) (by omega) (fun h5 => ?_) (fun h5 => ?_)
          · rw [if_pos (Or.inl h5)]
            refine ev_iconst dF_above_71 ?_
            refine ev_ireturn dF_above_72 rfl ?_
            exact ⟨rfl, q0⟩
          · refine ev_aload_n dF_above_59 rfl ?_
            refine ev_get dF_above_60 fl_F_12 rfl rfl ?_
            refine ev_iload_n dF_above_63 rfl ?_
            refine ev_iload_n dF_above_64 rfl ?_
            refine ev_cV dF_above_65 cv_F_152 (ct_overlap (d := d + 26) (L := s.1) (n := s.2.1) (tn := s.2.2.1) (P := s.2.2.2.1) (K := s.2.2.2.2) (B := B) (lo := lo) (hi := hi) (by omega) (by omega) (by omega) (by omega) (gv_lo ok gvv a h3'.1 h3'.2) (gv_hi ok gvv a h3'.1 h3'.2) (gv_lo ok gvv b h4'.1 h4'.2) (gv_hi ok gvv b h4'.1 h4'.2)) rfl rfl rfl (Nat.le_of_ble_eq_true rfl) (Nat.le_of_ble_eq_true rfl) (Nat.le_of_ble_eq_true rfl) ?_
            have hov : decide (lo a < hi b ∧ lo b < hi a) = ly_ov (sp_lo s.1 s.2.1 s.2.2.2.1) (sp_hi s.1 s.2.1 s.2.2.2.1) a b := ly_ov_cg gvv.2 h3'.1 h3'.2 h4'.1 h4'.2
            rw [hov]
            refine ev_bn (tgt := 73) dF_above_68 rfl (fun h6 => ?_) (fun h6 => ?_)
            · rw [if_neg (by intro q; rcases q with q | q; exact h5 q; exact q h6)]
              refine ev_aload_n dF_above_73 rfl ?_
              refine ev_get dF_above_74 fl_F_28 rfl rfl ?_
              refine ev_get dF_above_77 fl_F_156 rfl rfl ?_
              refine ev_iload_n dF_above_80 rfl ?_
              refine ev_iald dF_above_81 hr1 (by omega) (by omega) (by omega) ?_
              rw [ly_nth_R hr (by omega) (by omega)]
              refine ev_iload_n dF_above_82 rfl ?_
              refine ev_iload_n dF_above_83 rfl ?_
              refine ev_cS dF_above_84 cs_F_159 (ct_isAbove (d := d + 25) (by omega) (by omega) (by omega) (by omega)) rfl rfl (Nat.le_of_ble_eq_true rfl) (Nat.le_of_ble_eq_true rfl) (Nat.le_of_ble_eq_true rfl) ?_
              refine ev_bz (tgt := 94) dF_above_87 rfl (fun h7 => ?_) (fun h7 => ?_)
              · refine ev_iconst dF_above_94 ?_
                refine ev_ireturn dF_above_95 rfl ?_
                refine ⟨?_, q0⟩
                rw [h7]; rfl
              · refine ev_iconst dF_above_90 ?_
                refine ev_goto (tgt := 95) dF_above_91 rfl ?_
                refine ev_ireturn dF_above_95 rfl ?_
                refine ⟨?_, q0⟩
                rw [h7]; rfl
            · rw [if_pos (Or.inr (by rw [h6]; decide))]
              refine ev_iconst dF_above_71 ?_
              refine ev_ireturn dF_above_72 rfl ?_
              exact ⟨rfl, q0⟩
        · have h4' := of_decide_eq_false h4
          rw [if_pos (Or.inr (Or.inr (Or.inr h4')))]
          refine ev_throwO dF_above_44 dF_above_47 dF_above_48 dF_above_50 dF_above_53 (by decide) rfl rfl (Nat.le_of_ble_eq_true rfl) (by omega) ?_
          exact ⟨ev_X_of, LO_push q0⟩
end LB7
