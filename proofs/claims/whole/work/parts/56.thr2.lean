/-! The laboratory's throwing methods -/
def lb_out (r : Int ⊕ Nat) (o : ev_O) (h' : List ev_AC) : Prop := match r with
  | .inl v => o = .inl (some (ev_i v))
  | .inr ci => ev_X ci o h'
def lb_creaseR (s : SG) (p m : Int) : Int ⊕ Nat := if (lb_crease s p m).1 = 1 then .inr 5 else if (lb_crease s p m).1 = 2 then .inr 6 else .inl (lb_crease s p m).2.2.1
def lb_where (s : SG) (p : Int) : Int ⊕ Nat := if p < 0 ∨ s.1 < p then .inr 5 else .inl (sp_B s.1 s.2.1 s.2.2.2.1 (sp_bef s.2.1 s.2.2.2.1 p) + sp_dir (sp_bef s.2.1 s.2.2.2.1 p) * (p - sp_le s.2.2.2.1 (sp_bef s.2.1 s.2.2.2.1 p)))
def lb_type (ty w : Int) : Int ⊕ Nat := if w < 32 ∨ 126 < w then .inr 5 else if 60 ≤ ty then .inr 6 else .inl (ty + 1)
theorem ly_rw_y {A : List Nat} {e k : Nat} {R : Int → Int} {x y y' : ev_AC} {u : List ev_AC} (h : ly_rw A e k R (x :: y :: u)) (hk : k ≠ 1) : ly_rw A e k R (x :: y' :: u) := by
  refine ⟨?_, h.2⟩
  have h1 := h.1
  match k, hk, h1 with
  | 0, _, h1 => exact h1
  | 1, hk, _ => exact absurd rfl hk
  | k + 2, _, h1 => exact h1
section LB5
variable {g : ev_G} {d : Nat} {s s' : SG} {ty : Int} {rs : RS} {kn : Bool} {S : Int → Int} {mc : List ev_AC} {e : Nat} {h : List ev_AC}
theorem ct_Fcrease {p m : Int} (p1 : -2147483648 ≤ p) (p2 : p < 2147483648) (m1 : -2147483648 ≤ m) (m2 : m < 2147483648) (hh : LO s ty rs S mc e kn h) :
    ev_T g mF_crease (d + 6) [.ref 0, ev_i p, ev_i m] h 1 6 (fun o h' => lb_out (lb_creaseR s p m) o h' ∧ LO (lb_crease s p m).2 ty rs S mc e (lb_kn (lb_crease s p m).1 kn) h') := by
  obtain ⟨fo, kr, R, A, mk, x, tl, hL, hr, hk, hA⟩ := hh
  have hL0 := hL
  obtain ⟨ok, B, lo, hi, rfl, gvv⟩ := hL
  have hs : (lb_crease s p m).1 ≠ 0 → (lb_crease s p m).2 = s := fun q => if_neg q
  have hc : 0 ≤ (lb_crease s p m).1 ∧ (lb_crease s p m).1 ≤ 2 := sp_jd_bd
  refine ev_ofT (by decide +kernel) rfl (Nat.le_of_ble_eq_true rfl) rfl rfl ?_
  refine ev_aload_n dF_crease_0 rfl ?_
  refine ev_iload_n dF_crease_1 rfl ?_
  refine ev_iload_n dF_crease_2 rfl ?_
  refine ev_callV dF_crease_3 cv_F_51 rfl rfl (Nat.le_of_ble_eq_true rfl) (ct_tryCrease (d := d + 1) p1 p2 m1 m2 hL0) (Nat.zero_le _) (Nat.zero_le _) rfl (fun v h' q => ?_)
  obtain ⟨qv, q⟩ := q
  have hv : v = some (ev_i (lb_crease s p m).1) := Sum.inl.inj qv
  subst hv
  have q0 : LO (lb_crease s p m).2 ty rs S mc e (lb_kn (lb_crease s p m).1 kn) h' := LO_try hs q hr hk hA
  obtain ⟨ok', B', lo', hi', rfl, gvv'⟩ := q
  refine ev_istore_n dF_crease_6 (Nat.le_of_ble_eq_true rfl) ?_
  refine ev_iload_n dF_crease_7 rfl ?_
  refine ev_iconst dF_crease_8 ?_
  refine ev_icmp_ne (tgt := 22) dF_crease_9 rfl (by omega) (by omega) (by omega) (by omega) (fun h1 => ?_) (fun h1 => ?_)
  · refine ev_iload_n dF_crease_22 rfl ?_
    refine ev_iconst dF_crease_23 ?_
    refine ev_icmp_ne (tgt := 37) dF_crease_24 rfl (by omega) (by omega) (by omega) (by omega) (fun h2 => ?_) (fun h2 => ?_)
    · refine ev_aload_n dF_crease_37 rfl ?_
      refine ev_get dF_crease_38 fl_F_12 rfl rfl ?_
      refine ev_get dF_crease_41 fl_F_62 rfl rfl ?_
      refine ev_ireturn dF_crease_44 rfl ?_
      refine ⟨?_, q0⟩
      unfold lb_creaseR
      rw [if_neg h1, if_neg h2]
      rfl
    · refine ev_throwU dF_crease_27 dF_crease_30 dF_crease_31 dF_crease_33 dF_crease_36 (by decide) rfl rfl (Nat.le_of_ble_eq_true rfl) (by omega) ?_
      refine ⟨?_, LO_push q0⟩
      unfold lb_creaseR
      rw [if_neg h1, if_pos h2]
      exact ev_X_of
  · refine ev_throwA dF_crease_12 dF_crease_15 dF_crease_16 dF_crease_18 dF_crease_21 (by decide) rfl rfl (Nat.le_of_ble_eq_true rfl) (by omega) ?_
    refine ⟨?_, LO_push q0⟩
    unfold lb_creaseR
    rw [if_pos h1]
    exact ev_X_of
theorem ct_FwhereIs {p : Int} (p1 : -2147483648 ≤ p) (p2 : p < 2147483648) (hh : LO s ty rs S mc e kn h) :
    ev_T g mF_whereIs (d + 6) [.ref 0, ev_i p] h 1 6 (fun o h' => lb_out (lb_where s p) o h' ∧ LO s ty rs S mc e kn h') := by
  have hh0 := hh
  obtain ⟨fo, kr, R, A, mk, x, tl, hL, hr, hk, hA⟩ := hh
  obtain ⟨L, n, tn, P, K⟩ := s
  obtain ⟨ok, B, lo, hi, rfl, gvv⟩ := hL
  have hL1 : 1 ≤ L := ok.1
  have hL2 : L ≤ 60 := ok.2.1
  refine ev_ofT (by decide +kernel) rfl (Nat.le_of_ble_eq_true rfl) rfl rfl ?_
  refine ev_iload_n dF_whereIs_0 rfl ?_
  refine ev_if_lt (tgt := 15) dF_whereIs_1 rfl (by omega) (by omega) (fun h1 => ?_) (fun h1 => ?_)
  · refine ev_throwA dF_whereIs_15 dF_whereIs_18 dF_whereIs_19 dF_whereIs_21 dF_whereIs_24 (by decide) rfl rfl (Nat.le_of_ble_eq_true rfl) (by omega) ?_
    refine ⟨?_, LO_push hh0⟩
    unfold lb_where
    rw [if_pos (Or.inl h1)]
    exact ev_X_of
  · refine ev_iload_n dF_whereIs_4 rfl ?_
    refine ev_aload_n dF_whereIs_5 rfl ?_
    refine ev_get dF_whereIs_6 fl_F_12 rfl rfl ?_
    refine ev_get dF_whereIs_9 fl_F_75 rfl rfl ?_
    refine ev_icmp_le (tgt := 25) dF_whereIs_12 rfl (by omega) (by omega) (by omega) (by omega) (fun h2 => ?_) (fun h2 => ?_)
    · refine ev_aload_n dF_whereIs_25 rfl ?_
      refine ev_get dF_whereIs_26 fl_F_12 rfl rfl ?_
      refine ev_iload_n dF_whereIs_29 rfl ?_
      refine ev_cV dF_whereIs_30 cv_F_113 (ct_foldedPlace (d := d + 3) (L := L) (n := n) (tn := tn) (P := P) (K := K) (B := B) (lo := lo) (hi := hi) (by omega) (by omega) ok) rfl rfl rfl (Nat.le_of_ble_eq_true rfl) (Nat.le_of_ble_eq_true rfl) (Nat.le_of_ble_eq_true rfl) ?_
      refine ev_ireturn dF_whereIs_33 rfl ?_
      refine ⟨?_, hh0⟩
      have hb := sp_bef_spec (n := n) (P := P) (p := p) ok.2.2.1
      have hB := gvv.1 (sp_bef n P p) hb.1 (by have h3 : sp_bef n P p ≤ n := hb.2.1; show sp_bef n P p ≤ n + 1; omega)
      unfold lb_where
      rw [if_neg (by show ¬ (p < 0 ∨ L < p); omega)]
      show Sum.inl (some (ev_i (B (sp_bef n P p) + sp_dir (sp_bef n P p) * (p - sp_le P (sp_bef n P p))))) = Sum.inl (some (ev_i (sp_B L n P (sp_bef n P p) + sp_dir (sp_bef n P p) * (p - sp_le P (sp_bef n P p)))))
      rw [hB]
    · refine ev_throwA dF_whereIs_15 dF_whereIs_18 dF_whereIs_19 dF_whereIs_21 dF_whereIs_24 (by decide) rfl rfl (Nat.le_of_ble_eq_true rfl) (by omega) ?_
      refine ⟨?_, LO_push hh0⟩
      unfold lb_where
      rw [if_pos (Or.inr (by show L < p; omega))]
      exact ev_X_of
theorem ct_Ftype {w : Int} (w1 : -2147483648 ≤ w) (w2 : w < 2147483648) (t0 : 0 ≤ ty) (t1 : ty ≤ 60) (hh : LO s ty rs S mc e kn h) :
    ev_T g mF_type (d + 6) [.ref 0, ev_i w] h 1 6 (fun o h' => lb_out (lb_type ty w) o h' ∧ LO s (if (32 ≤ w ∧ w ≤ 126) ∧ ty < 60 then ty + 1 else ty) rs (if (32 ≤ w ∧ w ≤ 126) ∧ ty < 60 then ev_up S ty w else S) mc e kn h') := by
  have hh0 := hh
  obtain ⟨fo, kr, R, A, mk, x, tl, hL, hr, hk, hA⟩ := hh
  obtain ⟨ok, B, lo, hi, rfl, gvv⟩ := hL
  refine ev_ofT (by decide +kernel) rfl (Nat.le_of_ble_eq_true rfl) rfl rfl ?_
  refine ev_iload_n dF_type_0 rfl ?_
  refine ev_bipush dF_type_1 rfl ?_
  refine ev_icmp_lt (tgt := 12) dF_type_3 rfl (by omega) (by omega) (by omega) (by omega) (fun h1 => ?_) (fun h1 => ?_)
  · refine ev_throwA dF_type_12 dF_type_15 dF_type_16 dF_type_18 dF_type_21 (by decide) rfl rfl (Nat.le_of_ble_eq_true rfl) (by omega) ?_
    rw [if_neg (by omega), if_neg (by omega)]
    refine ⟨?_, LO_push hh0⟩
    unfold lb_type
    rw [if_pos (Or.inl h1)]
    exact ev_X_of
  · refine ev_iload_n dF_type_6 rfl ?_
    refine ev_bipush dF_type_7 rfl ?_
    refine ev_icmp_le (tgt := 22) dF_type_9 rfl (by omega) (by omega) (by omega) (by omega) (fun h2 => ?_) (fun h2 => ?_)
    · refine ev_aload_n dF_type_22 rfl ?_
      refine ev_get dF_type_23 fl_F_36 rfl rfl ?_
      refine ev_bipush dF_type_26 rfl ?_
      refine ev_icmp_lt (tgt := 41) dF_type_28 rfl (by omega) (by omega) (by omega) (by omega) (fun h3 => ?_) (fun h3 => ?_)
      · refine ev_aload_n dF_type_41 rfl ?_
        refine ev_get dF_type_42 fl_F_32 rfl rfl ?_
        refine ev_aload_n dF_type_45 rfl ?_
        refine ev_get dF_type_46 fl_F_36 rfl rfl ?_
        refine ev_iload_n dF_type_49 rfl ?_
        refine ev_iast dF_type_50 rfl (by omega) (by omega) (by decide) ?_
        refine ev_aload_n dF_type_51 rfl ?_
        refine ev_dup dF_type_52 rfl ?_
        refine ev_get dF_type_53 fl_F_36 rfl rfl ?_
        refine ev_iconst dF_type_56 ?_
        refine ev_iadd dF_type_57 ?_
        refine ev_put dF_type_58 fp_F_36 (fun q => by cases q) rfl (Nat.le_of_ble_eq_true rfl) rfl rfl ?_
        refine ev_aload_n dF_type_61 rfl ?_
        refine ev_get dF_type_62 fl_F_36 rfl rfl ?_
        refine ev_ireturn dF_type_65 rfl ?_
        rw [if_pos (by omega), if_pos (by omega)]
        refine ⟨?_, fo, kr, R, A, mk, x, tl, ⟨ok, B, lo, hi, rfl, gvv⟩, ly_rw_y hr (by omega), hk, hA⟩
        unfold lb_type
        rw [if_neg (by omega), if_neg (by omega)]
        rfl
      · refine ev_throwU dF_type_31 dF_type_34 dF_type_35 dF_type_37 dF_type_40 (by decide) rfl rfl (Nat.le_of_ble_eq_true rfl) (by omega) ?_
        rw [if_neg (by omega), if_neg (by omega)]
        refine ⟨?_, LO_push hh0⟩
        unfold lb_type
        rw [if_neg (by omega), if_pos (by omega)]
        exact ev_X_of
    · refine ev_throwA dF_type_12 dF_type_15 dF_type_16 dF_type_18 dF_type_21 (by decide) rfl rfl (Nat.le_of_ble_eq_true rfl) (by omega) ?_
      rw [if_neg (by omega), if_neg (by omega)]
      refine ⟨?_, LO_push hh0⟩
      unfold lb_type
      rw [if_pos (by omega)]
      exact ev_X_of
end LB5
