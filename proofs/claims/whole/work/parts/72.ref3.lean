/-! The reference: before -/
def sp_cb (P : Int → Int) (p : Int) : Nat → Int
  | 0 => 0
  | k + 1 => sp_cb P p k + (if P k < p then 1 else 0)
section R2
variable {g : ev_G} {d : Nat} {c : Nat → ev_AC} {h : List ev_AC} {th L n : Int} {tn : Bool} {P K S : Int → Int} {ty : Int} {z : MZ} {y : MY} {t : List ev_AC}
theorem ct_Mbefore {p : Int} (p1 : -2147483648 ≤ p) (p2 : p < 2147483648) (hn0 : 0 ≤ n) (hn : n ≤ 6) (hP : ∀ i, 0 ≤ i → i < n → 0 ≤ P i ∧ P i ≤ 60) :
    ev_C g mM_before d [.ref 16, ev_i p] (MH c th L n tn P K S ty z y t) 0 0 (ev_V (some (ev_i (sp_cb P p n.toNat))) (MH c th L n tn P K S ty z y t)) := by
  refine ev_ofE (by decide +kernel) rfl (Nat.le_of_ble_eq_true rfl) rfl rfl ?_
  refine ev_iconst dM_before_0 ?_
  refine ev_istore_n dM_before_1 (Nat.le_of_ble_eq_true rfl) ?_
  refine ev_iconst dM_before_2 ?_
  refine ev_istore_n dM_before_3 (Nat.le_of_ble_eq_true rfl) ?_
  have loop : ∀ (k i : Nat), (i : Int) + k = n → ev_E g false mM_before d 4 [some (.ref 16), some (ev_i p), some (ev_i (sp_cb P p i)), some (ev_i i)] [] (MH c th L n tn P K S ty z y t) 0 0 (ev_V (some (ev_i (sp_cb P p n.toNat))) (MH c th L n tn P K S ty z y t)) := by
    intro k
    induction k with
    | zero =>
      intro i hk
      refine ev_iload_n dM_before_4 rfl ?_
      refine ev_aload_n dM_before_5 rfl ?_
      refine ev_get dM_before_6 fl_M_63 rfl rfl ?_
      refine ev_icmp_ge (tgt := 36) dM_before_9 rfl (by omega) (by omega) (by omega) (by omega) (fun hb => ?_) (fun hb => ?_)
      · refine ev_iload_n dM_before_36 rfl ?_
        refine ev_ireturn dM_before_37 rfl ?_
        exact ⟨by rw [show n.toNat = i by omega], rfl⟩
      · omega
    | succ k ih =>
      intro i hk
      refine ev_iload_n dM_before_4 rfl ?_
      refine ev_aload_n dM_before_5 rfl ?_
      refine ev_get dM_before_6 fl_M_63 rfl rfl ?_
      refine ev_icmp_ge (tgt := 36) dM_before_9 rfl (by omega) (by omega) (by omega) (by omega) (fun hb => ?_) (fun hb => ?_)
      · omega
      · refine ev_iload_n dM_before_12 rfl ?_
        refine ev_aload_n dM_before_13 rfl ?_
        refine ev_get dM_before_14 fl_M_13 rfl rfl ?_
        refine ev_iload_n dM_before_17 rfl ?_
        refine ev_iald dM_before_18 rfl (by omega) (by omega) (by decide) ?_
        refine ev_iload_n dM_before_19 rfl ?_
        have hPi := hP i (by omega) hb
        have := ih (i + 1) (by omega)
        refine ev_icmp_ge (tgt := 27) dM_before_20 rfl (by omega) (by omega) (by omega) (by omega) (fun hb2 => ?_) (fun hb2 => ?_)
        · refine ev_iconst dM_before_27 ?_
          refine ev_iadd dM_before_28 ?_
          refine ev_istore_n dM_before_29 (Nat.le_of_ble_eq_true rfl) ?_
          refine ev_iinc dM_before_30 rfl ?_
          refine ev_goto (tgt := 4) dM_before_33 rfl ?_
          rw [sp_cb, if_neg (by omega)] at this
          exact this
        · refine ev_iconst dM_before_23 ?_
          refine ev_goto (tgt := 28) dM_before_24 rfl ?_
          refine ev_iadd dM_before_28 ?_
          refine ev_istore_n dM_before_29 (Nat.le_of_ble_eq_true rfl) ?_
          refine ev_iinc dM_before_30 rfl ?_
          refine ev_goto (tgt := 4) dM_before_33 rfl ?_
          rw [sp_cb, if_pos (by omega)] at this
          exact this
  exact loop n.toNat 0 (by omega)
end R2
