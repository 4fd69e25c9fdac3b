/-! LayerOrders: reading an order; keeping one -/
def ly_bw (lo hi : Int → Int) (o : Nat) (s q : Int) : Nat → Int
  | 0 => 0
  | k + 1 => ly_bw lo hi o s q k + (if (k : Int) ≠ s ∧ (lo k ≤ q ∧ q < hi k) ∧ ly_ab o s k = true then 1 else 0)
def ly_sgN (n : Int) (lo hi : Int → Int) (o : Nat) (q k : Int) : Nat → Int → Int
  | 0, _ => -1
  | j + 1, s => if (lo s ≤ q ∧ q < hi s) ∧ ly_bw lo hi o s q (n + 1).toNat = k then s else ly_sgN n lo hi o q k j (s + 1)
def ly_mg (o : Nat) : Nat → Nat
  | 0 => 0
  | k + 1 => if ly_ab o k (k + 1) then ly_mg o k ||| 2 ^ k else ly_mg o k
def ly_mb (m : Nat) : Int64 := Int64.ofNat ((1 : Fin 2) : Nat) <<< ((Int32.ofInt (m : Int)).toInt64 &&& 63)
def ly_ms (n : Int) (mk : Int64) : List Nat → Int64
  | [] => mk
  | o :: S => ly_ms n (mk ||| ly_mb (ly_mg o n.toNat)) S
theorem ly_ms_app {n : Int} {mk : Int64} {S S' : List Nat} : ly_ms n mk (S ++ S') = ly_ms n (ly_ms n mk S) S' := by
  induction S generalizing mk with
  | nil => rfl
  | cons o S ih => exact ih
def ly_g1 (e l : Nat) : Nat := if l < 64 * 2 ^ e then e else e + 1
def ly_ge : Nat → Nat → Nat → Nat
  | e, _, 0 => e
  | e, l, c + 1 => ly_ge (ly_g1 e l) (l + 1) c
theorem ly_ge_add {e l a b : Nat} : ly_ge e l (a + b) = ly_ge (ly_ge e l a) (l + a) b := by
  induction a generalizing e l with
  | zero => simp [ly_ge]
  | succ a ih =>
    rw [show a + 1 + b = (a + b) + 1 by omega]
    show ly_ge (ly_g1 e l) (l + 1) (a + b) = ly_ge (ly_ge (ly_g1 e l) (l + 1) a) (l + (a + 1)) b
    rw [ih, show l + 1 + a = l + (a + 1) by omega]
theorem ly_ge_le {e l c : Nat} : e ≤ ly_ge e l c := by
  induction c generalizing e l with
  | zero => exact Nat.le_refl _
  | succ c ih =>
    refine Nat.le_trans ?_ (ih (e := ly_g1 e l) (l := l + 1))
    unfold ly_g1
    split <;> omega
/-- the kept rows: a list of orders, in an int array of 64 * 2 ^ e places, cell k behind the LayerOrders -/
def ly_rw (A : List Nat) (e k : Nat) (R : Int → Int) (t : List ev_AC) : Prop := t[k]? = some (ev_ia (64 * 2 ^ e) R) ∧ (A.length ≤ 64 * 2 ^ e ∧ e ≤ 15) ∧ ∀ (i x : Nat), A[i]? = some x → R i = x
def ly_fr (k : Nat) (t : List ev_AC) (k' : Nat) (t' : List ev_AC) : Prop := (k' = k ∨ t.length ≤ k') ∧ t.length ≤ t'.length ∧ ∀ i : Nat, i < t.length → i ≠ k → t'[i]? = t[i]?
theorem ly_fr_rf (k : Nat) (t : List ev_AC) : ly_fr k t k t := ⟨Or.inl rfl, Nat.le_refl _, fun _ _ _ => rfl⟩
theorem ly_fr_tr {k k1 k2 : Nat} {t t1 t2 : List ev_AC} (h1 : ly_fr k t k1 t1) (h2 : ly_fr k1 t1 k2 t2) : ly_fr k t k2 t2 := by
  obtain ⟨a1, a2, a3⟩ := h1
  obtain ⟨b1, b2, b3⟩ := h2
  refine ⟨?_, by omega, fun i hi hk => ?_⟩
  · rcases a1 with a1 | a1 <;> rcases b1 with b1 | b1 <;> omega
  · rw [b3 i (by omega) (by omega), a3 i hi hk]
section LD
variable {g : ev_G} {d : Nat} {L n : Int} {tn : Bool} {P K B lo hi : Int → Int} {c0 q1 q2 q3 q4 q5 q6 : ev_AC} {kn : Bool} {fo : Int} {r : Nat} {mk : Int64} {t : List ev_AC}
theorem ct_below {o : Nat} {s q : Int} (s0 : 0 ≤ s) (sn : s ≤ n) (hn : n ≤ 6) (q1' : -2147483648 ≤ q) (q2' : q < 2147483648) (hl : ∀ i, 0 ≤ i → i ≤ n → -60 ≤ lo i ∧ lo i ≤ 60) (hh : ∀ i, 0 ≤ i → i ≤ n → -60 ≤ hi i ∧ hi i ≤ 60) :
    ev_C g mO_below (d + 2) [.ref 13, ev_i o, ev_i s, ev_i q] (oh L n tn P K B lo hi c0 q1 q2 q3 q4 q5 q6 kn fo r mk t) 0 0 (ev_V (some (ev_i (ly_bw lo hi o s q (n + 1).toNat))) (oh L n tn P K B lo hi c0 q1 q2 q3 q4 q5 q6 kn fo r mk t)) := by
  refine ev_ofE (by decide +kernel) rfl (Nat.le_of_ble_eq_true rfl) rfl rfl ?_
  refine ev_iconst dO_below_0 ?_
  refine ev_istore dO_below_1 (Nat.le_of_ble_eq_true rfl) ?_
  refine ev_iconst dO_below_3 ?_
  refine ev_istore dO_below_4 (Nat.le_of_ble_eq_true rfl) ?_
  have loop : ∀ (k i : Nat), (i : Int) + k = n + 1 → ev_E g false mO_below (d + 2) 6 [some (.ref 13), some (ev_i o), some (ev_i s), some (ev_i q), some (ev_i (ly_bw lo hi o s q i)), some (ev_i i)] [] (oh L n tn P K B lo hi c0 q1 q2 q3 q4 q5 q6 kn fo r mk t) 0 0 (ev_V (some (ev_i (ly_bw lo hi o s q (n + 1).toNat))) (oh L n tn P K B lo hi c0 q1 q2 q3 q4 q5 q6 kn fo r mk t)) := by
    intro k
    induction k with
    | zero =>
      intro i hk
      refine ev_iload dO_below_6 rfl ?_
      refine ev_aload_n dO_below_8 rfl ?_
      refine ev_get dO_below_9 fl_O_9 rfl rfl ?_
      refine ev_get dO_below_12 fl_O_35 rfl rfl ?_
      refine ev_icmp_gt (tgt := 56) dO_below_15 rfl (by omega) (by omega) (by omega) (by omega) (fun hb => ?_) (fun hb => ?_)
      · refine ev_iload dO_below_56 rfl ?_
        refine ev_ireturn dO_below_58 rfl ?_
        exact ⟨by rw [show (n + 1).toNat = i by omega], rfl⟩
      · omega
    | succ k ih =>
      intro i hk
      have next := ih (i + 1) (by omega)
      rw [ly_bw] at next
      refine ev_iload dO_below_6 rfl ?_
      refine ev_aload_n dO_below_8 rfl ?_
      refine ev_get dO_below_9 fl_O_9 rfl rfl ?_
      refine ev_get dO_below_12 fl_O_35 rfl rfl ?_
      refine ev_icmp_gt (tgt := 56) dO_below_15 rfl (by omega) (by omega) (by omega) (by omega) (fun hb => ?_) (fun hb => ?_)
      · omega
      · refine ev_iload dO_below_18 rfl ?_
        refine ev_iload_n dO_below_20 rfl ?_
        refine ev_icmp_eq (tgt := 50) dO_below_21 rfl (by omega) (by omega) (by omega) (by omega) (fun hb1 => ?_) (fun hb1 => ?_)
        · refine ev_iinc dO_below_50 rfl ?_
          refine ev_goto (tgt := 6) dO_below_53 rfl ?_
          rw [if_neg (fun q => q.1 hb1), Int.add_zero] at next
          exact next
        · refine ev_aload_n dO_below_24 rfl ?_
          refine ev_get dO_below_25 fl_O_9 rfl rfl ?_
          refine ev_iload dO_below_28 rfl ?_
          refine ev_iload_n dO_below_30 rfl ?_
          refine ev_cV dO_below_31 cv_O_95 (ct_liesOver (by omega) (by omega) q1' q2' (hl i (by omega) hb) (hh i (by omega) hb)) rfl rfl rfl (Nat.le_of_ble_eq_true rfl) (Nat.le_of_ble_eq_true rfl) (Nat.le_of_ble_eq_true rfl) ?_
          refine ev_bz (tgt := 50) dO_below_34 rfl (fun hb2 => ?_) (fun hb2 => ?_)
          · refine ev_iinc dO_below_50 rfl ?_
            refine ev_goto (tgt := 6) dO_below_53 rfl ?_
            rw [if_neg (fun q => of_decide_eq_false hb2 q.2.1), Int.add_zero] at next
            exact next
          · refine ev_iload_n dO_below_37 rfl ?_
            refine ev_iload_n dO_below_38 rfl ?_
            refine ev_iload dO_below_39 rfl ?_
            refine ev_cS dO_below_41 cs_O_75 (ct_isAbove s0 (by omega) (by omega) (by omega)) rfl rfl (Nat.le_of_ble_eq_true rfl) (Nat.le_of_ble_eq_true rfl) (Nat.le_of_ble_eq_true rfl) ?_
            refine ev_bz (tgt := 50) dO_below_44 rfl (fun hb3 => ?_) (fun hb3 => ?_)
            · refine ev_iinc dO_below_50 rfl ?_
              refine ev_goto (tgt := 6) dO_below_53 rfl ?_
              rw [if_neg (fun q => by rw [hb3] at q; exact absurd q.2.2 (by decide)), Int.add_zero] at next
              exact next
            · refine ev_iinc dO_below_47 rfl ?_
              refine ev_iinc dO_below_50 rfl ?_
              refine ev_goto (tgt := 6) dO_below_53 rfl ?_
              rw [if_pos ⟨hb1, of_decide_eq_true hb2, hb3⟩] at next
              exact next
  exact loop (n + 1).toNat 0 (by omega)
theorem ly_bw_bd {o : Nat} {s q : Int} : ∀ k : Nat, 0 ≤ ly_bw lo hi o s q k ∧ ly_bw lo hi o s q k ≤ k
  | 0 => by simp [ly_bw]
  | k + 1 => by
    have := ly_bw_bd (o := o) (s := s) (q := q) k
    unfold ly_bw
    split <;> push_cast <;> omega
theorem ct_segAt {o : Nat} {q k : Int} (hn0 : 0 ≤ n) (hn : n ≤ 6) (q1' : -2147483648 ≤ q) (q2' : q < 2147483648) (k1' : -2147483648 ≤ k) (k2' : k < 2147483648) (hl : ∀ i, 0 ≤ i → i ≤ n → -60 ≤ lo i ∧ lo i ≤ 60) (hh : ∀ i, 0 ≤ i → i ≤ n → -60 ≤ hi i ∧ hi i ≤ 60) :
    ev_C g mO_segmentAt (d + 3) [.ref 13, ev_i o, ev_i q, ev_i k] (oh L n tn P K B lo hi c0 q1 q2 q3 q4 q5 q6 kn fo r mk t) 0 0 (ev_V (some (ev_i (ly_sgN n lo hi o q k (n + 1).toNat 0))) (oh L n tn P K B lo hi c0 q1 q2 q3 q4 q5 q6 kn fo r mk t)) := by
  refine ev_ofE (by decide +kernel) rfl (Nat.le_of_ble_eq_true rfl) rfl rfl ?_
  refine ev_iconst dO_segmentAt_0 ?_
  refine ev_istore dO_segmentAt_1 (Nat.le_of_ble_eq_true rfl) ?_
  have loop : ∀ (j : Nat) (s : Int), s + j = n + 1 → 0 ≤ s → ev_E g false mO_segmentAt (d + 3) 3 [some (.ref 13), some (ev_i o), some (ev_i q), some (ev_i k), some (ev_i s)] [] (oh L n tn P K B lo hi c0 q1 q2 q3 q4 q5 q6 kn fo r mk t) 0 0 (ev_V (some (ev_i (ly_sgN n lo hi o q k j s))) (oh L n tn P K B lo hi c0 q1 q2 q3 q4 q5 q6 kn fo r mk t)) := by
    intro j
    induction j with
    | zero =>
      intro s hj h0
      refine ev_iload dO_segmentAt_3 rfl ?_
      refine ev_aload_n dO_segmentAt_5 rfl ?_
      refine ev_get dO_segmentAt_6 fl_O_9 rfl rfl ?_
      refine ev_get dO_segmentAt_9 fl_O_35 rfl rfl ?_
      refine ev_icmp_gt (tgt := 49) dO_segmentAt_12 rfl (by omega) (by omega) (by omega) (by omega) (fun hb => ?_) (fun hb => ?_)
      · refine ev_iconst dO_segmentAt_49 ?_
        refine ev_ireturn dO_segmentAt_50 rfl ?_
        exact ⟨rfl, rfl⟩
      · omega
    | succ j ih =>
      intro s hj h0
      have next := ih (s + 1) (by omega) (by omega)
      have hbw := ly_bw_bd (lo := lo) (hi := hi) (o := o) (s := s) (q := q) (n + 1).toNat
      refine ev_iload dO_segmentAt_3 rfl ?_
      refine ev_aload_n dO_segmentAt_5 rfl ?_
      refine ev_get dO_segmentAt_6 fl_O_9 rfl rfl ?_
      refine ev_get dO_segmentAt_9 fl_O_35 rfl rfl ?_
      refine ev_icmp_gt (tgt := 49) dO_segmentAt_12 rfl (by omega) (by omega) (by omega) (by omega) (fun hb => ?_) (fun hb => ?_)
      · omega
      · refine ev_aload_n dO_segmentAt_15 rfl ?_
        refine ev_get dO_segmentAt_16 fl_O_9 rfl rfl ?_
        refine ev_iload dO_segmentAt_19 rfl ?_
        refine ev_iload_n dO_segmentAt_21 rfl ?_
        refine ev_cV dO_segmentAt_22 cv_O_95 (ct_liesOver h0 (by omega) q1' q2' (hl s h0 hb) (hh s h0 hb)) rfl rfl rfl (Nat.le_of_ble_eq_true rfl) (Nat.le_of_ble_eq_true rfl) (Nat.le_of_ble_eq_true rfl) ?_
        refine ev_bz (tgt := 43) dO_segmentAt_25 rfl (fun hb2 => ?_) (fun hb2 => ?_)
        · refine ev_iinc dO_segmentAt_43 rfl ?_
          refine ev_goto (tgt := 3) dO_segmentAt_46 rfl ?_
          rw [ly_sgN, if_neg (fun q => of_decide_eq_false hb2 q.1)]
          exact next
        · refine ev_aload_n dO_segmentAt_28 rfl ?_
          refine ev_iload_n dO_segmentAt_29 rfl ?_
          refine ev_iload dO_segmentAt_30 rfl ?_
          refine ev_iload_n dO_segmentAt_32 rfl ?_
          refine ev_cV dO_segmentAt_33 cv_O_98 (ct_below h0 hb hn q1' q2' hl hh) rfl rfl rfl (Nat.le_of_ble_eq_true rfl) (Nat.le_of_ble_eq_true rfl) (Nat.le_of_ble_eq_true rfl) ?_
          refine ev_iload_n dO_segmentAt_36 rfl ?_
          refine ev_icmp_ne (tgt := 43) dO_segmentAt_37 rfl (by omega) (by omega) (by omega) (by omega) (fun hb3 => ?_) (fun hb3 => ?_)
          · refine ev_iinc dO_segmentAt_43 rfl ?_
            refine ev_goto (tgt := 3) dO_segmentAt_46 rfl ?_
            rw [ly_sgN, if_neg (fun q => hb3 q.2)]
            exact next
          · refine ev_iload dO_segmentAt_40 rfl ?_
            refine ev_ireturn dO_segmentAt_42 rfl ?_
            exact ⟨by rw [ly_sgN, if_pos ⟨of_decide_eq_true hb2, hb3⟩], rfl⟩
  exact loop (n + 1).toNat 0 (by omega) (by omega)
theorem ct_marking {o : Nat} (hn0 : 0 ≤ n) (hn : n ≤ 6) :
    ev_C g mO_markingOf (d + 2) [.ref 13, ev_i o] (oh L n tn P K B lo hi c0 q1 q2 q3 q4 q5 q6 kn fo r mk t) 0 0 (ev_V (some (ev_i (ly_mg o n.toNat))) (oh L n tn P K B lo hi c0 q1 q2 q3 q4 q5 q6 kn fo r mk t)) := by
  refine ev_ofE (by decide +kernel) rfl (Nat.le_of_ble_eq_true rfl) rfl rfl ?_
  refine ev_iconst dO_markingOf_0 ?_
  refine ev_istore_n dO_markingOf_1 (Nat.le_of_ble_eq_true rfl) ?_
  refine ev_iconst dO_markingOf_2 ?_
  refine ev_istore_n dO_markingOf_3 (Nat.le_of_ble_eq_true rfl) ?_
  have loop : ∀ (k i : Nat), (i : Int) + k = n → ev_E g false mO_markingOf (d + 2) 4 [some (.ref 13), some (ev_i o), some (ev_i (ly_mg o i)), some (ev_i i)] [] (oh L n tn P K B lo hi c0 q1 q2 q3 q4 q5 q6 kn fo r mk t) 0 0 (ev_V (some (ev_i (ly_mg o n.toNat))) (oh L n tn P K B lo hi c0 q1 q2 q3 q4 q5 q6 kn fo r mk t)) := by
    intro k
    induction k with
    | zero =>
      intro i hk
      refine ev_iload_n dO_markingOf_4 rfl ?_
      refine ev_aload_n dO_markingOf_5 rfl ?_
      refine ev_get dO_markingOf_6 fl_O_9 rfl rfl ?_
      refine ev_get dO_markingOf_9 fl_O_35 rfl rfl ?_
      refine ev_icmp_ge (tgt := 38) dO_markingOf_12 rfl (by omega) (by omega) (by omega) (by omega) (fun hb => ?_) (fun hb => ?_)
      · refine ev_iload_n dO_markingOf_38 rfl ?_
        refine ev_ireturn dO_markingOf_39 rfl ?_
        exact ⟨by rw [show n.toNat = i by omega], rfl⟩
      · omega
    | succ k ih =>
      intro i hk
      have next := ih (i + 1) (by omega)
      rw [ly_mg] at next
      refine ev_iload_n dO_markingOf_4 rfl ?_
      refine ev_aload_n dO_markingOf_5 rfl ?_
      refine ev_get dO_markingOf_6 fl_O_9 rfl rfl ?_
      refine ev_get dO_markingOf_9 fl_O_35 rfl rfl ?_
      refine ev_icmp_ge (tgt := 38) dO_markingOf_12 rfl (by omega) (by omega) (by omega) (by omega) (fun hb => ?_) (fun hb => ?_)
      · omega
      · refine ev_iload_n dO_markingOf_15 rfl ?_
        refine ev_iload_n dO_markingOf_16 rfl ?_
        refine ev_iload_n dO_markingOf_17 rfl ?_
        refine ev_iconst dO_markingOf_18 ?_
        refine ev_iadd dO_markingOf_19 ?_
        refine ev_cS dO_markingOf_20 cs_O_75 (ct_isAbove (by omega) (by omega) (by omega) (by omega)) rfl rfl (Nat.le_of_ble_eq_true rfl) (Nat.le_of_ble_eq_true rfl) (Nat.le_of_ble_eq_true rfl) ?_
        refine ev_bz (tgt := 32) dO_markingOf_23 rfl (fun hb2 => ?_) (fun hb2 => ?_)
        · refine ev_iinc dO_markingOf_32 rfl ?_
          refine ev_goto (tgt := 4) dO_markingOf_35 rfl ?_
          rw [hb2, if_neg (by decide)] at next
          exact next
        · refine ev_iload_n dO_markingOf_26 rfl ?_
          refine ev_iconst dO_markingOf_27 ?_
          refine ev_iload_n dO_markingOf_28 rfl ?_
          refine ev_shl1 dO_markingOf_29 rfl (by omega) ?_
          refine ev_or dO_markingOf_30 ?_
          refine ev_istore_n dO_markingOf_31 (Nat.le_of_ble_eq_true rfl) ?_
          refine ev_iinc dO_markingOf_32 rfl ?_
          refine ev_goto (tgt := 4) dO_markingOf_35 rfl ?_
          rw [hb2, if_pos rfl] at next
          exact next
  exact loop n.toNat 0 (by omega)
end LD
