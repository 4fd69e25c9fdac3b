/-! The typed text -/
def tx_dg (S : Int → Int) (en st : Int) : Nat → Int → Int
  | 0, d => d
  | k + 1, d => if st + d < en ∧ 48 ≤ S (st + d) ∧ S (st + d) ≤ 57 then tx_dg S en st k (d + 1) else d
def tx_num (S : Int → Int) (st : Int) : Nat → Int
  | 0 => 0
  | k + 1 => tx_num S st k * 10 + (S (st + k) - 48)
def tx_mark (c : Int) : Int := if c = 102 then 0 else if c = 109 then 1 else if c = 118 then 2 else if c = 120 then 3 else -1
def tx_takes (c : Int) : Bool := decide (c = 115 ∨ tx_mark c ≠ -1)
def tx_op (s : SG) (S : Int → Int) (c st dg : Int) : Int × SG :=
  if c = 116 then (0, lb_turn s) else if dg = 0 then (1, s) else if c = 115 then lb_strip s (tx_num S st dg.toNat) else lb_crease s (tx_num S st dg.toNat) (tx_mark c)
theorem tx_mark_bd (c : Int) : -1 ≤ tx_mark c ∧ tx_mark c ≤ 3 := by
  unfold tx_mark
  repeat' split
  all_goals omega
theorem tx_dg_spec {S : Int → Int} {en st : Int} : ∀ (k : Nat) (d : Int), d ≤ tx_dg S en st k d ∧ tx_dg S en st k d ≤ d + k ∧ (st + d ≤ en → st + tx_dg S en st k d ≤ en) ∧ ∀ j, d ≤ j → j < tx_dg S en st k d → 48 ≤ S (st + j) ∧ S (st + j) ≤ 57
  | 0, d => ⟨Int.le_refl _, by show d ≤ d + 0; omega, fun h => h, fun j h1 h2 => by have : j < d := h2; omega⟩
  | k + 1, d => by
    have ih := tx_dg_spec (S := S) (en := en) (st := st) k (d + 1)
    unfold tx_dg
    by_cases h : st + d < en ∧ 48 ≤ S (st + d) ∧ S (st + d) ≤ 57
    · rw [if_pos h]
      refine ⟨by omega, by push_cast; omega, fun _ => ih.2.2.1 (by omega), fun j h1 h2 => ?_⟩
      by_cases hj : j = d
      · rw [hj]; exact h.2
      · exact ih.2.2.2 j (by omega) h2
    · rw [if_neg h]
      exact ⟨Int.le_refl _, by omega, fun h => h, fun j h1 h2 => by omega⟩
theorem tx_num_bd {S : Int → Int} {st : Int} : ∀ k : Nat, k ≤ 4 → (∀ j : Int, 0 ≤ j → j < k → 48 ≤ S (st + j) ∧ S (st + j) ≤ 57) → 0 ≤ tx_num S st k ∧ (k = 0 → tx_num S st k ≤ 0) ∧ (k = 1 → tx_num S st k ≤ 9) ∧ (k = 2 → tx_num S st k ≤ 99) ∧ (k = 3 → tx_num S st k ≤ 999) ∧ tx_num S st k ≤ 9999
  | 0, _, _ => by simp [tx_num]
  | k + 1, hk, h => by
    have ih := tx_num_bd (S := S) (st := st) k (by omega) (fun j a b => h j a (by omega))
    have hd := h k (by omega) (by omega)
    unfold tx_num
    omega
section TX
variable {g : ev_G} {d : Nat} {s : SG} {ty : Int} {q1 q2 q3 q4 q5 q6 x : ev_AC} {kn : Bool} {fo : Int} {r : Nat} {mk : Int64} {S : Int → Int} {t : List ev_AC} {h : List ev_AC}
theorem ct_isDigit {c : Int} (c1 : -2147483648 ≤ c) (c2 : c < 2147483648) : ev_C g mF_isDigit d [ev_i c] h 0 0 (ev_V (some (ev_i (ev_b (decide (48 ≤ c ∧ c ≤ 57))))) h) := by
  refine ev_ofE (by decide +kernel) rfl (Nat.le_of_ble_eq_true rfl) rfl rfl ?_
  refine ev_iload_n dF_isDigit_0 rfl ?_
  refine ev_bipush dF_isDigit_1 rfl ?_
  refine ev_icmp_lt (tgt := 16) dF_isDigit_3 rfl (by omega) (by omega) (by omega) (by omega) (fun hb => ?_) (fun hb => ?_)
  · refine ev_iconst dF_isDigit_16 ?_
    refine ev_zreturn dF_isDigit_17 rfl ?_ ?_
    · decide
    · exact ⟨by rw [decide_eq_false (by omega)]; rfl, rfl⟩
  · refine ev_iload_n dF_isDigit_6 rfl ?_
    refine ev_bipush dF_isDigit_7 rfl ?_
    refine ev_icmp_gt (tgt := 16) dF_isDigit_9 rfl (by omega) (by omega) (by omega) (by omega) (fun hb2 => ?_) (fun hb2 => ?_)
    · refine ev_iconst dF_isDigit_16 ?_
      refine ev_zreturn dF_isDigit_17 rfl ?_ ?_
      · decide
      · exact ⟨by rw [decide_eq_false (by omega)]; rfl, rfl⟩
    · refine ev_iconst dF_isDigit_12 ?_
      refine ev_goto (tgt := 17) dF_isDigit_13 rfl ?_
      refine ev_zreturn dF_isDigit_17 rfl ?_ ?_
      · decide
      · exact ⟨by rw [decide_eq_true ⟨hb, hb2⟩]; rfl, rfl⟩
theorem ct_markOf {c : Int} (c1 : -2147483648 ≤ c) (c2 : c < 2147483648) : ev_C g mF_markOf d [ev_i c] h 0 0 (ev_V (some (ev_i (tx_mark c))) h) := by
  refine ev_ofE (by decide +kernel) rfl (Nat.le_of_ble_eq_true rfl) rfl rfl ?_
  refine ev_iload_n dF_markOf_0 rfl ?_
  by_cases h1 : c = 102
  · refine ev_lookup (tgt := 44) dF_markOf_1 (by decide) c1 c2 (by rw [h1]) rfl ?_
    refine ev_iconst dF_markOf_44 ?_
    refine ev_ireturn dF_markOf_45 rfl ?_
    exact ⟨by rw [tx_mark, if_pos h1], rfl⟩
  · by_cases h2 : c = 109
    · refine ev_lookup (tgt := 46) dF_markOf_1 (by decide) c1 c2 (by rw [h2]) rfl ?_
      refine ev_iconst dF_markOf_46 ?_
      refine ev_ireturn dF_markOf_47 rfl ?_
      exact ⟨by rw [tx_mark, if_neg h1, if_pos h2], rfl⟩
    · by_cases h3 : c = 118
      · refine ev_lookup (tgt := 48) dF_markOf_1 (by decide) c1 c2 (by rw [h3]) rfl ?_
        refine ev_iconst dF_markOf_48 ?_
        refine ev_ireturn dF_markOf_49 rfl ?_
        exact ⟨by rw [tx_mark, if_neg h1, if_neg h2, if_pos h3], rfl⟩
      · by_cases h4 : c = 120
        · refine ev_lookup (tgt := 50) dF_markOf_1 (by decide) c1 c2 (by rw [h4]) rfl ?_
          refine ev_iconst dF_markOf_50 ?_
          refine ev_ireturn dF_markOf_51 rfl ?_
          exact ⟨by rw [tx_mark, if_neg h1, if_neg h2, if_neg h3, if_pos h4], rfl⟩
        · refine ev_lookup (tgt := 52) (off := 51) dF_markOf_1 (by decide) c1 c2 ?_ rfl ?_
          · show Op.lookupswitch.offset [(102, 43), (109, 45), (118, 47), (120, 49)] 51 c = 51
            rw [Op.lookupswitch.offset_cons, if_neg (by omega), Op.lookupswitch.offset_cons, if_neg (by omega), Op.lookupswitch.offset_cons, if_neg (by omega), Op.lookupswitch.offset_cons, if_neg (by omega)]
            rfl
          · refine ev_iconst dF_markOf_52 ?_
            refine ev_ireturn dF_markOf_53 rfl ?_
            exact ⟨by rw [tx_mark, if_neg h1, if_neg h2, if_neg h3, if_neg h4], rfl⟩
theorem ct_takes {c : Int} (c1 : -2147483648 ≤ c) (c2 : c < 2147483648) : ev_C g mF_takesNumber (d + 1) [ev_i c] h 0 0 (ev_V (some (ev_i (ev_b (tx_takes c)))) h) := by
  have hm := tx_mark_bd c
  refine ev_ofE (by decide +kernel) rfl (Nat.le_of_ble_eq_true rfl) rfl rfl ?_
  refine ev_iload_n dF_takesNumber_0 rfl ?_
  refine ev_bipush dF_takesNumber_1 rfl ?_
  refine ev_icmp_eq (tgt := 14) dF_takesNumber_3 rfl (by omega) (by omega) (by omega) (by omega) (fun hb => ?_) (fun hb => ?_)
  · refine ev_iconst dF_takesNumber_14 ?_
    refine ev_goto (tgt := 19) dF_takesNumber_15 rfl ?_
    refine ev_zreturn dF_takesNumber_19 rfl ?_ ?_
    · decide
    · exact ⟨by rw [tx_takes, decide_eq_true (Or.inl hb)]; rfl, rfl⟩
  · refine ev_iload_n dF_takesNumber_6 rfl ?_
    refine ev_cS dF_takesNumber_7 cs_F_192 (ct_markOf c1 c2) rfl rfl (Nat.le_of_ble_eq_true rfl) (Nat.le_of_ble_eq_true rfl) (Nat.le_of_ble_eq_true rfl) ?_
    refine ev_iconst dF_takesNumber_10 ?_
    refine ev_icmp_eq (tgt := 18) dF_takesNumber_11 rfl (by omega) (by omega) (by omega) (by omega) (fun hb2 => ?_) (fun hb2 => ?_)
    · refine ev_iconst dF_takesNumber_18 ?_
      refine ev_zreturn dF_takesNumber_19 rfl ?_ ?_
      · decide
      · exact ⟨by rw [tx_takes, decide_eq_false (fun q => q.elim hb (fun q => q hb2))]; rfl, rfl⟩
    · refine ev_iconst dF_takesNumber_14 ?_
      refine ev_goto (tgt := 19) dF_takesNumber_15 rfl ?_
      refine ev_zreturn dF_takesNumber_19 rfl ?_ ?_
      · decide
      · exact ⟨by rw [tx_takes, decide_eq_true (Or.inr hb2)]; rfl, rfl⟩
theorem ct_digitsFrom {en st : Int} {h : List ev_AC} (h0 : h[0]? = some (lc ty)) (h15 : h[15]? = some (ev_ia 60 S)) (s0 : 0 ≤ st) (s1 : st ≤ 61) (e0 : 0 ≤ en) (e1 : en ≤ 60) (hS : ∀ i, 0 ≤ i → i < 60 → 0 ≤ S i ∧ S i ≤ 126) :
    ev_C g mF_digitsFrom (d + 1) [.ref 0, ev_i st, ev_i en] h 0 0 (ev_V (some (ev_i (tx_dg S en st 4 0))) h) := by
  refine ev_ofE (by decide +kernel) rfl (Nat.le_of_ble_eq_true rfl) rfl rfl ?_
  refine ev_iconst dF_digitsFrom_0 ?_
  refine ev_istore_n dF_digitsFrom_1 (Nat.le_of_ble_eq_true rfl) ?_
  have loop : ∀ (k : Nat) (dd : Int), dd + k = 4 → 0 ≤ dd → ev_E g false mF_digitsFrom (d + 1) 2 [some (.ref 0), some (ev_i st), some (ev_i en), some (ev_i dd)] [] h 0 0 (ev_V (some (ev_i (tx_dg S en st k dd))) h) := by
    intro k
    induction k with
    | zero =>
      intro dd hk hd0
      refine ev_iload_n dF_digitsFrom_2 rfl ?_
      refine ev_iconst dF_digitsFrom_3 ?_
      refine ev_icmp_ge (tgt := 34) dF_digitsFrom_4 rfl (by omega) (by omega) (by omega) (by omega) (fun hb => ?_) (fun hb => ?_)
      · refine ev_iload_n dF_digitsFrom_34 rfl ?_
        refine ev_ireturn dF_digitsFrom_35 rfl ?_
        exact ⟨rfl, rfl⟩
      · omega
    | succ k ih =>
      intro dd hk hd0
      have next := ih (dd + 1) (by omega) (by omega)
      refine ev_iload_n dF_digitsFrom_2 rfl ?_
      refine ev_iconst dF_digitsFrom_3 ?_
      refine ev_icmp_ge (tgt := 34) dF_digitsFrom_4 rfl (by omega) (by omega) (by omega) (by omega) (fun hb => ?_) (fun hb => ?_)
      · omega
      · refine ev_iload_n dF_digitsFrom_7 rfl ?_
        refine ev_iload_n dF_digitsFrom_8 rfl ?_
        refine ev_iadd dF_digitsFrom_9 ?_
        refine ev_iload_n dF_digitsFrom_10 rfl ?_
        refine ev_icmp_ge (tgt := 34) dF_digitsFrom_11 rfl (by omega) (by omega) (by omega) (by omega) (fun hb2 => ?_) (fun hb2 => ?_)
        · refine ev_iload_n dF_digitsFrom_34 rfl ?_
          refine ev_ireturn dF_digitsFrom_35 rfl ?_
          exact ⟨by rw [tx_dg, if_neg (by omega)], rfl⟩
        · refine ev_aload_n dF_digitsFrom_14 rfl ?_
          refine ev_get dF_digitsFrom_15 fl_F_32 h0 rfl ?_
          refine ev_iload_n dF_digitsFrom_18 rfl ?_
          refine ev_iload_n dF_digitsFrom_19 rfl ?_
          refine ev_iadd dF_digitsFrom_20 ?_
          refine ev_iald dF_digitsFrom_21 h15 (by omega) (by omega) (by decide) ?_
          have hSi := hS (st + dd) (by omega) (by omega)
          refine ev_cS dF_digitsFrom_22 cs_F_195 (ct_isDigit (by omega) (by omega)) rfl rfl (Nat.le_of_ble_eq_true rfl) (Nat.le_of_ble_eq_true rfl) (Nat.le_of_ble_eq_true rfl) ?_
          refine ev_bz (tgt := 34) dF_digitsFrom_25 rfl (fun hb3 => ?_) (fun hb3 => ?_)
          · refine ev_iload_n dF_digitsFrom_34 rfl ?_
            refine ev_ireturn dF_digitsFrom_35 rfl ?_
            exact ⟨by rw [tx_dg, if_neg (fun q => of_decide_eq_false hb3 q.2)], rfl⟩
          · refine ev_iinc dF_digitsFrom_28 rfl ?_
            refine ev_goto (tgt := 2) dF_digitsFrom_31 rfl ?_
            rw [tx_dg, if_pos ⟨hb2, of_decide_eq_true hb3⟩]
            exact next
  exact loop 4 0 (by omega) (by omega)
theorem ct_numberAt {st dg : Int} {h : List ev_AC} (h0 : h[0]? = some (lc ty)) (h15 : h[15]? = some (ev_ia 60 S)) (s0 : 0 ≤ st) (d0 : 0 ≤ dg) (d1 : dg ≤ 4) (e1 : st + dg ≤ 60) :
    ev_C g mF_numberAt (d + 1) [.ref 0, ev_i st, ev_i dg] h 0 0 (ev_V (some (ev_i (tx_num S st dg.toNat))) h) := by
  refine ev_ofE (by decide +kernel) rfl (Nat.le_of_ble_eq_true rfl) rfl rfl ?_
  refine ev_iconst dF_numberAt_0 ?_
  refine ev_istore_n dF_numberAt_1 (Nat.le_of_ble_eq_true rfl) ?_
  refine ev_iload_n dF_numberAt_2 rfl ?_
  refine ev_istore dF_numberAt_3 (Nat.le_of_ble_eq_true rfl) ?_
  have loop : ∀ (k i : Nat), (i : Int) + k = dg → ev_E g false mF_numberAt (d + 1) 5 [some (.ref 0), some (ev_i st), some (ev_i dg), some (ev_i (tx_num S st i)), some (ev_i (st + i))] [] h 0 0 (ev_V (some (ev_i (tx_num S st dg.toNat))) h) := by
    intro k
    induction k with
    | zero =>
      intro i hk
      refine ev_iload dF_numberAt_5 rfl ?_
      refine ev_iload_n dF_numberAt_7 rfl ?_
      refine ev_iload_n dF_numberAt_8 rfl ?_
      refine ev_iadd dF_numberAt_9 ?_
      refine ev_icmp_ge (tgt := 35) dF_numberAt_10 rfl (by omega) (by omega) (by omega) (by omega) (fun hb => ?_) (fun hb => ?_)
      · refine ev_iload_n dF_numberAt_35 rfl ?_
        refine ev_ireturn dF_numberAt_36 rfl ?_
        exact ⟨by rw [show dg.toNat = i by omega], rfl⟩
      · omega
    | succ k ih =>
      intro i hk
      have next := ih (i + 1) (by omega)
      refine ev_iload dF_numberAt_5 rfl ?_
      refine ev_iload_n dF_numberAt_7 rfl ?_
      refine ev_iload_n dF_numberAt_8 rfl ?_
      refine ev_iadd dF_numberAt_9 ?_
      refine ev_icmp_ge (tgt := 35) dF_numberAt_10 rfl (by omega) (by omega) (by omega) (by omega) (fun hb => ?_) (fun hb => ?_)
      · omega
      · refine ev_iload_n dF_numberAt_13 rfl ?_
        refine ev_bipush dF_numberAt_14 rfl ?_
        refine ev_imul dF_numberAt_16 ?_
        refine ev_aload_n dF_numberAt_17 rfl ?_
        refine ev_get dF_numberAt_18 fl_F_32 h0 rfl ?_
        refine ev_iload dF_numberAt_21 rfl ?_
        refine ev_iald dF_numberAt_23 h15 (by omega) (by omega) (by decide) ?_
        refine ev_bipush dF_numberAt_24 rfl ?_
        refine ev_isub dF_numberAt_26 ?_
        refine ev_iadd dF_numberAt_27 ?_
        refine ev_istore_n dF_numberAt_28 (Nat.le_of_ble_eq_true rfl) ?_
        refine ev_iinc dF_numberAt_29 rfl ?_
        refine ev_goto (tgt := 5) dF_numberAt_32 rfl ?_
        rw [show st + ((i + 1 : Nat) : Int) = st + i + 1 by omega] at next
        exact next
  have := loop dg.toNat 0 (by omega)
  rw [show st + ((0 : Nat) : Int) = st by omega] at this
  exact this
theorem lb_cells (hh : LB s ty q1 q2 q3 q4 q5 q6 kn fo r mk (x :: ev_ia 60 S :: t) h) : h[0]? = some (lc ty) ∧ h[15]? = some (ev_ia 60 S) := by
  obtain ⟨-, B, lo, hi, rfl, -⟩ := hh
  exact ⟨rfl, rfl⟩
theorem lb_c1 {l : Int} : 0 ≤ (lb_strip s l).1 ∧ (lb_strip s l).1 ≤ 2 := by
  unfold lb_strip
  split
  · exact ⟨by show (0 : Int) ≤ 0; decide, by show (0 : Int) ≤ 2; decide⟩
  · exact ⟨by show (0 : Int) ≤ 1; decide, by show (1 : Int) ≤ 2; decide⟩
theorem ct_operate {c st dg : Int} (c1 : 0 ≤ c) (c2 : c ≤ 126) (s0 : 0 ≤ st) (d0 : 0 ≤ dg) (d1 : dg ≤ 4) (e1 : st + dg ≤ 60 ∨ dg = 0) (hS : ∀ j, 0 ≤ j → j < dg → 48 ≤ S (st + j) ∧ S (st + j) ≤ 57) (hh : LB s ty q1 q2 q3 q4 q5 q6 kn fo r mk (x :: ev_ia 60 S :: t) h) :
    ev_C g mF_operate (d + 5) [.ref 0, ev_i c, ev_i st, ev_i dg] h 0 0 (fun o h' => o = .inl (some (ev_i (tx_op s S c st dg).1)) ∧ LB (tx_op s S c st dg).2 ty q1 q2 q3 q4 q5 q6 (lb_kn (tx_op s S c st dg).1 kn) fo r mk (x :: ev_ia 60 S :: t) h') := by
  obtain ⟨hc0, hc15⟩ := lb_cells hh
  have hc : h[0]? = some (.inr (0, [.ref 1, .ref 7, .ref 13, .ref 15, ev_i ty])) := hc0
  refine ev_ofE (by decide +kernel) rfl (Nat.le_of_ble_eq_true rfl) rfl rfl ?_
  refine ev_iload_n dF_operate_0 rfl ?_
  refine ev_bipush dF_operate_1 rfl ?_
  refine ev_icmp_ne (tgt := 13) dF_operate_3 rfl (by omega) (by omega) (by omega) (by omega) (fun hb => ?_) (fun hb => ?_)
  · refine ev_iload_n dF_operate_13 rfl ?_
    refine ev_if_ne (tgt := 19) dF_operate_14 rfl (by omega) (by omega) (fun hb2 => ?_) (fun hb2 => ?_)
    · refine ev_aload_n dF_operate_19 rfl ?_
      refine ev_iload_n dF_operate_20 rfl ?_
      refine ev_iload_n dF_operate_21 rfl ?_
      refine ev_cV dF_operate_22 cv_F_202 (ct_numberAt hc0 hc15 s0 d0 d1 (e1.resolve_right hb2)) rfl hc rfl (Nat.le_of_ble_eq_true rfl) (Nat.le_of_ble_eq_true rfl) (Nat.le_of_ble_eq_true rfl) ?_
      have hbd := tx_num_bd (S := S) (st := st) dg.toNat (by omega) (fun j a b => hS j a (by omega))
      refine ev_istore dF_operate_25 (Nat.le_of_ble_eq_true rfl) ?_
      refine ev_iload_n dF_operate_27 rfl ?_
      refine ev_bipush dF_operate_28 rfl ?_
      refine ev_icmp_ne (tgt := 42) dF_operate_30 rfl (by omega) (by omega) (by omega) (by omega) (fun hb3 => ?_) (fun hb3 => ?_)
      · refine ev_aload_n dF_operate_42 rfl ?_
        refine ev_iload dF_operate_43 rfl ?_
        refine ev_iload_n dF_operate_45 rfl ?_
        refine ev_cS dF_operate_46 cs_F_192 (ct_markOf (by omega) (by omega)) rfl rfl (Nat.le_of_ble_eq_true rfl) (Nat.le_of_ble_eq_true rfl) (Nat.le_of_ble_eq_true rfl) ?_
        have hm := tx_mark_bd c
        have e : tx_op s S c st dg = lb_crease s (tx_num S st dg.toNat) (tx_mark c) := by rw [tx_op, if_neg hb, if_neg hb2, if_neg hb3]
        rw [e]
        refine ev_callV dF_operate_49 cv_F_51 rfl hc (Nat.le_of_ble_eq_true rfl) (ct_tryCrease (d := d) (by omega) (by omega) (by omega) (by omega) hh) (Nat.le_of_ble_eq_true rfl) (Nat.le_of_ble_eq_true rfl) rfl (fun v h' q => ?_)
        obtain ⟨qv, ql⟩ := q
        cases Sum.inl.inj qv
        refine ev_ireturn dF_operate_52 rfl ?_
        exact ⟨rfl, ql⟩
      · have e : tx_op s S c st dg = lb_strip s (tx_num S st dg.toNat) := by rw [tx_op, if_neg hb, if_neg hb2, if_pos hb3]
        rw [e]
        refine ev_aload_n dF_operate_33 rfl ?_
        refine ev_iload dF_operate_34 rfl ?_
        refine ev_callV dF_operate_36 cv_F_40 rfl hc (Nat.le_of_ble_eq_true rfl) (ct_tryStrip (d := d) (by omega) (by omega) hh) (Nat.le_of_ble_eq_true rfl) (Nat.le_of_ble_eq_true rfl) rfl (fun v h' q => ?_)
        obtain ⟨qv, ql⟩ := q
        cases Sum.inl.inj qv
        refine ev_goto (tgt := 52) dF_operate_39 rfl ?_
        refine ev_ireturn dF_operate_52 rfl ?_
        exact ⟨rfl, ql⟩
    · refine ev_iconst dF_operate_17 ?_
      refine ev_ireturn dF_operate_18 rfl ?_
      have e : tx_op s S c st dg = (1, s) := by rw [tx_op, if_neg hb, if_pos hb2]
      rw [e]
      exact ⟨rfl, hh⟩
  · have e : tx_op s S c st dg = (0, lb_turn s) := by rw [tx_op, if_pos hb]
    rw [e]
    refine ev_aload_n dF_operate_6 rfl ?_
    refine ev_callV dF_operate_7 cv_F_198 rfl hc (Nat.le_of_ble_eq_true rfl) (ct_turn (d := d + 3) hh) (Nat.le_of_ble_eq_true rfl) (Nat.le_of_ble_eq_true rfl) rfl (fun v h' q => ?_)
    obtain ⟨qv, ql⟩ := q
    cases Sum.inl.inj qv
    refine ev_pop dF_operate_10 rfl ?_
    refine ev_iconst dF_operate_11 ?_
    refine ev_ireturn dF_operate_12 rfl ?_
    exact ⟨rfl, ql⟩
theorem tx_op_bd {c st dg : Int} : 0 ≤ (tx_op s S c st dg).1 ∧ (tx_op s S c st dg).1 ≤ 2 := by
  unfold tx_op
  split
  · exact ⟨by show (0 : Int) ≤ 0; decide, by show (0 : Int) ≤ 2; decide⟩
  · split
    · exact ⟨by show (0 : Int) ≤ 1; decide, by show (1 : Int) ≤ 2; decide⟩
    · split
      · exact lb_c1
      · exact sp_jd_bd
def tx_dgs (S : Int → Int) (en at_ : Int) : Int := if tx_takes (S at_) then tx_dg S en (at_ + 1) 4 0 else 0
def tx_run (S : Int → Int) (en : Int) : Nat → SG → Bool → Int → Int → Int × SG × Bool
  | 0, s, kn, _, ops => (ops, s, kn)
  | k + 1, s, kn, at_, ops =>
    if en ≤ at_ then (ops, s, kn) else if S at_ = 32 then tx_run S en k s kn (at_ + 1) ops
    else if (tx_op s S (S at_) (at_ + 1) (tx_dgs S en at_)).1 = 0 then tx_run S en k (tx_op s S (S at_) (at_ + 1) (tx_dgs S en at_)).2 false (at_ + (1 + tx_dgs S en at_)) (ops + 1)
    else (-1 - at_, (tx_op s S (S at_) (at_ + 1) (tx_dgs S en at_)).2, kn)
theorem ct_run (hS : ∀ i, 0 ≤ i → i < 60 → 0 ≤ S i ∧ S i ≤ 126) (t0 : 0 ≤ ty) (t1 : ty ≤ 60) (hh : LB s ty q1 q2 q3 q4 q5 q6 kn fo r mk (x :: ev_ia 60 S :: t) h) :
    ev_C g mF_run (d + 6) [.ref 0] h 0 0 (fun o h' => o = .inl (some (ev_i (tx_run S ty 61 s kn 0 0).1)) ∧ LB (tx_run S ty 61 s kn 0 0).2.1 0 q1 q2 q3 q4 q5 q6 (tx_run S ty 61 s kn 0 0).2.2 fo r mk (x :: ev_ia 60 S :: t) h') := by
  have hc : h[0]? = some (.inr (0, [.ref 1, .ref 7, .ref 13, .ref 15, ev_i ty])) := (lb_cells hh).1
  refine ev_ofE (by decide +kernel) rfl (Nat.le_of_ble_eq_true rfl) rfl rfl ?_
  refine ev_aload_n dF_run_0 rfl ?_
  refine ev_get dF_run_1 fl_F_36 hc rfl ?_
  refine ev_istore_n dF_run_4 (Nat.le_of_ble_eq_true rfl) ?_
  refine ev_aload_n dF_run_5 rfl ?_
  refine ev_iconst dF_run_6 ?_
  refine ev_put dF_run_7 fp_F_36 (fun q => by cases q) hc (Nat.le_of_ble_eq_true rfl) rfl rfl ?_
  refine ev_iconst dF_run_10 ?_
  refine ev_istore_n dF_run_11 (Nat.le_of_ble_eq_true rfl) ?_
  refine ev_iconst dF_run_12 ?_
  refine ev_istore_n dF_run_13 (Nat.le_of_ble_eq_true rfl) ?_
  have hh0 : LB s 0 q1 q2 q3 q4 q5 q6 kn fo r mk (x :: ev_ia 60 S :: t) (h.set 0 (.inr (0, [.ref 1, .ref 7, .ref 13, .ref 15, ev_i 0]))) := by
    obtain ⟨ok, B, lo, hi, rfl, gvv⟩ := hh
    exact ⟨ok, B, lo, hi, rfl, gvv⟩
  have loop : ∀ (k : Nat) (s : SG) (kn : Bool) (at_ ops : Int) (h : List ev_AC) (l4 : Option Value), LB s 0 q1 q2 q3 q4 q5 q6 kn fo r mk (x :: ev_ia 60 S :: t) h → 0 ≤ at_ → at_ ≤ 70 → ty - at_ < k → 0 ≤ ops →
      ev_E g false mF_run (d + 6) 14 [some (.ref 0), some (ev_i ty), some (ev_i ops), some (ev_i at_), l4] [] h 0 0 (fun o h' => o = .inl (some (ev_i (tx_run S ty k s kn at_ ops).1)) ∧ LB (tx_run S ty k s kn at_ ops).2.1 0 q1 q2 q3 q4 q5 q6 (tx_run S ty k s kn at_ ops).2.2 fo r mk (x :: ev_ia 60 S :: t) h') := by
    intro k
    induction k with
    | zero =>
      intro s kn at_ ops h l4 hl a0 a1 hk o0
      refine ev_iload_n dF_run_14 rfl ?_
      refine ev_iload_n dF_run_15 rfl ?_
      refine ev_icmp_ge (tgt := 97) dF_run_16 rfl (by omega) (by omega) (by omega) (by omega) (fun hb => ?_) (fun hb => ?_)
      · refine ev_iload_n dF_run_97 rfl ?_
        refine ev_ireturn dF_run_98 rfl ?_
        exact ⟨rfl, hl⟩
      · omega
    | succ k ih =>
      intro s kn at_ ops h l4 hl a0 a1 hk o0
      have hcl := lb_cells hl
      have hc : h[0]? = some (.inr (0, [.ref 1, .ref 7, .ref 13, .ref 15, ev_i 0])) := hcl.1
      refine ev_iload_n dF_run_14 rfl ?_
      refine ev_iload_n dF_run_15 rfl ?_
      refine ev_icmp_ge (tgt := 97) dF_run_16 rfl (by omega) (by omega) (by omega) (by omega) (fun hb => ?_) (fun hb => ?_)
      · refine ev_iload_n dF_run_97 rfl ?_
        refine ev_ireturn dF_run_98 rfl ?_
        rw [tx_run, if_pos hb]
        exact ⟨rfl, hl⟩
      · have hSa := hS at_ a0 (by omega)
        refine ev_aload_n dF_run_19 rfl ?_
        refine ev_get dF_run_20 fl_F_32 hc rfl ?_
        refine ev_iload_n dF_run_23 rfl ?_
        refine ev_iald dF_run_24 hcl.2 (by omega) (by omega) (by decide) ?_
        refine ev_bipush dF_run_25 rfl ?_
        refine ev_icmp_ne (tgt := 36) dF_run_27 rfl (by omega) (by omega) (by omega) (by omega) (fun hb2 => ?_) (fun hb2 => ?_)
        · refine ev_aload_n dF_run_36 rfl ?_
          refine ev_get dF_run_37 fl_F_32 hc rfl ?_
          refine ev_iload_n dF_run_40 rfl ?_
          refine ev_iald dF_run_41 hcl.2 (by omega) (by omega) (by decide) ?_
          refine ev_cS dF_run_42 cs_F_183 (ct_takes (by omega) (by omega)) rfl rfl (Nat.le_of_ble_eq_true rfl) (Nat.le_of_ble_eq_true rfl) (Nat.le_of_ble_eq_true rfl) ?_
          have fin : ∀ (dg : Int), dg = tx_dgs S ty at_ → 0 ≤ dg → dg ≤ 4 → (at_ + 1 + dg ≤ 60 ∨ dg = 0) → (∀ j, 0 ≤ j → j < dg → 48 ≤ S (at_ + 1 + j) ∧ S (at_ + 1 + j) ≤ 57) →
              ev_E g false mF_run (d + 6) 60 [some (.ref 0), some (ev_i ty), some (ev_i ops), some (ev_i at_), l4] [ev_i dg] h 0 0 (fun o h' => o = .inl (some (ev_i (tx_run S ty (k + 1) s kn at_ ops).1)) ∧ LB (tx_run S ty (k + 1) s kn at_ ops).2.1 0 q1 q2 q3 q4 q5 q6 (tx_run S ty (k + 1) s kn at_ ops).2.2 fo r mk (x :: ev_ia 60 S :: t) h') := by
            intro dg hdg d0 d4 hd60 hdd
            refine ev_istore dF_run_60 (Nat.le_of_ble_eq_true rfl) ?_
            refine ev_aload_n dF_run_62 rfl ?_
            refine ev_aload_n dF_run_63 rfl ?_
            refine ev_get dF_run_64 fl_F_32 hc rfl ?_
            refine ev_iload_n dF_run_67 rfl ?_
            refine ev_iald dF_run_68 hcl.2 (by omega) (by omega) (by decide) ?_
            refine ev_iload_n dF_run_69 rfl ?_
            refine ev_iconst dF_run_70 ?_
            refine ev_iadd dF_run_71 ?_
            refine ev_iload dF_run_72 rfl ?_
            refine ev_callV dF_run_74 cv_F_189 rfl hc (Nat.le_of_ble_eq_true rfl) (ct_operate (d := d) (by omega) (by omega) (by omega) d0 d4 hd60 hdd hl) (Nat.le_of_ble_eq_true rfl) (Nat.le_of_ble_eq_true rfl) rfl (fun v h' q => ?_)
            obtain ⟨qv, ql⟩ := q
            cases Sum.inl.inj qv
            have hbd := tx_op_bd (s := s) (S := S) (c := S at_) (st := at_ + 1) (dg := dg)
            rw [tx_run, if_neg (by omega), if_neg hb2, ← hdg]
            refine ev_if_eq (tgt := 84) dF_run_77 rfl (by omega) (by omega) (fun hb3 => ?_) (fun hb3 => ?_)
            · rw [if_pos hb3]
              rw [hb3] at ql
              refine ev_iinc dF_run_84 rfl ?_
              refine ev_iload_n dF_run_87 rfl ?_
              refine ev_iconst dF_run_88 ?_
              refine ev_iload dF_run_89 rfl ?_
              refine ev_iadd dF_run_91 ?_
              refine ev_iadd dF_run_92 ?_
              refine ev_istore_n dF_run_93 (Nat.le_of_ble_eq_true rfl) ?_
              refine ev_goto (tgt := 14) dF_run_94 rfl ?_
              exact ih _ false (at_ + (1 + dg)) (ops + 1) h' _ ql (by omega) (by omega) (by omega) (by omega)
            · rw [if_neg hb3]
              rw [lb_kn, if_neg hb3] at ql
              refine ev_iconst dF_run_80 ?_
              refine ev_iload_n dF_run_81 rfl ?_
              refine ev_isub dF_run_82 ?_
              refine ev_ireturn dF_run_83 rfl ?_
              exact ⟨rfl, ql⟩
          refine ev_bz (tgt := 59) dF_run_45 rfl (fun hb3 => ?_) (fun hb3 => ?_)
          · refine ev_iconst dF_run_59 ?_
            exact fin 0 (by rw [tx_dgs, if_neg (by rw [hb3]; decide)]) (by decide) (by decide) (Or.inr rfl) (fun j a b => by omega)
          · refine ev_aload_n dF_run_48 rfl ?_
            refine ev_iload_n dF_run_49 rfl ?_
            refine ev_iconst dF_run_50 ?_
            refine ev_iadd dF_run_51 ?_
            refine ev_iload_n dF_run_52 rfl ?_
            refine ev_cV dF_run_53 cv_F_186 (ct_digitsFrom (d := d + 4) hcl.1 hcl.2 (by omega) (by omega) (by omega) (by omega) hS) rfl hc rfl (Nat.le_of_ble_eq_true rfl) (Nat.le_of_ble_eq_true rfl) (Nat.le_of_ble_eq_true rfl) ?_
            have hsp := tx_dg_spec (S := S) (en := ty) (st := at_ + 1) 4 0
            refine ev_goto (tgt := 60) dF_run_56 rfl ?_
            exact fin (tx_dg S ty (at_ + 1) 4 0) (by rw [tx_dgs, if_pos hb3]) hsp.1 (by have := hsp.2.1; omega) (Or.inl (by have := hsp.2.2.1 (by omega); omega)) hsp.2.2.2
        · refine ev_iinc dF_run_30 rfl ?_
          refine ev_goto (tgt := 14) dF_run_33 rfl ?_
          rw [tx_run, if_neg (by omega), if_pos hb2]
          exact ih s kn (at_ + 1) ops h l4 hl (by omega) (by omega) (by omega) o0
  exact loop 61 s kn 0 0 _ none hh0 (by omega) (by omega) (by omega) (by omega)
end TX
