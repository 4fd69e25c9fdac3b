/-! Paper: loops that read -/
/-- how many creases lie before p -/
def sp_bfN (n : Int) (P : Int → Int) (p : Int) : Nat → Int → Int
  | 0, i => i
  | k + 1, i => if P i < p then sp_bfN n P p k (i + 1) else i
def sp_bef (n : Int) (P : Int → Int) (p : Int) : Int := sp_bfN n P p n.toNat 0
def sp_fr (K : Int → Int) : Nat → Int
  | 0 => 0
  | k + 1 => sp_fr K k + (if K k = 0 then 1 else 0)
def sp_im (lo hi : Int → Int) (q : Int) : Nat → Int
  | 0 => 0
  | k + 1 => sp_im lo hi q k + (if lo k ≤ q ∧ q < hi k then 1 else 0)
def sp_mo (f : Int → Int) : Nat → Int
  | 0 => 0
  | k + 1 => if sp_mo f k < f k then f k else sp_mo f k
def sp_mi (B : Int → Int) : Nat → Int
  | 0 => B 0
  | k + 1 => if B (k + 1) < sp_mi B k then B (k + 1) else sp_mi B k
def sp_mx (B : Int → Int) : Nat → Int
  | 0 => B 0
  | k + 1 => if sp_mx B k < B (k + 1) then B (k + 1) else sp_mx B k
def sp_up (tn : Bool) (i : Int) : Bool := decide (i % 2 = 0) != tn
section PB
variable {g : ev_G} {d : Nat} {L n : Int} {tn : Bool} {P K B lo hi : Int → Int} {c0 : ev_AC} {t : List ev_AC} {h : List ev_AC}
theorem sp_bfN_spec {p : Int} : ∀ (k : Nat) (i : Int), i + k = n → i ≤ sp_bfN n P p k i ∧ sp_bfN n P p k i ≤ n ∧ (∀ j, i ≤ j → j < sp_bfN n P p k i → P j < p) ∧ (sp_bfN n P p k i < n → p ≤ P (sp_bfN n P p k i))
  | 0, i, h => by
    refine ⟨Int.le_refl _, by show i ≤ n; omega, fun j h1 h2 => ?_, fun h1 => ?_⟩
    · have h2 : j < i := h2; omega
    · have h1 : i < n := h1; omega
  | k + 1, i, h => by
    have ih := sp_bfN_spec (p := p) k (i + 1) (by omega)
    unfold sp_bfN
    by_cases hp : P i < p
    · rw [if_pos hp]
      refine ⟨by omega, ih.2.1, fun j h1 h2 => ?_, ih.2.2.2⟩
      by_cases hj : j = i
      · rw [hj]; exact hp
      · exact ih.2.2.1 j (by omega) h2
    · rw [if_neg hp]
      exact ⟨Int.le_refl _, by omega, fun j h1 h2 => by omega, fun _ => by omega⟩
theorem sp_bef_spec {p : Int} (hn : 0 ≤ n) : 0 ≤ sp_bef n P p ∧ sp_bef n P p ≤ n ∧ (∀ j, 0 ≤ j → j < sp_bef n P p → P j < p) ∧ (sp_bef n P p < n → p ≤ P (sp_bef n P p)) := sp_bfN_spec n.toNat 0 (by omega)
theorem ct_before {p : Int} (p1 : -2147483648 ≤ p) (p2 : p < 2147483648) (hn0 : 0 ≤ n) (hn : n ≤ 6) (hP : ∀ i, 0 ≤ i → i < n → 0 ≤ P i ∧ P i ≤ 60) :
    ev_C g mP_creasesBefore d [.ref 1, ev_i p] (pw L n tn P K B lo hi c0 t) 0 0 (ev_V (some (ev_i (sp_bef n P p))) (pw L n tn P K B lo hi c0 t)) := by
  refine ev_ofE (by decide +kernel) rfl (Nat.le_of_ble_eq_true rfl) rfl rfl ?_
  refine ev_iconst dP_creasesBefore_0 ?_
  refine ev_istore_n dP_creasesBefore_1 (Nat.le_of_ble_eq_true rfl) ?_
  have loop : ∀ (k : Nat) (i : Int), 0 ≤ i → i + k = n → ev_E g false mP_creasesBefore d 2 [some (.ref 1), some (ev_i p), some (ev_i i)] [] (pw L n tn P K B lo hi c0 t) 0 0 (ev_V (some (ev_i (sp_bfN n P p k i))) (pw L n tn P K B lo hi c0 t)) := by
    intro k
    induction k with
    | zero =>
      intro i h0 hk
      refine ev_iload_n dP_creasesBefore_2 rfl ?_
      refine ev_aload_n dP_creasesBefore_3 rfl ?_
      refine ev_get dP_creasesBefore_4 fl_P_35 rfl rfl ?_
      refine ev_icmp_ge (tgt := 26) dP_creasesBefore_7 rfl (by omega) (by omega) (by omega) (by omega) (fun hb => ?_) (fun hb => ?_)
      · refine ev_iload_n dP_creasesBefore_26 rfl ?_
        refine ev_ireturn dP_creasesBefore_27 rfl ?_
        exact ⟨rfl, rfl⟩
      · omega
    | succ k ih =>
      intro i h0 hk
      refine ev_iload_n dP_creasesBefore_2 rfl ?_
      refine ev_aload_n dP_creasesBefore_3 rfl ?_
      refine ev_get dP_creasesBefore_4 fl_P_35 rfl rfl ?_
      refine ev_icmp_ge (tgt := 26) dP_creasesBefore_7 rfl (by omega) (by omega) (by omega) (by omega) (fun hb => ?_) (fun hb => ?_)
      · omega
      · refine ev_aload_n dP_creasesBefore_10 rfl ?_
        refine ev_get dP_creasesBefore_11 fl_P_9 rfl rfl ?_
        refine ev_iload_n dP_creasesBefore_14 rfl ?_
        refine ev_iald dP_creasesBefore_15 rfl (by omega) (by omega) (by decide) ?_
        refine ev_iload_n dP_creasesBefore_16 rfl ?_
        have hPi := hP i h0 hb
        refine ev_icmp_ge (tgt := 26) dP_creasesBefore_17 rfl (by omega) (by omega) (by omega) (by omega) (fun hb2 => ?_) (fun hb2 => ?_)
        · refine ev_iload_n dP_creasesBefore_26 rfl ?_
          refine ev_ireturn dP_creasesBefore_27 rfl ?_
          exact ⟨by rw [sp_bfN, if_neg (by omega)], rfl⟩
        · refine ev_iinc dP_creasesBefore_20 rfl ?_
          refine ev_goto (tgt := 2) dP_creasesBefore_23 rfl ?_
          have := ih (i + 1) (by omega) (by omega)
          rw [sp_bfN, if_pos hb2]
          exact this
  exact loop n.toNat 0 (by omega) (by omega)
theorem ct_hasCrease {p : Int} (p1 : -2147483648 ≤ p) (p2 : p < 2147483648) (hn0 : 0 ≤ n) (hn : n ≤ 6) (hP : ∀ i, 0 ≤ i → i < n → 0 ≤ P i ∧ P i ≤ 60) :
    ev_C g mP_hasCreaseAt (d + 1) [.ref 1, ev_i p] (pw L n tn P K B lo hi c0 t) 0 0 (ev_V (some (ev_i (ev_b (decide (sp_bef n P p < n ∧ P (sp_bef n P p) = p))))) (pw L n tn P K B lo hi c0 t)) := by
  have hs := sp_bef_spec (n := n) (P := P) (p := p) hn0
  refine ev_ofE (by decide +kernel) rfl (Nat.le_of_ble_eq_true rfl) rfl rfl ?_
  refine ev_aload_n dP_hasCreaseAt_0 rfl ?_
  refine ev_iload_n dP_hasCreaseAt_1 rfl ?_
  refine ev_cV dP_hasCreaseAt_2 cv_P_49 (ct_before p1 p2 hn0 hn hP) rfl rfl rfl (Nat.le_of_ble_eq_true rfl) (Nat.le_of_ble_eq_true rfl) (Nat.le_of_ble_eq_true rfl) ?_
  refine ev_istore_n dP_hasCreaseAt_5 (Nat.le_of_ble_eq_true rfl) ?_
  refine ev_iload_n dP_hasCreaseAt_6 rfl ?_
  refine ev_aload_n dP_hasCreaseAt_7 rfl ?_
  refine ev_get dP_hasCreaseAt_8 fl_P_35 rfl rfl ?_
  refine ev_icmp_ge (tgt := 28) dP_hasCreaseAt_11 rfl (by omega) (by omega) (by omega) (by omega) (fun hb => ?_) (fun hb => ?_)
  · refine ev_iconst dP_hasCreaseAt_28 ?_
    refine ev_zreturn dP_hasCreaseAt_29 rfl ?_ ?_
    · decide
    · exact ⟨by rw [decide_eq_false (by omega)]; rfl, rfl⟩
  · refine ev_aload_n dP_hasCreaseAt_14 rfl ?_
    refine ev_get dP_hasCreaseAt_15 fl_P_9 rfl rfl ?_
    refine ev_iload_n dP_hasCreaseAt_18 rfl ?_
    refine ev_iald dP_hasCreaseAt_19 rfl (by omega) (by omega) (by decide) ?_
    refine ev_iload_n dP_hasCreaseAt_20 rfl ?_
    have hPi := hP _ hs.1 hb
    refine ev_icmp_ne (tgt := 28) dP_hasCreaseAt_21 rfl (by omega) (by omega) (by omega) (by omega) (fun hb2 => ?_) (fun hb2 => ?_)
    · refine ev_iconst dP_hasCreaseAt_28 ?_
      refine ev_zreturn dP_hasCreaseAt_29 rfl ?_ ?_
      · decide
      · exact ⟨by rw [decide_eq_false (by omega)]; rfl, rfl⟩
    · refine ev_iconst dP_hasCreaseAt_24 ?_
      refine ev_goto (tgt := 29) dP_hasCreaseAt_25 rfl ?_
      refine ev_zreturn dP_hasCreaseAt_29 rfl ?_ ?_
      · decide
      · exact ⟨by rw [decide_eq_true ⟨hb, hb2⟩]; rfl, rfl⟩
theorem ct_free (hn0 : 0 ≤ n) (hn : n ≤ 6) (hK : ∀ i, 0 ≤ i → i < n → 0 ≤ K i ∧ K i ≤ 2) :
    ev_C g mP_freeCreases d [.ref 1] (pw L n tn P K B lo hi c0 t) 0 0 (ev_V (some (ev_i (sp_fr K n.toNat))) (pw L n tn P K B lo hi c0 t)) := by
  refine ev_ofE (by decide +kernel) rfl (Nat.le_of_ble_eq_true rfl) rfl rfl ?_
  refine ev_iconst dP_freeCreases_0 ?_
  refine ev_istore_n dP_freeCreases_1 (Nat.le_of_ble_eq_true rfl) ?_
  refine ev_iconst dP_freeCreases_2 ?_
  refine ev_istore_n dP_freeCreases_3 (Nat.le_of_ble_eq_true rfl) ?_
  have loop : ∀ (k i : Nat), (i : Int) + k = n → ev_E g false mP_freeCreases d 4 [some (.ref 1), some (ev_i (sp_fr K i)), some (ev_i i)] [] (pw L n tn P K B lo hi c0 t) 0 0 (ev_V (some (ev_i (sp_fr K n.toNat))) (pw L n tn P K B lo hi c0 t)) := by
    intro k
    induction k with
    | zero =>
      intro i hk
      refine ev_iload_n dP_freeCreases_4 rfl ?_
      refine ev_aload_n dP_freeCreases_5 rfl ?_
      refine ev_get dP_freeCreases_6 fl_P_35 rfl rfl ?_
      refine ev_icmp_ge (tgt := 30) dP_freeCreases_9 rfl (by omega) (by omega) (by omega) (by omega) (fun hb => ?_) (fun hb => ?_)
      · refine ev_iload_n dP_freeCreases_30 rfl ?_
        refine ev_ireturn dP_freeCreases_31 rfl ?_
        exact ⟨by rw [show n.toNat = i by omega], rfl⟩
      · omega
    | succ k ih =>
      intro i hk
      refine ev_iload_n dP_freeCreases_4 rfl ?_
      refine ev_aload_n dP_freeCreases_5 rfl ?_
      refine ev_get dP_freeCreases_6 fl_P_35 rfl rfl ?_
      refine ev_icmp_ge (tgt := 30) dP_freeCreases_9 rfl (by omega) (by omega) (by omega) (by omega) (fun hb => ?_) (fun hb => ?_)
      · omega
      · refine ev_aload_n dP_freeCreases_12 rfl ?_
        refine ev_get dP_freeCreases_13 fl_P_15 rfl rfl ?_
        refine ev_iload_n dP_freeCreases_16 rfl ?_
        refine ev_iald dP_freeCreases_17 rfl (by omega) (by omega) (by decide) ?_
        have hKi := hK i (by omega) hb
        have := ih (i + 1) (by omega)
        refine ev_if_ne (tgt := 24) dP_freeCreases_18 rfl (by omega) (by omega) (fun hb2 => ?_) (fun hb2 => ?_)
        · refine ev_iinc dP_freeCreases_24 rfl ?_
          refine ev_goto (tgt := 4) dP_freeCreases_27 rfl ?_
          rw [sp_fr, if_neg hb2, Int.add_zero] at this
          exact this
        · refine ev_iinc dP_freeCreases_21 rfl ?_
          refine ev_iinc dP_freeCreases_24 rfl ?_
          refine ev_goto (tgt := 4) dP_freeCreases_27 rfl ?_
          rw [sp_fr, if_pos hb2] at this
          exact this
  exact loop n.toNat 0 (by omega)
theorem ct_segments : ev_C g mP_segments d [.ref 1] (pw L n tn P K B lo hi c0 t) 0 0 (ev_V (some (ev_i (n + 1))) (pw L n tn P K B lo hi c0 t)) := by
  refine ev_ofE (by decide +kernel) rfl (Nat.le_of_ble_eq_true rfl) rfl rfl ?_
  refine ev_aload_n dP_segments_0 rfl ?_
  refine ev_get dP_segments_1 fl_P_35 rfl rfl ?_
  refine ev_iconst dP_segments_4 ?_
  refine ev_iadd dP_segments_5 ?_
  refine ev_ireturn dP_segments_6 rfl ?_
  exact ⟨rfl, rfl⟩
theorem ct_hasSeg {i : Int} (i1 : -2147483648 ≤ i) (i2 : i < 2147483648) (hn0 : 0 ≤ n) (hn : n ≤ 6) : ev_C g mP_hasSegment d [.ref 1, ev_i i] (pw L n tn P K B lo hi c0 t) 0 0 (ev_V (some (ev_i (ev_b (decide (0 ≤ i ∧ i ≤ n))))) (pw L n tn P K B lo hi c0 t)) := by
  refine ev_ofE (by decide +kernel) rfl (Nat.le_of_ble_eq_true rfl) rfl rfl ?_
  refine ev_iload_n dP_hasSegment_0 rfl ?_
  refine ev_if_lt (tgt := 16) dP_hasSegment_1 rfl (by omega) (by omega) (fun hb => ?_) (fun hb => ?_)
  · refine ev_iconst dP_hasSegment_16 ?_
    refine ev_zreturn dP_hasSegment_17 rfl ?_ ?_
    · decide
    · exact ⟨by rw [decide_eq_false (by omega)]; rfl, rfl⟩
  · refine ev_iload_n dP_hasSegment_4 rfl ?_
    refine ev_aload_n dP_hasSegment_5 rfl ?_
    refine ev_get dP_hasSegment_6 fl_P_35 rfl rfl ?_
    refine ev_icmp_gt (tgt := 16) dP_hasSegment_9 rfl (by omega) (by omega) (by omega) (by omega) (fun hb2 => ?_) (fun hb2 => ?_)
    · refine ev_iconst dP_hasSegment_16 ?_
      refine ev_zreturn dP_hasSegment_17 rfl ?_ ?_
      · decide
      · exact ⟨by rw [decide_eq_false (by omega)]; rfl, rfl⟩
    · refine ev_iconst dP_hasSegment_12 ?_
      refine ev_goto (tgt := 17) dP_hasSegment_13 rfl ?_
      refine ev_zreturn dP_hasSegment_17 rfl ?_ ?_
      · decide
      · exact ⟨by rw [decide_eq_true ⟨hb, hb2⟩]; rfl, rfl⟩
theorem ct_frontUp {i : Int} (h0 : 0 ≤ i) (h1 : i < 2147483648) : ev_C g mP_frontUp d [.ref 1, ev_i i] (pw L n tn P K B lo hi c0 t) 0 0 (ev_V (some (ev_i (ev_b (sp_up tn i)))) (pw L n tn P K B lo hi c0 t)) := by
  refine ev_ofE (by decide +kernel) rfl (Nat.le_of_ble_eq_true rfl) rfl rfl ?_
  refine ev_iload_n dP_frontUp_0 rfl ?_
  refine ev_iconst dP_frontUp_1 ?_
  refine ev_rem dP_frontUp_2 h0 h1 (by decide) (by decide) ?_
  have ht := ev_b01 tn
  refine ev_if_ne (tgt := 10) dP_frontUp_3 rfl (by omega) (by omega) (fun hb => ?_) (fun hb => ?_)
  · refine ev_iconst dP_frontUp_10 ?_
    refine ev_aload_n dP_frontUp_11 rfl ?_
    refine ev_get dP_frontUp_12 fl_P_38 rfl rfl ?_
    refine ev_icmp_eq (tgt := 22) dP_frontUp_15 rfl (by omega) (by omega) (by omega) (by omega) (fun hb2 => ?_) (fun hb2 => ?_)
    · refine ev_iconst dP_frontUp_22 ?_
      refine ev_zreturn dP_frontUp_23 rfl ?_ ?_
      · decide
      · refine ⟨?_, rfl⟩
        rw [sp_up, decide_eq_false hb]
        cases tn
        · rfl
        · exact absurd hb2 (by decide)
    · refine ev_iconst dP_frontUp_18 ?_
      refine ev_goto (tgt := 23) dP_frontUp_19 rfl ?_
      refine ev_zreturn dP_frontUp_23 rfl ?_ ?_
      · decide
      · refine ⟨?_, rfl⟩
        rw [sp_up, decide_eq_false hb]
        cases tn
        · exact absurd rfl hb2
        · rfl
  · refine ev_iconst dP_frontUp_6 ?_
    refine ev_goto (tgt := 11) dP_frontUp_7 rfl ?_
    refine ev_aload_n dP_frontUp_11 rfl ?_
    refine ev_get dP_frontUp_12 fl_P_38 rfl rfl ?_
    refine ev_icmp_eq (tgt := 22) dP_frontUp_15 rfl (by omega) (by omega) (by omega) (by omega) (fun hb2 => ?_) (fun hb2 => ?_)
    · refine ev_iconst dP_frontUp_22 ?_
      refine ev_zreturn dP_frontUp_23 rfl ?_ ?_
      · decide
      · refine ⟨?_, rfl⟩
        rw [sp_up, decide_eq_true hb]
        cases tn
        · exact absurd hb2 (by decide)
        · rfl
    · refine ev_iconst dP_frontUp_18 ?_
      refine ev_goto (tgt := 23) dP_frontUp_19 rfl ?_
      refine ev_zreturn dP_frontUp_23 rfl ?_ ?_
      · decide
      · refine ⟨?_, rfl⟩
        rw [sp_up, decide_eq_true hb]
        cases tn
        · rfl
        · exact absurd rfl hb2
theorem ct_liesOver {i q : Int} (h0 : 0 ≤ i) (h1 : i ≤ 6) (q1 : -2147483648 ≤ q) (q2 : q < 2147483648) (hl : -60 ≤ lo i ∧ lo i ≤ 60) (hh : -60 ≤ hi i ∧ hi i ≤ 60) : ev_C g mP_liesOver d [.ref 1, ev_i i, ev_i q] (pw L n tn P K B lo hi c0 t) 0 0 (ev_V (some (ev_i (ev_b (decide (lo i ≤ q ∧ q < hi i))))) (pw L n tn P K B lo hi c0 t)) := by
  refine ev_ofE (by decide +kernel) rfl (Nat.le_of_ble_eq_true rfl) rfl rfl ?_
  refine ev_aload_n dP_liesOver_0 rfl ?_
  refine ev_get dP_liesOver_1 fl_P_21 rfl rfl ?_
  refine ev_iload_n dP_liesOver_4 rfl ?_
  refine ev_iald dP_liesOver_5 rfl (by omega) (by omega) (by decide) ?_
  refine ev_iload_n dP_liesOver_6 rfl ?_
  refine ev_icmp_gt (tgt := 24) dP_liesOver_7 rfl (by omega) (by omega) (by omega) (by omega) (fun hb => ?_) (fun hb => ?_)
  · refine ev_iconst dP_liesOver_24 ?_
    refine ev_zreturn dP_liesOver_25 rfl ?_ ?_
    · decide
    · exact ⟨by rw [decide_eq_false (by omega)]; rfl, rfl⟩
  · refine ev_iload_n dP_liesOver_10 rfl ?_
    refine ev_aload_n dP_liesOver_11 rfl ?_
    refine ev_get dP_liesOver_12 fl_P_24 rfl rfl ?_
    refine ev_iload_n dP_liesOver_15 rfl ?_
    refine ev_iald dP_liesOver_16 rfl (by omega) (by omega) (by decide) ?_
    refine ev_icmp_ge (tgt := 24) dP_liesOver_17 rfl (by omega) (by omega) (by omega) (by omega) (fun hb2 => ?_) (fun hb2 => ?_)
    · refine ev_iconst dP_liesOver_24 ?_
      refine ev_zreturn dP_liesOver_25 rfl ?_ ?_
      · decide
      · exact ⟨by rw [decide_eq_false (by omega)]; rfl, rfl⟩
    · refine ev_iconst dP_liesOver_20 ?_
      refine ev_goto (tgt := 25) dP_liesOver_21 rfl ?_
      refine ev_zreturn dP_liesOver_25 rfl ?_ ?_
      · decide
      · exact ⟨by rw [decide_eq_true ⟨hb, hb2⟩]; rfl, rfl⟩
theorem ct_hasInside {i q : Int} (h0 : 0 ≤ i) (h1 : i ≤ 6) (q1 : -2147483648 ≤ q) (q2 : q < 2147483648) (hl : -60 ≤ lo i ∧ lo i ≤ 60) (hh : -60 ≤ hi i ∧ hi i ≤ 60) : ev_C g mP_hasInside d [.ref 1, ev_i i, ev_i q] (pw L n tn P K B lo hi c0 t) 0 0 (ev_V (some (ev_i (ev_b (decide (lo i < q ∧ q < hi i))))) (pw L n tn P K B lo hi c0 t)) := by
  refine ev_ofE (by decide +kernel) rfl (Nat.le_of_ble_eq_true rfl) rfl rfl ?_
  refine ev_aload_n dP_hasInside_0 rfl ?_
  refine ev_get dP_hasInside_1 fl_P_21 rfl rfl ?_
  refine ev_iload_n dP_hasInside_4 rfl ?_
  refine ev_iald dP_hasInside_5 rfl (by omega) (by omega) (by decide) ?_
  refine ev_iload_n dP_hasInside_6 rfl ?_
  refine ev_icmp_ge (tgt := 24) dP_hasInside_7 rfl (by omega) (by omega) (by omega) (by omega) (fun hb => ?_) (fun hb => ?_)
  · refine ev_iconst dP_hasInside_24 ?_
    refine ev_zreturn dP_hasInside_25 rfl ?_ ?_
    · decide
    · exact ⟨by rw [decide_eq_false (by omega)]; rfl, rfl⟩
  · refine ev_iload_n dP_hasInside_10 rfl ?_
    refine ev_aload_n dP_hasInside_11 rfl ?_
    refine ev_get dP_hasInside_12 fl_P_24 rfl rfl ?_
    refine ev_iload_n dP_hasInside_15 rfl ?_
    refine ev_iald dP_hasInside_16 rfl (by omega) (by omega) (by decide) ?_
    refine ev_icmp_ge (tgt := 24) dP_hasInside_17 rfl (by omega) (by omega) (by omega) (by omega) (fun hb2 => ?_) (fun hb2 => ?_)
    · refine ev_iconst dP_hasInside_24 ?_
      refine ev_zreturn dP_hasInside_25 rfl ?_ ?_
      · decide
      · exact ⟨by rw [decide_eq_false (by omega)]; rfl, rfl⟩
    · refine ev_iconst dP_hasInside_20 ?_
      refine ev_goto (tgt := 25) dP_hasInside_21 rfl ?_
      refine ev_zreturn dP_hasInside_25 rfl ?_ ?_
      · decide
      · exact ⟨by rw [decide_eq_true ⟨hb, hb2⟩]; rfl, rfl⟩
theorem ct_overlap {a b : Int} (a0 : 0 ≤ a) (a1 : a ≤ 6) (b0 : 0 ≤ b) (b1 : b ≤ 6) (hla : -60 ≤ lo a ∧ lo a ≤ 60) (hha : -60 ≤ hi a ∧ hi a ≤ 60) (hlb : -60 ≤ lo b ∧ lo b ≤ 60) (hhb : -60 ≤ hi b ∧ hi b ≤ 60) : ev_C g mP_overlap d [.ref 1, ev_i a, ev_i b] (pw L n tn P K B lo hi c0 t) 0 0 (ev_V (some (ev_i (ev_b (decide (lo a < hi b ∧ lo b < hi a))))) (pw L n tn P K B lo hi c0 t)) := by
  refine ev_ofE (by decide +kernel) rfl (Nat.le_of_ble_eq_true rfl) rfl rfl ?_
  refine ev_aload_n dP_overlap_0 rfl ?_
  refine ev_get dP_overlap_1 fl_P_21 rfl rfl ?_
  refine ev_iload_n dP_overlap_4 rfl ?_
  refine ev_iald dP_overlap_5 rfl (by omega) (by omega) (by decide) ?_
  refine ev_aload_n dP_overlap_6 rfl ?_
  refine ev_get dP_overlap_7 fl_P_24 rfl rfl ?_
  refine ev_iload_n dP_overlap_10 rfl ?_
  refine ev_iald dP_overlap_11 rfl (by omega) (by omega) (by decide) ?_
  refine ev_icmp_ge (tgt := 34) dP_overlap_12 rfl (by omega) (by omega) (by omega) (by omega) (fun hb => ?_) (fun hb => ?_)
  · refine ev_iconst dP_overlap_34 ?_
    refine ev_zreturn dP_overlap_35 rfl ?_ ?_
    · decide
    · exact ⟨by rw [decide_eq_false (by omega)]; rfl, rfl⟩
  · refine ev_aload_n dP_overlap_15 rfl ?_
    refine ev_get dP_overlap_16 fl_P_21 rfl rfl ?_
    refine ev_iload_n dP_overlap_19 rfl ?_
    refine ev_iald dP_overlap_20 rfl (by omega) (by omega) (by decide) ?_
    refine ev_aload_n dP_overlap_21 rfl ?_
    refine ev_get dP_overlap_22 fl_P_24 rfl rfl ?_
    refine ev_iload_n dP_overlap_25 rfl ?_
    refine ev_iald dP_overlap_26 rfl (by omega) (by omega) (by decide) ?_
    refine ev_icmp_ge (tgt := 34) dP_overlap_27 rfl (by omega) (by omega) (by omega) (by omega) (fun hb2 => ?_) (fun hb2 => ?_)
    · refine ev_iconst dP_overlap_34 ?_
      refine ev_zreturn dP_overlap_35 rfl ?_ ?_
      · decide
      · exact ⟨by rw [decide_eq_false (by omega)]; rfl, rfl⟩
    · refine ev_iconst dP_overlap_30 ?_
      refine ev_goto (tgt := 35) dP_overlap_31 rfl ?_
      refine ev_zreturn dP_overlap_35 rfl ?_ ?_
      · decide
      · exact ⟨by rw [decide_eq_true ⟨hb, hb2⟩]; rfl, rfl⟩
theorem ct_foldedCrease {i : Int} (h0 : 0 ≤ i) (h1 : i ≤ 6) : ev_C g mP_foldedCrease d [.ref 1, ev_i i] (pw L n tn P K B lo hi c0 t) 0 0 (ev_V (some (ev_i (B (i + 1)))) (pw L n tn P K B lo hi c0 t)) := by
  refine ev_ofE (by decide +kernel) rfl (Nat.le_of_ble_eq_true rfl) rfl rfl ?_
  refine ev_aload_n dP_foldedCrease_0 rfl ?_
  refine ev_get dP_foldedCrease_1 fl_P_18 rfl rfl ?_
  refine ev_iload_n dP_foldedCrease_4 rfl ?_
  refine ev_iconst dP_foldedCrease_5 ?_
  refine ev_iadd dP_foldedCrease_6 ?_
  refine ev_iald dP_foldedCrease_7 rfl (by omega) (by omega) (by decide) ?_
  refine ev_ireturn dP_foldedCrease_8 rfl ?_
  exact ⟨rfl, rfl⟩
theorem ct_turnOver : ev_C g mP_turnOver d [.ref 1] (pw L n tn P K B lo hi c0 t) 0 0 (ev_V none (pw L n (!tn) P K B lo hi c0 t)) := by
  refine ev_ofE (by decide +kernel) rfl (Nat.le_of_ble_eq_true rfl) rfl rfl ?_
  refine ev_aload_n dP_turnOver_0 rfl ?_
  refine ev_aload_n dP_turnOver_1 rfl ?_
  refine ev_get dP_turnOver_2 fl_P_38 rfl rfl ?_
  refine ev_bn (tgt := 12) dP_turnOver_5 rfl (fun hb => ?_) (fun hb => ?_)
  · refine ev_iconst dP_turnOver_12 ?_
    refine ev_put dP_turnOver_13 fp_P_38 (fun q => by cases q) rfl (Nat.le_of_ble_eq_true rfl) (ev_nbz (by first | decide | exact ev_b01 _)) (ev_fbz (by first | decide | exact ev_b01 _)) ?_
    refine ev_return dP_turnOver_16 rfl ?_
    subst hb
    exact ⟨rfl, rfl⟩
  · refine ev_iconst dP_turnOver_8 ?_
    refine ev_goto (tgt := 13) dP_turnOver_9 rfl ?_
    refine ev_put dP_turnOver_13 fp_P_38 (fun q => by cases q) rfl (Nat.le_of_ble_eq_true rfl) (ev_nbz (by first | decide | exact ev_b01 _)) (ev_fbz (by first | decide | exact ev_b01 _)) ?_
    refine ev_return dP_turnOver_16 rfl ?_
    subst hb
    exact ⟨rfl, rfl⟩
theorem ct_imagesOver {q : Int} (q1 : -2147483648 ≤ q) (q2 : q < 2147483648) (hn0 : 0 ≤ n) (hn : n ≤ 6) (hl : ∀ i, 0 ≤ i → i ≤ n → -60 ≤ lo i ∧ lo i ≤ 60) (hh : ∀ i, 0 ≤ i → i ≤ n → -60 ≤ hi i ∧ hi i ≤ 60) :
    ev_C g mP_imagesOver (d + 1) [.ref 1, ev_i q] (pw L n tn P K B lo hi c0 t) 0 0 (ev_V (some (ev_i (sp_im lo hi q (n + 1).toNat))) (pw L n tn P K B lo hi c0 t)) := by
  refine ev_ofE (by decide +kernel) rfl (Nat.le_of_ble_eq_true rfl) rfl rfl ?_
  refine ev_iconst dP_imagesOver_0 ?_
  refine ev_istore_n dP_imagesOver_1 (Nat.le_of_ble_eq_true rfl) ?_
  refine ev_iconst dP_imagesOver_2 ?_
  refine ev_istore_n dP_imagesOver_3 (Nat.le_of_ble_eq_true rfl) ?_
  have loop : ∀ (k i : Nat), (i : Int) + k = n + 1 → ev_E g false mP_imagesOver (d + 1) 4 [some (.ref 1), some (ev_i q), some (ev_i (sp_im lo hi q i)), some (ev_i i)] [] (pw L n tn P K B lo hi c0 t) 0 0 (ev_V (some (ev_i (sp_im lo hi q (n + 1).toNat))) (pw L n tn P K B lo hi c0 t)) := by
    intro k
    induction k with
    | zero =>
      intro i hk
      refine ev_iload_n dP_imagesOver_4 rfl ?_
      refine ev_aload_n dP_imagesOver_5 rfl ?_
      refine ev_get dP_imagesOver_6 fl_P_35 rfl rfl ?_
      refine ev_icmp_gt (tgt := 30) dP_imagesOver_9 rfl (by omega) (by omega) (by omega) (by omega) (fun hb => ?_) (fun hb => ?_)
      · refine ev_iload_n dP_imagesOver_30 rfl ?_
        refine ev_ireturn dP_imagesOver_31 rfl ?_
        exact ⟨by rw [show (n + 1).toNat = i by omega], rfl⟩
      · omega
    | succ k ih =>
      intro i hk
      refine ev_iload_n dP_imagesOver_4 rfl ?_
      refine ev_aload_n dP_imagesOver_5 rfl ?_
      refine ev_get dP_imagesOver_6 fl_P_35 rfl rfl ?_
      refine ev_icmp_gt (tgt := 30) dP_imagesOver_9 rfl (by omega) (by omega) (by omega) (by omega) (fun hb => ?_) (fun hb => ?_)
      · omega
      · refine ev_aload_n dP_imagesOver_12 rfl ?_
        refine ev_iload_n dP_imagesOver_13 rfl ?_
        refine ev_iload_n dP_imagesOver_14 rfl ?_
        refine ev_cV dP_imagesOver_15 cv_P_88 (ct_liesOver (by omega) (by omega) q1 q2 (hl i (by omega) hb) (hh i (by omega) hb)) rfl rfl rfl (Nat.le_of_ble_eq_true rfl) (Nat.le_of_ble_eq_true rfl) (Nat.le_of_ble_eq_true rfl) ?_
        have := ih (i + 1) (by omega)
        refine ev_bz (tgt := 24) dP_imagesOver_18 rfl (fun hb2 => ?_) (fun hb2 => ?_)
        · refine ev_iinc dP_imagesOver_24 rfl ?_
          refine ev_goto (tgt := 4) dP_imagesOver_27 rfl ?_
          rw [sp_im, if_neg (of_decide_eq_false hb2), Int.add_zero] at this
          exact this
        · refine ev_iinc dP_imagesOver_21 rfl ?_
          refine ev_iinc dP_imagesOver_24 rfl ?_
          refine ev_goto (tgt := 4) dP_imagesOver_27 rfl ?_
          rw [sp_im, if_pos (of_decide_eq_true hb2)] at this
          exact this
  exact loop (n + 1).toNat 0 (by omega)
theorem sp_im_bd (q : Int) : ∀ k : Nat, 0 ≤ sp_im lo hi q k ∧ sp_im lo hi q k ≤ k
  | 0 => by simp [sp_im]
  | k + 1 => by
    have := sp_im_bd q k
    unfold sp_im
    split <;> push_cast <;> omega
theorem sp_mo_bd {f : Int → Int} (hf : ∀ i, 0 ≤ f i ∧ f i ≤ 60) : ∀ k : Nat, 0 ≤ sp_mo f k ∧ sp_mo f k ≤ 60
  | 0 => by simp [sp_mo]
  | k + 1 => by
    have := sp_mo_bd hf k
    have := hf k
    unfold sp_mo
    split <;> omega
theorem ct_mostImages (hn0 : 0 ≤ n) (hn : n ≤ 6) (hl : ∀ i, 0 ≤ i → i ≤ n → -60 ≤ lo i ∧ lo i ≤ 60) (hh : ∀ i, 0 ≤ i → i ≤ n → -60 ≤ hi i ∧ hi i ≤ 60) :
    ev_C g mP_mostImages (d + 2) [.ref 1] (pw L n tn P K B lo hi c0 t) 0 0 (ev_V (some (ev_i (sp_mo (fun i => sp_im lo hi (lo i) (n + 1).toNat) (n + 1).toNat))) (pw L n tn P K B lo hi c0 t)) := by
  have hf : ∀ i, 0 ≤ (fun i => sp_im lo hi (lo i) (n + 1).toNat) i ∧ (fun i => sp_im lo hi (lo i) (n + 1).toNat) i ≤ 60 := fun i => by
    have := sp_im_bd (lo := lo) (hi := hi) (lo i) (n + 1).toNat
    exact ⟨this.1, by show sp_im lo hi (lo i) (n + 1).toNat ≤ 60; omega⟩
  refine ev_ofE (by decide +kernel) rfl (Nat.le_of_ble_eq_true rfl) rfl rfl ?_
  refine ev_iconst dP_mostImages_0 ?_
  refine ev_istore_n dP_mostImages_1 (Nat.le_of_ble_eq_true rfl) ?_
  refine ev_iconst dP_mostImages_2 ?_
  refine ev_istore_n dP_mostImages_3 (Nat.le_of_ble_eq_true rfl) ?_
  have loop : ∀ (k i : Nat), (i : Int) + k = n + 1 → ev_E g false mP_mostImages (d + 2) 4 [some (.ref 1), some (ev_i (sp_mo (fun i => sp_im lo hi (lo i) (n + 1).toNat) i)), some (ev_i i)] [] (pw L n tn P K B lo hi c0 t) 0 0 (ev_V (some (ev_i (sp_mo (fun i => sp_im lo hi (lo i) (n + 1).toNat) (n + 1).toNat))) (pw L n tn P K B lo hi c0 t)) := by
    intro k
    induction k with
    | zero =>
      intro i hk
      refine ev_iload_n dP_mostImages_4 rfl ?_
      refine ev_aload_n dP_mostImages_5 rfl ?_
      refine ev_get dP_mostImages_6 fl_P_35 rfl rfl ?_
      refine ev_icmp_gt (tgt := 33) dP_mostImages_9 rfl (by omega) (by omega) (by omega) (by omega) (fun hb => ?_) (fun hb => ?_)
      · refine ev_iload_n dP_mostImages_33 rfl ?_
        refine ev_ireturn dP_mostImages_34 rfl ?_
        exact ⟨by rw [show (n + 1).toNat = i by omega], rfl⟩
      · omega
    | succ k ih =>
      intro i hk
      refine ev_iload_n dP_mostImages_4 rfl ?_
      refine ev_aload_n dP_mostImages_5 rfl ?_
      refine ev_get dP_mostImages_6 fl_P_35 rfl rfl ?_
      refine ev_icmp_gt (tgt := 33) dP_mostImages_9 rfl (by omega) (by omega) (by omega) (by omega) (fun hb => ?_) (fun hb => ?_)
      · omega
      · refine ev_iload_n dP_mostImages_12 rfl ?_
        refine ev_aload_n dP_mostImages_13 rfl ?_
        refine ev_aload_n dP_mostImages_14 rfl ?_
        refine ev_get dP_mostImages_15 fl_P_21 rfl rfl ?_
        refine ev_iload_n dP_mostImages_18 rfl ?_
        refine ev_iald dP_mostImages_19 rfl (by omega) (by omega) (by decide) ?_
        have hli := hl i (by omega) hb
        refine ev_cV dP_mostImages_20 cv_P_85 (ct_imagesOver (by omega) (by omega) hn0 hn hl hh) rfl rfl rfl (Nat.le_of_ble_eq_true rfl) (Nat.le_of_ble_eq_true rfl) (Nat.le_of_ble_eq_true rfl) ?_
        have h1 := sp_mo_bd hf i
        have h2 : 0 ≤ sp_im lo hi (lo i) (n + 1).toNat ∧ sp_im lo hi (lo i) (n + 1).toNat ≤ 60 := hf i
        refine ev_max dP_mostImages_23 wm_P_72 ws_max wc_max (Nat.le_of_ble_eq_true rfl) (by omega) (by omega) (by omega) (by omega) ?_
        refine ev_istore_n dP_mostImages_26 (Nat.le_of_ble_eq_true rfl) ?_
        refine ev_iinc dP_mostImages_27 rfl ?_
        refine ev_goto (tgt := 4) dP_mostImages_30 rfl ?_
        exact ih (i + 1) (by omega)
  exact loop (n + 1).toNat 0 (by omega)
theorem sp_mi_bd (hB : ∀ i, 0 ≤ i → i ≤ n + 1 → -60 ≤ B i ∧ B i ≤ 60) : ∀ k : Nat, (k : Int) ≤ n + 1 → -60 ≤ sp_mi B k ∧ sp_mi B k ≤ 60
  | 0, _ => hB 0 (by omega) (by omega)
  | k + 1, h => by
    have h1 := sp_mi_bd hB k (by omega)
    have h2 := hB (k + 1) (by omega) (by omega)
    unfold sp_mi
    split <;> omega
theorem sp_mx_bd (hB : ∀ i, 0 ≤ i → i ≤ n + 1 → -60 ≤ B i ∧ B i ≤ 60) : ∀ k : Nat, (k : Int) ≤ n + 1 → -60 ≤ sp_mx B k ∧ sp_mx B k ≤ 60
  | 0, _ => hB 0 (by omega) (by omega)
  | k + 1, h => by
    have h1 := sp_mx_bd hB k (by omega)
    have h2 := hB (k + 1) (by omega) (by omega)
    unfold sp_mx
    split <;> omega
theorem ct_reach (hn0 : 0 ≤ n) (hn : n ≤ 6) (hB : ∀ i, 0 ≤ i → i ≤ n + 1 → -60 ≤ B i ∧ B i ≤ 60) :
    ev_C g mP_reach (d + 1) [.ref 1] (pw L n tn P K B lo hi c0 t) 0 0 (ev_V (some (ev_i (sp_mx B (n + 1).toNat - sp_mi B (n + 1).toNat))) (pw L n tn P K B lo hi c0 t)) := by
  refine ev_ofE (by decide +kernel) rfl (Nat.le_of_ble_eq_true rfl) rfl rfl ?_
  refine ev_aload_n dP_reach_0 rfl ?_
  refine ev_get dP_reach_1 fl_P_18 rfl rfl ?_
  refine ev_iconst dP_reach_4 ?_
  refine ev_iald dP_reach_5 rfl (by omega) (by omega) (by decide) ?_
  refine ev_istore_n dP_reach_6 (Nat.le_of_ble_eq_true rfl) ?_
  refine ev_aload_n dP_reach_7 rfl ?_
  refine ev_get dP_reach_8 fl_P_18 rfl rfl ?_
  refine ev_iconst dP_reach_11 ?_
  refine ev_iald dP_reach_12 rfl (by omega) (by omega) (by decide) ?_
  refine ev_istore_n dP_reach_13 (Nat.le_of_ble_eq_true rfl) ?_
  refine ev_iconst dP_reach_14 ?_
  refine ev_istore_n dP_reach_15 (Nat.le_of_ble_eq_true rfl) ?_
  have loop : ∀ (k i : Nat), (i : Int) + k = n + 1 → ev_E g false mP_reach (d + 1) 16 [some (.ref 1), some (ev_i (sp_mi B i)), some (ev_i (sp_mx B i)), some (ev_i (i + 1))] [] (pw L n tn P K B lo hi c0 t) 0 0 (ev_V (some (ev_i (sp_mx B (n + 1).toNat - sp_mi B (n + 1).toNat))) (pw L n tn P K B lo hi c0 t)) := by
    intro k
    induction k with
    | zero =>
      intro i hk
      refine ev_iload_n dP_reach_16 rfl ?_
      refine ev_aload_n dP_reach_17 rfl ?_
      refine ev_cV dP_reach_18 cv_P_81 (ct_segments) rfl rfl rfl (Nat.le_of_ble_eq_true rfl) (Nat.le_of_ble_eq_true rfl) (Nat.le_of_ble_eq_true rfl) ?_
      refine ev_icmp_gt (tgt := 52) dP_reach_21 rfl (by omega) (by omega) (by omega) (by omega) (fun hb => ?_) (fun hb => ?_)
      · refine ev_iload_n dP_reach_52 rfl ?_
        refine ev_iload_n dP_reach_53 rfl ?_
        refine ev_isub dP_reach_54 ?_
        refine ev_ireturn dP_reach_55 rfl ?_
        exact ⟨by rw [show (n + 1).toNat = i by omega], rfl⟩
      · omega
    | succ k ih =>
      intro i hk
      have h1 := sp_mi_bd hB i (by omega)
      have h2 := sp_mx_bd hB i (by omega)
      have h3 := hB (i + 1) (by omega) (by omega)
      refine ev_iload_n dP_reach_16 rfl ?_
      refine ev_aload_n dP_reach_17 rfl ?_
      refine ev_cV dP_reach_18 cv_P_81 (ct_segments) rfl rfl rfl (Nat.le_of_ble_eq_true rfl) (Nat.le_of_ble_eq_true rfl) (Nat.le_of_ble_eq_true rfl) ?_
      refine ev_icmp_gt (tgt := 52) dP_reach_21 rfl (by omega) (by omega) (by omega) (by omega) (fun hb => ?_) (fun hb => ?_)
      · omega
      · refine ev_iload_n dP_reach_24 rfl ?_
        refine ev_aload_n dP_reach_25 rfl ?_
        refine ev_get dP_reach_26 fl_P_18 rfl rfl ?_
        refine ev_iload_n dP_reach_29 rfl ?_
        refine ev_iald dP_reach_30 rfl (by omega) (by omega) (by decide) ?_
        refine ev_min dP_reach_31 wm_P_66 ws_min wc_min (Nat.le_of_ble_eq_true rfl) (by omega) (by omega) (by omega) (by omega) ?_
        refine ev_istore_n dP_reach_34 (Nat.le_of_ble_eq_true rfl) ?_
        refine ev_iload_n dP_reach_35 rfl ?_
        refine ev_aload_n dP_reach_36 rfl ?_
        refine ev_get dP_reach_37 fl_P_18 rfl rfl ?_
        refine ev_iload_n dP_reach_40 rfl ?_
        refine ev_iald dP_reach_41 rfl (by omega) (by omega) (by decide) ?_
        refine ev_max dP_reach_42 wm_P_72 ws_max wc_max (Nat.le_of_ble_eq_true rfl) (by omega) (by omega) (by omega) (by omega) ?_
        refine ev_istore_n dP_reach_45 (Nat.le_of_ble_eq_true rfl) ?_
        refine ev_iinc dP_reach_46 rfl ?_
        refine ev_goto (tgt := 16) dP_reach_49 rfl ?_
        exact ih (i + 1) (by omega)
  exact loop (n + 1).toNat 0 (by omega)
end PB
