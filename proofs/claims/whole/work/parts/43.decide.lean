/-! LayerOrders: the search -/
def ly_ok (K : Int → Int) (tn : Bool) (B lo hi : Int → Int) (o : Nat) (a b : Int) : Bool := ly_mk K tn o a b && (ly_rd lo hi o a b && (ly_cr B lo hi o a b && ly_ne B o a b))
/-- all orders that go on from o, the pairs from (a, b) on being open, k of them -/
def ly_go (K : Int → Int) (tn : Bool) (B lo hi : Int → Int) : Nat → Int → Int → Nat → List Nat
  | 0, _, _, o => [o]
  | k + 1, a, b, o =>
    if ly_ov lo hi a b then
      (if ly_ok K tn B lo hi o a b then ly_go K tn B lo hi k (if b ≤ a + 1 then 0 else a + 1) (if b ≤ a + 1 then b + 1 else b) o else []) ++
      (if ly_ok K tn B lo hi (o ||| 2 ^ ly_ix a b) a b then ly_go K tn B lo hi k (if b ≤ a + 1 then 0 else a + 1) (if b ≤ a + 1 then b + 1 else b) (o ||| 2 ^ ly_ix a b) else [])
    else ly_go K tn B lo hi k (if b ≤ a + 1 then 0 else a + 1) (if b ≤ a + 1 then b + 1 else b) o
theorem ly_go_len {K : Int → Int} {tn : Bool} {B lo hi : Int → Int} : ∀ (k : Nat) (a b : Int) (o : Nat), (ly_go K tn B lo hi k a b o).length ≤ 2 ^ k
  | 0, _, _, _ => by simp [ly_go]
  | k + 1, a, b, o => by
    have h1 := ly_go_len (K := K) (tn := tn) (B := B) (lo := lo) (hi := hi) k (if b ≤ a + 1 then 0 else a + 1) (if b ≤ a + 1 then b + 1 else b) o
    have h2 := ly_go_len (K := K) (tn := tn) (B := B) (lo := lo) (hi := hi) k (if b ≤ a + 1 then 0 else a + 1) (if b ≤ a + 1 then b + 1 else b) (o ||| 2 ^ ly_ix a b)
    have h3 : 2 ^ (k + 1) = 2 ^ k + 2 ^ k := by rw [Nat.pow_succ]; omega
    unfold ly_go
    generalize (if b ≤ a + 1 then (0 : Int) else a + 1) = a' at *
    generalize (if b ≤ a + 1 then b + 1 else b) = b' at *
    split
    · rw [List.length_append]
      split <;> split <;> (try simp only [List.length_nil]) <;> omega
    · omega
/-- k pairs are open from (a, b) on -/
def ly_k (n : Int) (k : Nat) (a b : Int) : Prop := 2 * (k : Int) + b * (b - 1) + 2 * a = (n + 1) * n ∧ 0 ≤ a ∧ a < b ∧ b ≤ n + 1 ∧ (b = n + 1 → a = 0)
theorem ly_sq {x : Int} : x * (x - 1) = x * x - x ∧ (x + 1) * x = x * x + x ∧ (x + 1) * (x + 1 - 1) = x * x + x := by
  refine ⟨by rw [Int.mul_sub, Int.mul_one], by rw [Int.add_mul, Int.one_mul], ?_⟩
  rw [show x + 1 - 1 = x by omega, Int.add_mul, Int.one_mul]
theorem ly_mono {x y : Int} (h0 : 0 ≤ x) (h : x ≤ y) : x * x + x ≤ y * y + y := by
  have := Int.mul_le_mul h h h0 (by omega)
  omega
theorem ly_k_0 {n : Int} {a b : Int} (h : ly_k n 0 a b) : b = n + 1 := by
  obtain ⟨h1, h2, h3, h4, -⟩ := h
  have s1 := (ly_sq (x := b)).1
  have s2 := (ly_sq (x := n)).2.1
  rcases Int.lt_or_eq_of_le h4 with q | q
  · exfalso
    have := ly_mono (x := b) (y := n) (by omega) (by omega)
    simp only [Int.natCast_zero, Int.mul_zero, Int.cast_ofNat_Int] at h1
    omega
  · exact q
theorem ly_k_s {n : Int} {k : Nat} {a b : Int} (h : ly_k n (k + 1) a b) : b ≤ n := by
  obtain ⟨h1, h2, h3, h4, h5⟩ := h
  have s1 := (ly_sq (x := b)).1
  have s2 := (ly_sq (x := n)).2.1
  rcases Int.lt_or_eq_of_le h4 with q | q
  · omega
  · exfalso
    have := h5 q
    have s3 := (ly_sq (x := n)).2.2
    rw [q] at h1
    push_cast at h1
    omega
theorem ly_k_n {n : Int} {k : Nat} {a b : Int} (h : ly_k n (k + 1) a b) : ly_k n k (if b ≤ a + 1 then 0 else a + 1) (if b ≤ a + 1 then b + 1 else b) := by
  have hb := ly_k_s h
  obtain ⟨h1, h2, h3, h4, h5⟩ := h
  have s1 := (ly_sq (x := b)).1
  have s3 := (ly_sq (x := b)).2.2
  push_cast at h1
  by_cases hl : b ≤ a + 1
  · rw [if_pos hl, if_pos hl]
    exact ⟨by rw [s3]; omega, by omega, by omega, by omega, fun _ => rfl⟩
  · rw [if_neg hl, if_neg hl]
    exact ⟨by omega, by omega, by omega, by omega, fun q => by omega⟩
def ly_Q (L n : Int) (tn : Bool) (P K B lo hi : Int → Int) (c0 q1 q2 q3 q4 q5 q6 : ev_AC) (kn : Bool) (mk : Int64) (A : List Nat) (e k : Nat) (t : List ev_AC) (S : List Nat) : ev_O → List ev_AC → Prop := fun oo h' =>
  oo = .inl none ∧ ∃ (k' : Nat) (R' : Int → Int) (t' : List ev_AC), h' = oh L n tn P K B lo hi c0 q1 q2 q3 q4 q5 q6 kn ((A ++ S).length : Nat) (k' + 14) (ly_ms n mk S) t' ∧ ly_rw (A ++ S) (ly_ge e A.length S.length) k' R' t' ∧ ly_fr k t k' t'
section LE
variable {g : ev_G} {d : Nat} {L n : Int} {tn : Bool} {P K B lo hi : Int → Int} {c0 q1 q2 q3 q4 q5 q6 : ev_AC} {kn : Bool} {mk : Int64} {t : List ev_AC}
theorem ly_rw_put {A : List Nat} {e k : Nat} {R : Int → Int} {t : List ev_AC} {o : Nat} (h : ly_rw A e k R t) (hl : A.length < 64 * 2 ^ e) : ly_rw (A ++ [o]) e k (ev_up R (A.length : Nat) o) (t.set k (ev_ia (64 * 2 ^ e) (ev_up R (A.length : Nat) o))) := by
  obtain ⟨h1, h2, h3⟩ := h
  have hk : k < t.length := (List.getElem?_eq_some_iff.mp h1).1
  refine ⟨List.getElem?_set_self hk, ⟨by rw [List.length_append]; show A.length + 1 ≤ _; omega, h2.2⟩, fun i x hx => ?_⟩
  by_cases hi : i < A.length
  · rw [List.getElem?_append_left hi] at hx
    rw [ev_up_n (by omega)]
    exact h3 i x hx
  · have hi2 : i < (A ++ [o]).length := (List.getElem?_eq_some_iff.mp hx).1
    rw [List.length_append] at hi2
    have hi3 : i = A.length := by have : i < A.length + 1 := hi2; omega
    subst hi3
    simp at hx
    rw [ev_up_s, hx]
theorem ct_keep {o e k : Nat} {A : List Nat} {R : Int → Int} (hn0 : 0 ≤ n) (hn : n ≤ 6) (hr : ly_rw A e k R t) (hA : A.length + 1 ≤ 2097152) :
    ev_C g mO_keep (d + 3) [.ref 13, ev_i o] (oh L n tn P K B lo hi c0 q1 q2 q3 q4 q5 q6 kn (A.length : Nat) (k + 14) mk t) (ly_ge e A.length 1 - e) (128 * 2 ^ ly_ge e A.length 1 - 128 * 2 ^ e)
      (ly_Q L n tn P K B lo hi c0 q1 q2 q3 q4 q5 q6 kn mk A e k t [o]) := by
  have hr1 := hr.1
  have hr2 := hr.2.1.1
  have hr3 := hr.2.1.2
  have hpos : 0 < 2 ^ e := Nat.two_pow_pos e
  have hp15 : 2 ^ e ≤ 32768 := Nat.pow_le_pow_right (n := 2) (by decide) hr3
  refine ev_ofE (by decide +kernel) rfl (Nat.le_of_ble_eq_true rfl) rfl rfl ?_
  refine ev_aload_n dO_keep_0 rfl ?_
  refine ev_get dO_keep_1 fl_O_23 rfl rfl ?_
  refine ev_aload_n dO_keep_4 rfl ?_
  refine ev_get dO_keep_5 fl_O_15 rfl rfl ?_
  refine ev_alen dO_keep_8 hr1 ?_
  by_cases hl : A.length < 64 * 2 ^ e
  · have hge : ly_ge e A.length 1 = e := if_pos hl
    refine ev_icmp_lt (tgt := 30) dO_keep_9 rfl (by omega) (by omega) (by omega) (by omega) (fun hb => ?_) (fun hb => ?_)
    · refine ev_aload_n dO_keep_30 rfl ?_
      refine ev_get dO_keep_31 fl_O_15 rfl rfl ?_
      refine ev_aload_n dO_keep_34 rfl ?_
      refine ev_get dO_keep_35 fl_O_23 rfl rfl ?_
      refine ev_iload_n dO_keep_38 rfl ?_
      refine ev_iast dO_keep_39 hr1 (by omega) (by omega) (by omega) ?_
      refine ev_aload_n dO_keep_40 rfl ?_
      refine ev_dup dO_keep_41 rfl ?_
      refine ev_get dO_keep_42 fl_O_23 rfl rfl ?_
      refine ev_iconst dO_keep_45 ?_
      refine ev_iadd dO_keep_46 ?_
      refine ev_put dO_keep_47 fp_O_23 (fun q => by cases q) rfl (Nat.le_of_ble_eq_true rfl) rfl rfl ?_
      refine ev_aload_n dO_keep_50 rfl ?_
      refine ev_dup dO_keep_51 rfl ?_
      refine ev_get dO_keep_52 fl_O_27 rfl rfl ?_
      refine ev_lconst dO_keep_55 ?_
      refine ev_aload_n dO_keep_56 rfl ?_
      refine ev_iload_n dO_keep_57 rfl ?_
      refine ev_cV dO_keep_58 cv_O_71 (ct_marking hn0 hn) rfl rfl rfl (Nat.le_of_ble_eq_true rfl) (Nat.le_of_ble_eq_true rfl) (Nat.le_of_ble_eq_true rfl) ?_
      refine ev_lshl dO_keep_61 ?_
      refine ev_lor dO_keep_62 ?_
      refine ev_put dO_keep_63 fp_O_27 (fun q => by cases q) rfl (Nat.le_of_ble_eq_true rfl) rfl rfl ?_
      refine ev_return dO_keep_66 rfl ?_
      refine ⟨rfl, k, _, _, ?_, by rw [show ([o] : List Nat).length = 1 from rfl, hge]; exact ly_rw_put hr hl, Or.inl rfl, by simp, fun i hi hk => by rw [List.getElem?_set_ne (fun q => hk q.symm)]⟩
      rw [List.length_append]
      rfl
    · omega
  · have hge : ly_ge e A.length 1 = e + 1 := if_neg hl
    have hcap : A.length = 64 * 2 ^ e := by omega
    have he15 : e < 15 := by
      rcases Nat.lt_or_ge e 15 with q | q
      · exact q
      · have : e = 15 := by omega
        subst this
        omega
    have hp : 64 * 2 ^ (e + 1) = 2 * (64 * 2 ^ e) := by rw [Nat.pow_succ]; omega
    have hp2 : 128 * 2 ^ (e + 1) = 2 * (128 * 2 ^ e) := by rw [Nat.pow_succ]; omega
    refine ev_icmp_lt (tgt := 30) dO_keep_9 rfl (by omega) (by omega) (by omega) (by omega) (fun hb => ?_) (fun hb => ?_)
    · omega
    · refine ev_aload_n dO_keep_12 rfl ?_
      refine ev_aload_n dO_keep_13 rfl ?_
      refine ev_get dO_keep_14 fl_O_15 rfl rfl ?_
      refine ev_iconst dO_keep_17 ?_
      refine ev_aload_n dO_keep_18 rfl ?_
      refine ev_get dO_keep_19 fl_O_15 rfl rfl ?_
      refine ev_alen dO_keep_22 hr1 ?_
      refine ev_imul dO_keep_23 ?_
      rw [show (2 : Int) * ((64 * 2 ^ e : Nat) : Int) = ((64 * 2 ^ (e + 1) : Nat) : Int) by omega]
      rw [hge]
      refine ev_room (kc' := 1) (ks' := 64 * 2 ^ (e + 1)) (by omega) (by omega) ?_
      refine ev_cS dO_keep_24 cs_O_65 (ct_copyOf (h := oh L n tn P K B lo hi c0 q1 q2 q3 q4 q5 q6 kn (A.length : Nat) (k + 14) mk t) (a := k + 14) hr1 (by omega) (by omega)) rfl rfl (Nat.le_of_ble_eq_true rfl) (Nat.le_refl _) (Nat.le_refl _) ?_
      refine ev_put dO_keep_27 fp_O_15 (fun q => by cases q) rfl (Nat.le_of_ble_eq_true rfl) rfl rfl ?_
      refine ev_aload_n dO_keep_30 rfl ?_
      refine ev_get dO_keep_31 fl_O_15 rfl rfl ?_
      refine ev_aload_n dO_keep_34 rfl ?_
      refine ev_get dO_keep_35 fl_O_23 rfl rfl ?_
      refine ev_iload_n dO_keep_38 rfl ?_
      have hx : ∀ x : ev_AC, (t ++ [x])[t.length]? = some x := fun x => by simp
      refine ev_iast dO_keep_39 (a := t.length + 14) (hx _) (by omega) (by omega) (by omega) ?_
      refine ev_aload_n dO_keep_40 rfl ?_
      refine ev_dup dO_keep_41 rfl ?_
      refine ev_get dO_keep_42 fl_O_23 rfl rfl ?_
      refine ev_iconst dO_keep_45 ?_
      refine ev_iadd dO_keep_46 ?_
      refine ev_put dO_keep_47 fp_O_23 (fun q => by cases q) rfl (Nat.le_of_ble_eq_true rfl) rfl rfl ?_
      refine ev_aload_n dO_keep_50 rfl ?_
      refine ev_dup dO_keep_51 rfl ?_
      refine ev_get dO_keep_52 fl_O_27 rfl rfl ?_
      refine ev_lconst dO_keep_55 ?_
      refine ev_aload_n dO_keep_56 rfl ?_
      refine ev_iload_n dO_keep_57 rfl ?_
      have hs : ∀ x y : ev_AC, (t ++ [x]).set t.length y = t ++ [y] := fun x y => by simp
      refine ev_cV dO_keep_58 cv_O_71 (ct_marking (L := L) (tn := tn) (P := P) (K := K) (B := B) (lo := lo) (hi := hi) (c0 := c0) (q1 := q1) (q2 := q2) (q3 := q3) (q4 := q4) (q5 := q5) (q6 := q6) (kn := kn) (fo := ((A.length : Nat) : Int) + 1) (r := t.length + 14) (mk := mk) (t := (t ++ [ev_ia (64 * 2 ^ (e + 1)) (ev_ov R (fun _ => 0) (64 * 2 ^ e : Nat))]).set t.length (ev_ia (64 * 2 ^ (e + 1)) (ev_up (ev_ov R (fun _ => 0) (64 * 2 ^ e : Nat)) (A.length : Nat) o))) hn0 hn) rfl rfl rfl (Nat.le_of_ble_eq_true rfl) (Nat.zero_le _) (Nat.zero_le _) ?_
      refine ev_lshl dO_keep_61 ?_
      refine ev_lor dO_keep_62 ?_
      refine ev_put dO_keep_63 fp_O_27 (fun q => by cases q) rfl (Nat.le_of_ble_eq_true rfl) rfl rfl ?_
      refine ev_return dO_keep_66 rfl ?_
      refine ⟨rfl, t.length, ev_up (ev_ov R (fun _ => 0) (64 * 2 ^ e : Nat)) (A.length : Nat) o, t ++ [ev_ia (64 * 2 ^ (e + 1)) (ev_up (ev_ov R (fun _ => 0) (64 * 2 ^ e : Nat)) (A.length : Nat) o)], ?_, ?_, Or.inr (Nat.le_refl _), by simp, fun i hi hk => by rw [List.getElem?_append_left hi]⟩
      · rw [hs, List.length_append]
        rfl
      · have h0 : ly_rw A (e + 1) t.length (ev_ov R (fun _ => 0) (64 * 2 ^ e : Nat)) (t ++ [ev_ia (64 * 2 ^ (e + 1)) (ev_ov R (fun _ => 0) (64 * 2 ^ e : Nat))]) := by
          refine ⟨hx _, ⟨by omega, by omega⟩, fun i x hi => ?_⟩
          have : i < A.length := (List.getElem?_eq_some_iff.mp hi).1
          rw [ev_ov_in (by omega) (by omega)]
          exact hr.2.2 i x hi
        have h1 := ly_rw_put (o := o) h0 (by omega)
        rw [hs] at h1
        rw [show ([o] : List Nat).length = 1 from rfl, hge]
        exact h1
theorem ct_decide (hn0 : 0 ≤ n) (hn : n ≤ 6) (hK : ∀ i, 0 ≤ i → i < n → 0 ≤ K i ∧ K i ≤ 2) (hl : ∀ i, 0 ≤ i → i ≤ n → -60 ≤ lo i ∧ lo i ≤ 60) (hh : ∀ i, 0 ≤ i → i ≤ n → -60 ≤ hi i ∧ hi i ≤ 60) (hB : ∀ i, 0 ≤ i → i ≤ n + 1 → -60 ≤ B i ∧ B i ≤ 60) :
    ∀ (k : Nat) (a b : Int) (o : Nat) (A : List Nat) (e kr : Nat) (R : Int → Int) (t : List ev_AC) (mk : Int64), ly_k n k a b → ly_rw A e kr R t → A.length + (ly_go K tn B lo hi k a b o).length ≤ 2097152 →
    ev_C g mO_decide (d + k + 4) [.ref 13, ev_i a, ev_i b, ev_i o] (oh L n tn P K B lo hi c0 q1 q2 q3 q4 q5 q6 kn (A.length : Nat) (kr + 14) mk t) (ly_ge e A.length (ly_go K tn B lo hi k a b o).length - e) (128 * 2 ^ ly_ge e A.length (ly_go K tn B lo hi k a b o).length - 128 * 2 ^ e)
      (ly_Q L n tn P K B lo hi c0 q1 q2 q3 q4 q5 q6 kn mk A e kr t (ly_go K tn B lo hi k a b o)) := by
  intro k
  induction k with
  | zero =>
    intro a b o A e kr R t mk hk hr hA
    have hb := ly_k_0 hk
    have hA : A.length + 1 ≤ 2097152 := hA
    refine ev_ofE (by decide +kernel) rfl (Nat.le_of_ble_eq_true rfl) rfl rfl ?_
    refine ev_iload_n dO_decide_0 rfl ?_
    refine ev_aload_n dO_decide_1 rfl ?_
    refine ev_get dO_decide_2 fl_O_9 rfl rfl ?_
    refine ev_get dO_decide_5 fl_O_35 rfl rfl ?_
    refine ev_icmp_le (tgt := 17) dO_decide_8 rfl (by omega) (by omega) (by omega) (by omega) (fun h8 => ?_) (fun h8 => ?_)
    · omega
    · refine ev_aload_n dO_decide_11 rfl ?_
      refine ev_iload_n dO_decide_12 rfl ?_
      refine ev_callV dO_decide_13 cv_O_40 rfl rfl (Nat.le_of_ble_eq_true rfl) (ct_keep hn0 hn hr hA) (Nat.le_refl _) (Nat.le_refl _) rfl (fun v h' q => ?_)
      have hv : v = none := Sum.inl.inj q.1
      subst hv
      refine ev_return dO_decide_16 rfl ?_
      exact q
  | succ k ih =>
    intro a b o A e kr R t mk hk hr hA
    have hbn := ly_k_s hk
    have hkn := ly_k_n hk
    obtain ⟨-, a0, ab, -, -⟩ := id hk
    -- the tail: from pc 59 on
    have tail : ∀ (la : Int) (a' b' : Int), a' = (if b ≤ a + 1 then 0 else a + 1) → b' = (if b ≤ a + 1 then b + 1 else b) →
        ev_E g false mO_decide (d + k + 4 + 1) 59 [some (.ref 13), some (ev_i a), some (ev_i b), some (ev_i o), some (ev_i la), some (ev_i a'), some (ev_i b'), none, none] [] (oh L n tn P K B lo hi c0 q1 q2 q3 q4 q5 q6 kn (A.length : Nat) (kr + 14) mk t) (ly_ge e A.length (ly_go K tn B lo hi (k + 1) a b o).length - e) (128 * 2 ^ ly_ge e A.length (ly_go K tn B lo hi (k + 1) a b o).length - 128 * 2 ^ e)
          (ly_Q L n tn P K B lo hi c0 q1 q2 q3 q4 q5 q6 kn mk A e kr t (ly_go K tn B lo hi (k + 1) a b o)) := by
      intro la a' b' ea eb
      rw [← ea, ← eb] at hkn
      refine ev_aload_n dO_decide_59 rfl ?_
      refine ev_get dO_decide_60 fl_O_9 rfl rfl ?_
      refine ev_iload_n dO_decide_63 rfl ?_
      refine ev_iload_n dO_decide_64 rfl ?_
      refine ev_cV dO_decide_65 cv_O_44 (ct_overlap a0 (by omega) (by omega) (by omega) (hl a a0 (by omega)) (hh a a0 (by omega)) (hl b (by omega) hbn) (hh b (by omega) hbn)) rfl rfl rfl (Nat.le_of_ble_eq_true rfl) (Nat.le_of_ble_eq_true rfl) (Nat.le_of_ble_eq_true rfl) ?_
      refine ev_bn (tgt := 81) dO_decide_68 rfl (fun hov => ?_) (fun hov => ?_)
      · have hgo : ly_go K tn B lo hi (k + 1) a b o = (if ly_ok K tn B lo hi o a b then ly_go K tn B lo hi k a' b' o else []) ++ (if ly_ok K tn B lo hi (o ||| 2 ^ ly_ix a b) a b then ly_go K tn B lo hi k a' b' (o ||| 2 ^ ly_ix a b) else []) := by
          rw [ly_go, ← ea, ← eb, if_pos (show ly_ov lo hi a b = true from hov)]
        rw [hgo] at hA ⊢
        have tryit : ∀ (o' : Nat) (ch : Int) (A1 : List Nat) (e1 kr1 : Nat) (R1 : Int → Int) (t1 : List ev_AC) (mk1 : Int64) (kc ks : Nat) (Q : ev_O → List ev_AC → Prop), ly_rw A1 e1 kr1 R1 t1 → A1.length + (if ly_ok K tn B lo hi o' a b then ly_go K tn B lo hi k a' b' o' else []).length ≤ 2097152 →
            ly_ge e1 A1.length (if ly_ok K tn B lo hi o' a b then ly_go K tn B lo hi k a' b' o' else []).length - e1 ≤ kc → 128 * 2 ^ ly_ge e1 A1.length (if ly_ok K tn B lo hi o' a b then ly_go K tn B lo hi k a' b' o' else []).length - 128 * 2 ^ e1 ≤ ks →
            (∀ (k' : Nat) (R' : Int → Int) (t' : List ev_AC), ly_rw (A1 ++ (if ly_ok K tn B lo hi o' a b then ly_go K tn B lo hi k a' b' o' else [])) (ly_ge e1 A1.length (if ly_ok K tn B lo hi o' a b then ly_go K tn B lo hi k a' b' o' else []).length) k' R' t' → ly_fr kr1 t1 k' t' →
              ev_E g false mO_decide (d + k + 4 + 1) 162 [some (.ref 13), some (ev_i a), some (ev_i b), some (ev_i o), some (ev_i la), some (ev_i a'), some (ev_i b'), some (ev_i ch), some (ev_i o')] [] (oh L n tn P K B lo hi c0 q1 q2 q3 q4 q5 q6 kn ((A1 ++ (if ly_ok K tn B lo hi o' a b then ly_go K tn B lo hi k a' b' o' else [])).length : Nat) (k' + 14) (ly_ms n mk1 (if ly_ok K tn B lo hi o' a b then ly_go K tn B lo hi k a' b' o' else [])) t') (kc - (ly_ge e1 A1.length (if ly_ok K tn B lo hi o' a b then ly_go K tn B lo hi k a' b' o' else []).length - e1)) (ks - (128 * 2 ^ ly_ge e1 A1.length (if ly_ok K tn B lo hi o' a b then ly_go K tn B lo hi k a' b' o' else []).length - 128 * 2 ^ e1)) Q) →
            ev_E g false mO_decide (d + k + 4 + 1) 108 [some (.ref 13), some (ev_i a), some (ev_i b), some (ev_i o), some (ev_i la), some (ev_i a'), some (ev_i b'), some (ev_i ch), some (ev_i o')] [] (oh L n tn P K B lo hi c0 q1 q2 q3 q4 q5 q6 kn (A1.length : Nat) (kr1 + 14) mk1 t1) kc ks Q := by
          intro o' ch A1 e1 kr1 R1 t1 mk1 kc ks Q hr1 hA1 hkc hks cont
          have miss : ly_ok K tn B lo hi o' a b = false → ev_E g false mO_decide (d + k + 4 + 1) 162 [some (.ref 13), some (ev_i a), some (ev_i b), some (ev_i o), some (ev_i la), some (ev_i a'), some (ev_i b'), some (ev_i ch), some (ev_i o')] [] (oh L n tn P K B lo hi c0 q1 q2 q3 q4 q5 q6 kn (A1.length : Nat) (kr1 + 14) mk1 t1) kc ks Q := by
            intro hno
            have c1 := cont kr1 R1 t1
            rw [hno, if_neg (by decide), List.append_nil] at c1
            refine ev_room ?_ ?_ (c1 hr1 (ly_fr_rf _ _)) <;> exact Nat.sub_le _ _
          refine ev_aload_n dO_decide_108 rfl ?_
          refine ev_iload dO_decide_109 rfl ?_
          refine ev_iload_n dO_decide_111 rfl ?_
          refine ev_iload_n dO_decide_112 rfl ?_
          refine ev_cV dO_decide_113 cv_O_52 (ct_keepsMark a0 ab hbn hn hK) rfl rfl rfl (Nat.le_of_ble_eq_true rfl) (Nat.zero_le _) (Nat.zero_le _) ?_
          refine ev_bz (tgt := 162) dO_decide_116 rfl (fun h1 => ?_) (fun h1 => ?_)
          · exact miss (by rw [ly_ok, h1]; rfl)
          · refine ev_aload_n dO_decide_119 rfl ?_
            refine ev_iload dO_decide_120 rfl ?_
            refine ev_iload_n dO_decide_122 rfl ?_
            refine ev_iload_n dO_decide_123 rfl ?_
            refine ev_cV dO_decide_124 cv_O_56 (ct_noRound a0 ab hbn hn hl hh) rfl rfl rfl (Nat.le_of_ble_eq_true rfl) (Nat.zero_le _) (Nat.zero_le _) ?_
            refine ev_bz (tgt := 162) dO_decide_127 rfl (fun h2 => ?_) (fun h2 => ?_)
            · exact miss (by rw [ly_ok, h1, h2]; rfl)
            · refine ev_aload_n dO_decide_130 rfl ?_
              refine ev_iload dO_decide_131 rfl ?_
              refine ev_iload_n dO_decide_133 rfl ?_
              refine ev_iload_n dO_decide_134 rfl ?_
              refine ev_cV dO_decide_135 cv_O_59 (ct_noCross a0 ab hbn hn hl hh hB) rfl rfl rfl (Nat.le_of_ble_eq_true rfl) (Nat.zero_le _) (Nat.zero_le _) ?_
              refine ev_bz (tgt := 162) dO_decide_138 rfl (fun h3 => ?_) (fun h3 => ?_)
              · exact miss (by rw [ly_ok, h1, h2, h3]; rfl)
              · refine ev_aload_n dO_decide_141 rfl ?_
                refine ev_iload dO_decide_142 rfl ?_
                refine ev_iload_n dO_decide_144 rfl ?_
                refine ev_iload_n dO_decide_145 rfl ?_
                refine ev_cV dO_decide_146 cv_O_62 (ct_nest a0 ab hbn hn hB) rfl rfl rfl (Nat.le_of_ble_eq_true rfl) (Nat.zero_le _) (Nat.zero_le _) ?_
                refine ev_bz (tgt := 162) dO_decide_149 rfl (fun h4 => ?_) (fun h4 => ?_)
                · exact miss (by rw [ly_ok, h1, h2, h3, h4]; rfl)
                · have hyes : ly_ok K tn B lo hi o' a b = true := by rw [ly_ok, h1, h2, h3, h4]; rfl
                  rw [hyes, if_pos rfl] at hA1 hkc hks cont
                  refine ev_aload_n dO_decide_152 rfl ?_
                  refine ev_iload dO_decide_153 rfl ?_
                  refine ev_iload dO_decide_155 rfl ?_
                  refine ev_iload dO_decide_157 rfl ?_
                  refine ev_callV dO_decide_159 cv_O_31 rfl rfl (Nat.le_of_ble_eq_true rfl) (ih a' b' o' A1 e1 kr1 R1 t1 mk1 hkn hr1 hA1) hkc hks rfl (fun v h' q => ?_)
                  obtain ⟨qv, k', R', t', qh, qr, qf⟩ := q
                  have hv : v = none := Sum.inl.inj qv
                  subst hv
                  subst qh
                  exact cont k' R' t' qr qf
        have hlen := List.length_append (as := (if ly_ok K tn B lo hi o a b then ly_go K tn B lo hi k a' b' o else [])) (bs := (if ly_ok K tn B lo hi (o ||| 2 ^ ly_ix a b) a b then ly_go K tn B lo hi k a' b' (o ||| 2 ^ ly_ix a b) else []))
        rw [hlen] at hA ⊢
        generalize hS0 : (if ly_ok K tn B lo hi o a b then ly_go K tn B lo hi k a' b' o else []) = S0 at *
        generalize hS1 : (if ly_ok K tn B lo hi (o ||| 2 ^ ly_ix a b) a b then ly_go K tn B lo hi k a' b' (o ||| 2 ^ ly_ix a b) else []) = S1 at *
        have hadd := ly_ge_add (e := e) (l := A.length) (a := S0.length) (b := S1.length)
        have hle0 := ly_ge_le (e := e) (l := A.length) (c := S0.length)
        have hle1 := ly_ge_le (e := ly_ge e A.length S0.length) (l := A.length + S0.length) (c := S1.length)
        have hp0 := Nat.pow_le_pow_right (n := 2) (by decide) hle0
        have hp1 := Nat.pow_le_pow_right (n := 2) (by decide) hle1
        rw [hadd]
        refine ev_iconst dO_decide_81 ?_
        refine ev_istore dO_decide_82 (Nat.le_of_ble_eq_true rfl) ?_
        refine ev_iload dO_decide_84 rfl ?_
        refine ev_iconst dO_decide_86 ?_
        refine ev_icmp_gt (tgt := 168) dO_decide_87 rfl (by omega) (by omega) (by omega) (by omega) (fun h87 => ?_) (fun h87 => ?_)
        · exact absurd h87 (by decide)
        · refine ev_iload dO_decide_90 rfl ?_
          refine ev_if_ne (tgt := 99) dO_decide_92 rfl (by omega) (by omega) (fun h92 => ?_) (fun h92 => ?_)
          · exact absurd rfl h92
          · refine ev_iload_n dO_decide_95 rfl ?_
            refine ev_goto (tgt := 106) dO_decide_96 rfl ?_
            refine ev_istore dO_decide_106 (Nat.le_of_ble_eq_true rfl) ?_
            have t0 := tryit o 0 A e kr R t mk (ly_ge (ly_ge e A.length S0.length) (A.length + S0.length) S1.length - e) (128 * 2 ^ ly_ge (ly_ge e A.length S0.length) (A.length + S0.length) S1.length - 128 * 2 ^ e) (ly_Q L n tn P K B lo hi c0 q1 q2 q3 q4 q5 q6 kn mk A e kr t (S0 ++ S1)) hr
            rw [hS0] at t0
            refine t0 (by omega) (by omega) (by omega) (fun k1 R1 t1 hr1 hf1 => ?_)
            refine ev_iinc dO_decide_162 rfl ?_
            refine ev_goto (tgt := 84) dO_decide_165 rfl ?_
            refine ev_iload dO_decide_84 rfl ?_
            refine ev_iconst dO_decide_86 ?_
            refine ev_icmp_gt (tgt := 168) dO_decide_87 rfl (by omega) (by omega) (by omega) (by omega) (fun h87' => ?_) (fun h87' => ?_)
            · exact absurd h87' (by decide)
            · refine ev_iload dO_decide_90 rfl ?_
              refine ev_if_ne (tgt := 99) dO_decide_92 rfl (by omega) (by omega) (fun h92' => ?_) (fun h92' => ?_)
              · refine ev_iload_n dO_decide_99 rfl ?_
                refine ev_iload_n dO_decide_100 rfl ?_
                refine ev_iload_n dO_decide_101 rfl ?_
                refine ev_cS dO_decide_102 cs_O_48 (ct_bit a0 (by omega) (by omega) (by omega)) rfl rfl (Nat.le_of_ble_eq_true rfl) (Nat.zero_le _) (Nat.zero_le _) ?_
                refine ev_or dO_decide_105 ?_
                refine ev_istore dO_decide_106 (Nat.le_of_ble_eq_true rfl) ?_
                have hl01 : (A ++ S0).length = A.length + S0.length := List.length_append
                have t1' := tryit (o ||| 2 ^ ly_ix a b) 1 (A ++ S0) (ly_ge e A.length S0.length) k1 R1 t1 (ly_ms n mk S0) (ly_ge (ly_ge e A.length S0.length) (A.length + S0.length) S1.length - ly_ge e A.length S0.length) (128 * 2 ^ ly_ge (ly_ge e A.length S0.length) (A.length + S0.length) S1.length - 128 * 2 ^ ly_ge e A.length S0.length) (ly_Q L n tn P K B lo hi c0 q1 q2 q3 q4 q5 q6 kn mk A e kr t (S0 ++ S1)) hr1
                rw [hS1] at t1'
                refine ev_room ?_ ?_ (t1' (by omega) (by rw [hl01]; omega) (by rw [hl01]; omega) (fun k2 R2 t2 hr2 hf2 => ?_))
                · show _ - _ ≤ _ - 0; omega
                · show _ - _ ≤ _ - 0; omega
                · refine ev_iinc dO_decide_162 rfl ?_
                  refine ev_goto (tgt := 84) dO_decide_165 rfl ?_
                  refine ev_iload dO_decide_84 rfl ?_
                  refine ev_iconst dO_decide_86 ?_
                  refine ev_icmp_gt (tgt := 168) dO_decide_87 rfl (by omega) (by omega) (by omega) (by omega) (fun h87'' => ?_) (fun h87'' => ?_)
                  · refine ev_return dO_decide_168 rfl ?_
                    refine ⟨rfl, k2, R2, t2, ?_, ?_, ly_fr_tr hf1 hf2⟩
                    · rw [List.append_assoc, ly_ms_app]
                    · rw [hlen, hadd, ← List.append_assoc, ← hl01]
                      exact hr2
                  · exact absurd h87'' (by decide)
              · exact absurd h92' (by decide)
      · have hgo : ly_go K tn B lo hi (k + 1) a b o = ly_go K tn B lo hi k a' b' o := by
          rw [ly_go, ← ea, ← eb, if_neg (by rw [ly_ov, hov]; decide)]
        rw [hgo] at hA ⊢
        refine ev_aload_n dO_decide_71 rfl ?_
        refine ev_iload dO_decide_72 rfl ?_
        refine ev_iload dO_decide_74 rfl ?_
        refine ev_iload_n dO_decide_76 rfl ?_
        refine ev_callV dO_decide_77 cv_O_31 rfl rfl (Nat.le_of_ble_eq_true rfl) (ih a' b' o A e kr R t mk hkn hr hA) (Nat.le_refl _) (Nat.le_refl _) rfl (fun v h' q => ?_)
        have hv : v = none := Sum.inl.inj q.1
        subst hv
        refine ev_return dO_decide_80 rfl ?_
        exact q
    refine ev_ofE (by decide +kernel) rfl (Nat.le_of_ble_eq_true rfl) rfl rfl ?_
    refine ev_iload_n dO_decide_0 rfl ?_
    refine ev_aload_n dO_decide_1 rfl ?_
    refine ev_get dO_decide_2 fl_O_9 rfl rfl ?_
    refine ev_get dO_decide_5 fl_O_35 rfl rfl ?_
    refine ev_icmp_le (tgt := 17) dO_decide_8 rfl (by omega) (by omega) (by omega) (by omega) (fun h8 => ?_) (fun h8 => ?_)
    · refine ev_iload_n dO_decide_17 rfl ?_
      refine ev_iconst dO_decide_18 ?_
      refine ev_iadd dO_decide_19 ?_
      refine ev_iload_n dO_decide_20 rfl ?_
      refine ev_icmp_lt (tgt := 28) dO_decide_21 rfl (by omega) (by omega) (by omega) (by omega) (fun h21 => ?_) (fun h21 => ?_)
      · refine ev_iconst dO_decide_28 ?_
        refine ev_istore dO_decide_29 (Nat.le_of_ble_eq_true rfl) ?_
        refine ev_iload dO_decide_31 rfl ?_
        refine ev_if_eq (tgt := 40) dO_decide_33 rfl (by omega) (by omega) (fun h33 => ?_) (fun h33 => ?_)
        · refine ev_iload_n dO_decide_40 rfl ?_
          refine ev_iconst dO_decide_41 ?_
          refine ev_iadd dO_decide_42 ?_
          refine ev_istore dO_decide_43 (Nat.le_of_ble_eq_true rfl) ?_
          refine ev_iload dO_decide_45 rfl ?_
          refine ev_if_eq (tgt := 56) dO_decide_47 rfl (by omega) (by omega) (fun h47 => ?_) (fun h47 => ?_)
          · refine ev_iload_n dO_decide_56 rfl ?_
            refine ev_istore dO_decide_57 (Nat.le_of_ble_eq_true rfl) ?_
            exact tail 0 (a + 1) b (by rw [if_neg (by omega)]) (by rw [if_neg (by omega)])
          · exact absurd rfl h47
        · exact absurd rfl h33
      · refine ev_iconst dO_decide_24 ?_
        refine ev_goto (tgt := 29) dO_decide_25 rfl ?_
        refine ev_istore dO_decide_29 (Nat.le_of_ble_eq_true rfl) ?_
        refine ev_iload dO_decide_31 rfl ?_
        refine ev_if_eq (tgt := 40) dO_decide_33 rfl (by omega) (by omega) (fun h33 => ?_) (fun h33 => ?_)
        · exact absurd h33 (by decide)
        · refine ev_iconst dO_decide_36 ?_
          refine ev_goto (tgt := 43) dO_decide_37 rfl ?_
          refine ev_istore dO_decide_43 (Nat.le_of_ble_eq_true rfl) ?_
          refine ev_iload dO_decide_45 rfl ?_
          refine ev_if_eq (tgt := 56) dO_decide_47 rfl (by omega) (by omega) (fun h47 => ?_) (fun h47 => ?_)
          · exact absurd h47 (by decide)
          · refine ev_iload_n dO_decide_50 rfl ?_
            refine ev_iconst dO_decide_51 ?_
            refine ev_iadd dO_decide_52 ?_
            refine ev_goto (tgt := 57) dO_decide_53 rfl ?_
            refine ev_istore dO_decide_57 (Nat.le_of_ble_eq_true rfl) ?_
            exact tail 1 0 (b + 1) (by rw [if_pos (by omega)]) (by rw [if_pos (by omega)])
    · omega
theorem ct_findAll (hn0 : 0 ≤ n) (hn : n ≤ 6) (hK : ∀ i, 0 ≤ i → i < n → 0 ≤ K i ∧ K i ≤ 2) (hl : ∀ i, 0 ≤ i → i ≤ n → -60 ≤ lo i ∧ lo i ≤ 60) (hh : ∀ i, 0 ≤ i → i ≤ n → -60 ≤ hi i ∧ hi i ≤ 60) (hB : ∀ i, 0 ≤ i → i ≤ n + 1 → -60 ≤ B i ∧ B i ≤ 60)
    {e kr : Nat} {R : Int → Int} {A : List Nat} {fo : Int} (hr : ly_rw A e kr R t) :
    ev_C g mO_findAll (d + 26) [.ref 13] (oh L n tn P K B lo hi c0 q1 q2 q3 q4 q5 q6 false fo (kr + 14) mk t) (ly_ge e 0 (ly_go K tn B lo hi ((n + 1) * n / 2).toNat 0 1 0).length - e) (128 * 2 ^ ly_ge e 0 (ly_go K tn B lo hi ((n + 1) * n / 2).toNat 0 1 0).length - 128 * 2 ^ e)
      (ly_Q L n tn P K B lo hi c0 q1 q2 q3 q4 q5 q6 true 0 [] e kr t (ly_go K tn B lo hi ((n + 1) * n / 2).toNat 0 1 0)) := by
  have hk : ly_k n ((n + 1) * n / 2).toNat 0 1 := by
    have h7 : n = 0 ∨ n = 1 ∨ n = 2 ∨ n = 3 ∨ n = 4 ∨ n = 5 ∨ n = 6 := by omega
    refine ⟨?_, by omega, by omega, by omega, fun _ => rfl⟩
    rcases h7 with rfl | rfl | rfl | rfl | rfl | rfl | rfl <;> decide
  have hk21 : ((n + 1) * n / 2).toNat ≤ 21 := by
    have h7 : n = 0 ∨ n = 1 ∨ n = 2 ∨ n = 3 ∨ n = 4 ∨ n = 5 ∨ n = 6 := by omega
    rcases h7 with rfl | rfl | rfl | rfl | rfl | rfl | rfl <;> decide
  generalize ((n + 1) * n / 2).toNat = k at *
  have hr0 : ly_rw [] e kr R t := ⟨hr.1, ⟨by simp, hr.2.1.2⟩, fun i x hx => by simp at hx⟩
  have hlen := ly_go_len (K := K) (tn := tn) (B := B) (lo := lo) (hi := hi) k 0 1 0
  have hp := Nat.pow_le_pow_right (n := 2) (by decide) hk21
  have hp2 : (2 : Nat) ^ 21 = 2097152 := by decide
  refine ev_ofE (by decide +kernel) rfl (Nat.le_of_ble_eq_true rfl) rfl rfl ?_
  refine ev_aload_n dO_findAll_0 rfl ?_
  refine ev_get dO_findAll_1 fl_O_19 rfl rfl ?_
  refine ev_bn (b := false) (tgt := 29) dO_findAll_4 rfl (fun hb => by cases hb) (fun _ => ?_)
  refine ev_aload_n dO_findAll_7 rfl ?_
  refine ev_iconst dO_findAll_8 ?_
  refine ev_put dO_findAll_9 fp_O_23 (fun q => by cases q) rfl (Nat.le_of_ble_eq_true rfl) rfl rfl ?_
  refine ev_aload_n dO_findAll_12 rfl ?_
  refine ev_lconst dO_findAll_13 ?_
  refine ev_put dO_findAll_14 fp_O_27 (fun q => by cases q) rfl (Nat.le_of_ble_eq_true rfl) rfl rfl ?_
  refine ev_aload_n dO_findAll_17 rfl ?_
  refine ev_iconst dO_findAll_18 ?_
  refine ev_iconst dO_findAll_19 ?_
  refine ev_iconst dO_findAll_20 ?_
  refine ev_deep (d' := (0 + k + 4) + 1) (by omega) ?_
  refine ev_callV dO_findAll_21 cv_O_31 rfl rfl (Nat.le_of_ble_eq_true rfl) (ct_decide (d := 0) (kn := false) hn0 hn hK hl hh hB k 0 1 0 [] e kr R t 0 hk hr0 (by show 0 + _ ≤ _; omega)) (Nat.le_refl _) (Nat.le_refl _) rfl (fun v h' q => ?_)
  obtain ⟨qv, k', R', t', qh, qr, qf⟩ := q
  have hv : v = none := Sum.inl.inj qv
  subst hv
  subst qh
  refine ev_aload_n dO_findAll_24 rfl ?_
  refine ev_iconst dO_findAll_25 ?_
  refine ev_put dO_findAll_26 fp_O_19 (fun q => by cases q) rfl (Nat.le_of_ble_eq_true rfl) (ev_nbz (by first | decide | exact ev_b01 _)) (ev_fbz (by first | decide | exact ev_b01 _)) ?_
  refine ev_return dO_findAll_29 rfl ?_
  exact ⟨rfl, k', R', t', rfl, qr, qf⟩
theorem ct_findKnown {fo : Int} {r : Nat} : ev_C g mO_findAll d [.ref 13] (oh L n tn P K B lo hi c0 q1 q2 q3 q4 q5 q6 true fo r mk t) 0 0 (ev_V none (oh L n tn P K B lo hi c0 q1 q2 q3 q4 q5 q6 true fo r mk t)) := by
  refine ev_ofE (by decide +kernel) rfl (Nat.le_of_ble_eq_true rfl) rfl rfl ?_
  refine ev_aload_n dO_findAll_0 rfl ?_
  refine ev_get dO_findAll_1 fl_O_19 rfl rfl ?_
  refine ev_bn (b := true) (tgt := 29) dO_findAll_4 rfl (fun _ => ?_) (fun hb => by cases hb)
  refine ev_return dO_findAll_29 rfl ?_
  exact ⟨rfl, rfl⟩
theorem ct_forget {fo : Int} {r : Nat} : ev_C g mO_forget d [.ref 13] (oh L n tn P K B lo hi c0 q1 q2 q3 q4 q5 q6 kn fo r mk t) 0 0 (ev_V none (oh L n tn P K B lo hi c0 q1 q2 q3 q4 q5 q6 false fo r mk t)) := by
  refine ev_ofE (by decide +kernel) rfl (Nat.le_of_ble_eq_true rfl) rfl rfl ?_
  refine ev_aload_n dO_forget_0 rfl ?_
  refine ev_iconst dO_forget_1 ?_
  refine ev_put dO_forget_2 fp_O_19 (fun q => by cases q) rfl (Nat.le_of_ble_eq_true rfl) (ev_nbz (by first | decide | exact ev_b01 _)) (ev_fbz (by first | decide | exact ev_b01 _)) ?_
  refine ev_return dO_forget_5 rfl ?_
  exact ⟨rfl, rfl⟩
theorem ct_Oinit : ev_C g mO_init (d + 1) [.ref 13, .ref 1] (pw L n tn P K B lo hi c0 [q1, q2, q3, q4, q5, q6, .inr (3, [.null, ev_i 0, ev_i 0, .null, .long 0])]) 1 64
    (ev_V none (oh L n tn P K B lo hi c0 q1 q2 q3 q4 q5 q6 false 0 14 0 [ev_ia 64 (fun _ => 0)])) := by
  refine ev_ofE (by decide +kernel) rfl (Nat.le_of_ble_eq_true rfl) rfl rfl ?_
  refine ev_aload_n dO_init_0 rfl ?_
  refine ev_obj dO_init_1 wm_O_3 wo_i wo_c (Nat.le_of_ble_eq_true rfl) ?_
  refine ev_aload_n dO_init_4 rfl ?_
  refine ev_aload_n dO_init_5 rfl ?_
  refine ev_put dO_init_6 fp_O_9 (fun _ => rfl) rfl (Nat.le_of_ble_eq_true rfl) rfl rfl ?_
  refine ev_aload_n dO_init_9 rfl ?_
  refine ev_bipush dO_init_10 rfl ?_
  refine ev_nI (n := 64) dO_init_12 rfl (by decide) ?_
  refine ev_put dO_init_14 fp_O_15 (fun q => by cases q) rfl (Nat.le_of_ble_eq_true rfl) rfl rfl ?_
  refine ev_return dO_init_17 rfl ?_
  exact ⟨rfl, rfl⟩
end LE
