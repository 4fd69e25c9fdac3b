/-! The reference: orders, above, layer -/
theorem wk_M_162 : Cond.constant RM 162 (Int32.ofInt 2147483647) ∈ ev_WS := ev_inD 58 rfl rfl
section RQ
variable {g : ev_G} {X : Bool} {M : ev_M} {d pc : Nat} {ls : List (Option Value)} {st : List Value} {h : List ev_AC} {kc ks : Nat} {Q : ev_O → List ev_AC → Prop}
theorem ev_ldc {i : Nat} {v : Int} (hd : decode M.2.1 pc = .ok (.ldc i, 2)) (hw : Cond.constant M.1.cls i (Int32.ofInt v) ∈ ev_WS) (k : ev_E g X M d (pc + 2) ls (ev_i v :: st) h kc ks Q) : ev_E g X M d pc ls st h kc ks Q :=
  fun p e R s m args below meth c H locs cells slots rls C => lv_ldc C.1.1 C.1.2.1 C.1.2.2.2.1 (C.1.2.2.2.2.1 _ hw) hd (k p e R s m args below meth c H locs cells slots rls C)
end RQ
theorem ly_nth_of {s : SG} {N : Int} {x : Nat} (h : (ly_all s)[N.toNat]? = some x) : ly_nth s N = x := by
  unfold ly_nth
  rw [h]
  rfl
theorem ly_len_of {s : SG} {N : Int} {x : Nat} (N0 : 0 ≤ N) (h : (ly_all s)[N.toNat]? = some x) : N < ((ly_all s).length : Nat) := by
  have : N.toNat < (ly_all s).length := (List.getElem?_eq_some_iff.mp h).1
  omega
/-- how many lie below s over the place q, as the reference counts -/
def mu_n (lo hi : Int → Int) (f : Int → Int) (s q : Int) : Nat → Int
  | 0 => 0
  | k + 1 => mu_n lo hi f s q k + (if (lo s ≤ q ∧ q < hi s) ∧ (lo k ≤ q ∧ q < hi k) ∧ f (7 * s + k) = 1 then 1 else 0)
theorem mu_bw {lo hi : Int → Int} {n : Int} {x : Nat} {f : Int → Int} (hS : lk_S lo hi n x 0 (n + 1) f) {s q : Int} (s0 : 0 ≤ s) (s1 : s ≤ n) (hc : lo s ≤ q ∧ q < hi s) : ∀ k : Nat, (k : Int) ≤ n + 1 → mu_n lo hi f s q k = ly_bw lo hi x s q k
  | 0, _ => rfl
  | k + 1, hk => by
    have ih := mu_bw hS s0 s1 hc k (by omega)
    unfold mu_n ly_bw
    rw [ih]
    congr 1
    by_cases hs : (k : Int) = s
    · rw [if_neg, if_neg (fun q => q.1 hs)]
      rintro ⟨-, -, q⟩
      rw [hs, hS.2.1 s s0 s1] at q
      exact absurd q (by decide)
    · by_cases hq : lo k ≤ q ∧ q < hi k
      · have ho : ly_ov lo hi s k = true := ly_ov_iff.mpr (by omega)
        have hv := (hS.1 s k s0 s1 (by omega) (by omega) (fun r => hs r.symm)).2.1 ho (by unfold lk_dc; omega)
        rw [hv]
        cases hab : ly_ab x s k
        · rw [if_neg (fun r => absurd r.2.2 (by decide)), if_neg (fun r => by cases r.2.2)]
        · rw [if_pos ⟨hc, hq, rfl⟩, if_pos ⟨hs, hq, rfl⟩]
      · rw [if_neg (fun r => hq r.2.1), if_neg (fun r => hq r.2.1)]
theorem mu_bd {lo hi : Int → Int} {f : Int → Int} {s q : Int} : ∀ k : Nat, 0 ≤ mu_n lo hi f s q k ∧ mu_n lo hi f s q k ≤ k
  | 0 => ⟨Int.le_refl _, Int.le_refl _⟩
  | k + 1 => by
    have ih := mu_bd (lo := lo) (hi := hi) (f := f) (s := s) (q := q) k
    unfold mu_n
    split <;> push_cast <;> omega
section RQ2
variable {g : ev_G} {d : Nat} {c : Nat → ev_AC} {h : List ev_AC} {th L n : Int} {tn : Bool} {P K S : Int → Int} {ty : Int} {z : MZ} {y : MY} {t : List ev_AC} {N : Int}
theorem ct_Morders (ok : sp_ok L n P K) : ev_C g mM_orders (d + 5) [.ref 16] (MH c th L n tn P K S ty z y t) 0 0
    (fun o h' => o = .inl (some (ev_i ((ly_all (L, n, tn, P, K)).length : Nat))) ∧ ∃ z', h' = MH c 0 L n tn P K S ty z' y t) := by
  have hlen := ly_all_len (s := (L, n, tn, P, K)) ok
  refine ev_ofE (by decide +kernel) rfl (Nat.le_of_ble_eq_true rfl) rfl rfl ?_
  refine ev_aload_n dM_orders_0 rfl ?_
  refine ev_iconst dM_orders_1 ?_
  refine ev_put dM_orders_2 fp_M_56 (fun q => by cases q) rfl (Nat.le_of_ble_eq_true rfl) rfl rfl ?_
  refine ev_aload_n dM_orders_5 rfl ?_
  refine ev_ldc (v := 2147483647) dM_orders_6 wk_M_162 ?_
  refine ev_callV dM_orders_8 cv_M_163 rfl rfl (Nat.le_of_ble_eq_true rfl) (ct_Mlook (d := d) (th := 0) (N := 2147483647) (by decide) (by decide) ok) (Nat.le_refl _) (Nat.le_refl _) rfl (fun v h' q => ?_)
  rcases q with ⟨-, x, z', hx, -⟩ | ⟨-, z', qv, rfl, hf⟩
  · exfalso
    have : (2147483647 : Int).toNat < (ly_all (L, n, tn, P, K)).length := (List.getElem?_eq_some_iff.mp hx).1
    omega
  · cases Sum.inl.inj qv
    refine ev_istore_n dM_orders_11 (Nat.le_of_ble_eq_true rfl) ?_
    refine ev_aload_n dM_orders_12 rfl ?_
    refine ev_get dM_orders_13 fl_M_155 rfl rfl ?_
    refine ev_ireturn dM_orders_16 rfl ?_
    exact ⟨by rw [hf (by decide)], z', rfl⟩
theorem ct_Mabove {a b : Int} (N1 : -2147483648 ≤ N) (N2 : N < 2147483648) (a1 : -2147483648 ≤ a) (a2 : a < 2147483648) (b1 : -2147483648 ≤ b) (b2 : b < 2147483648) (ok : sp_ok L n P K) : ev_C g mM_above (d + 5) [.ref 16, ev_i N, ev_i a, ev_i b] (MH c th L n tn P K S ty z y t) 0 0
    (fun o h' => o = .inl (some (ev_i (mo_v (lb_above (L, n, tn, P, K) N a b)))) ∧ ∃ z', h' = MH c (mo_c cd_O (lb_above (L, n, tn, P, K) N a b)) L n tn P K S ty z' y t) := by
  have hn0 := ok.2.2.1
  have hn := ok.2.2.2.1
  refine ev_ofE (by decide +kernel) rfl (Nat.le_of_ble_eq_true rfl) rfl rfl ?_
  have bad : ∀ (z : MZ) (o4 : Option Value), lb_above (L, n, tn, P, K) N a b = .inr 7 → ev_E g false mM_above (d + 5) 45 [some (.ref 16), some (ev_i N), some (ev_i a), some (ev_i b), o4] [.ref 16] (MH c th L n tn P K S ty z y t) 0 0 (fun o h' => o = .inl (some (ev_i (mo_v (lb_above (L, n, tn, P, K) N a b)))) ∧ ∃ z', h' = MH c (mo_c cd_O (lb_above (L, n, tn, P, K) N a b)) L n tn P K S ty z' y t) := by
    intro z o4 e
    rw [e]
    refine ev_iconst dM_above_45 ?_
    refine ev_goto (tgt := 50) dM_above_46 rfl ?_
    refine ev_iconst dM_above_50 ?_
    refine ev_cV dM_above_51 cv_M_59 (ct_Mref1) rfl rfl rfl (Nat.le_of_ble_eq_true rfl) (Nat.le_of_ble_eq_true rfl) (Nat.le_of_ble_eq_true rfl) ?_
    refine ev_if_eq (tgt := 59) dM_above_54 rfl (by omega) (by omega) (fun h3 => ?_) (fun h3 => ?_)
    · omega
    · refine ev_iconst dM_above_57 ?_
      refine ev_ireturn dM_above_58 rfl ?_
      exact ⟨rfl, z, rfl⟩
  have no : ¬ ((0 ≤ a ∧ a ≤ n) ∧ (0 ≤ b ∧ b ≤ n)) → ev_E g false mM_above (d + 5) 28 [some (.ref 16), some (ev_i N), some (ev_i a), some (ev_i b), none] [] (MH c th L n tn P K S ty z y t) 0 0 (fun o h' => o = .inl (some (ev_i (mo_v (lb_above (L, n, tn, P, K) N a b)))) ∧ ∃ z', h' = MH c (mo_c cd_O (lb_above (L, n, tn, P, K) N a b)) L n tn P K S ty z' y t) := by
    intro q
    refine ev_iconst dM_above_28 ?_
    refine ev_istore dM_above_29 (Nat.le_of_ble_eq_true rfl) ?_
    refine ev_aload_n dM_above_31 rfl ?_
    refine ev_iload dM_above_32 rfl ?_
    refine ev_if_eq (tgt := 45) dM_above_34 rfl (by omega) (by omega) (fun h3 => ?_) (fun h3 => ?_)
    · refine bad z _ (if_pos ?_)
      by_cases qa : 0 ≤ a ∧ a ≤ n
      · exact Or.inr (Or.inr (Or.inr (fun r => q ⟨qa, r⟩)))
      · exact Or.inr (Or.inr (Or.inl qa))
    · omega
  refine ev_iload_n dM_above_0 rfl ?_
  refine ev_if_lt (tgt := 28) dM_above_1 rfl (by omega) (by omega) (fun g1 => ?_) (fun g1 => ?_)
  · exact no (by omega)
  · refine ev_iload_n dM_above_4 rfl ?_
    refine ev_aload_n dM_above_5 rfl ?_
    refine ev_get dM_above_6 fl_M_63 rfl rfl ?_
    refine ev_icmp_gt (tgt := 28) dM_above_9 rfl (by omega) (by omega) (by omega) (by omega) (fun g2 => ?_) (fun g2 => ?_)
    · exact no (by omega)
    · refine ev_iload_n dM_above_12 rfl ?_
      refine ev_if_lt (tgt := 28) dM_above_13 rfl (by omega) (by omega) (fun g3 => ?_) (fun g3 => ?_)
      · exact no (by omega)
      · refine ev_iload_n dM_above_16 rfl ?_
        refine ev_aload_n dM_above_17 rfl ?_
        refine ev_get dM_above_18 fl_M_63 rfl rfl ?_
        refine ev_icmp_gt (tgt := 28) dM_above_21 rfl (by omega) (by omega) (by omega) (by omega) (fun g4 => ?_) (fun g4 => ?_)
        · exact no (by omega)
        · refine ev_iconst dM_above_24 ?_
          refine ev_goto (tgt := 29) dM_above_25 rfl ?_
          refine ev_istore dM_above_29 (Nat.le_of_ble_eq_true rfl) ?_
          refine ev_aload_n dM_above_31 rfl ?_
          refine ev_iload dM_above_32 rfl ?_
          refine ev_if_eq (tgt := 45) dM_above_34 rfl (by omega) (by omega) (fun g5 => ?_) (fun g5 => ?_)
          · omega
          · refine ev_aload_n dM_above_37 rfl ?_
            refine ev_iload_n dM_above_38 rfl ?_
            refine ev_callV dM_above_39 cv_M_163 rfl rfl (Nat.le_of_ble_eq_true rfl) (ct_Mlook (d := d) (th := th) (N := N) N1 N2 ok) (Nat.le_refl _) (Nat.le_refl _) rfl (fun v h' q => ?_)
            rcases q with ⟨N0, x, z', hx, qv, rfl, hS⟩ | ⟨hN, z', qv, rfl, -⟩
            · cases Sum.inl.inj qv
              have hlt := ly_len_of N0 hx
              have e1 : lb_above (L, n, tn, P, K) N a b = .inl (z'.1 (7 * a + b)) := by
                unfold lb_above
                rw [if_neg (by show ¬ (N < 0 ∨ (((ly_all (L, n, tn, P, K)).length : Nat) : Int) ≤ N ∨ ¬ (0 ≤ a ∧ a ≤ n) ∨ ¬ (0 ≤ b ∧ b ≤ n)); omega), ly_nth_of hx]
                show (if a = b ∨ ¬ (ly_ov (sp_lo L n P) (sp_hi L n P) a b = true) then (Sum.inl (-1) : Int ⊕ Nat) else .inl (ev_b (ly_ab x a b))) = _
                by_cases hab : a = b
                · rw [if_pos (Or.inl hab), ← hab, hS.2.1 a g1 g2]
                · cases ho : ly_ov (sp_lo L n P) (sp_hi L n P) a b
                  · rw [if_pos (Or.inr (by decide)), (hS.1 a b g1 g2 g3 g4 hab).1 ho]
                  · rw [if_neg (by rintro (r | r); exact hab r; exact r rfl), (hS.1 a b g1 g2 g3 g4 hab).2.1 ho (by unfold lk_dc; omega)]
              rw [e1]
              refine ev_if_ne (tgt := 49) dM_above_42 rfl (by omega) (by omega) (fun g6 => ?_) (fun g6 => ?_)
              · refine ev_iconst dM_above_49 ?_
                refine ev_iconst dM_above_50 ?_
                refine ev_cV dM_above_51 cv_M_59 (ct_Mref0) rfl rfl rfl (Nat.le_of_ble_eq_true rfl) (Nat.le_of_ble_eq_true rfl) (Nat.le_of_ble_eq_true rfl) ?_
                refine ev_if_eq (tgt := 59) dM_above_54 rfl (by omega) (by omega) (fun g7 => ?_) (fun g7 => ?_)
                · refine ev_aload_n dM_above_59 rfl ?_
                  refine ev_iload_n dM_above_60 rfl ?_
                  refine ev_iload_n dM_above_61 rfl ?_
                  refine ev_cV dM_above_62 cv_M_124 (ct_Mget (z := z') (th := 0) g1 (by omega) g3 (by omega)) rfl rfl rfl (Nat.le_of_ble_eq_true rfl) (Nat.le_of_ble_eq_true rfl) (Nat.le_of_ble_eq_true rfl) ?_
                  refine ev_ireturn dM_above_65 rfl ?_
                  exact ⟨rfl, z', rfl⟩
                · omega
              · omega
            · cases Sum.inl.inj qv
              refine ev_if_ne (tgt := 49) dM_above_42 rfl (by omega) (by omega) (fun g6 => ?_) (fun g6 => ?_)
              · omega
              · exact bad z' _ (if_pos (by rcases hN with r | r; exact Or.inl r; exact Or.inr (Or.inl r)))
theorem ct_Mlayer {q w : Int} (N1 : -2147483648 ≤ N) (N2 : N < 2147483648) (q1 : -2147483648 ≤ q) (q2 : q < 2147483648) (w1 : -2147483648 ≤ w) (w2 : w < 2147483648) (ok : sp_ok L n P K) : ev_C g mM_layer (d + 5) [.ref 16, ev_i N, ev_i q, ev_i w] (MH c th L n tn P K S ty z y t) 0 0
    (fun o h' => o = .inl (some (ev_i (mo_v (lb_layer (L, n, tn, P, K) N q w)))) ∧ ∃ z', h' = MH c (mo_c cd_O (lb_layer (L, n, tn, P, K) N q w)) L n tn P K S ty z' y t) := by
  have hn0 := ok.2.2.1
  have hn := ok.2.2.2.1
  refine ev_ofE (by decide +kernel) rfl (Nat.le_of_ble_eq_true rfl) rfl rfl ?_
  refine ev_aload_n dM_layer_0 rfl ?_
  refine ev_aload_n dM_layer_1 rfl ?_
  refine ev_iload_n dM_layer_2 rfl ?_
  refine ev_callV dM_layer_3 cv_M_163 rfl rfl (Nat.le_of_ble_eq_true rfl) (ct_Mlook (d := d) (th := th) (N := N) N1 N2 ok) (Nat.le_refl _) (Nat.le_refl _) rfl (fun v h' r => ?_)
  rcases r with ⟨N0, x, z', hx, qv, rfl, hS⟩ | ⟨hN, z', qv, rfl, -⟩
  · cases Sum.inl.inj qv
    have hlt := ly_len_of N0 hx
    have e1 : lb_layer (L, n, tn, P, K) N q w = .inl (ly_sgN n (sp_lo L n P) (sp_hi L n P) x q w (n + 1).toNat 0) := by
      unfold lb_layer
      rw [if_neg (by show ¬ (N < 0 ∨ (((ly_all (L, n, tn, P, K)).length : Nat) : Int) ≤ N); omega), ly_nth_of hx]
    rw [e1]
    have inner : ∀ (Q : ev_O → List ev_AC → Prop) (s : Int), 0 ≤ s → s ≤ n →
        ev_E g false mM_layer (d + 5) 98 [some (.ref 16), some (ev_i N), some (ev_i q), some (ev_i w), some (ev_i s), some (ev_i (mu_n (sp_lo L n P) (sp_hi L n P) z'.1 s q (n + 1).toNat)), some (ev_i (n + 1))] [] (MH c 0 L n tn P K S ty z' y t) 0 0 Q →
        ∀ (k i : Nat), (i : Int) + k = n + 1 → ev_E g false mM_layer (d + 5) 41 [some (.ref 16), some (ev_i N), some (ev_i q), some (ev_i w), some (ev_i s), some (ev_i (mu_n (sp_lo L n P) (sp_hi L n P) z'.1 s q i)), some (ev_i i)] [] (MH c 0 L n tn P K S ty z' y t) 0 0 Q := by
      intro Q s s0 s1 cont k
      induction k with
      | zero =>
        intro i hk
        refine ev_iload dM_layer_41 rfl ?_
        refine ev_aload_n dM_layer_43 rfl ?_
        refine ev_get dM_layer_44 fl_M_63 rfl rfl ?_
        refine ev_icmp_gt (tgt := 98) dM_layer_47 rfl (by omega) (by omega) (by omega) (by omega) (fun g1 => ?_) (fun g1 => ?_)
        · rw [show (n + 1).toNat = i by omega, show n + 1 = (i : Int) by omega] at cont
          exact cont
        · omega
      | succ k ih =>
        intro i hk
        have := ih (i + 1) (by omega)
        have hv := hS.2.2 (7 * s + i) (by omega) (by omega)
        refine ev_iload dM_layer_41 rfl ?_
        refine ev_aload_n dM_layer_43 rfl ?_
        refine ev_get dM_layer_44 fl_M_63 rfl rfl ?_
        refine ev_icmp_gt (tgt := 98) dM_layer_47 rfl (by omega) (by omega) (by omega) (by omega) (fun g1 => ?_) (fun g1 => ?_)
        · omega
        · refine ev_iload dM_layer_50 rfl ?_
          refine ev_aload_n dM_layer_52 rfl ?_
          refine ev_iload dM_layer_53 rfl ?_
          refine ev_iload_n dM_layer_55 rfl ?_
          refine ev_cV dM_layer_56 cv_M_100 (ct_Mcovers (th := 0) (z := z') ok s0 s1 q1 q2) rfl rfl rfl (Nat.le_of_ble_eq_true rfl) (Nat.le_of_ble_eq_true rfl) (Nat.le_of_ble_eq_true rfl) ?_
          refine ev_bz (tgt := 88) dM_layer_59 rfl (fun g2 => ?_) (fun g2 => ?_)
          · rw [mu_n, if_neg (fun r => (of_decide_eq_false g2) r.1)] at this
            refine ev_iconst dM_layer_88 ?_
            refine ev_iadd dM_layer_89 ?_
            refine ev_istore dM_layer_90 (Nat.le_of_ble_eq_true rfl) ?_
            refine ev_iinc dM_layer_92 rfl ?_
            refine ev_goto (tgt := 41) dM_layer_95 rfl ?_
            exact this
          · refine ev_aload_n dM_layer_62 rfl ?_
            refine ev_iload dM_layer_63 rfl ?_
            refine ev_iload_n dM_layer_65 rfl ?_
            refine ev_cV dM_layer_66 cv_M_100 (ct_Mcovers (th := 0) (z := z') ok (by omega) g1 q1 q2) rfl rfl rfl (Nat.le_of_ble_eq_true rfl) (Nat.le_of_ble_eq_true rfl) (Nat.le_of_ble_eq_true rfl) ?_
            refine ev_bz (tgt := 88) dM_layer_69 rfl (fun g3 => ?_) (fun g3 => ?_)
            · rw [mu_n, if_neg (fun r => (of_decide_eq_false g3) r.2.1)] at this
              refine ev_iconst dM_layer_88 ?_
              refine ev_iadd dM_layer_89 ?_
              refine ev_istore dM_layer_90 (Nat.le_of_ble_eq_true rfl) ?_
              refine ev_iinc dM_layer_92 rfl ?_
              refine ev_goto (tgt := 41) dM_layer_95 rfl ?_
              exact this
            · refine ev_aload_n dM_layer_72 rfl ?_
              refine ev_iload dM_layer_73 rfl ?_
              refine ev_iload dM_layer_75 rfl ?_
              refine ev_cV dM_layer_77 cv_M_124 (ct_Mget (z := z') (th := 0) s0 (by omega) (by omega) (by omega)) rfl rfl rfl (Nat.le_of_ble_eq_true rfl) (Nat.le_of_ble_eq_true rfl) (Nat.le_of_ble_eq_true rfl) ?_
              refine ev_iconst dM_layer_80 ?_
              refine ev_icmp_ne (tgt := 88) dM_layer_81 rfl (by omega) (by omega) (by omega) (by omega) (fun g4 => ?_) (fun g4 => ?_)
              · rw [mu_n, if_neg (fun r => g4 r.2.2)] at this
                refine ev_iconst dM_layer_88 ?_
                refine ev_iadd dM_layer_89 ?_
                refine ev_istore dM_layer_90 (Nat.le_of_ble_eq_true rfl) ?_
                refine ev_iinc dM_layer_92 rfl ?_
                refine ev_goto (tgt := 41) dM_layer_95 rfl ?_
                exact this
              · rw [mu_n, if_pos ⟨of_decide_eq_true g2, of_decide_eq_true g3, g4⟩] at this
                refine ev_iconst dM_layer_84 ?_
                refine ev_goto (tgt := 89) dM_layer_85 rfl ?_
                refine ev_iadd dM_layer_89 ?_
                refine ev_istore dM_layer_90 (Nat.le_of_ble_eq_true rfl) ?_
                refine ev_iinc dM_layer_92 rfl ?_
                refine ev_goto (tgt := 41) dM_layer_95 rfl ?_
                exact this
    have outer : ∀ (k : Nat) (s : Int) (o5 o6 : Option Value), 0 ≤ s → s + k = n + 1 → ev_E g false mM_layer (d + 5) 26 [some (.ref 16), some (ev_i N), some (ev_i q), some (ev_i w), some (ev_i s), o5, o6] [] (MH c 0 L n tn P K S ty z' y t) 0 0
        (fun o h' => o = .inl (some (ev_i (ly_sgN n (sp_lo L n P) (sp_hi L n P) x q w k s))) ∧ ∃ z', h' = MH c 0 L n tn P K S ty z' y t) := by
      intro k
      induction k with
      | zero =>
        intro s o5 o6 s0 hk
        refine ev_iload dM_layer_26 rfl ?_
        refine ev_aload_n dM_layer_28 rfl ?_
        refine ev_get dM_layer_29 fl_M_63 rfl rfl ?_
        refine ev_icmp_gt (tgt := 123) dM_layer_32 rfl (by omega) (by omega) (by omega) (by omega) (fun g1 => ?_) (fun g1 => ?_)
        · refine ev_iconst dM_layer_123 ?_
          refine ev_ireturn dM_layer_124 rfl ?_
          exact ⟨rfl, z', rfl⟩
        · omega
      | succ k ih =>
        intro s o5 o6 s0 hk
        have hmu := mu_bd (lo := sp_lo L n P) (hi := sp_hi L n P) (f := z'.1) (s := s) (q := q) (n + 1).toNat
        unfold ly_sgN
        refine ev_iload dM_layer_26 rfl ?_
        refine ev_aload_n dM_layer_28 rfl ?_
        refine ev_get dM_layer_29 fl_M_63 rfl rfl ?_
        refine ev_icmp_gt (tgt := 123) dM_layer_32 rfl (by omega) (by omega) (by omega) (by omega) (fun g1 => ?_) (fun g1 => ?_)
        · omega
        · refine ev_iconst dM_layer_35 ?_
          refine ev_istore dM_layer_36 (Nat.le_of_ble_eq_true rfl) ?_
          refine ev_iconst dM_layer_38 ?_
          refine ev_istore dM_layer_39 (Nat.le_of_ble_eq_true rfl) ?_
          refine inner _ s s0 g1 ?_ (n + 1).toNat 0 (by omega)
          refine ev_aload_n dM_layer_98 rfl ?_
          refine ev_iload dM_layer_99 rfl ?_
          refine ev_iload_n dM_layer_101 rfl ?_
          refine ev_cV dM_layer_102 cv_M_100 (ct_Mcovers (th := 0) (z := z') ok s0 g1 q1 q2) rfl rfl rfl (Nat.le_of_ble_eq_true rfl) (Nat.le_of_ble_eq_true rfl) (Nat.le_of_ble_eq_true rfl) ?_
          refine ev_bz (tgt := 117) dM_layer_105 rfl (fun g2 => ?_) (fun g2 => ?_)
          · rw [if_neg (fun r => (of_decide_eq_false g2) r.1)]
            refine ev_iinc dM_layer_117 rfl ?_
            refine ev_goto (tgt := 26) dM_layer_120 rfl ?_
            exact ih (s + 1) _ _ (by omega) (by omega)
          · have hc := of_decide_eq_true g2
            have hbw := mu_bw hS s0 g1 hc (n + 1).toNat (by omega)
            refine ev_iload dM_layer_108 rfl ?_
            refine ev_iload_n dM_layer_110 rfl ?_
            refine ev_icmp_ne (tgt := 117) dM_layer_111 rfl (by omega) (by omega) (by omega) (by omega) (fun g3 => ?_) (fun g3 => ?_)
            · rw [if_neg (fun r => g3 (by rw [hbw]; exact r.2))]
              refine ev_iinc dM_layer_117 rfl ?_
              refine ev_goto (tgt := 26) dM_layer_120 rfl ?_
              exact ih (s + 1) _ _ (by omega) (by omega)
            · rw [if_pos ⟨hc, by rw [← hbw]; exact g3⟩]
              refine ev_iload dM_layer_114 rfl ?_
              refine ev_ireturn dM_layer_116 rfl ?_
              exact ⟨rfl, z', rfl⟩
    refine ev_if_ne (tgt := 13) dM_layer_6 rfl (by omega) (by omega) (fun g1 => ?_) (fun g1 => ?_)
    · refine ev_iconst dM_layer_13 ?_
      refine ev_iconst dM_layer_14 ?_
      refine ev_cV dM_layer_15 cv_M_59 (ct_Mref0) rfl rfl rfl (Nat.le_of_ble_eq_true rfl) (Nat.le_of_ble_eq_true rfl) (Nat.le_of_ble_eq_true rfl) ?_
      refine ev_if_eq (tgt := 23) dM_layer_18 rfl (by omega) (by omega) (fun g2 => ?_) (fun g2 => ?_)
      · refine ev_iconst dM_layer_23 ?_
        refine ev_istore dM_layer_24 (Nat.le_of_ble_eq_true rfl) ?_
        exact outer (n + 1).toNat 0 none none (by omega) (by omega)
      · omega
    · omega
  · cases Sum.inl.inj qv
    have e1 : lb_layer (L, n, tn, P, K) N q w = .inr 7 := if_pos hN
    rw [e1]
    refine ev_if_ne (tgt := 13) dM_layer_6 rfl (by omega) (by omega) (fun g1 => ?_) (fun g1 => ?_)
    · omega
    · refine ev_iconst dM_layer_9 ?_
      refine ev_goto (tgt := 14) dM_layer_10 rfl ?_
      refine ev_iconst dM_layer_14 ?_
      refine ev_cV dM_layer_15 cv_M_59 (ct_Mref1) rfl rfl rfl (Nat.le_of_ble_eq_true rfl) (Nat.le_of_ble_eq_true rfl) (Nat.le_of_ble_eq_true rfl) ?_
      refine ev_if_eq (tgt := 23) dM_layer_18 rfl (by omega) (by omega) (fun g2 => ?_) (fun g2 => ?_)
      · omega
      · refine ev_iconst dM_layer_21 ?_
        refine ev_ireturn dM_layer_22 rfl ?_
        exact ⟨rfl, z', rfl⟩
end RQ2
