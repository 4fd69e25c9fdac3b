/-! The reference: begin -/
theorem lk_rem_y {lo hi : Int → Int} {k : Nat} {a b : Int} (h : ly_ov lo hi a b = true) : lk_rem lo hi (k + 1) a b = (a, b) :: lk_rem lo hi k (if b ≤ a + 1 then 0 else a + 1) (if b ≤ a + 1 then b + 1 else b) := by
  show (if ly_ov lo hi a b then [(a, b)] else []) ++ lk_rem lo hi k (if b ≤ a + 1 then 0 else a + 1) (if b ≤ a + 1 then b + 1 else b) = _
  rw [if_pos h]
  rfl
theorem lk_rem_n {lo hi : Int → Int} {k : Nat} {a b : Int} (h : ly_ov lo hi a b = false) : lk_rem lo hi (k + 1) a b = lk_rem lo hi k (if b ≤ a + 1 then 0 else a + 1) (if b ≤ a + 1 then b + 1 else b) := by
  show (if ly_ov lo hi a b then [(a, b)] else []) ++ lk_rem lo hi k (if b ≤ a + 1 then 0 else a + 1) (if b ≤ a + 1 then b + 1 else b) = _
  rw [h, if_neg (by decide)]
  rfl
def lk_PL (z : MZ) (R : List (Int × Int)) : Prop := ∀ (i : Nat) (p : Int × Int), R[i]? = some p → z.2.1 i = p.1 ∧ z.2.2.1 i = p.2
/-- the table while it is begun: the pairs before (a, b) that overlap are open -/
def lk_b (lo hi : Int → Int) (n a b : Int) (f : Int → Int) : Prop := (∀ u v, 0 ≤ u → u ≤ n → 0 ≤ v → v ≤ n → u ≠ v → (ly_ov lo hi u v = true ∧ lk_dc a b u v → f (7 * u + v) = -2) ∧ (¬ (ly_ov lo hi u v = true ∧ lk_dc a b u v) → f (7 * u + v) = -1)) ∧
  (∀ x, 0 ≤ x → x ≤ n → f (7 * x + x) = -1) ∧ ∀ i, 0 ≤ i → i < 49 → -2 ≤ f i ∧ f i ≤ 1
theorem lk_b_end {lo hi : Int → Int} {n : Int} {f : Int → Int} (h : lk_b lo hi n 0 (n + 1) f) : lk_S lo hi n 0 0 1 f := by
  refine ⟨fun u v u0 u1 v0 v1 huv => ?_, h.2⟩
  have h1 := h.1 u v u0 u1 v0 v1 huv
  refine ⟨fun q => h1.2 (fun r => (by rw [q] at r; cases r.1)), fun _ q => ?_, fun q _ => h1.1 ⟨q, by unfold lk_dc; omega⟩⟩
  exfalso
  unfold lk_dc at q
  omega
theorem lk_b_put {lo hi : Int → Int} {n a b : Int} {f : Int → Int} (hn : n ≤ 6) (a0 : 0 ≤ a) (ab : a < b) (bn : b ≤ n) (ho : ly_ov lo hi a b = true) (h : lk_b lo hi n a b f) :
    lk_b lo hi n (if b ≤ a + 1 then 0 else a + 1) (if b ≤ a + 1 then b + 1 else b) (lk_set f a b (-2)) := by
  refine ⟨fun u w u0 u1 w0 w1 huw => ?_, lk_set_S hn a0 ab bn (by decide) (by decide) h.2⟩
  rw [lk_dc_n a0 ab u0 w0 huw]
  have h1 := h.1 u w u0 u1 w0 w1 huw
  by_cases q1 : u = a ∧ w = b
  · obtain ⟨rfl, rfl⟩ := q1
    rw [lk_set_ab (by omega)]
    exact ⟨fun _ => rfl, fun q => absurd ⟨ho, Or.inr (Or.inl ⟨rfl, rfl⟩)⟩ q⟩
  · by_cases q2 : u = b ∧ w = a
    · obtain ⟨rfl, rfl⟩ := q2
      rw [lk_set_ba]
      exact ⟨fun _ => rfl, fun q => absurd ⟨(by rw [ly_ov_cm]; exact ho), Or.inr (Or.inr ⟨rfl, rfl⟩)⟩ q⟩
    · rw [lk_set_n (by omega) (by omega)]
      refine ⟨fun q => h1.1 ⟨q.1, ?_⟩, fun q => h1.2 (fun r => q ⟨r.1, Or.inl r.2⟩)⟩
      rcases q.2 with r | r | r
      · exact r
      · exact absurd r q1
      · exact absurd r q2
theorem lk_b_skip {lo hi : Int → Int} {n a b : Int} {f : Int → Int} (a0 : 0 ≤ a) (ab : a < b) (ho : ly_ov lo hi a b = false) (h : lk_b lo hi n a b f) :
    lk_b lo hi n (if b ≤ a + 1 then 0 else a + 1) (if b ≤ a + 1 then b + 1 else b) f := by
  refine ⟨fun u w u0 u1 w0 w1 huw => ?_, h.2⟩
  rw [lk_dc_n a0 ab u0 w0 huw]
  have h1 := h.1 u w u0 u1 w0 w1 huw
  refine ⟨fun q => h1.1 ⟨q.1, ?_⟩, fun q => h1.2 (fun r => q ⟨r.1, Or.inl r.2⟩)⟩
  obtain ⟨qo, qd⟩ := q
  rcases qd with r | ⟨rfl, rfl⟩ | ⟨rfl, rfl⟩
  · exact r
  · rw [ho] at qo; cases qo
  · rw [ly_ov_cm, ho] at qo; cases qo
theorem lk_b_0 {lo hi : Int → Int} {n : Int} {f : Int → Int} (hn : n ≤ 6) : lk_b lo hi n 0 1 (ev_ov (fun _ => -1) f 49) := by
  refine ⟨fun u v u0 u1 v0 v1 huv => ⟨fun q => ?_, fun _ => ev_ov_in (by omega) (by omega)⟩, fun x x0 x1 => ev_ov_in (by omega) (by omega), fun i i0 i1 => ?_⟩
  · exfalso
    have := q.2
    unfold lk_dc at this
    omega
  · rw [ev_ov_in i0 i1]
    decide
section RB
variable {g : ev_G} {d : Nat} {c : Nat → ev_AC} {h : List ev_AC} {th L n : Int} {tn : Bool} {P K S : Int → Int} {ty : Int} {z : MZ} {y : MY} {t : List ev_AC}
abbrev lk_R (L n : Int) (P : Int → Int) : List (Int × Int) := lk_rem (sp_lo L n P) (sp_hi L n P) ((n + 1) * n / 2).toNat 0 1
def lk_BQ (c : Nat → ev_AC) (th L n : Int) (tn : Bool) (P K S : Int → Int) (ty : Int) (y : MY) (t : List ev_AC) : ev_O → List ev_AC → Prop := fun o h' =>
  o = .inl (some (ev_i ((lk_R L n P).length : Nat))) ∧ ∃ z' : MZ, h' = MH c th L n tn P K S ty z' y t ∧ gz n (sp_B L n P) (sp_lo L n P) (sp_hi L n P) z' ∧ lk_S (sp_lo L n P) (sp_hi L n P) n 0 0 1 z'.1 ∧ lk_PL z' (lk_R L n P)
theorem sp_tri {n : Int} (hn0 : 0 ≤ n) (hn : n ≤ 6) : ((n + 1) * n / 2).toNat ≤ 21 := by
  have : n = 0 ∨ n = 1 ∨ n = 2 ∨ n = 3 ∨ n = 4 ∨ n = 5 ∨ n = 6 := by omega
  rcases this with rfl | rfl | rfl | rfl | rfl | rfl | rfl <;> decide
theorem ct_Mbegin (ok : sp_ok L n P K) : ev_C g mM_begin (d + 3) [.ref 16] (MH c th L n tn P K S ty z y t) 0 0 (lk_BQ c th L n tn P K S ty y t) := by
  have hn0 := ok.2.2.1
  have hn := ok.2.2.2.1
  have ge := ge_of ok
  obtain ⟨zo, zA, zB, zl, zh, zm, zf⟩ := z
  show ev_C g mM_begin (d + 3) [.ref 16] (MHz c th L n tn P K S ty zo zA zB zl zh zm zf y t) 0 0 (lk_BQ c th L n tn P K S ty y t)
  refine ev_ofE (by decide +kernel) rfl (Nat.le_of_ble_eq_true rfl) rfl rfl ?_
  -- the pairs
  have last : ∀ (k : Nat) (a b : Int) (dn : List (Int × Int)) (f zA zB : Int → Int) (o3 : Option Value), ly_k n k a b → dn ++ lk_rem (sp_lo L n P) (sp_hi L n P) k a b = lk_R L n P → lk_b (sp_lo L n P) (sp_hi L n P) n a b f →
      (∀ (i : Nat) (p : Int × Int), dn[i]? = some p → zA i = p.1 ∧ zB i = p.2) →
      (a = 0 → ev_E g false mM_begin (d + 3) 95 [some (.ref 16), some (ev_i (dn.length : Nat)), some (ev_i b), o3] [] (MHz c th L n tn P K S ty f zA zB (ev_ov (sp_lo L n P) zl (n + 1)) (ev_ov (sp_hi L n P) zh (n + 1)) (ev_ov (fun i => sp_B L n P (i + 1)) zm n) zf y t) 0 0 (lk_BQ c th L n tn P K S ty y t)) ∧
      (b ≤ n → ev_E g false mM_begin (d + 3) 105 [some (.ref 16), some (ev_i (dn.length : Nat)), some (ev_i b), some (ev_i a)] [] (MHz c th L n tn P K S ty f zA zB (ev_ov (sp_lo L n P) zl (n + 1)) (ev_ov (sp_hi L n P) zh (n + 1)) (ev_ov (fun i => sp_B L n P (i + 1)) zm n) zf y t) 0 0 (lk_BQ c th L n tn P K S ty y t)) := by
    intro k
    induction k with
    | zero =>
      intro a b dn f zA zB o3 hk hdn hf hp
      have hb := ly_k_0 hk
      refine ⟨fun ha => ?_, fun q => absurd q (by omega)⟩
      subst ha
      subst hb
      have hdn' : dn = lk_R L n P := by
        rw [← hdn]
        exact (List.append_nil dn).symm
      refine ev_iload_n dM_begin_95 rfl ?_
      refine ev_aload_n dM_begin_96 rfl ?_
      refine ev_get dM_begin_97 fl_M_63 rfl rfl ?_
      refine ev_icmp_gt (tgt := 156) dM_begin_100 rfl (by omega) (by omega) (by omega) (by omega) (fun g1 => ?_) (fun g1 => ?_)
      · refine ev_iload_n dM_begin_156 rfl ?_
        refine ev_ireturn dM_begin_157 rfl ?_
        refine ⟨by rw [hdn'], (f, zA, zB, ev_ov (sp_lo L n P) zl (n + 1), ev_ov (sp_hi L n P) zh (n + 1), ev_ov (fun i => sp_B L n P (i + 1)) zm n, zf), rfl, ⟨fun i i0 i1 => ⟨ev_ov_in i0 (by omega), ev_ov_in i0 (by omega)⟩, fun i i0 i1 => ev_ov_in (F := fun i => sp_B L n P (i + 1)) i0 i1⟩, lk_b_end hf, ?_⟩
        rw [← hdn']
        exact hp
      · omega
    | succ k ih =>
      intro a b dn f zA zB o3 hk hdn hf hp
      have hbn := ly_k_s hk
      have hkn := ly_k_n hk
      obtain ⟨-, a0, ab, -, -⟩ := hk
      have la := (sp_lh ok (i := a) a0 (by omega))
      have lb := (sp_lh ok (i := b) (by omega) hbn)
      have ea : ev_ov (sp_lo L n P) zl (n + 1) a = sp_lo L n P a := ev_ov_in a0 (by omega)
      have eb : ev_ov (sp_lo L n P) zl (n + 1) b = sp_lo L n P b := ev_ov_in (by omega) (by omega)
      have fa : ev_ov (sp_hi L n P) zh (n + 1) a = sp_hi L n P a := ev_ov_in a0 (by omega)
      have fb : ev_ov (sp_hi L n P) zh (n + 1) b = sp_hi L n P b := ev_ov_in (by omega) (by omega)
      have next : ∀ (dn' : List (Int × Int)) (f' zA' zB' : Int → Int), dn' ++ lk_rem (sp_lo L n P) (sp_hi L n P) k (if b ≤ a + 1 then 0 else a + 1) (if b ≤ a + 1 then b + 1 else b) = lk_R L n P → lk_b (sp_lo L n P) (sp_hi L n P) n (if b ≤ a + 1 then 0 else a + 1) (if b ≤ a + 1 then b + 1 else b) f' →
          (∀ (i : Nat) (p : Int × Int), dn'[i]? = some p → zA' i = p.1 ∧ zB' i = p.2) →
          ev_E g false mM_begin (d + 3) 144 [some (.ref 16), some (ev_i (dn'.length : Nat)), some (ev_i b), some (ev_i a)] [] (MHz c th L n tn P K S ty f' zA' zB' (ev_ov (sp_lo L n P) zl (n + 1)) (ev_ov (sp_hi L n P) zh (n + 1)) (ev_ov (fun i => sp_B L n P (i + 1)) zm n) zf y t) 0 0 (lk_BQ c th L n tn P K S ty y t) := by
        intro dn' f' zA' zB' hdn' hf' hp'
        refine ev_iinc dM_begin_144 rfl ?_
        refine ev_goto (tgt := 105) dM_begin_147 rfl ?_
        have := ih _ _ dn' f' zA' zB' (some (ev_i (a + 1))) hkn hdn' hf' hp'
        by_cases hl : b ≤ a + 1
        · rw [if_pos hl, if_pos hl] at this
          refine ev_iload_n dM_begin_105 rfl ?_
          refine ev_iload_n dM_begin_106 rfl ?_
          refine ev_icmp_ge (tgt := 150) dM_begin_107 rfl (by omega) (by omega) (by omega) (by omega) (fun g1 => ?_) (fun g1 => ?_)
          · refine ev_iinc dM_begin_150 rfl ?_
            refine ev_goto (tgt := 95) dM_begin_153 rfl ?_
            exact this.1 rfl
          · omega
        · rw [if_neg hl, if_neg hl] at this
          exact this.2 hbn
      have at105 : ev_E g false mM_begin (d + 3) 105 [some (.ref 16), some (ev_i (dn.length : Nat)), some (ev_i b), some (ev_i a)] [] (MHz c th L n tn P K S ty f zA zB (ev_ov (sp_lo L n P) zl (n + 1)) (ev_ov (sp_hi L n P) zh (n + 1)) (ev_ov (fun i => sp_B L n P (i + 1)) zm n) zf y t) 0 0 (lk_BQ c th L n tn P K S ty y t) := by
        have eov : mz_ov (f, zA, zB, ev_ov (sp_lo L n P) zl (n + 1), ev_ov (sp_hi L n P) zh (n + 1), ev_ov (fun i => sp_B L n P (i + 1)) zm n, zf) a b = ly_ov (sp_lo L n P) (sp_hi L n P) a b :=
          gz_ov ge ⟨fun i i0 i1 => ⟨ev_ov_in i0 (by omega), ev_ov_in i0 (by omega)⟩, fun i i0 i1 => ev_ov_in (F := fun i => sp_B L n P (i + 1)) i0 i1⟩ a0 (by omega) (by omega) hbn (by omega)
        refine ev_iload_n dM_begin_105 rfl ?_
        refine ev_iload_n dM_begin_106 rfl ?_
        refine ev_icmp_ge (tgt := 150) dM_begin_107 rfl (by omega) (by omega) (by omega) (by omega) (fun g1 => ?_) (fun g1 => ?_)
        · omega
        · refine ev_aload_n dM_begin_110 rfl ?_
          refine ev_iload_n dM_begin_111 rfl ?_
          refine ev_iload_n dM_begin_112 rfl ?_
          refine ev_cV dM_begin_113 cv_M_132 (ct_Moverlap (z := (f, zA, zB, ev_ov (sp_lo L n P) zl (n + 1), ev_ov (sp_hi L n P) zh (n + 1), ev_ov (fun i => sp_B L n P (i + 1)) zm n, zf)) a0 (by omega) (by omega) (by omega) (by show -100 ≤ ev_ov (sp_lo L n P) zl (n + 1) a ∧ ev_ov (sp_lo L n P) zl (n + 1) a ≤ 100; omega) (by show -100 ≤ ev_ov (sp_lo L n P) zl (n + 1) b ∧ ev_ov (sp_lo L n P) zl (n + 1) b ≤ 100; omega) (by show -100 ≤ ev_ov (sp_hi L n P) zh (n + 1) a ∧ ev_ov (sp_hi L n P) zh (n + 1) a ≤ 100; omega) (by show -100 ≤ ev_ov (sp_hi L n P) zh (n + 1) b ∧ ev_ov (sp_hi L n P) zh (n + 1) b ≤ 100; omega)) rfl rfl rfl (Nat.le_of_ble_eq_true rfl) (Nat.le_of_ble_eq_true rfl) (Nat.le_of_ble_eq_true rfl) ?_
          refine ev_hp (h' := MHz c th L n tn P K S ty f zA zB (ev_ov (sp_lo L n P) zl (n + 1)) (ev_ov (sp_hi L n P) zh (n + 1)) (ev_ov (fun i => sp_B L n P (i + 1)) zm n) zf y t) rfl ?_
          rw [eov]
          refine ev_bz (tgt := 144) dM_begin_116 rfl (fun g2 => ?_) (fun g2 => ?_)
          · rw [lk_rem_n g2] at hdn
            exact next dn f zA zB hdn (lk_b_skip a0 ab g2 hf) hp
          · have hlen : dn.length < 21 := by
              have h1 : (lk_R L n P).length ≤ ((n + 1) * n / 2).toNat := lk_rem_len _ _ _
              have h2 := sp_tri hn0 hn
              have h3 := congrArg List.length hdn
              rw [lk_rem_y g2, List.length_append, List.length_cons] at h3
              omega
            have hdn' : (dn ++ [(a, b)]) ++ lk_rem (sp_lo L n P) (sp_hi L n P) k (if b ≤ a + 1 then 0 else a + 1) (if b ≤ a + 1 then b + 1 else b) = lk_R L n P := by
              rw [← hdn, List.append_assoc, lk_rem_y g2]
              rfl
            have hp' : ∀ (i : Nat) (p : Int × Int), (dn ++ [(a, b)])[i]? = some p → ev_up zA (dn.length : Nat) a i = p.1 ∧ ev_up zB (dn.length : Nat) b i = p.2 := by
              intro i p hi
              by_cases hl : i < dn.length
              · rw [List.getElem?_append_left hl] at hi
                rw [ev_up_n (by omega), ev_up_n (by omega)]
                exact hp i p hi
              · have hi2 : i < (dn ++ [(a, b)]).length := (List.getElem?_eq_some_iff.mp hi).1
                rw [List.length_append] at hi2
                have hi3 : i = dn.length := by have : i < dn.length + 1 := hi2; omega
                subst hi3
                simp at hi
                rw [ev_up_s, ev_up_s, ← hi]
                exact ⟨rfl, rfl⟩
            have := next (dn ++ [(a, b)]) (lk_set f a b (-2)) (ev_up zA (dn.length : Nat) a) (ev_up zB (dn.length : Nat) b) hdn' (lk_b_put hn a0 ab hbn g2 hf) hp'
            rw [show (dn ++ [(a, b)]).length = dn.length + 1 by rw [List.length_append]; rfl] at this
            refine ev_aload_n dM_begin_119 rfl ?_
            refine ev_iload_n dM_begin_120 rfl ?_
            refine ev_iload_n dM_begin_121 rfl ?_
            refine ev_bipush dM_begin_122 rfl ?_
            refine ev_cVv dM_begin_124 cv_M_148 (ct_Mset (z := (f, zA, zB, ev_ov (sp_lo L n P) zl (n + 1), ev_ov (sp_hi L n P) zh (n + 1), ev_ov (fun i => sp_B L n P (i + 1)) zm n, zf)) (a := a) (b := b) (v := -2) a0 (by omega) (by omega) (by omega) (by decide) (by decide)) rfl rfl rfl (Nat.le_of_ble_eq_true rfl) (Nat.le_of_ble_eq_true rfl) (Nat.le_of_ble_eq_true rfl) ?_
            refine ev_hp (h' := MHz c th L n tn P K S ty (lk_set f a b (-2)) zA zB (ev_ov (sp_lo L n P) zl (n + 1)) (ev_ov (sp_hi L n P) zh (n + 1)) (ev_ov (fun i => sp_B L n P (i + 1)) zm n) zf y t) rfl ?_
            refine ev_aload_n dM_begin_127 rfl ?_
            refine ev_get dM_begin_128 fl_M_26 rfl rfl ?_
            refine ev_iload_n dM_begin_131 rfl ?_
            refine ev_iload_n dM_begin_132 rfl ?_
            refine ev_iast dM_begin_133 rfl (by omega) (by omega) (by decide) ?_
            refine ev_aload_n dM_begin_134 rfl ?_
            refine ev_get dM_begin_135 fl_M_29 rfl rfl ?_
            refine ev_iload_n dM_begin_138 rfl ?_
            refine ev_iload_n dM_begin_139 rfl ?_
            refine ev_iast dM_begin_140 rfl (by omega) (by omega) (by decide) ?_
            refine ev_iinc dM_begin_141 rfl ?_
            exact this
      refine ⟨fun ha => ?_, fun _ => at105⟩
      subst ha
      refine ev_iload_n dM_begin_95 rfl ?_
      refine ev_aload_n dM_begin_96 rfl ?_
      refine ev_get dM_begin_97 fl_M_63 rfl rfl ?_
      refine ev_icmp_gt (tgt := 156) dM_begin_100 rfl (by omega) (by omega) (by omega) (by omega) (fun g1 => ?_) (fun g1 => ?_)
      · omega
      · refine ev_iconst dM_begin_103 ?_
        refine ev_istore_n dM_begin_104 (Nat.le_of_ble_eq_true rfl) ?_
        exact at105
  -- the table
  have l3 : ∀ (k : Nat) (j : Int) (o3 : Option Value), 0 ≤ j → j + k = 49 → ev_E g false mM_begin (d + 3) 74 [some (.ref 16), some (ev_i 0), some (ev_i j), o3] [] (MHz c th L n tn P K S ty (ev_ov (fun _ => -1) zo j) zA zB (ev_ov (sp_lo L n P) zl (n + 1)) (ev_ov (sp_hi L n P) zh (n + 1)) (ev_ov (fun i => sp_B L n P (i + 1)) zm n) zf y t) 0 0 (lk_BQ c th L n tn P K S ty y t) := by
    intro k
    induction k with
    | zero =>
      intro j o3 j0 hk
      have hj : j = 49 := by omega
      subst hj
      refine ev_iload_n dM_begin_74 rfl ?_
      refine ev_bipush dM_begin_75 rfl ?_
      refine ev_icmp_ge (tgt := 93) dM_begin_77 rfl (by omega) (by omega) (by omega) (by omega) (fun g1 => ?_) (fun g1 => ?_)
      · refine ev_iconst dM_begin_93 ?_
        refine ev_istore_n dM_begin_94 (Nat.le_of_ble_eq_true rfl) ?_
        exact (last ((n + 1) * n / 2).toNat 0 1 [] _ _ _ o3 (ly_k_st hn0 hn) rfl (lk_b_0 hn) (fun i p q => by simp at q)).1 rfl
      · omega
    | succ k ih =>
      intro j o3 j0 hk
      have := ih (j + 1) o3 (by omega) (by omega)
      rw [← ev_ov_s (F := fun _ => -1) (z := -1) j0 rfl] at this
      refine ev_iload_n dM_begin_74 rfl ?_
      refine ev_bipush dM_begin_75 rfl ?_
      refine ev_icmp_ge (tgt := 93) dM_begin_77 rfl (by omega) (by omega) (by omega) (by omega) (fun g1 => ?_) (fun g1 => ?_)
      · omega
      · refine ev_aload_n dM_begin_80 rfl ?_
        refine ev_get dM_begin_81 fl_M_23 rfl rfl ?_
        refine ev_iload_n dM_begin_84 rfl ?_
        refine ev_iconst dM_begin_85 ?_
        refine ev_iast dM_begin_86 rfl (by omega) (by omega) (by decide) ?_
        refine ev_iinc dM_begin_87 rfl ?_
        refine ev_goto (tgt := 74) dM_begin_90 rfl ?_
        exact this
  -- the meeting places
  have l2 : ∀ (k : Nat) (j : Int) (o2 o3 : Option Value), 0 ≤ j → j + k = n → ev_E g false mM_begin (d + 3) 40 [some (.ref 16), some (ev_i j), o2, o3] [] (MHz c th L n tn P K S ty zo zA zB (ev_ov (sp_lo L n P) zl (n + 1)) (ev_ov (sp_hi L n P) zh (n + 1)) (ev_ov (fun i => sp_B L n P (i + 1)) zm j) zf y t) 0 0 (lk_BQ c th L n tn P K S ty y t) := by
    intro k
    induction k with
    | zero =>
      intro j o2 o3 j0 hk
      have hj : j = n := by omega
      subst hj
      refine ev_iload_n dM_begin_40 rfl ?_
      refine ev_aload_n dM_begin_41 rfl ?_
      refine ev_get dM_begin_42 fl_M_63 rfl rfl ?_
      refine ev_icmp_ge (tgt := 70) dM_begin_45 rfl (by omega) (by omega) (by omega) (by omega) (fun g1 => ?_) (fun g1 => ?_)
      · refine ev_iconst dM_begin_70 ?_
        refine ev_istore_n dM_begin_71 (Nat.le_of_ble_eq_true rfl) ?_
        refine ev_iconst dM_begin_72 ?_
        refine ev_istore_n dM_begin_73 (Nat.le_of_ble_eq_true rfl) ?_
        have := l3 49 0 o3 (by omega) rfl
        rw [ev_ov_0 _ _ (Int.le_refl _)] at this
        exact this
      · omega
    | succ k ih =>
      intro j o2 o3 j0 hk
      have := ih (j + 1) o2 o3 (by omega) (by omega)
      have hP := sp_P60 ok j j0 (by omega)
      have e : sp_F n P (P j).toNat = sp_B L n P (j + 1) := by
        have := sp_F_re ok (i := j) j0 (by omega)
        unfold sp_re at this
        rw [if_pos (by omega)] at this
        exact this
      rw [← ev_ov_s (F := fun i => sp_B L n P (i + 1)) (z := sp_F n P (P j).toNat) j0 e] at this
      refine ev_iload_n dM_begin_40 rfl ?_
      refine ev_aload_n dM_begin_41 rfl ?_
      refine ev_get dM_begin_42 fl_M_63 rfl rfl ?_
      refine ev_icmp_ge (tgt := 70) dM_begin_45 rfl (by omega) (by omega) (by omega) (by omega) (fun g1 => ?_) (fun g1 => ?_)
      · omega
      · refine ev_aload_n dM_begin_48 rfl ?_
        refine ev_get dM_begin_49 fl_M_38 rfl rfl ?_
        refine ev_iload_n dM_begin_52 rfl ?_
        refine ev_aload_n dM_begin_53 rfl ?_
        refine ev_aload_n dM_begin_54 rfl ?_
        refine ev_get dM_begin_55 fl_M_13 rfl rfl ?_
        refine ev_iload_n dM_begin_58 rfl ?_
        refine ev_iald dM_begin_59 rfl (by omega) (by omega) (by decide) ?_
        refine ev_cV dM_begin_60 cv_M_84 (ct_Mfold (z := (zo, zA, zB, ev_ov (sp_lo L n P) zl (n + 1), ev_ov (sp_hi L n P) zh (n + 1), ev_ov (fun i => sp_B L n P (i + 1)) zm j, zf)) hP.1 hP.2 hn0 hn (sp_P60 ok)) rfl rfl rfl (Nat.le_of_ble_eq_true rfl) (Nat.le_of_ble_eq_true rfl) (Nat.le_of_ble_eq_true rfl) ?_
        refine ev_hp (h' := MHz c th L n tn P K S ty zo zA zB (ev_ov (sp_lo L n P) zl (n + 1)) (ev_ov (sp_hi L n P) zh (n + 1)) (ev_ov (fun i => sp_B L n P (i + 1)) zm j) zf y t) rfl ?_
        refine ev_iast dM_begin_63 rfl (by omega) (by omega) (by decide) ?_
        refine ev_iinc dM_begin_64 rfl ?_
        refine ev_goto (tgt := 40) dM_begin_67 rfl ?_
        exact this
  -- the images
  have l1 : ∀ (k : Nat) (j : Int) (o2 o3 : Option Value), 0 ≤ j → j + k = n + 1 → ev_E g false mM_begin (d + 3) 2 [some (.ref 16), some (ev_i j), o2, o3] [] (MHz c th L n tn P K S ty zo zA zB (ev_ov (sp_lo L n P) zl j) (ev_ov (sp_hi L n P) zh j) zm zf y t) 0 0 (lk_BQ c th L n tn P K S ty y t) := by
    intro k
    induction k with
    | zero =>
      intro j o2 o3 j0 hk
      have hj : j = n + 1 := by omega
      subst hj
      refine ev_iload_n dM_begin_2 rfl ?_
      refine ev_aload_n dM_begin_3 rfl ?_
      refine ev_get dM_begin_4 fl_M_63 rfl rfl ?_
      refine ev_icmp_gt (tgt := 38) dM_begin_7 rfl (by omega) (by omega) (by omega) (by omega) (fun g1 => ?_) (fun g1 => ?_)
      · refine ev_iconst dM_begin_38 ?_
        refine ev_istore_n dM_begin_39 (Nat.le_of_ble_eq_true rfl) ?_
        have := l2 n.toNat 0 o2 o3 (by omega) (by omega)
        rw [ev_ov_0 _ _ (Int.le_refl _)] at this
        exact this
      · omega
    | succ k ih =>
      intro j o2 o3 j0 hk
      have := ih (j + 1) o2 o3 (by omega) (by omega)
      rw [← ev_ov_s (F := sp_lo L n P) (z := sp_lo L n P j) j0 rfl, ← ev_ov_s (F := sp_hi L n P) (z := sp_hi L n P j) j0 rfl] at this
      refine ev_iload_n dM_begin_2 rfl ?_
      refine ev_aload_n dM_begin_3 rfl ?_
      refine ev_get dM_begin_4 fl_M_63 rfl rfl ?_
      refine ev_icmp_gt (tgt := 38) dM_begin_7 rfl (by omega) (by omega) (by omega) (by omega) (fun g1 => ?_) (fun g1 => ?_)
      · omega
      · refine ev_aload_n dM_begin_10 rfl ?_
        refine ev_get dM_begin_11 fl_M_32 rfl rfl ?_
        refine ev_iload_n dM_begin_14 rfl ?_
        refine ev_aload_n dM_begin_15 rfl ?_
        refine ev_iload_n dM_begin_16 rfl ?_
        refine ev_cV dM_begin_17 cv_M_90 (ct_Mlow (z := (zo, zA, zB, ev_ov (sp_lo L n P) zl j, ev_ov (sp_hi L n P) zh j, zm, zf)) ok j0 (by omega)) rfl rfl rfl (Nat.le_of_ble_eq_true rfl) (Nat.le_of_ble_eq_true rfl) (Nat.le_of_ble_eq_true rfl) ?_
        refine ev_hp (h' := MHz c th L n tn P K S ty zo zA zB (ev_ov (sp_lo L n P) zl j) (ev_ov (sp_hi L n P) zh j) zm zf y t) rfl ?_
        refine ev_iast dM_begin_20 rfl (by omega) (by omega) (by decide) ?_
        refine ev_aload_n dM_begin_21 rfl ?_
        refine ev_get dM_begin_22 fl_M_35 rfl rfl ?_
        refine ev_iload_n dM_begin_25 rfl ?_
        refine ev_aload_n dM_begin_26 rfl ?_
        refine ev_iload_n dM_begin_27 rfl ?_
        refine ev_cV dM_begin_28 cv_M_93 (ct_Mhigh (z := (zo, zA, zB, ev_up (ev_ov (sp_lo L n P) zl j) j (sp_lo L n P j), ev_ov (sp_hi L n P) zh j, zm, zf)) ok j0 (by omega)) rfl rfl rfl (Nat.le_of_ble_eq_true rfl) (Nat.le_of_ble_eq_true rfl) (Nat.le_of_ble_eq_true rfl) ?_
        refine ev_hp (h' := MHz c th L n tn P K S ty zo zA zB (ev_up (ev_ov (sp_lo L n P) zl j) j (sp_lo L n P j)) (ev_ov (sp_hi L n P) zh j) zm zf y t) rfl ?_
        refine ev_iast dM_begin_31 rfl (by omega) (by omega) (by decide) ?_
        refine ev_iinc dM_begin_32 rfl ?_
        refine ev_goto (tgt := 2) dM_begin_35 rfl ?_
        exact this
  refine ev_iconst dM_begin_0 ?_
  refine ev_istore_n dM_begin_1 (Nat.le_of_ble_eq_true rfl) ?_
  have := l1 (n + 1).toNat 0 none none (by omega) (by omega)
  rw [ev_ov_0 _ _ (Int.le_refl _), ev_ov_0 _ _ (Int.le_refl _)] at this
  exact this
end RB
