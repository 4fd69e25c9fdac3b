/-! The reference: marks -/
theorem p64 {k : Nat} (h : k ≤ 6) : 2 ^ k ≤ 64 := (Nat.pow_le_pow_right (by decide) h : 2 ^ k ≤ 2 ^ 6)
theorem pt_or (t : Nat → Bool) (k : Nat) : pt t k ||| 2 ^ k = pt t k + 2 ^ k := by
  have := Nat.two_pow_add_eq_or_of_lt (pt_lt t k) 1
  rw [Nat.mul_one] at this
  rw [Nat.or_comm, ← this, Nat.add_comm]
theorem pt_bit (t : Nat → Bool) : ∀ (k c : Nat), c < k → (pt t k).testBit c = t c
  | 0, c, h => absurd h (Nat.not_lt_zero c)
  | k + 1, c, h => by
    have h1 := pt_lt t k
    unfold pt
    by_cases hc : c = k
    · subst hc
      cases ht : t c
      · rw [if_neg (by decide), Nat.add_zero]
        exact Nat.testBit_lt_two_pow h1
      · rw [if_pos rfl, Nat.add_comm, Nat.testBit_two_pow_add_eq, Nat.testBit_lt_two_pow h1]
        rfl
    · have ih := pt_bit t k c (by omega)
      cases ht : t k
      · rw [if_neg (by decide), Nat.add_zero]
        exact ih
      · rw [if_pos rfl, Nat.add_comm, Nat.testBit_two_pow_add_gt (by omega)]
        exact ih
/-- the marks of the way w, as the array has them -/
def kmF (K : Int → Int) (n : Int) (w : Nat) : Int → Int := ev_ov (fun j => km K w j.toNat) K n
theorem km_bd {K : Int → Int} {w c : Nat} (h : 0 ≤ K c ∧ K c ≤ 2) : 1 ≤ km K w c ∧ km K w c ≤ 2 ∧ (K c ≠ 0 → km K w c = K c) := by
  unfold km
  by_cases q : K c = 0
  · rw [if_pos q]
    have : w / 2 ^ frN K c % 2 < 2 := Nat.mod_lt _ (by decide)
    exact ⟨by omega, by omega, fun r => absurd q r⟩
  · rw [if_neg q]
    exact ⟨by omega, by omega, fun _ => rfl⟩
section MK
variable {L n : Int} {P K : Int → Int} {tn : Bool}
theorem kmF_ok {w : Nat} (ok : sp_ok L n P K) : sp_ok L n P (kmF K n w) := by
  refine ⟨ok.1, ok.2.1, ok.2.2.1, ok.2.2.2.1, fun i i0 i1 => ?_, ok.2.2.2.2.2⟩
  have h := ok.2.2.2.2.1 i i0 i1
  have hK : 0 ≤ K (i.toNat : Int) ∧ K (i.toNat : Int) ≤ 2 := by rw [Int.toNat_of_nonneg i0]; exact ⟨h.2.2.1, h.2.2.2⟩
  have h2 := km_bd (w := w) hK
  unfold kmF
  rw [ev_ov_in i0 i1]
  exact ⟨h.1, h.2.1, by show 0 ≤ km K w i.toNat; omega, h2.2.1⟩
theorem mk_one (ok : sp_ok L n P K) (w : Nat) : bd (ly_all (L, n, tn, P, kmF K n w) ≠ []) = lb_bit (ly_ms n 0 (ly_all (L, n, tn, P, K))) (pt (fun c => tb tn (km K w c) c) n.toNat) := by
  have hn0 := ok.2.2.1
  have hn := ok.2.2.2.1
  have hp6 : 2 ^ n.toNat ≤ 64 := p64 (by omega)
  have hlt : ∀ x : Nat, ly_mg x n.toNat < 64 := fun x => by
    rw [ly_mg_pt]
    exact Nat.lt_of_lt_of_le (pt_lt _ _) hp6
  have hpt := pt_lt (fun c => tb tn (km K w c) c) n.toNat
  have mem : ∀ x, x ∈ ly_all (L, n, tn, P, kmF K n w) ↔ (x ∈ ly_all (L, n, tn, P, K) ∧ ∀ c, 0 ≤ c → c < n → ¬ lk_dc 0 1 c (c + 1) → ly_mk (kmF K n w) tn x c (c + 1) = true) :=
    fun x => ly_mem (ge_of ok) hn (fun c c0 c1 q => by
      have h := ok.2.2.2.2.1 c c0 c1
      have hK : 0 ≤ K (c.toNat : Int) ∧ K (c.toNat : Int) ≤ 2 := by rw [Int.toNat_of_nonneg c0]; exact ⟨h.2.2.1, h.2.2.2⟩
      have h2 := (km_bd (w := w) hK).2.2
      rw [Int.toNat_of_nonneg c0] at h2
      show ev_ov (fun j => km K w j.toNat) K n c = K c
      rw [ev_ov_in c0 c1]
      exact h2 q) _ 0 1 0 x (ly_k_st hn0 hn)
  refine Bool.eq_iff_iff.mpr (bd_iff.trans ?_)
  rw [ly_ms_bit _ _ _ (fun x _ => hlt x) (by omega)]
  have ne : ly_all (L, n, tn, P, kmF K n w) ≠ [] ↔ ∃ x, x ∈ ly_all (L, n, tn, P, kmF K n w) := by
    cases ly_all (L, n, tn, P, kmF K n w) with
    | nil => exact ⟨fun q => absurd rfl q, fun q => by obtain ⟨x, hx⟩ := q; cases hx⟩
    | cons a l => exact ⟨fun _ => ⟨a, List.mem_cons_self⟩, fun _ q => by cases q⟩
  rw [ne]
  have key : ∀ x : Nat, (∀ c, 0 ≤ c → c < n → ¬ lk_dc 0 1 c (c + 1) → ly_mk (kmF K n w) tn x c (c + 1) = true) ↔ ly_mg x n.toNat = pt (fun c => tb tn (km K w c) c) n.toNat := by
    intro x
    rw [ly_mg_pt, pt_inj]
    have one : ∀ c : Nat, c < n.toNat → (ly_mk (kmF K n w) tn x c (c + 1) = true ↔ ly_ab x c (c + 1) = tb tn (km K w c) c) := by
      intro c hc
      have h := ok.2.2.2.2.1 c (by omega) (by omega)
      have h2 := km_bd (w := w) (c := c) ⟨h.2.2.1, h.2.2.2⟩
      have e : kmF K n w c = km K w c := by
        unfold kmF
        rw [ev_ov_in (by omega) (by omega)]
        rfl
      have := ly_mk_tb (K := kmF K n w) (tn := tn) (x := x) (c := c) (by rw [e]; omega)
      rw [e] at this
      exact this
    constructor
    · intro h c hc
      exact (one c hc).mp (h c (by omega) (by omega) (by unfold lk_dc; omega))
    · intro h c c0 c1 _
      have := (one c.toNat (by omega)).mpr (h c.toNat (by omega))
      rw [Int.toNat_of_nonneg c0] at this
      exact this
  constructor
  · rintro ⟨x, hx⟩
    obtain ⟨h1, h2⟩ := (mem x).mp hx
    exact Or.inr ⟨x, h1, (key x).mp h2⟩
  · rintro (q | ⟨x, h1, h2⟩)
    · exfalso
      unfold lb_bit at q
      simp at q
    · exact ⟨x, (mem x).mpr ⟨h1, (key x).mpr h2⟩⟩
theorem mk_cnt (ok : sp_ok L n P K) : ct_s (fun w => bd (ly_all (L, n, tn, P, kmF K n w) ≠ [])) (2 ^ frN K n.toNat) = ct_s (lb_bit (ly_ms n 0 (ly_all (L, n, tn, P, K)))) 64 := by
  have hn0 := ok.2.2.1
  have hn := ok.2.2.2.1
  have hp6 : 2 ^ n.toNat ≤ 64 := p64 (by omega)
  have hlt : ∀ x : Nat, ly_mg x n.toNat < 2 ^ n.toNat := fun x => by
    rw [ly_mg_pt]
    exact pt_lt _ _
  have fx : ∀ j, j < 64 → (lb_bit (ly_ms n 0 (ly_all (L, n, tn, P, K))) j = true ↔ ∃ x ∈ ly_all (L, n, tn, P, K), ly_mg x n.toNat = j) := fun j hj => by
    rw [ly_ms_bit _ _ _ (fun x _ => Nat.lt_of_lt_of_le (hlt x) hp6) hj]
    constructor
    · rintro (q | q)
      · exfalso
        unfold lb_bit at q
        simp at q
      · exact q
    · exact Or.inr
  rw [ct_s_cg (f' := fun w => lb_bit (ly_ms n 0 (ly_all (L, n, tn, P, K))) (pt (fun c => tb tn (km K w c) c) n.toNat)) _ (fun w _ => mk_one ok w), km_cnt]
  have cp : ∀ j, j < 2 ^ n.toNat → lb_bit (ly_ms n 0 (ly_all (L, n, tn, P, K))) j = true → ∀ i : Nat, i ≤ n.toNat → cpt K tn i j = true := by
    intro j hj hf i
    obtain ⟨x, hx, he⟩ := (fx j (by omega)).mp hf
    have hall := ((ly_mem (K := K) (K' := K) (tn := tn) (ge_of ok) hn (fun _ _ _ _ => rfl) _ 0 1 0 x (ly_k_st hn0 hn)).mp hx).2
    induction i with
    | zero => exact fun _ => rfl
    | succ i ih =>
      intro hi
      unfold cpt
      rw [ih (by omega), Bool.true_and]
      by_cases hk : K i = 0
      · rw [decide_eq_true hk, Bool.true_or]
      · have h1 := (ly_mk_tb hk).mp (hall i (by omega) (by omega) (by unfold lk_dc; omega))
        rw [decide_eq_false hk, Bool.false_or, ← he, ly_mg_pt, pt_bit _ _ _ (by omega), h1]
        exact beq_self_eq_true _
  have e1 : ct_s (fun j => lb_bit (ly_ms n 0 (ly_all (L, n, tn, P, K))) j && cpt K tn n.toNat j) (2 ^ n.toNat) = ct_s (lb_bit (ly_ms n 0 (ly_all (L, n, tn, P, K)))) (2 ^ n.toNat) :=
    ct_s_cg _ (fun j hj => by
      cases hf : lb_bit (ly_ms n 0 (ly_all (L, n, tn, P, K))) j
      · rfl
      · rw [cp j hj hf n.toNat (Nat.le_refl _)]
        rfl)
  rw [e1]
  have e2 := ct_s_add (lb_bit (ly_ms n 0 (ly_all (L, n, tn, P, K)))) (2 ^ n.toNat) (64 - 2 ^ n.toNat)
  rw [show 2 ^ n.toNat + (64 - 2 ^ n.toNat) = 64 by omega] at e2
  rw [e2, ct_s_cg (f' := fun _ => false) (64 - 2 ^ n.toNat) (fun j hj => by
    cases hf : lb_bit (ly_ms n 0 (ly_all (L, n, tn, P, K))) (2 ^ n.toNat + j)
    · rfl
    · obtain ⟨x, hx, he⟩ := (fx _ (by omega)).mp hf
      have := hlt x
      omega), ct_s_f, Nat.add_zero]
end MK
theorem ev_shrN : ∀ a : Nat, a < 64 → ∀ b : Nat, b < 6 → Int32.ofInt (a : Int) >>> (Int32.ofInt (b : Int) &&& 31) = Int32.ofInt ((a >>> b : Nat) : Int) := by decide +kernel
theorem ct_s_le (f : Nat → Bool) : ∀ k : Nat, ct_s f k ≤ k
  | 0 => Nat.le_refl _
  | k + 1 => by
    have := ct_s_le f k
    unfold ct_s
    split <;> omega
section RM
variable {g : ev_G} {d : Nat} {c : Nat → ev_AC} {h : List ev_AC} {th L n : Int} {tn : Bool} {P K S : Int → Int} {ty : Int} {z : MZ} {y : MY} {t : List ev_AC}
theorem ct_Mmarks (ok : sp_ok L n P K) : ev_C g mM_marks (d + 5) [.ref 16] (MH c th L n tn P K S ty z y t) 0 0
    (fun o h' => o = .inl (some (ev_i ((ct_s (fun w => bd (ly_all (L, n, tn, P, kmF K n w) ≠ [])) (2 ^ frN K n.toNat) : Nat) : Int))) ∧ ∃ z', h' = MH c 0 L n tn P K S ty z' y t) := by
  have hn0 := ok.2.2.1
  have hn := ok.2.2.2.1
  have hF6 : frN K n.toNat ≤ 6 := by
    have h1 := frN_fr K n.toNat
    have h2 := (sp_fr_bd (K := K) n.toNat).2
    omega
  have hW : 2 ^ frN K n.toNat ≤ 64 := p64 hF6
  refine ev_ofE (by decide +kernel) rfl (Nat.le_of_ble_eq_true rfl) rfl rfl ?_
  generalize hQ : (fun (o : ev_O) (h' : List ev_AC) => o = .inl (some (ev_i ((ct_s (fun w => bd (ly_all (L, n, tn, P, kmF K n w) ≠ [])) (2 ^ frN K n.toNat) : Nat) : Int))) ∧ ∃ z', h' = MH c 0 L n tn P K S ty z' y t) = Q
  have outer : ∀ (k w : Nat) (z : MZ) (o4 o5 o6 : Option Value), w + k = 2 ^ frN K n.toNat → ev_E g false mM_marks (d + 5) 16 [some (.ref 16), some (ev_i ((2 ^ frN K n.toNat : Nat) : Int)), some (ev_i ((ct_s (fun w => bd (ly_all (L, n, tn, P, kmF K n w) ≠ [])) w : Nat) : Int)), some (ev_i (w : Nat)), o4, o5, o6] [] (MH c 0 L n tn P K S ty z y t) 0 0 Q := by
    intro k
    induction k with
    | zero =>
      intro w z o4 o5 o6 hk
      refine ev_iload_n dM_marks_16 rfl ?_
      refine ev_iload_n dM_marks_17 rfl ?_
      refine ev_icmp_ge (tgt := 152) dM_marks_18 rfl (by omega) (by omega) (by omega) (by omega) (fun g1 => ?_) (fun g1 => ?_)
      · refine ev_iload_n dM_marks_152 rfl ?_
        refine ev_ireturn dM_marks_153 rfl ?_
        subst hQ
        exact ⟨by rw [show 2 ^ frN K n.toNat = w by omega], z, rfl⟩
      · omega
    | succ k ih =>
      intro w z o4 o5 o6 hk
      have hcs := ct_s_le (fun w => bd (ly_all (L, n, tn, P, kmF K n w) ≠ [])) w
      have wr64 : pt (fun c => decide (K c = 0)) n.toNat < 64 := Nat.lt_of_lt_of_le (pt_lt _ _) (p64 (by omega))
      -- the marks are put back
      have back : ∀ (i j : Nat) (z : MZ) (m : Int) (o4 : Option Value), (j : Int) + i = n → m = ((ct_s (fun w => bd (ly_all (L, n, tn, P, kmF K n w) ≠ [])) (w + 1) : Nat) : Int) →
          ev_E g false mM_marks (d + 5) 102 [some (.ref 16), some (ev_i ((2 ^ frN K n.toNat : Nat) : Int)), some (ev_i m), some (ev_i (w : Nat)), o4, some (ev_i ((pt (fun c => decide (K c = 0)) n.toNat : Nat) : Int)), some (ev_i (j : Nat))] [] (MH c 0 L n tn P (ev_ov K (kmF K n w) j) S ty z y t) 0 0 Q := by
        intro i
        induction i with
        | zero =>
          intro j z m o4 hi hm
          have hj : n = (j : Int) := by omega
          have e : ev_ov K (kmF K n w) j = K := by
            funext q
            by_cases hq : 0 ≤ q ∧ q < (j : Int)
            · exact ev_ov_in hq.1 hq.2
            · rw [ev_ov_out (by omega)]
              unfold kmF
              rw [ev_ov_out (by omega)]
          rw [e, hm]
          refine ev_iload dM_marks_102 rfl ?_
          refine ev_aload_n dM_marks_104 rfl ?_
          refine ev_get dM_marks_105 fl_M_63 rfl rfl ?_
          refine ev_icmp_ge (tgt := 146) dM_marks_108 rfl (by omega) (by omega) (by omega) (by omega) (fun g2 => ?_) (fun g2 => ?_)
          · refine ev_iinc dM_marks_146 rfl ?_
            refine ev_goto (tgt := 16) dM_marks_149 rfl ?_
            exact ih (w + 1) z _ _ _ (by omega)
          · omega
        | succ i ihi =>
          intro j z m o4 hi hm
          have hKj := sp_Kb ok j (by omega) (by omega)
          have bit := pt_bit (fun c => decide (K c = 0)) n.toNat j (by omega)
          rw [Nat.testBit_eq_decide_div_mod_eq] at bit
          have sh := ev_shrN (pt (fun c => decide (K c = 0)) n.toNat) wr64 j (by omega)
          have next := ihi (j + 1) z m o4 (by omega) hm
          rw [show (((j + 1 : Nat) : Nat) : Int) = (j : Int) + 1 by omega, ← ev_ov_s (F := K) (z := K j) (by omega) rfl] at next
          have e0 : ev_ov K (kmF K n w) j j = kmF K n w j := ev_ov_out (by omega)
          have e1 : kmF K n w j = km K w j := by
            unfold kmF
            rw [ev_ov_in (by omega) (by omega)]
            rfl
          have em : (pt (fun c => decide (K c = 0)) n.toNat >>> j) &&& 1 = pt (fun c => decide (K c = 0)) n.toNat / 2 ^ j % 2 := by
            rw [Nat.and_one_is_mod, Nat.shiftRight_eq_div_pow]
          have hlt2 : pt (fun c => decide (K c = 0)) n.toNat / 2 ^ j % 2 < 2 := Nat.mod_lt _ (by decide)
          refine ev_iload dM_marks_102 rfl ?_
          refine ev_aload_n dM_marks_104 rfl ?_
          refine ev_get dM_marks_105 fl_M_63 rfl rfl ?_
          refine ev_icmp_ge (tgt := 146) dM_marks_108 rfl (by omega) (by omega) (by omega) (by omega) (fun g2 => ?_) (fun g2 => ?_)
          · omega
          · refine ev_aload_n dM_marks_111 rfl ?_
            refine ev_get dM_marks_112 fl_M_17 rfl rfl ?_
            refine ev_iload dM_marks_115 rfl ?_
            refine ev_iload dM_marks_117 rfl ?_
            refine ev_iload dM_marks_119 rfl ?_
            refine ev_ishr dM_marks_121 sh ?_
            refine ev_iconst dM_marks_122 ?_
            refine ev_and (b := 1) dM_marks_123 ?_
            rw [em]
            refine ev_iconst dM_marks_124 ?_
            refine ev_icmp_ne (tgt := 132) dM_marks_125 rfl (by omega) (by omega) (by omega) (by omega) (fun g3 => ?_) (fun g3 => ?_)
            · have hk0 : K j ≠ 0 := fun q => by
                have b2 : decide (pt (fun c => decide (K c = 0)) n.toNat / 2 ^ j % 2 = 1) = true := by rw [bit]; exact decide_eq_true q
                have := of_decide_eq_true b2
                omega
              have e2 : km K w j = K j := (km_bd (w := w) hKj).2.2 hk0
              rw [← e2, ← e1, ← e0] at next
              refine ev_aload_n dM_marks_132 rfl ?_
              refine ev_get dM_marks_133 fl_M_17 rfl rfl ?_
              refine ev_iload dM_marks_136 rfl ?_
              refine ev_iald dM_marks_138 rfl (by omega) (by omega) (by decide) ?_
              refine ev_iast dM_marks_139 rfl (by omega) (by omega) (by decide) ?_
              refine ev_iinc dM_marks_140 rfl ?_
              refine ev_goto (tgt := 102) dM_marks_143 rfl ?_
              exact next
            · have hk0 : K j = 0 := by
                have b2 : decide (pt (fun c => decide (K c = 0)) n.toNat / 2 ^ j % 2 = 1) = true := decide_eq_true (by omega)
                rw [bit] at b2
                exact of_decide_eq_true b2
              rw [hk0] at next
              refine ev_iconst dM_marks_128 ?_
              refine ev_goto (tgt := 139) dM_marks_129 rfl ?_
              refine ev_iast dM_marks_139 rfl (by omega) (by omega) (by decide) ?_
              refine ev_iinc dM_marks_140 rfl ?_
              refine ev_goto (tgt := 102) dM_marks_143 rfl ?_
              exact next
      -- one way is looked at
      have ask : ∀ (z : MZ) (o4 o6 : Option Value), ev_E g false mM_marks (d + 5) 83 [some (.ref 16), some (ev_i ((2 ^ frN K n.toNat : Nat) : Int)), some (ev_i ((ct_s (fun w => bd (ly_all (L, n, tn, P, kmF K n w) ≠ [])) w : Nat) : Int)), some (ev_i (w : Nat)), o4, some (ev_i ((pt (fun c => decide (K c = 0)) n.toNat : Nat) : Int)), o6] [] (MH c 0 L n tn P (kmF K n w) S ty z y t) 0 0 Q := by
        intro z o4 o6
        have b0 := fun (z : MZ) (m : Int) (hm : m = ((ct_s (fun w => bd (ly_all (L, n, tn, P, kmF K n w) ≠ [])) (w + 1) : Nat) : Int)) => back n.toNat 0 z m o4 (by omega) hm
        rw [show ((0 : Nat) : Int) = 0 from rfl, ev_ov_0 _ _ (Int.le_refl _)] at b0
        refine ev_iload_n dM_marks_83 rfl ?_
        refine ev_aload_n dM_marks_84 rfl ?_
        refine ev_iconst dM_marks_85 ?_
        refine ev_callV dM_marks_86 cv_M_163 rfl rfl (Nat.le_of_ble_eq_true rfl) (ct_Mlook (d := d) (th := 0) (K := kmF K n w) (N := 0) (by decide) (by decide) (kmF_ok ok)) (Nat.le_refl _) (Nat.le_refl _) rfl (fun v h' q => ?_)
        rcases q with ⟨-, x, z', hx, qv, rfl, -⟩ | ⟨hN, z', qv, rfl, -⟩
        · cases Sum.inl.inj qv
          have hb : bd (ly_all (L, n, tn, P, kmF K n w) ≠ []) = true := bd_iff.mpr (fun q => by rw [q] at hx; simp at hx)
          refine ev_if_eq (tgt := 96) dM_marks_89 rfl (by omega) (by omega) (fun g1 => ?_) (fun g1 => ?_)
          · omega
          · refine ev_iconst dM_marks_92 ?_
            refine ev_goto (tgt := 97) dM_marks_93 rfl ?_
            refine ev_iadd dM_marks_97 ?_
            refine ev_istore_n dM_marks_98 (Nat.le_of_ble_eq_true rfl) ?_
            refine ev_iconst dM_marks_99 ?_
            refine ev_istore dM_marks_100 (Nat.le_of_ble_eq_true rfl) ?_
            refine b0 z' _ ?_
            show _ = ((ct_s (fun w => bd (ly_all (L, n, tn, P, kmF K n w) ≠ [])) w + (if bd (ly_all (L, n, tn, P, kmF K n w) ≠ []) then 1 else 0) : Nat) : Int)
            rw [hb]
            push_cast
            rfl
        · cases Sum.inl.inj qv
          have hnil : ly_all (L, n, tn, P, kmF K n w) = [] := by
            rcases hN with r | r
            · exact absurd r (by decide)
            · exact List.length_eq_zero_iff.mp (by omega)
          have hb : bd (ly_all (L, n, tn, P, kmF K n w) ≠ []) = false := by
            cases hq : bd (ly_all (L, n, tn, P, kmF K n w) ≠ []) with
            | false => rfl
            | true => exact absurd hnil (bd_iff.mp hq)
          refine ev_if_eq (tgt := 96) dM_marks_89 rfl (by omega) (by omega) (fun g1 => ?_) (fun g1 => ?_)
          · refine ev_iconst dM_marks_96 ?_
            refine ev_iadd dM_marks_97 ?_
            refine ev_istore_n dM_marks_98 (Nat.le_of_ble_eq_true rfl) ?_
            refine ev_iconst dM_marks_99 ?_
            refine ev_istore dM_marks_100 (Nat.le_of_ble_eq_true rfl) ?_
            refine b0 z' _ ?_
            show _ = ((ct_s (fun w => bd (ly_all (L, n, tn, P, kmF K n w) ≠ [])) w + (if bd (ly_all (L, n, tn, P, kmF K n w) ≠ []) then 1 else 0) : Nat) : Int)
            rw [hb]
            push_cast
            rfl
          · omega
      -- the marks are chosen
      have put : ∀ (i j : Nat) (z : MZ), (j : Int) + i = n → ev_E g false mM_marks (d + 5) 30 [some (.ref 16), some (ev_i ((2 ^ frN K n.toNat : Nat) : Int)), some (ev_i ((ct_s (fun w => bd (ly_all (L, n, tn, P, kmF K n w) ≠ [])) w : Nat) : Int)), some (ev_i (w : Nat)), some (ev_i ((w / 2 ^ frN K j : Nat) : Int)), some (ev_i ((pt (fun c => decide (K c = 0)) j : Nat) : Int)), some (ev_i (j : Nat))] [] (MH c 0 L n tn P (ev_ov (fun q => km K w q.toNat) K j) S ty z y t) 0 0 Q := by
        intro i
        induction i with
        | zero =>
          intro j z hi
          have hj : n = (j : Int) := by omega
          have hjn : j = n.toNat := by omega
          refine ev_iload dM_marks_30 rfl ?_
          refine ev_aload_n dM_marks_32 rfl ?_
          refine ev_get dM_marks_33 fl_M_63 rfl rfl ?_
          refine ev_icmp_ge (tgt := 83) dM_marks_36 rfl (by omega) (by omega) (by omega) (by omega) (fun g2 => ?_) (fun g2 => ?_)
          · subst hjn
            have hc : ((n.toNat : Nat) : Int) = n := Int.toNat_of_nonneg hn0
            have := ask z (some (ev_i ((w / 2 ^ frN K n.toNat : Nat) : Int))) (some (ev_i n))
            rw [hc]
            exact this
          · omega
        | succ i ihi =>
          intro j z hi
          have hKj := sp_Kb ok j (by omega) (by omega)
          have hwd : w / 2 ^ frN K j ≤ w := Nat.div_le_self _ _
          have hwI : ((w / 2 ^ frN K j : Nat) : Int) < 2147483648 := by
            have := Int.ofNat_le.mpr hwd
            omega
          have next := ihi (j + 1) z (by omega)
          have e0 : ev_ov (fun q => km K w q.toNat) K j j = K j := ev_ov_out (by omega)
          refine ev_iload dM_marks_30 rfl ?_
          refine ev_aload_n dM_marks_32 rfl ?_
          refine ev_get dM_marks_33 fl_M_63 rfl rfl ?_
          refine ev_icmp_ge (tgt := 83) dM_marks_36 rfl (by omega) (by omega) (by omega) (by omega) (fun g2 => ?_) (fun g2 => ?_)
          · omega
          · refine ev_aload_n dM_marks_39 rfl ?_
            refine ev_get dM_marks_40 fl_M_17 rfl rfl ?_
            refine ev_iload dM_marks_43 rfl ?_
            refine ev_iald dM_marks_45 rfl (by omega) (by omega) (by decide) ?_
            rw [e0]
            refine ev_if_ne (tgt := 77) dM_marks_46 rfl (by omega) (by omega) (fun g3 => ?_) (fun g3 => ?_)
            · have f1 : frN K (j + 1) = frN K j := by
                show frN K j + (if K j = 0 then 1 else 0) = _
                rw [if_neg g3]
                rfl
              have f2 : pt (fun c => decide (K c = 0)) (j + 1) = pt (fun c => decide (K c = 0)) j := by
                show pt (fun c => decide (K c = 0)) j + (if decide (K j = 0) then 2 ^ j else 0) = _
                rw [decide_eq_false g3]
                rfl
              have f3 : ev_ov (fun q => km K w q.toNat) K ((j + 1 : Nat) : Int) = ev_ov (fun q => km K w q.toNat) K j := by
                funext q
                by_cases hq : q = (j : Int)
                · rw [hq, ev_ov_in (by omega) (by omega), ev_ov_out (by omega)]
                  exact (km_bd (w := w) hKj).2.2 g3
                · by_cases hq2 : 0 ≤ q ∧ q < (j : Int)
                  · rw [ev_ov_in hq2.1 (by omega), ev_ov_in hq2.1 hq2.2]
                  · rw [ev_ov_out (by omega), ev_ov_out (by omega)]
              rw [f1, f2, f3] at next
              refine ev_iinc dM_marks_77 rfl ?_
              refine ev_goto (tgt := 30) dM_marks_80 rfl ?_
              exact next
            · have f1 : frN K (j + 1) = frN K j + 1 := by
                show frN K j + (if K j = 0 then 1 else 0) = _
                rw [if_pos g3]
              have f2 : pt (fun c => decide (K c = 0)) (j + 1) = pt (fun c => decide (K c = 0)) j ||| 2 ^ j := by
                rw [pt_or]
                show pt (fun c => decide (K c = 0)) j + (if decide (K j = 0) then 2 ^ j else 0) = _
                rw [decide_eq_true g3]
                rfl
              have f4 : w / 2 ^ (frN K j + 1) = w / 2 ^ frN K j / 2 := by rw [Nat.pow_succ, Nat.div_div_eq_div_mul]
              have f5 : km K w j = 1 + ((w / 2 ^ frN K j : Nat) : Int) % 2 := by
                unfold km
                rw [if_pos g3]
                push_cast
                rfl
              rw [f1, f2, f4, show (((j + 1 : Nat) : Nat) : Int) = (j : Int) + 1 by omega, ← ev_ov_s (F := fun q => km K w q.toNat) (z := 1 + ((w / 2 ^ frN K j : Nat) : Int) % 2) (by omega) (by rw [← f5]; rfl)] at next
              rw [show ((w / 2 ^ frN K j / 2 : Nat) : Int) = ((w / 2 ^ frN K j : Nat) : Int) / 2 by omega] at next
              refine ev_iload dM_marks_49 rfl ?_
              refine ev_iconst dM_marks_51 ?_
              refine ev_iload dM_marks_52 rfl ?_
              refine ev_shl1 (k := j) dM_marks_54 rfl (by omega) ?_
              refine ev_or dM_marks_55 ?_
              refine ev_istore dM_marks_56 (Nat.le_of_ble_eq_true rfl) ?_
              refine ev_aload_n dM_marks_58 rfl ?_
              refine ev_get dM_marks_59 fl_M_17 rfl rfl ?_
              refine ev_iload dM_marks_62 rfl ?_
              refine ev_iconst dM_marks_64 ?_
              refine ev_iload dM_marks_65 rfl ?_
              refine ev_iconst dM_marks_67 ?_
              refine ev_rem dM_marks_68 (Int.natCast_nonneg _) hwI (by decide) (by decide) ?_
              refine ev_iadd dM_marks_69 ?_
              refine ev_iast dM_marks_70 rfl (by omega) (by omega) (by decide) ?_
              refine ev_iload dM_marks_71 rfl ?_
              refine ev_iconst dM_marks_73 ?_
              refine ev_div dM_marks_74 (Int.natCast_nonneg _) hwI (by decide) (by decide) ?_
              refine ev_istore dM_marks_75 (Nat.le_of_ble_eq_true rfl) ?_
              refine ev_iinc dM_marks_77 rfl ?_
              refine ev_goto (tgt := 30) dM_marks_80 rfl ?_
              exact next
      have p0 := put n.toNat 0 z (by omega)
      rw [show ((0 : Nat) : Int) = 0 from rfl, ev_ov_0 _ _ (Int.le_refl _), show frN K 0 = 0 from rfl, Nat.pow_zero, Nat.div_one] at p0
      refine ev_iload_n dM_marks_16 rfl ?_
      refine ev_iload_n dM_marks_17 rfl ?_
      refine ev_icmp_ge (tgt := 152) dM_marks_18 rfl (by omega) (by omega) (by omega) (by omega) (fun g1 => ?_) (fun g1 => ?_)
      · omega
      · refine ev_iload_n dM_marks_21 rfl ?_
        refine ev_istore dM_marks_22 (Nat.le_of_ble_eq_true rfl) ?_
        refine ev_iconst dM_marks_24 ?_
        refine ev_istore dM_marks_25 (Nat.le_of_ble_eq_true rfl) ?_
        refine ev_iconst dM_marks_27 ?_
        refine ev_istore dM_marks_28 (Nat.le_of_ble_eq_true rfl) ?_
        exact p0
  refine ev_aload_n dM_marks_0 rfl ?_
  refine ev_iconst dM_marks_1 ?_
  refine ev_put dM_marks_2 fp_M_56 (fun q => by cases q) rfl (Nat.le_of_ble_eq_true rfl) rfl rfl ?_
  refine ev_iconst dM_marks_5 ?_
  refine ev_aload_n dM_marks_6 rfl ?_
  refine ev_cV dM_marks_7 cv_M_74 (ct_Mfree (th := 0) hn0 hn (sp_Kb ok)) rfl rfl rfl (Nat.le_of_ble_eq_true rfl) (Nat.le_of_ble_eq_true rfl) (Nat.le_of_ble_eq_true rfl) ?_
  refine ev_shl1 (k := frN K n.toNat) dM_marks_10 (frN_fr K n.toNat).symm (by omega) ?_
  refine ev_istore_n dM_marks_11 (Nat.le_of_ble_eq_true rfl) ?_
  refine ev_iconst dM_marks_12 ?_
  refine ev_istore_n dM_marks_13 (Nat.le_of_ble_eq_true rfl) ?_
  refine ev_iconst dM_marks_14 ?_
  refine ev_istore_n dM_marks_15 (Nat.le_of_ble_eq_true rfl) ?_
  exact outer (2 ^ frN K n.toNat) 0 z none none none (by omega)
end RM
