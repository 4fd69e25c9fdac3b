/-! How many markings: class and reference count the same -/
theorem ly_ab_bit {o : Nat} {a b : Int} (h : a < b) : ly_ab o a b = o.testBit (ly_ix a b) := if_pos h
section MB
variable {n : Int} {K K' : Int → Int} {tn : Bool} {B lo hi : Int → Int}
/-- what is found keeps what is decided -/
theorem ly_go_bits (hn : n ≤ 6) : ∀ (k : Nat) (a b : Int) (o x : Nat), ly_k n k a b → x ∈ ly_go K tn B lo hi k a b o → ∀ j, j < ly_ix a b → x.testBit j = o.testBit j
  | 0, a, b, o, x, _, hx, j, _ => by
    have : x = o := List.mem_singleton.mp hx
    rw [this]
  | k + 1, a, b, o, x, hk, hx, j, hj => by
    have hbn := ly_k_s hk
    have hkn := ly_k_n hk
    obtain ⟨-, a0, ab, -, -⟩ := hk
    have hixn := ly_ix_n a0 ab (by omega)
    have ob1 : ∀ j, (o ||| 2 ^ ly_ix a b).testBit j = (o.testBit j || decide (ly_ix a b = j)) := fun j => by rw [Nat.testBit_or, Nat.testBit_two_pow]
    unfold ly_go at hx
    by_cases ho : ly_ov lo hi a b = true
    · rw [if_pos ho, List.mem_append] at hx
      rcases hx with hx | hx
      · split at hx
        · exact ly_go_bits hn k _ _ o x hkn hx j (by omega)
        · cases hx
      · split at hx
        · rw [ly_go_bits hn k _ _ _ x hkn hx j (by omega), ob1, decide_eq_false (by omega), Bool.or_false]
        · cases hx
    · rw [if_neg ho] at hx
      exact ly_go_bits hn k _ _ o x hkn hx j (by omega)
theorem ly_mk_cg {o x : Nat} {a b : Int} (a0 : 0 ≤ a) (ab : a < b) (h : x.testBit (ly_ix a b) = o.testBit (ly_ix a b)) : ly_mk K tn x a b = ly_mk K tn o a b := by
  unfold ly_mk
  have e : ∀ o : Nat, ly_ab o b a = !(o.testBit (ly_ix a b)) := fun o => if_neg (by omega)
  rw [e, e, h]
theorem ly_ok_K (hr : ∀ c, 0 ≤ c → c < n → K c ≠ 0 → K' c = K c) {o : Nat} {a b : Int} (a0 : 0 ≤ a) (ab : a < b) (bn : b ≤ n) : ly_ok K' tn B lo hi o a b = true ↔ (ly_ok K tn B lo hi o a b = true ∧ ly_mk K' tn o a b = true) := by
  unfold ly_ok
  constructor
  · intro hh0
    rw [Bool.and_eq_true] at hh0
    obtain ⟨h1, h2⟩ := hh0
    refine ⟨?_, h1⟩
    rw [Bool.and_eq_true]
    refine ⟨?_, h2⟩
    unfold ly_mk at h1 ⊢
    by_cases hh : b ≠ a + 1 ∨ K a = 0
    · rw [if_pos hh]
    · have hk : K a ≠ 0 := fun q => hh (Or.inr q)
      have hb : b = a + 1 := by omega
      rw [hr a a0 (by omega) hk, if_neg hh] at h1
      rw [if_neg hh]
      exact h1
  · rintro ⟨h3, h1⟩
    rw [Bool.and_eq_true] at h3 ⊢
    exact ⟨h1, h3.2⟩
theorem ly_mem (ge : ge_ok n B lo hi) (hn : n ≤ 6) (hr : ∀ c, 0 ≤ c → c < n → K c ≠ 0 → K' c = K c) : ∀ (k : Nat) (a b : Int) (o x : Nat), ly_k n k a b →
    (x ∈ ly_go K' tn B lo hi k a b o ↔ (x ∈ ly_go K tn B lo hi k a b o ∧ ∀ c, 0 ≤ c → c < n → ¬ lk_dc a b c (c + 1) → ly_mk K' tn x c (c + 1) = true))
  | 0, a, b, o, x, hk => by
    have hb := ly_k_0 hk
    have ha := hk.2.2.2.2 hb
    refine ⟨fun h => ⟨h, fun c c0 c1 q => ?_⟩, fun h => h.1⟩
    exfalso
    refine q ?_
    unfold lk_dc
    omega
  | k + 1, a, b, o, x, hk => by
    have hbn := ly_k_s hk
    have hkn := ly_k_n hk
    obtain ⟨-, a0, ab, -, -⟩ := hk
    have hixn := ly_ix_n a0 ab (by omega)
    by_cases ho : ly_ov lo hi a b = true
    · have br : ∀ o1 : Nat, (ly_ok K' tn B lo hi o1 a b = true ∧ x ∈ ly_go K' tn B lo hi k (if b ≤ a + 1 then 0 else a + 1) (if b ≤ a + 1 then b + 1 else b) o1) ↔
          ((ly_ok K tn B lo hi o1 a b = true ∧ x ∈ ly_go K tn B lo hi k (if b ≤ a + 1 then 0 else a + 1) (if b ≤ a + 1 then b + 1 else b) o1) ∧ ∀ c, 0 ≤ c → c < n → ¬ lk_dc a b c (c + 1) → ly_mk K' tn x c (c + 1) = true) := by
        intro o1
        rw [ly_ok_K hr a0 ab hbn, ly_mem ge hn hr k _ _ o1 x hkn]
        constructor
        · rintro ⟨⟨h1, h2⟩, h3, h4⟩
          refine ⟨⟨h1, h3⟩, fun c c0 c1 q => ?_⟩
          by_cases hc : c = a ∧ c + 1 = b
          · obtain ⟨rfl, rfl⟩ := hc
            rw [ly_mk_cg c0 ab (ly_go_bits hn k _ _ o1 x hkn h3 _ (by omega))]
            exact h2
          · refine h4 c c0 c1 (fun r => ?_)
            rcases (lk_dc_n a0 ab c0 (by omega) (by omega)).mp r with r | r | r
            · exact q r
            · exact hc r
            · omega
        · rintro ⟨⟨h1, h3⟩, h4⟩
          refine ⟨⟨h1, ?_⟩, h3, fun c c0 c1 q => h4 c c0 c1 (fun r => q ((lk_dc_n a0 ab c0 (by omega) (by omega)).mpr (Or.inl r)))⟩
          by_cases hc : b = a + 1
          · subst hc
            rw [← ly_mk_cg a0 ab (ly_go_bits hn k _ _ o1 x hkn h3 _ (by omega))]
            exact h4 a a0 (by omega) lk_dc_no.1
          · unfold ly_mk
            rw [if_pos (Or.inl hc)]
      unfold ly_go
      rw [if_pos ho, if_pos ho, List.mem_append, List.mem_append]
      have m : ∀ (p : Prop) [Decidable p] (l : List Nat), x ∈ (if p then l else []) ↔ (p ∧ x ∈ l) := by
        intro p _ l
        by_cases hp : p
        · rw [if_pos hp]
          exact ⟨fun q => ⟨hp, q⟩, fun q => q.2⟩
        · rw [if_neg hp]
          exact ⟨fun q => (by cases q), fun q => absurd q.1 hp⟩
      rw [m, m, m, m, br o, br (o ||| 2 ^ ly_ix a b)]
      constructor
      · rintro (⟨q1, q2⟩ | ⟨q1, q2⟩)
        · exact ⟨Or.inl q1, q2⟩
        · exact ⟨Or.inr q1, q2⟩
      · rintro ⟨q1 | q1, q2⟩
        · exact Or.inl ⟨q1, q2⟩
        · exact Or.inr ⟨q1, q2⟩
    · unfold ly_go
      rw [if_neg ho, if_neg ho, ly_mem ge hn hr k _ _ o x hkn]
      refine and_congr_right (fun _ => ?_)
      constructor
      · intro h c c0 c1 q
        refine h c c0 c1 (fun r => ?_)
        rcases (lk_dc_n a0 ab c0 (by omega) (by omega)).mp r with r | ⟨rfl, rfl⟩ | r
        · exact q r
        · exact ho (ge_next ge c0 c1)
        · omega
      · intro h c c0 c1 q
        exact h c c0 c1 (fun r => q ((lk_dc_n a0 ab c0 (by omega) (by omega)).mpr (Or.inl r)))
end MB
/-- the order's bit at a crease of the mark v -/
def tb (tn : Bool) (v c : Int) : Bool := !(decide (v = 2) == sp_up tn c)
theorem ly_mk_tb {K : Int → Int} {tn : Bool} {x : Nat} {c : Int} (hK : K c ≠ 0) : ly_mk K tn x c (c + 1) = true ↔ ly_ab x c (c + 1) = tb tn (K c) c := by
  unfold ly_mk tb
  rw [if_neg (by rintro (q | q); exact q rfl; exact hK q), ly_ab_as (u := c) (v := c + 1) (by omega)]
  cases ly_ab x (c + 1) c <;> cases (decide (K c = 2) == sp_up tn c) <;> decide
/-- the number with the bits t -/
def pt (t : Nat → Bool) : Nat → Nat
  | 0 => 0
  | k + 1 => pt t k + (if t k then 2 ^ k else 0)
theorem pt_lt (t : Nat → Bool) : ∀ k : Nat, pt t k < 2 ^ k
  | 0 => Nat.zero_lt_one
  | k + 1 => by
    have ih := pt_lt t k
    unfold pt
    rw [Nat.pow_succ]
    split <;> omega
theorem pt_inj {t t' : Nat → Bool} : ∀ k : Nat, pt t k = pt t' k ↔ ∀ c, c < k → t c = t' c
  | 0 => ⟨fun _ c hc => absurd hc (Nat.not_lt_zero c), fun _ => rfl⟩
  | k + 1 => by
    have ih := pt_inj (t := t) (t' := t') k
    have h1 := pt_lt t k
    have h2 := pt_lt t' k
    unfold pt
    constructor
    · intro h
      have hk : t k = t' k := by
        cases q1 : t k with
        | false =>
          cases q2 : t' k with
          | false => rfl
          | true =>
            exfalso
            rw [q1, q2, if_neg (by decide), if_pos rfl] at h
            omega
        | true =>
          cases q2 : t' k with
          | true => rfl
          | false =>
            exfalso
            rw [q1, q2, if_pos rfl, if_neg (by decide)] at h
            omega
      rw [hk] at h
      have := ih.mp (by omega)
      intro c hc
      by_cases hck : c = k
      · rw [hck]; exact hk
      · exact this c (by omega)
    · intro h
      rw [ih.mpr (fun c hc => h c (by omega)), h k (Nat.lt_succ_self k)]
theorem pt_cg {t t' : Nat → Bool} (k : Nat) (h : ∀ c, c < k → t c = t' c) : pt t k = pt t' k := (pt_inj k).mpr h
theorem ly_mg_pt (o : Nat) : ∀ k : Nat, ly_mg o k = pt (fun c => ly_ab o c (c + 1)) k
  | 0 => rfl
  | k + 1 => by
    have ih := ly_mg_pt o k
    have h1 := pt_lt (fun c => ly_ab o c (c + 1)) k
    unfold ly_mg pt
    rw [ih]
    by_cases h : ly_ab o k (k + 1) = true
    · rw [if_pos h, if_pos h]
      have := Nat.two_pow_add_eq_or_of_lt h1 1
      rw [Nat.mul_one] at this
      rw [Nat.or_comm, ← this, Nat.add_comm]
    · rw [if_neg h, if_neg h]
      rfl
/-- how many free creases among the first -/
def frN (K : Int → Int) : Nat → Nat
  | 0 => 0
  | k + 1 => frN K k + (if K k = 0 then 1 else 0)
theorem frN_fr (K : Int → Int) : ∀ k : Nat, (frN K k : Int) = sp_fr K k
  | 0 => rfl
  | k + 1 => by
    have := frN_fr K k
    unfold frN sp_fr
    split <;> push_cast <;> omega
theorem frN_mono (K : Int → Int) {a b : Nat} (h : a ≤ b) : frN K a ≤ frN K b := by
  induction b with
  | zero => rw [show a = 0 by omega]; exact Nat.le_refl _
  | succ b ih =>
    by_cases q : a = b + 1
    · rw [q]; exact Nat.le_refl _
    · have h1 := ih (by omega)
      exact Nat.le_trans h1 (Nat.le_add_right _ _)
/-- the marks of the way w -/
def km (K : Int → Int) (w : Nat) (c : Nat) : Int := if K c = 0 then 1 + ((w / 2 ^ frN K c % 2 : Nat) : Int) else K c
def cpt (K : Int → Int) (tn : Bool) : Nat → Nat → Bool
  | 0, _ => true
  | i + 1, j => cpt K tn i j && (decide (K i = 0) || (j.testBit i == tb tn (K i) i))
theorem cpt_hi (K : Int → Int) (tn : Bool) {m : Nat} : ∀ (i j : Nat), i ≤ m → cpt K tn i (2 ^ m + j) = cpt K tn i j
  | 0, _, _ => rfl
  | i + 1, j, h => by
    unfold cpt
    rw [cpt_hi K tn i j (by omega), Nat.testBit_two_pow_add_gt (by omega)]
theorem km_hi {K : Int → Int} {w c i : Nat} (hc : c < i) : km K (2 ^ frN K i + w) c = km K w c := by
  unfold km
  by_cases h : K c = 0
  · rw [if_pos h, if_pos h]
    have h1 : frN K (c + 1) ≤ frN K i := frN_mono K (by omega)
    have h2 : frN K (c + 1) = frN K c + 1 := by
      show frN K c + (if K c = 0 then 1 else 0) = _
      rw [if_pos h]
    obtain ⟨e, he⟩ := Nat.le.dest (show frN K c + 1 ≤ frN K i by omega)
    rw [← he, Nat.pow_add, Nat.pow_succ, Nat.mul_assoc, Nat.mul_add_div (Nat.two_pow_pos _), Nat.mul_add_mod]
  · rw [if_neg h, if_neg h]
theorem ct_s_f : ∀ k : Nat, ct_s (fun _ => false) k = 0
  | 0 => rfl
  | k + 1 => by
    unfold ct_s
    rw [ct_s_f k]
    rfl
/-- the ways are the compatible numbers -/
theorem km_cnt (K : Int → Int) (tn : Bool) : ∀ (i : Nat) (f : Nat → Bool), ct_s (fun w => f (pt (fun c => tb tn (km K w c) c) i)) (2 ^ frN K i) = ct_s (fun j => f j && cpt K tn i j) (2 ^ i)
  | 0, f => by
    show ct_s (fun _ => f 0) 1 = ct_s (fun j => f j && true) 1
    exact ct_s_cg 1 (fun j hj => by rw [show j = 0 by omega, Bool.and_true])
  | i + 1, f => by
    have ih0 := km_cnt K tn i f
    have ih1 := km_cnt K tn i (fun j => f (2 ^ i + j))
    have tbi : ∀ j, j < 2 ^ i → j.testBit i = false := fun j hj => Nat.testBit_lt_two_pow hj
    have tbi1 : ∀ j, j < 2 ^ i → (2 ^ i + j).testBit i = true := fun j hj => by rw [Nat.testBit_two_pow_add_eq, tbi j hj]; rfl
    rw [show 2 ^ (i + 1) = 2 ^ i + 2 ^ i by rw [Nat.pow_succ]; omega, ct_s_add (fun j => f j && cpt K tn (i + 1) j)]
    have r0 : ct_s (fun j => f j && cpt K tn (i + 1) j) (2 ^ i) = ct_s (fun j => f j && (cpt K tn i j && (decide (K i = 0) || (false == tb tn (K i) i)))) (2 ^ i) :=
      ct_s_cg _ (fun j hj => by show (f j && (cpt K tn i j && (decide (K i = 0) || (j.testBit i == tb tn (K i) i)))) = _; rw [tbi j hj])
    have r1 : ct_s (fun j => f (2 ^ i + j) && cpt K tn (i + 1) (2 ^ i + j)) (2 ^ i) = ct_s (fun j => f (2 ^ i + j) && (cpt K tn i j && (decide (K i = 0) || (true == tb tn (K i) i)))) (2 ^ i) :=
      ct_s_cg _ (fun j hj => by show (f (2 ^ i + j) && (cpt K tn i (2 ^ i + j) && (decide (K i = 0) || ((2 ^ i + j).testBit i == tb tn (K i) i)))) = _; rw [tbi1 j hj, cpt_hi K tn i j (Nat.le_refl i)])
    rw [r0, r1]
    by_cases h : K i = 0
    · have hF : frN K (i + 1) = frN K i + 1 := by
        show frN K i + (if K i = 0 then 1 else 0) = _
        rw [if_pos h]
      rw [hF, show 2 ^ (frN K i + 1) = 2 ^ frN K i + 2 ^ frN K i by rw [Nat.pow_succ]; omega, ct_s_add]
      have l0 : ct_s (fun w => f (pt (fun c => tb tn (km K w c) c) (i + 1))) (2 ^ frN K i) = ct_s (fun w => f (pt (fun c => tb tn (km K w c) c) i + (if tb tn 1 i then 2 ^ i else 0))) (2 ^ frN K i) :=
        ct_s_cg _ (fun w hw => by
          show f (pt (fun c => tb tn (km K w c) c) i + (if tb tn (km K w i) i then 2 ^ i else 0)) = _
          rw [show km K w i = 1 by unfold km; rw [if_pos h, Nat.div_eq_of_lt hw]; rfl])
      have l1 : ct_s (fun w => f (pt (fun c => tb tn (km K (2 ^ frN K i + w) c) c) (i + 1))) (2 ^ frN K i) = ct_s (fun w => f (pt (fun c => tb tn (km K w c) c) i + (if tb tn 2 i then 2 ^ i else 0))) (2 ^ frN K i) :=
        ct_s_cg _ (fun w hw => by
          show f (pt (fun c => tb tn (km K (2 ^ frN K i + w) c) c) i + (if tb tn (km K (2 ^ frN K i + w) i) i then 2 ^ i else 0)) = _
          rw [show km K (2 ^ frN K i + w) i = 2 by unfold km; rw [if_pos h, Nat.add_div_left _ (Nat.two_pow_pos _), Nat.div_eq_of_lt hw]; rfl]
          rw [pt_cg i (fun c hc => by rw [km_hi hc])])
      rw [l0, l1]
      have d1 : decide (K i = 0) = true := decide_eq_true h
      rw [d1]
      simp only [Bool.true_or, Bool.and_true]
      have t12 : tb tn 2 i = !(tb tn 1 i) := by
        unfold tb
        cases sp_up tn i <;> decide
      rw [t12]
      cases tb tn 1 i
      · simp only [Bool.not_false, if_true, Bool.false_eq_true, if_false, Nat.add_zero]
        rw [ih0, ← ih1]
        congr 1
        exact ct_s_cg _ (fun w _ => by rw [Nat.add_comm])
      · simp only [Bool.not_true, if_true, Bool.false_eq_true, if_false, Nat.add_zero]
        rw [ih0, ← ih1, Nat.add_comm]
        congr 1
        exact ct_s_cg _ (fun w _ => by rw [Nat.add_comm])
    · have hF : frN K (i + 1) = frN K i := by
        show frN K i + (if K i = 0 then 1 else 0) = _
        rw [if_neg h]
        rfl
      rw [hF, decide_eq_false h]
      have l0 : ct_s (fun w => f (pt (fun c => tb tn (km K w c) c) (i + 1))) (2 ^ frN K i) = ct_s (fun w => f (pt (fun c => tb tn (km K w c) c) i + (if tb tn (K i) i then 2 ^ i else 0))) (2 ^ frN K i) :=
        ct_s_cg _ (fun w _ => by
          show f (pt (fun c => tb tn (km K w c) c) i + (if tb tn (km K w i) i then 2 ^ i else 0)) = _
          rw [show km K w i = K i from if_neg h])
      rw [l0]
      cases tb tn (K i) i
      · simp only [Bool.false_or, beq_self_eq_true, Bool.and_true, Bool.false_eq_true, if_false, Nat.add_zero]
        rw [ih0, show (true == false) = false from rfl]
        simp only [Bool.and_false]
        rw [ct_s_f]
        rfl
      · simp only [Bool.false_or, beq_self_eq_true, Bool.and_true, if_true]
        rw [show (false == true) = false from rfl]
        simp only [Bool.and_false]
        rw [ct_s_f, Nat.zero_add, ← ih1]
        exact ct_s_cg _ (fun w _ => by rw [Nat.add_comm])
/-- a long's bit -/
def lb_bit (x : Int64) (j : Nat) : Bool := x.toBitVec.getLsbD j
theorem ly_mb_ok : ∀ m : Nat, m < 64 → (ly_mb m).toBitVec = BitVec.ofNat 64 (2 ^ m) := by decide +kernel
theorem ly_ms_bit {n : Int} : ∀ (S : List Nat) (mm : Int64) (j : Nat), (∀ x ∈ S, ly_mg x n.toNat < 64) → j < 64 → (lb_bit (ly_ms n mm S) j = true ↔ (lb_bit mm j = true ∨ ∃ x ∈ S, ly_mg x n.toNat = j))
  | [], mm, j, _, _ => ⟨fun h => Or.inl h, fun h => by
      rcases h with h | ⟨x, hx, -⟩
      · exact h
      · cases hx⟩
  | x :: S, mm, j, hS, hj => by
    have ih := ly_ms_bit (n := n) S (mm ||| ly_mb (ly_mg x n.toNat)) j (fun y hy => hS y (List.mem_cons_of_mem _ hy)) hj
    have hx := hS x List.mem_cons_self
    show lb_bit (ly_ms n (mm ||| ly_mb (ly_mg x n.toNat)) S) j = true ↔ _
    rw [ih]
    have e : lb_bit (mm ||| ly_mb (ly_mg x n.toNat)) j = (lb_bit mm j || decide (ly_mg x n.toNat = j)) := by
      unfold lb_bit
      rw [Int64.toBitVec_or, BitVec.getLsbD_or, ly_mb_ok _ hx, BitVec.getLsbD_ofNat, Nat.testBit_two_pow, decide_eq_true hj, Bool.true_and]
    rw [e, Bool.or_eq_true, decide_eq_true_iff]
    constructor
    · rintro ((q | q) | ⟨y, hy, q⟩)
      · exact Or.inl q
      · exact Or.inr ⟨x, List.mem_cons_self, q⟩
      · exact Or.inr ⟨y, List.mem_cons_of_mem _ hy, q⟩
    · rintro (q | ⟨y, hy, q⟩)
      · exact Or.inl (Or.inl q)
      · rcases List.mem_cons.mp hy with rfl | hy
        · exact Or.inl (Or.inr q)
        · exact Or.inr ⟨y, hy, q⟩
