/-! The folded strip: which images lie over each other; when the reference's rules hold -/
theorem sp_dir_s (i : Int) : sp_dir (i + 1) = - sp_dir i := by
  unfold sp_dir
  split <;> split <;> omega
/-- each image runs from bend to bend -/
def ge_ok (n : Int) (B lo hi : Int → Int) : Prop := ∀ i, 0 ≤ i → i ≤ n →
  (sp_dir i = 1 ∧ lo i = B i ∧ hi i = B (i + 1) ∧ B i < B (i + 1)) ∨ (sp_dir i = -1 ∧ lo i = B (i + 1) ∧ hi i = B i ∧ B (i + 1) < B i)
theorem ge_of {L n : Int} {P K : Int → Int} (ok : sp_ok L n P K) : ge_ok n (sp_B L n P) (sp_lo L n P) (sp_hi L n P) := by
  intro i i0 i1
  have h3 := sp_B_s (L := L) (n := n) (P := P) i0
  have h4 := sp_le_lt_re ok i0 i1
  unfold sp_lo sp_hi
  rcases sp_dir_or i with q | q <;> rw [q] at h3
  · refine Or.inl ⟨q, if_neg (by omega), if_pos (by omega), by omega⟩
  · refine Or.inr ⟨q, if_pos (by omega), if_neg (by omega), by omega⟩
theorem ly_ov_iff {lo hi : Int → Int} {a b : Int} : ly_ov lo hi a b = true ↔ (lo a < hi b ∧ lo b < hi a) := decide_eq_true_iff
theorem ly_ov_cm {lo hi : Int → Int} {a b : Int} : ly_ov lo hi a b = ly_ov lo hi b a := Bool.eq_iff_iff.mpr (ly_ov_iff.trans (and_comm.trans ly_ov_iff.symm))
theorem ly_in_iff {lo hi : Int → Int} {i q : Int} : ly_in lo hi i q = true ↔ (lo i < q ∧ q < hi i) := decide_eq_true_iff
section GE
variable {n : Int} {B lo hi : Int → Int}
theorem ge_next (ge : ge_ok n B lo hi) {c : Int} (c0 : 0 ≤ c) (c1 : c < n) : ly_ov lo hi c (c + 1) = true := by
  have h1 := ge c c0 (by omega)
  have h2 := ge (c + 1) (by omega) (by omega)
  have h3 := sp_dir_s c
  rw [ly_ov_iff]
  omega
/-- what has a crease inside lies over both its segments -/
theorem ge_in (ge : ge_ok n B lo hi) {c s : Int} (c0 : 0 ≤ c) (c1 : c < n) (h : ly_in lo hi s (B (c + 1)) = true) : ly_ov lo hi s c = true ∧ ly_ov lo hi s (c + 1) = true := by
  have h1 := ge c c0 (by omega)
  have h2 := ge (c + 1) (by omega) (by omega)
  have h3 := sp_dir_s c
  rw [ly_in_iff] at h
  rw [ly_ov_iff, ly_ov_iff]
  omega
theorem ge_meet (ge : ge_ok n B lo hi) {c e : Int} (c0 : 0 ≤ c) (c1 : c < n) (e0 : 0 ≤ e) (e1 : e < n) (h : B (c + 1) = B (e + 1)) (hov : ly_ov lo hi (c + 1) (e + 1) = true) :
    ly_ov lo hi c e = true ∧ ly_ov lo hi c (e + 1) = true ∧ ly_ov lo hi (c + 1) e = true := by
  have h1 := ge c c0 (by omega)
  have h2 := ge (c + 1) (by omega) (by omega)
  have h3 := sp_dir_s c
  have h4 := ge e e0 (by omega)
  have h5 := ge (e + 1) (by omega) (by omega)
  have h6 := sp_dir_s e
  rw [ly_ov_iff] at hov
  rw [ly_ov_iff, ly_ov_iff, ly_ov_iff]
  omega
theorem ge_ne (ge : ge_ok n B lo hi) {c : Int} (c0 : 0 ≤ c) (c1 : c ≤ n) : B c ≠ B (c + 1) := by
  have := ge c c0 c1
  omega
theorem ge_noin (ge : ge_ok n B lo hi) {c : Int} (c0 : 0 ≤ c) (c1 : c ≤ n) : ¬ ly_in lo hi c (B (c + 1)) = true := by
  have := ge c c0 c1
  rw [ly_in_iff]
  omega
theorem ge_noin' (ge : ge_ok n B lo hi) {c : Int} (c0 : 0 ≤ c) (c1 : c ≤ n) : ¬ ly_in lo hi c (B c) = true := by
  have := ge c c0 c1
  rw [ly_in_iff]
  omega
end GE
/-- the search's cells know the images -/
def gz (n : Int) (B lo hi : Int → Int) (z : MZ) : Prop := (∀ i, 0 ≤ i → i ≤ n → z.2.2.2.1 i = lo i ∧ z.2.2.2.2.1 i = hi i) ∧ ∀ i, 0 ≤ i → i < n → z.2.2.2.2.2.1 i = B (i + 1)
theorem gz_ov {n : Int} {B lo hi : Int → Int} {z : MZ} (ge : ge_ok n B lo hi) (hg : gz n B lo hi z) {a b : Int} (a0 : 0 ≤ a) (a1 : a ≤ n) (b0 : 0 ≤ b) (b1 : b ≤ n) (hab : a ≠ b) : mz_ov z a b = ly_ov lo hi a b := by
  have h1 := ge a a0 a1
  have h2 := ge b b0 b1
  unfold mz_ov ly_ov
  rw [(hg.1 a a0 a1).1, (hg.1 a a0 a1).2, (hg.1 b b0 b1).1, (hg.1 b b0 b1).2]
  refine decide_eq_decide.mpr ?_
  split <;> split <;> omega
/-- the pair u, v comes before (a, b) -/
def lk_dc (a b u v : Int) : Prop := (v < b ∨ (v = b ∧ u < a) ∨ v < u) ∧ (u < b ∨ (u = b ∧ v < a) ∨ u < v)
/-- the table of the order o, the pairs from (a, b) on being open -/
def lk_z (lo hi : Int → Int) (n : Int) (o : Nat) (a b : Int) (f : Int → Int) : Prop := ∀ u v, 0 ≤ u → u ≤ n → 0 ≤ v → v ≤ n → u ≠ v →
  (ly_ov lo hi u v = false → f (7 * u + v) = -1) ∧ (ly_ov lo hi u v = true → lk_dc a b u v → f (7 * u + v) = ev_b (ly_ab o u v)) ∧ (ly_ov lo hi u v = true → ¬ lk_dc a b u v → f (7 * u + v) = -2)
theorem ev_b_n2 (b : Bool) : ev_b b ≠ -2 := by cases b <;> decide
theorem mz_bt_dec {z : MZ} {s u v : Int} {p q : Bool} (h1 : mz_g z s u = ev_b p) (h2 : mz_g z s v = ev_b q) : mz_bt z s u v = ev_b (p != q) := by
  have a1 : z.1 (7 * s + u) = ev_b p := h1
  have a2 : z.1 (7 * s + v) = ev_b q := h2
  unfold mz_bt
  rw [a1, a2]
  cases p <;> cases q <;> decide
theorem mz_bt_un {z : MZ} {s u v : Int} (h : mz_bt z s u v ≠ -2) : mz_g z s u ≠ -2 ∧ mz_g z s v ≠ -2 := by
  unfold mz_bt at h
  by_cases q : z.1 (7 * s + u) = -2 ∨ z.1 (7 * s + v) = -2
  · rw [if_pos q] at h
    exact absurd rfl h
  · exact ⟨fun r => q (Or.inl r), fun r => q (Or.inr r)⟩
theorem ly_ab_as {o : Nat} {u v : Int} (h : u ≠ v) : ly_ab o u v = !(ly_ab o v u) := by
  unfold ly_ab
  by_cases q : u < v
  · rw [if_pos q, if_neg (by omega), Bool.not_not]
  · rw [if_neg q, if_pos (by omega)]
theorem ly_rdN_iff {lo hi : Int → Int} {o : Nat} {a b : Int} : ∀ (k : Nat) (c : Int), ly_rdN lo hi o a b k c = true ↔ ∀ x, c ≤ x → x < c + k → ly_r1 lo hi o a b x = false
  | 0, c => ⟨fun _ x x0 x1 => by have : x < c + 0 := x1; omega, fun _ => rfl⟩
  | k + 1, c => by
    have ih := ly_rdN_iff (lo := lo) (hi := hi) (o := o) (a := a) (b := b) k (c + 1)
    unfold ly_rdN
    by_cases h : ly_r1 lo hi o a b c = true
    · rw [if_pos h]
      refine ⟨fun q => (by cases q), fun q => ?_⟩
      rw [q c (by omega) (by push_cast; omega)] at h
      cases h
    · rw [if_neg h, ih]
      constructor
      · intro q x x0 x1
        by_cases hx : x = c
        · rw [hx]; exact Bool.eq_false_iff.mpr h
        · exact q x (by omega) (by push_cast at x1; omega)
      · intro q x x0 x1
        exact q x (by omega) (by push_cast; omega)
section CH
variable {n : Int} {B lo hi : Int → Int} {z : MZ} {o : Nat} {a b : Int} {K : Int → Int} {tn : Bool}
theorem lk_no2 (hz : lk_z lo hi n o a b z.1) {u v : Int} (u0 : 0 ≤ u) (u1 : u ≤ n) (v0 : 0 ≤ v) (v1 : v ≤ n) (huv : u ≠ v) (hov : ly_ov lo hi u v = true) (h : mz_g z u v ≠ -2) : lk_dc a b u v ∧ mz_g z u v = ev_b (ly_ab o u v) := by
  obtain ⟨-, h2, h3⟩ := hz u v u0 u1 v0 v1 huv
  by_cases q : lk_dc a b u v
  · exact ⟨q, h2 hov q⟩
  · exact absurd (h3 hov q) h
/-- the reference's rules hold just where the class's are kept by all pairs that are decided -/
theorem lk_H (ge : ge_ok n B lo hi) (hg : gz n B lo hi z) (hz : lk_z lo hi n o a b z.1) :
    mz_H n K tn z ↔ ∀ x y, 0 ≤ x → x < y → y ≤ n → lk_dc a b x y → ly_ov lo hi x y = true → ly_ok K tn B lo hi o x y = true := by
  have G : ∀ u v, 0 ≤ u → u ≤ n → 0 ≤ v → v ≤ n → u ≠ v → ly_ov lo hi u v = true → lk_dc a b u v → mz_g z u v = ev_b (ly_ab o u v) := fun u v u0 u1 v0 v1 huv ho hd => (hz u v u0 u1 v0 v1 huv).2.1 ho hd
  constructor
  · intro H x y x0 xy yn hd ho
    have gxy := G x y x0 (by omega) (by omega) yn (by omega) ho hd
    have gyx := G y x (by omega) yn x0 (by omega) (by omega) (by rw [ly_ov_cm]; exact ho) (by unfold lk_dc at hd ⊢; omega)
    unfold ly_ok
    rw [Bool.and_eq_true, Bool.and_eq_true, Bool.and_eq_true]
    refine ⟨?_, ?_, ?_, ?_⟩
    · unfold ly_mk
      by_cases hh : y ≠ x + 1 ∨ K x = 0
      · rw [if_pos hh]
      · rw [if_neg hh]
        have hy : y = x + 1 := by omega
        have hk : K x ≠ 0 := by omega
        subst hy
        have hm := of_decide_eq_true (H.2 x x0 (by omega)).1
        rcases hm with q | q | q
        · rw [gyx] at q
          exact absurd q (ev_b_n2 _)
        · exact absurd q hk
        · rw [gyx] at q
          exact beq_iff_eq.mpr (ev_b_inj q)
    · unfold ly_rd
      rw [ly_rdN_iff]
      intro w w0 w1
      rw [Int.toNat_of_nonneg x0] at w1
      cases hr : ly_r1 lo hi o x y w with
      | false => rfl
      | true =>
        exfalso
        unfold ly_r1 at hr
        rw [Bool.and_eq_true, Bool.and_eq_true, Bool.and_eq_true] at hr
        obtain ⟨o1, o2, e1, e2⟩ := hr
        have e1' := eq_of_beq e1
        have e2' := eq_of_beq e2
        have gwx := G w x w0 (by omega) x0 (by omega) (by omega) o1 (by unfold lk_dc at hd ⊢; omega)
        have gyw := G y w (by omega) yn w0 (by omega) (by omega) (by rw [ly_ov_cm]; exact o2) (by unfold lk_dc at hd ⊢; omega)
        refine H.1 w x y w0 (by omega) xy yn ⟨?_, ?_, ?_, ?_⟩
        · rw [gz_ov ge hg w0 (by omega) x0 (by omega) (by omega)]; exact o1
        · rw [gz_ov ge hg x0 (by omega) (by omega) yn (by omega)]; exact ho
        · rw [gz_ov ge hg w0 (by omega) (by omega) yn (by omega)]; exact o2
        · unfold mz_tr
          rw [gwx, gxy, gyw, e1', ← e2']
          cases ly_ab o y w
          · exact decide_eq_true (Or.inr ⟨rfl, rfl, rfl⟩)
          · exact decide_eq_true (Or.inl ⟨rfl, rfl, rfl⟩)
    · unfold ly_cr
      rw [if_neg, if_neg]
      · rintro ⟨hin, hbt⟩
        have hxy : x ≠ y - 1 := fun q => by
          rw [show y = x + 1 by omega] at hin
          exact ge_noin ge x0 (by omega) hin
        have hin' : ly_in lo hi x (B (y - 1 + 1)) = true := by rw [show y - 1 + 1 = y by omega]; exact hin
        have hgo := ge_in ge (c := y - 1) (s := x) (by omega) (by omega) hin'
        have g1 := G x (y - 1) x0 (by omega) (by omega) (by omega) hxy hgo.1 (by unfold lk_dc at hd ⊢; omega)
        have hbt' := mz_bt_dec g1 gxy
        have hc := (H.2 (y - 1) (by omega) (by omega)).2.1 x x0 (by omega) ⟨hxy, by omega, by rw [(hg.1 x x0 (by omega)).1, hg.2 (y - 1) (by omega) (by omega)]; exact (ly_in_iff.mp hin').1, by rw [(hg.1 x x0 (by omega)).2, hg.2 (y - 1) (by omega) (by omega)]; exact (ly_in_iff.mp hin').2⟩
        rw [show y - 1 + 1 = y by omega] at hc
        rw [hbt'] at hc
        have : (ly_ab o x (y - 1) != ly_ab o x y) = true := hbt
        rw [this] at hc
        exact hc rfl
      · rintro ⟨hx, hin, hbt⟩
        have hin' : ly_in lo hi y (B (x - 1 + 1)) = true := by rw [show x - 1 + 1 = x by omega]; exact hin
        have hgo := ge_in ge (c := x - 1) (s := y) (by omega) (by omega) hin'
        have g1 := G y (x - 1) (by omega) yn (by omega) (by omega) (by omega) hgo.1 (by unfold lk_dc at hd ⊢; omega)
        have hbt' := mz_bt_dec g1 gyx
        have hc := (H.2 (x - 1) (by omega) (by omega)).2.1 y (by omega) yn ⟨by omega, by omega, by rw [(hg.1 y (by omega) yn).1, hg.2 (x - 1) (by omega) (by omega)]; exact (ly_in_iff.mp hin').1, by rw [(hg.1 y (by omega) yn).2, hg.2 (x - 1) (by omega) (by omega)]; exact (ly_in_iff.mp hin').2⟩
        rw [show x - 1 + 1 = x by omega] at hc
        rw [hbt'] at hc
        have : (ly_ab o y (x - 1) != ly_ab o y x) = true := hbt
        rw [this] at hc
        exact hc rfl
    · unfold ly_ne
      by_cases hh : x = 0 ∨ B x ≠ B y
      · rw [if_pos hh]
      · rw [if_neg hh]
        have hx : x ≠ 0 := fun q => hh (Or.inl q)
        have hB : B x = B y := Decidable.byContradiction (fun q => hh (Or.inr q))
        have hyx : y ≠ x + 1 := fun q => by
          rw [q] at hB
          exact ge_ne ge x0 (by omega) hB
        have hB' : B (x - 1 + 1) = B (y - 1 + 1) := by rw [show x - 1 + 1 = x by omega, show y - 1 + 1 = y by omega]; exact hB
        have hm := ge_meet ge (c := x - 1) (e := y - 1) (by omega) (by omega) (by omega) (by omega) hB' (by rw [show x - 1 + 1 = x by omega, show y - 1 + 1 = y by omega]; exact ho)
        rw [show x - 1 + 1 = x by omega, show y - 1 + 1 = y by omega] at hm
        have g1 := G (y - 1) (x - 1) (by omega) (by omega) (by omega) (by omega) (by omega) (by rw [ly_ov_cm]; exact hm.1) (by unfold lk_dc at hd ⊢; omega)
        have g2 := G (y - 1) x (by omega) (by omega) (by omega) (by omega) (by omega) (by rw [ly_ov_cm]; exact hm.2.2) (by unfold lk_dc at hd ⊢; omega)
        have g3 := G y (x - 1) (by omega) (by omega) (by omega) (by omega) (by omega) (by rw [ly_ov_cm]; exact hm.2.1) (by unfold lk_dc at hd ⊢; omega)
        have b1 := mz_bt_dec g1 g2
        have b2 := mz_bt_dec g3 gyx
        have hp := (H.2 (x - 1) (by omega) (by omega)).2.2 (y - 1) (by omega) (by omega) (by omega)
        have ha : mz_all z (x - 1) (y - 1) := by
          unfold mz_all
          rw [show x - 1 + 1 = x by omega, show y - 1 + 1 = y by omega]
          refine ⟨by rw [hg.2 (x - 1) (by omega) (by omega), hg.2 (y - 1) (by omega) (by omega)]; exact hB', ?_, ?_, ?_, ?_⟩
          · rw [gz_ov ge hg (by omega) (by omega) (by omega) (by omega) (by omega)]; exact hm.1
          · rw [gz_ov ge hg (by omega) (by omega) (by omega) (by omega) (by omega)]; exact hm.2.1
          · rw [gz_ov ge hg (by omega) (by omega) (by omega) (by omega) (by omega)]; exact hm.2.2
          · rw [gz_ov ge hg (by omega) (by omega) (by omega) (by omega) (by omega)]; exact ho
        have hp' := hp ha
        rw [show x - 1 + 1 = x by omega, show y - 1 + 1 = y by omega, b1, b2] at hp'
        rcases hp' with q | q | q
        · exact absurd q (ev_b_n2 _)
        · exact absurd q (ev_b_n2 _)
        · exact beq_iff_eq.mpr (ev_b_inj q)
  · intro H
    refine ⟨fun u v w u0 uv vw wn hT => ?_, fun e e0 e1 => ⟨?_, ?_, ?_⟩⟩
    · obtain ⟨t1, t2, t3, t4⟩ := hT
      rw [gz_ov ge hg (by omega) (by omega) (by omega) (by omega) (by omega)] at t1 t2 t3
      have ht := of_decide_eq_true t4
      have n1 : mz_g z u v ≠ -2 := by omega
      have n2 : mz_g z v w ≠ -2 := by omega
      have n3 : mz_g z w u ≠ -2 := by omega
      have d1 := lk_no2 hz u0 (by omega) (by omega) (by omega) (by omega) t1 n1
      have d2 := lk_no2 hz (by omega) (by omega) (by omega) wn (by omega) t2 n2
      have d3 := lk_no2 hz (by omega) wn u0 (by omega) (by omega) (by rw [ly_ov_cm]; exact t3) n3
      have hok := H v w (by omega) vw wn d2.1 t2
      unfold ly_ok at hok
      rw [Bool.and_eq_true, Bool.and_eq_true] at hok
      have hrd := hok.2.1
      unfold ly_rd at hrd
      rw [ly_rdN_iff] at hrd
      have hr := hrd u u0 (by rw [Int.toNat_of_nonneg (by omega)]; omega)
      rw [d1.2, d2.2, d3.2] at ht
      have hr' : ly_r1 lo hi o v w u = true := by
        unfold ly_r1
        rw [Bool.and_eq_true, Bool.and_eq_true, Bool.and_eq_true]
        refine ⟨t1, t3, ?_, ?_⟩
        · rcases ht with q | q
          · exact beq_iff_eq.mpr (ev_b_inj (q.2.1.trans q.2.2.symm))
          · exact beq_iff_eq.mpr (ev_b_inj (q.2.1.trans q.2.2.symm))
        · rcases ht with q | q
          · exact beq_iff_eq.mpr (ev_b_inj (q.2.2.trans q.1.symm))
          · exact beq_iff_eq.mpr (ev_b_inj (q.2.2.trans q.1.symm))
      rw [hr'] at hr
      cases hr
    · have ho := ge_next ge e0 e1
      have ho' : ly_ov lo hi (e + 1) e = true := by rw [ly_ov_cm]; exact ho
      unfold mz_mk
      by_cases q : mz_g z (e + 1) e = -2
      · exact decide_eq_true (Or.inl q)
      · have d1 := lk_no2 hz (by omega) (by omega) e0 (by omega) (by omega) ho' q
        have hok := H e (e + 1) e0 (by omega) (by omega) (by have := d1.1; unfold lk_dc at this ⊢; omega) ho
        unfold ly_ok at hok
        rw [Bool.and_eq_true] at hok
        have hm := hok.1
        unfold ly_mk at hm
        by_cases hk : K e = 0
        · exact decide_eq_true (Or.inr (Or.inl hk))
        · rw [if_neg (by omega)] at hm
          refine decide_eq_true (Or.inr (Or.inr ?_))
          rw [d1.2, eq_of_beq hm]
    · intro s s0 s1 hins hbt
      obtain ⟨i1, i2, i3, i4⟩ := hins
      rw [(hg.1 s s0 s1).1, hg.2 e e0 e1] at i3
      rw [(hg.1 s s0 s1).2, hg.2 e e0 e1] at i4
      have hin : ly_in lo hi s (B (e + 1)) = true := ly_in_iff.mpr ⟨i3, i4⟩
      have hgo := ge_in ge e0 e1 hin
      have hun := mz_bt_un (z := z) (s := s) (u := e) (v := e + 1) (by rw [hbt]; decide)
      have d1 := lk_no2 hz s0 s1 e0 (by omega) i1 hgo.1 hun.1
      have d2 := lk_no2 hz s0 s1 (by omega) (by omega) i2 hgo.2 hun.2
      rw [mz_bt_dec d1.2 d2.2] at hbt
      have hb : (ly_ab o s e != ly_ab o s (e + 1)) = true := ev_b_inj (hbt.trans ev_b_t.symm)
      by_cases hs : s < e
      · have hok := H s (e + 1) s0 (by omega) (by omega) (by have := d2.1; unfold lk_dc at this ⊢; omega) hgo.2
        unfold ly_ok at hok
        rw [Bool.and_eq_true, Bool.and_eq_true, Bool.and_eq_true] at hok
        have hc := hok.2.2.1
        unfold ly_cr at hc
        by_cases hh : 0 < s ∧ ly_in lo hi (e + 1) (B s) = true ∧ ly_bt o (e + 1) (s - 1) s = true
        · rw [if_pos hh] at hc
          cases hc
        · rw [if_neg hh, if_pos ⟨hin, by show (ly_ab o s (e + 1 - 1) != ly_ab o s (e + 1)) = true; rw [show e + 1 - 1 = e by omega]; exact hb⟩] at hc
          cases hc
      · have hok := H (e + 1) s (by omega) (by omega) s1 (by have := d2.1; unfold lk_dc at this ⊢; omega) (by rw [ly_ov_cm]; exact hgo.2)
        unfold ly_ok at hok
        rw [Bool.and_eq_true, Bool.and_eq_true, Bool.and_eq_true] at hok
        have hc := hok.2.2.1
        unfold ly_cr at hc
        rw [if_pos ⟨by omega, hin, by show (ly_ab o s (e + 1 - 1) != ly_ab o s (e + 1)) = true; rw [show e + 1 - 1 = e by omega]; exact hb⟩] at hc
        cases hc
    · intro f f0 f1 hfe hall
      obtain ⟨m0, m1, m2, m3, m4⟩ := hall
      rw [hg.2 e e0 e1, hg.2 f f0 f1] at m0
      have hef : f ≠ e + 1 := fun q => by
        rw [q] at m0
        exact ge_ne ge (c := e + 1) (by omega) (by omega) m0
      have hfe' : e ≠ f + 1 := fun q => by
        rw [q] at m0
        exact ge_ne ge (c := f + 1) (by omega) (by omega) m0.symm
      rw [gz_ov ge hg (by omega) (by omega) (by omega) (by omega) (by omega)] at m1 m2 m3 m4
      by_cases q1 : mz_bt z f e (e + 1) = -2
      · exact Or.inl q1
      · by_cases q2 : mz_bt z (f + 1) e (e + 1) = -2
        · exact Or.inr (Or.inl q2)
        · refine Or.inr (Or.inr ?_)
          have u1 := mz_bt_un q1
          have u2 := mz_bt_un q2
          have d1 := lk_no2 hz f0 (by omega) e0 (by omega) hfe (by rw [ly_ov_cm]; exact m1) u1.1
          have d2 := lk_no2 hz f0 (by omega) (by omega) (by omega) hef (by rw [ly_ov_cm]; exact m3) u1.2
          have d3 := lk_no2 hz (by omega) (by omega) e0 (by omega) (fun q => hfe' q.symm) (by rw [ly_ov_cm]; exact m2) u2.1
          have d4 := lk_no2 hz (by omega) (by omega) (by omega) (by omega) (by omega) (by rw [ly_ov_cm]; exact m4) u2.2
          rw [mz_bt_dec d1.2 d2.2, mz_bt_dec d3.2 d4.2]
          congr 1
          by_cases hs : e < f
          · have hok := H (e + 1) (f + 1) (by omega) (by omega) (by omega) (by have := d4.1; unfold lk_dc at this ⊢; omega) m4
            unfold ly_ok at hok
            rw [Bool.and_eq_true, Bool.and_eq_true, Bool.and_eq_true] at hok
            have hc := hok.2.2.2
            unfold ly_ne at hc
            rw [if_neg (fun r => by rcases r with r | r; omega; exact r m0)] at hc
            have hc' := eq_of_beq hc
            unfold ly_bt at hc'
            rw [show f + 1 - 1 = f by omega, show e + 1 - 1 = e by omega] at hc'
            exact hc'
          · have hok := H (f + 1) (e + 1) (by omega) (by omega) (by omega) (by have := d4.1; unfold lk_dc at this ⊢; omega) (by rw [ly_ov_cm]; exact m4)
            unfold ly_ok at hok
            rw [Bool.and_eq_true, Bool.and_eq_true, Bool.and_eq_true] at hok
            have hc := hok.2.2.2
            unfold ly_ne at hc
            rw [if_neg (fun r => by rcases r with r | r; omega; exact r m0.symm)] at hc
            have hc' := eq_of_beq hc
            unfold ly_bt at hc'
            rw [show f + 1 - 1 = f by omega, show e + 1 - 1 = e by omega] at hc'
            rw [ly_ab_as (u := e) (v := f) (by omega), ly_ab_as (u := e) (v := f + 1) (by omega), ly_ab_as (u := e + 1) (v := f) (by omega), ly_ab_as (u := e + 1) (v := f + 1) (by omega)] at hc'
            revert hc'
            cases ly_ab o f e <;> cases ly_ab o (f + 1) e <;> cases ly_ab o f (e + 1) <;> cases ly_ab o (f + 1) (e + 1) <;> decide
end CH
