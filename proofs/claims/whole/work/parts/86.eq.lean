/-! The same answers: whereIs, width, thickness -/
section EQ
variable {L n : Int} {P K : Int → Int}
theorem sp_seg (ok : sp_ok L n P K) {p : Int} (p0 : 0 ≤ p) (p1 : p ≤ L) : sp_le P (sp_bef n P p) ≤ p ∧ p ≤ sp_re L n P (sp_bef n P p) := by
  obtain ⟨b0, b1, b2, b3⟩ := sp_bef_spec (n := n) (P := P) (p := p) ok.2.2.1
  constructor
  · unfold sp_le
    split
    · exact p0
    · have := b2 (sp_bef n P p - 1) (by omega) (by omega)
      omega
  · unfold sp_re
    split
    · rename_i h
      exact b3 h
    · exact p1
theorem sp_F_bef (ok : sp_ok L n P K) {p : Int} (p0 : 0 ≤ p) (p1 : p ≤ L) : sp_F n P p.toNat = sp_B L n P (sp_bef n P p) + sp_dir (sp_bef n P p) * (p - sp_le P (sp_bef n P p)) := by
  have h1 := sp_seg ok p0 p1
  obtain ⟨b0, b1, -, -⟩ := sp_bef_spec (n := n) (P := P) (p := p) ok.2.2.1
  have := sp_F_in ok b0 b1 (p := p.toNat) (by omega) (by omega)
  rw [Int.toNat_of_nonneg p0] at this
  exact this
theorem eq_where {tn : Bool} (ok : sp_ok L n P K) (p : Int) : (if p < 0 ∨ L < p then 0 else sp_F n P p.toNat) = mo_v (lb_where (L, n, tn, P, K) p) ∧ (if p < 0 ∨ L < p then 1 else 0) = mo_c cd_A (lb_where (L, n, tn, P, K) p) := by
  by_cases h : p < 0 ∨ L < p
  · rw [if_pos h, if_pos h, show lb_where (L, n, tn, P, K) p = .inr 5 from if_pos h]
    exact ⟨rfl, rfl⟩
  · rw [if_neg h, if_neg h, show lb_where (L, n, tn, P, K) p = .inl (sp_B L n P (sp_bef n P p) + sp_dir (sp_bef n P p) * (p - sp_le P (sp_bef n P p))) from if_neg h]
    exact ⟨sp_F_bef ok (by omega) (by omega), rfl⟩
theorem mw_m_sp : ∀ k : Nat, (∀ p : Nat, p < k → sp_F n P p ≤ mw_m n P k) ∧ (mw_m n P k = 0 ∨ ∃ p : Nat, p < k ∧ mw_m n P k = sp_F n P p)
  | 0 => ⟨fun p hp => absurd hp (Nat.not_lt_zero p), Or.inl rfl⟩
  | k + 1 => by
    have ih := mw_m_sp k
    unfold mw_m
    by_cases h : mw_m n P k < sp_F n P k
    · rw [if_pos h]
      refine ⟨fun p hp => ?_, Or.inr ⟨k, Nat.lt_succ_self k, rfl⟩⟩
      by_cases hk : p = k
      · rw [hk]; exact Int.le_refl _
      · have := ih.1 p (by omega)
        omega
    · rw [if_neg h]
      refine ⟨fun p hp => ?_, ?_⟩
      · by_cases hk : p = k
        · rw [hk]; omega
        · exact ih.1 p (by omega)
      · rcases ih.2 with q | ⟨p, q1, q2⟩
        · exact Or.inl q
        · exact Or.inr ⟨p, by omega, q2⟩
theorem mw_l_sp : ∀ k : Nat, (∀ p : Nat, p < k → mw_l n P k ≤ sp_F n P p) ∧ (mw_l n P k = 0 ∨ ∃ p : Nat, p < k ∧ mw_l n P k = sp_F n P p)
  | 0 => ⟨fun p hp => absurd hp (Nat.not_lt_zero p), Or.inl rfl⟩
  | k + 1 => by
    have ih := mw_l_sp k
    unfold mw_l
    by_cases h : sp_F n P k < mw_l n P k
    · rw [if_pos h]
      refine ⟨fun p hp => ?_, Or.inr ⟨k, Nat.lt_succ_self k, rfl⟩⟩
      by_cases hk : p = k
      · rw [hk]; exact Int.le_refl _
      · have := ih.1 p (by omega)
        omega
    · rw [if_neg h]
      refine ⟨fun p hp => ?_, ?_⟩
      · by_cases hk : p = k
        · rw [hk]; omega
        · exact ih.1 p (by omega)
      · rcases ih.2 with q | ⟨p, q1, q2⟩
        · exact Or.inl q
        · exact Or.inr ⟨p, by omega, q2⟩
theorem sp_mx_sp {B : Int → Int} : ∀ k : Nat, (∀ i : Nat, i ≤ k → B i ≤ sp_mx B k) ∧ ∃ i : Nat, i ≤ k ∧ sp_mx B k = B i
  | 0 => ⟨fun i hi => by have : i = 0 := by omega
                         subst this; exact Int.le_refl _, 0, Nat.le_refl _, rfl⟩
  | k + 1 => by
    have ih := sp_mx_sp (B := B) k
    unfold sp_mx
    by_cases h : sp_mx B k < B (k + 1)
    · rw [if_pos h]
      refine ⟨fun i hi => ?_, k + 1, Nat.le_refl _, by push_cast; rfl⟩
      by_cases hk : i = k + 1
      · rw [hk]; push_cast; exact Int.le_refl _
      · have := ih.1 i (by omega)
        omega
    · rw [if_neg h]
      obtain ⟨j, j1, j2⟩ := ih.2
      refine ⟨fun i hi => ?_, j, by omega, j2⟩
      by_cases hk : i = k + 1
      · rw [hk]; push_cast; omega
      · exact ih.1 i (by omega)
theorem sp_mi_sp {B : Int → Int} : ∀ k : Nat, (∀ i : Nat, i ≤ k → sp_mi B k ≤ B i) ∧ ∃ i : Nat, i ≤ k ∧ sp_mi B k = B i
  | 0 => ⟨fun i hi => by have : i = 0 := by omega
                         subst this; exact Int.le_refl _, 0, Nat.le_refl _, rfl⟩
  | k + 1 => by
    have ih := sp_mi_sp (B := B) k
    unfold sp_mi
    by_cases h : B (k + 1) < sp_mi B k
    · rw [if_pos h]
      refine ⟨fun i hi => ?_, k + 1, Nat.le_refl _, by push_cast; rfl⟩
      by_cases hk : i = k + 1
      · rw [hk]; push_cast; exact Int.le_refl _
      · have := ih.1 i (by omega)
        omega
    · rw [if_neg h]
      obtain ⟨j, j1, j2⟩ := ih.2
      refine ⟨fun i hi => ?_, j, by omega, j2⟩
      by_cases hk : i = k + 1
      · rw [hk]; push_cast; omega
      · exact ih.1 i (by omega)
/-- a point's folded place lies between two bends; a bend is a point's -/
theorem sp_F_btw (ok : sp_ok L n P K) {p : Nat} (hp : (p : Int) ≤ L) : ∃ i : Nat, (i : Int) ≤ n ∧ ((sp_B L n P i ≤ sp_F n P p ∧ sp_F n P p ≤ sp_B L n P ((i + 1 : Nat) : Int)) ∨ (sp_B L n P ((i + 1 : Nat) : Int) ≤ sp_F n P p ∧ sp_F n P p ≤ sp_B L n P i)) := by
  obtain ⟨b0, b1, -, -⟩ := sp_bef_spec (n := n) (P := P) (p := p) ok.2.2.1
  have h1 := sp_seg ok (p := p) (by omega) hp
  have h2 := sp_F_bef ok (p := p) (by omega) hp
  rw [Int.toNat_natCast] at h2
  have h3 := sp_B_s (L := L) (n := n) (P := P) b0
  refine ⟨(sp_bef n P p).toNat, by omega, ?_⟩
  rw [show (((sp_bef n P p).toNat + 1 : Nat) : Int) = sp_bef n P p + 1 by omega, Int.toNat_of_nonneg b0, h2, h3]
  rcases sp_dir_or (sp_bef n P p) with q | q <;> rw [q] <;> omega
theorem sp_B_pt (ok : sp_ok L n P K) {i : Nat} (hi : (i : Int) ≤ n + 1) : ∃ p : Nat, (p : Int) ≤ L ∧ sp_B L n P i = sp_F n P p := by
  cases i with
  | zero => exact ⟨0, by have := ok.1; show (0 : Int) ≤ L; omega, rfl⟩
  | succ i =>
    have h1 := sp_F_re ok (i := (i : Int)) (by omega) (by push_cast at hi; omega)
    have h2 := sp_re_le ok (i := (i : Int)) (by omega)
    have h3 := sp_le_lt_re ok (i := (i : Int)) (by omega) (by push_cast at hi; omega)
    have h4 := sp_le_nonneg ok (i := (i : Int)) (by omega) (by push_cast at hi; omega)
    exact ⟨(sp_re L n P i).toNat, by omega, by push_cast; exact h1.symm⟩
theorem eq_width (ok : sp_ok L n P K) : mw_m n P (L + 1).toNat - mw_l n P (L + 1).toNat = sp_mx (sp_B L n P) (n + 1).toNat - sp_mi (sp_B L n P) (n + 1).toNat := by
  have hn0 := ok.2.2.1
  have hL := ok.1
  obtain ⟨a1, a2⟩ := mw_m_sp (n := n) (P := P) (L + 1).toNat
  obtain ⟨b1, b2⟩ := mw_l_sp (n := n) (P := P) (L + 1).toNat
  obtain ⟨c1, ci, c2, c3⟩ := sp_mx_sp (B := sp_B L n P) (n + 1).toNat
  obtain ⟨d1, di, d2, d3⟩ := sp_mi_sp (B := sp_B L n P) (n + 1).toNat
  have up : mw_m n P (L + 1).toNat ≤ sp_mx (sp_B L n P) (n + 1).toNat := by
    rcases a2 with q | ⟨p, q1, q2⟩
    · have := c1 0 (Nat.zero_le _)
      have e : sp_B L n P ((0 : Nat) : Int) = 0 := rfl
      omega
    · obtain ⟨i, i1, i2⟩ := sp_F_btw ok (p := p) (by omega)
      have e1 := c1 i (by omega)
      have e2 := c1 (i + 1) (by omega)
      omega
  have up2 : sp_mx (sp_B L n P) (n + 1).toNat ≤ mw_m n P (L + 1).toNat := by
    obtain ⟨p, p1, p2⟩ := sp_B_pt ok (i := ci) (by omega)
    have := a1 p (by omega)
    omega
  have lo1 : sp_mi (sp_B L n P) (n + 1).toNat ≤ mw_l n P (L + 1).toNat := by
    rcases b2 with q | ⟨p, q1, q2⟩
    · have := d1 0 (Nat.zero_le _)
      have e : sp_B L n P ((0 : Nat) : Int) = 0 := rfl
      omega
    · obtain ⟨i, i1, i2⟩ := sp_F_btw ok (p := p) (by omega)
      have e1 := d1 i (by omega)
      have e2 := d1 (i + 1) (by omega)
      omega
  have lo2 : mw_l n P (L + 1).toNat ≤ sp_mi (sp_B L n P) (n + 1).toNat := by
    obtain ⟨p, p1, p2⟩ := sp_B_pt ok (i := di) (by omega)
    have := b1 p (by omega)
    omega
  omega
theorem sp_mo_sp {f : Int → Int} : ∀ k : Nat, (∀ i : Nat, i < k → f i ≤ sp_mo f k) ∧ (sp_mo f k = 0 ∨ ∃ i : Nat, i < k ∧ sp_mo f k = f i)
  | 0 => ⟨fun i hi => absurd hi (Nat.not_lt_zero i), Or.inl rfl⟩
  | k + 1 => by
    have ih := sp_mo_sp (f := f) k
    unfold sp_mo
    by_cases h : sp_mo f k < f k
    · rw [if_pos h]
      refine ⟨fun i hi => ?_, Or.inr ⟨k, Nat.lt_succ_self k, rfl⟩⟩
      by_cases hk : i = k
      · rw [hk]; exact Int.le_refl _
      · have := ih.1 i (by omega)
        omega
    · rw [if_neg h]
      refine ⟨fun i hi => ?_, ?_⟩
      · by_cases hk : i = k
        · rw [hk]; omega
        · exact ih.1 i (by omega)
      · rcases ih.2 with q | ⟨i, q1, q2⟩
        · exact Or.inl q
        · exact Or.inr ⟨i, by omega, q2⟩
theorem sp_im_mono {lo hi : Int → Int} {q q' : Int} : ∀ k : Nat, (∀ t : Nat, t < k → lo t ≤ q ∧ q < hi t → lo t ≤ q' ∧ q' < hi t) → sp_im lo hi q k ≤ sp_im lo hi q' k
  | 0, _ => Int.le_refl _
  | k + 1, h => by
    have ih := sp_im_mono k (fun t ht => h t (by omega))
    have hk := h k (Nat.lt_succ_self k)
    unfold sp_im
    by_cases hq : lo k ≤ q ∧ q < hi k
    · rw [if_pos hq, if_pos (hk hq)]
      omega
    · rw [if_neg hq]
      split <;> omega
theorem sp_top {lo hi : Int → Int} {q : Int} : ∀ k : Nat, (∀ t : Nat, t < k → ¬ (lo t ≤ q ∧ q < hi t)) ∨ ∃ i : Nat, i < k ∧ (lo i ≤ q ∧ q < hi i) ∧ ∀ t : Nat, t < k → lo t ≤ q ∧ q < hi t → lo t ≤ lo i
  | 0 => Or.inl (fun t ht => absurd ht (Nat.not_lt_zero t))
  | k + 1 => by
    by_cases hq : lo k ≤ q ∧ q < hi k
    · rcases sp_top (lo := lo) (hi := hi) (q := q) k with ih | ⟨i, i1, i2, i3⟩
      · refine Or.inr ⟨k, Nat.lt_succ_self k, hq, fun t ht hc => ?_⟩
        by_cases h : t = k
        · rw [h]; exact Int.le_refl _
        · exact absurd hc (ih t (by omega))
      · by_cases hl : lo i ≤ lo k
        · refine Or.inr ⟨k, Nat.lt_succ_self k, hq, fun t ht hc => ?_⟩
          by_cases h : t = k
          · rw [h]; exact Int.le_refl _
          · have := i3 t (by omega) hc
            omega
        · refine Or.inr ⟨i, by omega, i2, fun t ht hc => ?_⟩
          by_cases h : t = k
          · rw [h]; omega
          · exact i3 t (by omega) hc
    · rcases sp_top (lo := lo) (hi := hi) (q := q) k with ih | ⟨i, i1, i2, i3⟩
      · refine Or.inl (fun t ht => ?_)
        by_cases h : t = k
        · rw [h]; exact hq
        · exact ih t (by omega)
      · refine Or.inr ⟨i, by omega, i2, fun t ht hc => ?_⟩
        by_cases h : t = k
        · rw [h] at hc; exact absurd hc hq
        · exact i3 t (by omega) hc
theorem sp_im_0 {lo hi : Int → Int} {q : Int} : ∀ k : Nat, (∀ t : Nat, t < k → ¬ (lo t ≤ q ∧ q < hi t)) → sp_im lo hi q k = 0
  | 0, _ => rfl
  | k + 1, h => by
    have ih := sp_im_0 k (fun t ht => h t (by omega))
    unfold sp_im
    rw [ih, if_neg (h k (Nat.lt_succ_self k))]
    rfl
theorem eq_thick (ok : sp_ok L n P K) : sp_mo (fun j => mt_n L n P (j - 60)) 120 = sp_mo (fun i => sp_im (sp_lo L n P) (sp_hi L n P) (sp_lo L n P i) (n + 1).toNat) (n + 1).toNat := by
  have hn0 := ok.2.2.1
  obtain ⟨a1, a2⟩ := sp_mo_sp (f := fun j => mt_n L n P (j - 60)) 120
  obtain ⟨b1, b2⟩ := sp_mo_sp (f := fun i => sp_im (sp_lo L n P) (sp_hi L n P) (sp_lo L n P i) (n + 1).toNat) (n + 1).toNat
  have pos : ∀ {f : Int → Int} (k : Nat), 0 ≤ sp_mo f k := by
    intro f k
    induction k with
    | zero => exact Int.le_refl _
    | succ k ih =>
      unfold sp_mo
      split <;> omega
  have p1 := pos (f := fun j => mt_n L n P (j - 60)) 120
  have p2 := pos (f := fun i => sp_im (sp_lo L n P) (sp_hi L n P) (sp_lo L n P i) (n + 1).toNat) (n + 1).toNat
  have le1 : sp_mo (fun j => mt_n L n P (j - 60)) 120 ≤ sp_mo (fun i => sp_im (sp_lo L n P) (sp_hi L n P) (sp_lo L n P i) (n + 1).toNat) (n + 1).toNat := by
    rcases a2 with q | ⟨j, j1, j2⟩
    · omega
    · have j2' : sp_mo (fun j => mt_n L n P (j - 60)) 120 = sp_im (sp_lo L n P) (sp_hi L n P) ((j : Int) - 60) (n + 1).toNat := j2
      rcases sp_top (lo := sp_lo L n P) (hi := sp_hi L n P) (q := (j : Int) - 60) (n + 1).toNat with h | ⟨i, i1, i2, i3⟩
      · have := sp_im_0 _ h
        omega
      · have h1 := sp_im_mono (lo := sp_lo L n P) (hi := sp_hi L n P) (q := (j : Int) - 60) (q' := sp_lo L n P i) (n + 1).toNat (fun t ht hc => by have := i3 t ht hc; omega)
        have h2 : sp_im (sp_lo L n P) (sp_hi L n P) (sp_lo L n P i) (n + 1).toNat ≤ _ := b1 i i1
        omega
  have le2 : sp_mo (fun i => sp_im (sp_lo L n P) (sp_hi L n P) (sp_lo L n P i) (n + 1).toNat) (n + 1).toNat ≤ sp_mo (fun j => mt_n L n P (j - 60)) 120 := by
    rcases b2 with q | ⟨i, i1, i2⟩
    · omega
    · have h1 := sp_lh ok (i := (i : Int)) (by omega) (by omega)
      have h2 := a1 (sp_lo L n P i + 60).toNat (by omega)
      have h3 : mt_n L n P (((sp_lo L n P i + 60).toNat : Int) - 60) ≤ sp_mo (fun j => mt_n L n P (j - 60)) 120 := h2
      rw [show ((sp_lo L n P i + 60).toNat : Int) - 60 = sp_lo L n P i by omega] at h3
      have h4 : sp_mo (fun i => sp_im (sp_lo L n P) (sp_hi L n P) (sp_lo L n P i) (n + 1).toNat) (n + 1).toNat = mt_n L n P (sp_lo L n P i) := i2
      omega
  omega
end EQ
