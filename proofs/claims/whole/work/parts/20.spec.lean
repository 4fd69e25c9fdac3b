/-! The strip, in numbers: L its length, n creases at P 0 < P 1 < .. with the marks K. -/
def sp_ok (L n : Int) (P K : Int → Int) : Prop :=
  1 ≤ L ∧ L ≤ 60 ∧ 0 ≤ n ∧ n ≤ 6 ∧ (∀ i, 0 ≤ i → i < n → 1 ≤ P i ∧ P i < L ∧ 0 ≤ K i ∧ K i ≤ 2) ∧ ∀ i j, 0 ≤ i → i < j → j < n → P i < P j
def sp_le (P : Int → Int) (i : Int) : Int := if i = 0 then 0 else P (i - 1)
def sp_re (L n : Int) (P : Int → Int) (i : Int) : Int := if i < n then P i else L
def sp_dir (i : Int) : Int := if i % 2 = 0 then 1 else -1
def sp_BN (L n : Int) (P : Int → Int) : Nat → Int
  | 0 => 0
  | i + 1 => sp_BN L n P i + sp_dir i * (sp_re L n P i - sp_le P i)
def sp_B (L n : Int) (P : Int → Int) (i : Int) : Int := sp_BN L n P i.toNat
def sp_lo (L n : Int) (P : Int → Int) (i : Int) : Int := if sp_B L n P (i + 1) < sp_B L n P i then sp_B L n P (i + 1) else sp_B L n P i
def sp_hi (L n : Int) (P : Int → Int) (i : Int) : Int := if sp_B L n P i < sp_B L n P (i + 1) then sp_B L n P (i + 1) else sp_B L n P i
/-- how many of the first k creases lie at q or before -/
def sp_cnt (P : Int → Int) (q : Int) : Nat → Int
  | 0 => 0
  | k + 1 => sp_cnt P q k + (if P k ≤ q then 1 else 0)
/-- the folded place of p -/
def sp_F (n : Int) (P : Int → Int) : Nat → Int
  | 0 => 0
  | p + 1 => sp_F n P p + (if sp_cnt P p n.toNat % 2 = 0 then 1 else -1)
theorem sp_B_0 {L n : Int} {P : Int → Int} : sp_B L n P 0 = 0 := rfl
theorem sp_B_s {L n : Int} {P : Int → Int} {i : Int} (h : 0 ≤ i) : sp_B L n P (i + 1) = sp_B L n P i + sp_dir i * (sp_re L n P i - sp_le P i) := by
  obtain ⟨k, rfl⟩ := Int.eq_ofNat_of_zero_le h
  rfl
theorem sp_dir_or (i : Int) : sp_dir i = 1 ∨ sp_dir i = -1 := by
  unfold sp_dir
  split
  · exact Or.inl rfl
  · exact Or.inr rfl
theorem sp_cnt_min {P : Int → Int} {q i : Int} (hi : 0 ≤ i) : ∀ m : Nat, (∀ k : Int, 0 ≤ k → k < m → (P k ≤ q ↔ k < i)) → sp_cnt P q m = if (m : Int) < i then (m : Int) else i
  | 0, _ => by
    show (0 : Int) = _
    split <;> omega
  | m + 1, h => by
    have ih := sp_cnt_min hi m (fun k h0 hk => h k h0 (by omega))
    have hm := h m (by omega) (by omega)
    unfold sp_cnt
    rw [ih]
    by_cases hi : (m : Int) < i
    · rw [if_pos (hm.mpr hi), if_pos hi]
      split <;> omega
    · rw [if_neg (fun q => hi (hm.mp q)), if_neg hi, if_neg (by omega)]; omega
section SP
variable {L n : Int} {P K : Int → Int}
theorem sp_mono (ok : sp_ok L n P K) {i j : Int} (h0 : 0 ≤ i) (hij : i ≤ j) (hj : j < n) : P i ≤ P j := by
  by_cases h : i = j
  · rw [h]; exact Int.le_refl _
  · exact Int.le_of_lt (ok.2.2.2.2.2 i j h0 (by omega) hj)
theorem sp_cnt_seg (ok : sp_ok L n P K) {i : Int} (h0 : 0 ≤ i) (hi : i ≤ n) {q : Int} (h1 : sp_le P i ≤ q) (h2 : q < sp_re L n P i) : sp_cnt P q n.toNat = i := by
  have hn := ok.2.2.1
  rw [sp_cnt_min h0 n.toNat]
  · rw [Int.toNat_of_nonneg hn]; split <;> omega
  · intro k hk0 hk
    rw [Int.toNat_of_nonneg hn] at hk
    constructor
    · intro hP
      refine Int.not_le.mp (fun hik => ?_)
      have h3 : sp_re L n P i = P i := if_pos (by omega)
      have := sp_mono ok h0 hik hk
      omega
    · intro hki
      have h3 : sp_le P i = P (i - 1) := if_neg (by omega)
      have := sp_mono ok (i := k) (j := i - 1) hk0 (by omega) (by omega)
      omega
theorem sp_le_nonneg (ok : sp_ok L n P K) {i : Int} (h0 : 0 ≤ i) (hi : i ≤ n) : 0 ≤ sp_le P i := by
  unfold sp_le
  split
  · exact Int.le_refl _
  · have := (ok.2.2.2.2.1 (i - 1) (by omega) (by omega)).1; omega
theorem sp_le_lt_re (ok : sp_ok L n P K) {i : Int} (h0 : 0 ≤ i) (hi : i ≤ n) : sp_le P i < sp_re L n P i := by
  unfold sp_le sp_re
  have h00 := ok.1
  by_cases h1 : i = 0 <;> by_cases h2 : i < n
  · rw [if_pos h1, if_pos h2]; have := (ok.2.2.2.2.1 i h0 h2).1; omega
  · rw [if_pos h1, if_neg h2]; omega
  · rw [if_neg h1, if_pos h2]; exact ok.2.2.2.2.2 (i - 1) i (by omega) (by omega) h2
  · rw [if_neg h1, if_neg h2]; exact (ok.2.2.2.2.1 (i - 1) (by omega) (by omega)).2.1
theorem sp_re_le (ok : sp_ok L n P K) {i : Int} (h0 : 0 ≤ i) : sp_re L n P i ≤ L := by
  unfold sp_re
  split
  · rename_i h; have := (ok.2.2.2.2.1 i h0 h).2.1; omega
  · exact Int.le_refl _
theorem sp_le_s {i : Int} (h0 : 0 ≤ i) (hi : i < n) : sp_le P (i + 1) = sp_re L n P i := by
  unfold sp_le sp_re
  rw [if_neg (by omega), if_pos hi]
  congr 1
  omega
/-- the folded places lie near -/
theorem sp_B_bd (ok : sp_ok L n P K) : ∀ i : Nat, (i : Int) ≤ n → - sp_le P i ≤ sp_B L n P i ∧ sp_B L n P i ≤ sp_le P i
  | 0, _ => by simp [sp_le, sp_B, sp_BN]
  | i + 1, hi => by
    have ih := sp_B_bd ok i (by omega)
    have h1 := sp_le_lt_re ok (i := i) (by omega) (by omega)
    have h2 := sp_le_s (P := P) (L := L) (i := i) (n := n) (by omega) (by omega)
    have h3 := sp_B_s (L := L) (n := n) (P := P) (i := i) (by omega)
    push_cast
    rw [h2, h3]
    rcases sp_dir_or i with h | h <;> rw [h] <;> omega
theorem sp_B_60 (ok : sp_ok L n P K) {i : Int} (h0 : 0 ≤ i) (hi : i ≤ n + 1) : -60 ≤ sp_B L n P i ∧ sp_B L n P i ≤ 60 := by
  have hL := ok.2.1
  have key : ∀ j : Int, 0 ≤ j → j ≤ n → - sp_le P j ≤ sp_B L n P j ∧ sp_B L n P j ≤ sp_le P j := by
    intro j hj0 hj
    have := sp_B_bd ok j.toNat (by omega)
    rwa [Int.toNat_of_nonneg hj0] at this
  by_cases hn : i ≤ n
  · have h1 := key i h0 hn
    have h2 := sp_le_lt_re ok h0 hn
    have h3 := sp_re_le ok h0
    omega
  · have h1 := key n ok.2.2.1 (Int.le_refl _)
    have h2 := sp_le_lt_re ok ok.2.2.1 (Int.le_refl _)
    have h3 := sp_re_le ok ok.2.2.1
    have h4 := sp_B_s (L := L) (n := n) (P := P) (i := n) ok.2.2.1
    have h5 := sp_le_nonneg ok ok.2.2.1 (Int.le_refl _)
    rw [show i = n + 1 by omega, h4]
    rcases sp_dir_or n with h | h <;> rw [h] <;> omega
/-- inside a segment the folded place runs straight -/
theorem sp_run (ok : sp_ok L n P K) {i : Int} (hi0 : 0 ≤ i) (hi : i ≤ n) {v : Int} (h0 : sp_F n P (sp_le P i).toNat = v) :
    ∀ k : Nat, sp_le P i + k ≤ sp_re L n P i → sp_F n P ((sp_le P i).toNat + k) = v + sp_dir i * k
  | 0, _ => by simpa using h0
  | k + 1, h => by
    have ih := sp_run ok hi0 hi h0 k (by omega)
    have hn := sp_le_nonneg ok hi0 hi
    show sp_F n P ((sp_le P i).toNat + k) + (if sp_cnt P (((sp_le P i).toNat + k : Nat) : Int) n.toNat % 2 = 0 then 1 else -1) = _
    rw [ih, sp_cnt_seg ok hi0 hi (by omega) (by omega)]
    unfold sp_dir
    split <;> push_cast <;> omega
theorem sp_F_leN (ok : sp_ok L n P K) : ∀ i : Nat, (i : Int) ≤ n → sp_F n P (sp_le P i).toNat = sp_B L n P i
  | 0, _ => by simp [sp_le, sp_F, sp_B, sp_BN]
  | i + 1, hi => by
    have ih := sp_F_leN ok i (by omega)
    have h1 := sp_le_s (P := P) (L := L) (i := i) (n := n) (by omega) (by omega)
    have h2 := sp_le_lt_re ok (i := i) (by omega) (by omega)
    have h3 := sp_le_nonneg ok (i := i) (by omega) (by omega)
    have h4 := sp_run ok (i := i) (by omega) (by omega) ih (sp_re L n P i - sp_le P i).toNat (by omega)
    have h5 := sp_B_s (L := L) (n := n) (P := P) (i := i) (by omega)
    push_cast
    rw [h1, h5, show (sp_re L n P i).toNat = (sp_le P i).toNat + (sp_re L n P i - sp_le P i).toNat by omega, h4]
    rw [Int.toNat_of_nonneg (by omega)]
theorem sp_F_le (ok : sp_ok L n P K) {i : Int} (h0 : 0 ≤ i) (hi : i ≤ n) : sp_F n P (sp_le P i).toNat = sp_B L n P i := by
  have := sp_F_leN ok i.toNat (by omega)
  rwa [Int.toNat_of_nonneg h0] at this
theorem sp_F_in (ok : sp_ok L n P K) {i : Int} (h0 : 0 ≤ i) (hi : i ≤ n) {p : Nat} (h1 : sp_le P i ≤ p) (h2 : (p : Int) ≤ sp_re L n P i) : sp_F n P p = sp_B L n P i + sp_dir i * (p - sp_le P i) := by
  have h3 := sp_le_nonneg ok h0 hi
  have h4 := sp_run ok h0 hi (sp_F_le ok h0 hi) (p - (sp_le P i).toNat) (by omega)
  rw [show (sp_le P i).toNat + (p - (sp_le P i).toNat) = p by omega] at h4
  rw [h4]
  congr 2
  omega
theorem sp_F_re (ok : sp_ok L n P K) {i : Int} (h0 : 0 ≤ i) (hi : i ≤ n) : sp_F n P (sp_re L n P i).toNat = sp_B L n P (i + 1) := by
  have h2 := sp_le_lt_re ok h0 hi
  have h3 := sp_le_nonneg ok h0 hi
  rw [sp_F_in ok h0 hi (by omega) (by omega), sp_B_s h0, Int.toNat_of_nonneg (by omega)]
end SP
