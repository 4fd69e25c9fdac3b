/-! The search's table: how it goes from pair to pair -/
theorem ly_ix2 {a b : Int} (a0 : 0 ≤ a) (b0 : 0 ≤ b) (b1 : b ≤ 7) : 2 * (ly_ix a b : Int) = b * b - b + 2 * a := by
  have : b = 0 ∨ b = 1 ∨ b = 2 ∨ b = 3 ∨ b = 4 ∨ b = 5 ∨ b = 6 ∨ b = 7 := by omega
  unfold ly_ix
  rcases this with rfl | rfl | rfl | rfl | rfl | rfl | rfl | rfl <;> omega
theorem lk_ix {u v a b : Int} (u0 : 0 ≤ u) (uv : u < v) (v1 : v ≤ 6) (a0 : 0 ≤ a) (ab : a < b) (b1 : b ≤ 7) (h : lk_dc a b u v) : ly_ix u v < ly_ix a b := by
  have h1 := ly_ix2 u0 (show 0 ≤ v by omega) (by omega)
  have h2 := ly_ix2 a0 (show 0 ≤ b by omega) b1
  unfold lk_dc at h
  by_cases hvb : v = b
  · subst hvb
    omega
  · have h3 := ly_mono (x := v) (y := b - 1) (by omega) (by omega)
    have h4 : (b - 1) * (b - 1) = b * b - b - (b - 1) := by rw [Int.sub_mul, (ly_sq (x := b)).1, Int.one_mul]
    omega
theorem ly_ix_n {a b : Int} (a0 : 0 ≤ a) (ab : a < b) (b1 : b ≤ 6) : ly_ix (if b ≤ a + 1 then 0 else a + 1) (if b ≤ a + 1 then b + 1 else b) = ly_ix a b + 1 := by
  have h2 := ly_ix2 a0 (show 0 ≤ b by omega) (by omega)
  by_cases h : b ≤ a + 1
  · rw [if_pos h, if_pos h]
    have h1 := ly_ix2 (a := 0) (b := b + 1) (by omega) (by omega) (by omega)
    have h3 : (b + 1) * (b + 1) = b * b + b + (b + 1) := by rw [Int.add_mul, Int.one_mul, Int.mul_add, Int.mul_one]
    omega
  · rw [if_neg h, if_neg h]
    have h1 := ly_ix2 (a := a + 1) (b := b) (by omega) (by omega) (by omega)
    omega
theorem lk_dc_n {a b u v : Int} (a0 : 0 ≤ a) (ab : a < b) (u0 : 0 ≤ u) (v0 : 0 ≤ v) (huv : u ≠ v) :
    lk_dc (if b ≤ a + 1 then 0 else a + 1) (if b ≤ a + 1 then b + 1 else b) u v ↔ (lk_dc a b u v ∨ (u = a ∧ v = b) ∨ (u = b ∧ v = a)) := by
  by_cases h : b ≤ a + 1
  · rw [if_pos h, if_pos h]
    unfold lk_dc
    omega
  · rw [if_neg h, if_neg h]
    unfold lk_dc
    omega
theorem lk_dc_no {a b : Int} : ¬ lk_dc a b a b ∧ ¬ lk_dc a b b a := by
  unfold lk_dc
  omega
/-- a choice written into the table -/
def lk_set (f : Int → Int) (a b v : Int) : Int → Int := ev_up (ev_up f (7 * a + b) v) (7 * b + a) (if v < 0 then v else 1 - v)
theorem lk_set_ab {f : Int → Int} {a b v : Int} (h : 7 * a + b ≠ 7 * b + a) : lk_set f a b v (7 * a + b) = v := by
  unfold lk_set
  rw [ev_up_n h, ev_up_s]
theorem lk_set_ba {f : Int → Int} {a b v : Int} : lk_set f a b v (7 * b + a) = if v < 0 then v else 1 - v := ev_up_s
theorem lk_set_n {f : Int → Int} {a b v i : Int} (h1 : i ≠ 7 * a + b) (h2 : i ≠ 7 * b + a) : lk_set f a b v i = f i := by
  unfold lk_set
  rw [ev_up_n h2, ev_up_n h1]
/-- table, diagonal, bounds -/
def lk_S (lo hi : Int → Int) (n : Int) (o : Nat) (a b : Int) (f : Int → Int) : Prop := lk_z lo hi n o a b f ∧ (∀ x, 0 ≤ x → x ≤ n → f (7 * x + x) = -1) ∧ ∀ i, 0 ≤ i → i < 49 → -2 ≤ f i ∧ f i ≤ 1
section TB
variable {n : Int} {lo hi : Int → Int} {o o1 : Nat} {a b : Int} {f : Int → Int}
theorem lk_set_S {v : Int} (hn : n ≤ 6) (a0 : 0 ≤ a) (ab : a < b) (bn : b ≤ n) (v1 : -2 ≤ v) (v2 : v ≤ 1) (h : (∀ x, 0 ≤ x → x ≤ n → f (7 * x + x) = -1) ∧ ∀ i, 0 ≤ i → i < 49 → -2 ≤ f i ∧ f i ≤ 1) :
    (∀ x, 0 ≤ x → x ≤ n → lk_set f a b v (7 * x + x) = -1) ∧ ∀ i, 0 ≤ i → i < 49 → -2 ≤ lk_set f a b v i ∧ lk_set f a b v i ≤ 1 := by
  refine ⟨fun x x0 x1 => ?_, fun i i0 i1 => ?_⟩
  · rw [lk_set_n (by omega) (by omega)]
    exact h.1 x x0 x1
  · by_cases h1 : i = 7 * b + a
    · rw [h1, lk_set_ba]
      split <;> omega
    · by_cases h2 : i = 7 * a + b
      · rw [h2, lk_set_ab (by omega)]
        omega
      · rw [lk_set_n h2 h1]
        exact h.2 i i0 i1
theorem lk_agree (a0 : 0 ≤ a) (ab : a < b) (b1 : b ≤ 7) (hn : n ≤ 6) (hb : ∀ j, j < ly_ix a b → o1.testBit j = o.testBit j) : ∀ u w, 0 ≤ u → u ≤ n → 0 ≤ w → w ≤ n → u ≠ w → lk_dc a b u w → ly_ab o1 u w = ly_ab o u w := by
  intro u w u0 u1 w0 w1 huw hd
  unfold ly_ab
  by_cases q : u < w
  · rw [if_pos q, if_pos q]
    exact hb _ (lk_ix u0 q (by omega) a0 ab b1 hd)
  · rw [if_neg q, if_neg q, hb _ (lk_ix w0 (by omega) (by omega) a0 ab b1 (by unfold lk_dc at hd ⊢; omega))]
theorem lk_z_same (hz : lk_z lo hi n o a b f) (hag : ∀ u w, 0 ≤ u → u ≤ n → 0 ≤ w → w ≤ n → u ≠ w → lk_dc a b u w → ly_ab o1 u w = ly_ab o u w) : lk_z lo hi n o1 a b f := by
  intro u w u0 u1 w0 w1 huw
  obtain ⟨h1, h2, h3⟩ := hz u w u0 u1 w0 w1 huw
  exact ⟨h1, fun q r => by rw [hag u w u0 u1 w0 w1 huw r]; exact h2 q r, h3⟩
/-- the pair (a, b) is decided -/
theorem lk_z_set {p : Bool} (hn : n ≤ 6) (a0 : 0 ≤ a) (ab : a < b) (bn : b ≤ n) (ho : ly_ov lo hi a b = true) (hz : lk_z lo hi n o1 a b f) (hp : ly_ab o1 a b = p) :
    lk_z lo hi n o1 (if b ≤ a + 1 then 0 else a + 1) (if b ≤ a + 1 then b + 1 else b) (lk_set f a b (ev_b p)) := by
  intro u w u0 u1 w0 w1 huw
  rw [lk_dc_n a0 ab u0 w0 huw]
  obtain ⟨h1, h2, h3⟩ := hz u w u0 u1 w0 w1 huw
  by_cases q1 : u = a ∧ w = b
  · obtain ⟨rfl, rfl⟩ := q1
    rw [lk_set_ab (by omega)]
    exact ⟨fun q => (by rw [ho] at q; cases q), fun _ _ => (by rw [hp]), fun _ q => absurd (Or.inr (Or.inl ⟨rfl, rfl⟩)) q⟩
  · by_cases q2 : u = b ∧ w = a
    · obtain ⟨rfl, rfl⟩ := q2
      rw [lk_set_ba]
      have e : (if ev_b p < 0 then ev_b p else 1 - ev_b p) = ev_b (ly_ab o1 u w) := by
        rw [ly_ab_as (u := u) (v := w) (by omega), hp]
        cases p <;> decide
      exact ⟨fun q => (by rw [ly_ov_cm, ho] at q; cases q), fun _ _ => e, fun _ q => absurd (Or.inr (Or.inr ⟨rfl, rfl⟩)) q⟩
    · rw [lk_set_n (by omega) (by omega)]
      refine ⟨h1, fun q r => h2 q ?_, fun q r => h3 q (fun s => r (Or.inl s))⟩
      rcases r with r | r | r
      · exact r
      · exact absurd r q1
      · exact absurd r q2
/-- the pair (a, b) is open again -/
theorem lk_z_un (hn : n ≤ 6) (a0 : 0 ≤ a) (ab : a < b) (bn : b ≤ n) (ho : ly_ov lo hi a b = true) (hz : lk_z lo hi n o1 (if b ≤ a + 1 then 0 else a + 1) (if b ≤ a + 1 then b + 1 else b) f)
    (hag : ∀ u w, 0 ≤ u → u ≤ n → 0 ≤ w → w ≤ n → u ≠ w → lk_dc a b u w → ly_ab o1 u w = ly_ab o u w) : lk_z lo hi n o a b (lk_set f a b (-2)) := by
  intro u w u0 u1 w0 w1 huw
  have hz' := hz u w u0 u1 w0 w1 huw
  rw [lk_dc_n a0 ab u0 w0 huw] at hz'
  obtain ⟨h1, h2, h3⟩ := hz'
  by_cases q1 : u = a ∧ w = b
  · obtain ⟨rfl, rfl⟩ := q1
    rw [lk_set_ab (by omega)]
    exact ⟨fun q => (by rw [ho] at q; cases q), fun _ q => absurd q lk_dc_no.1, fun _ _ => rfl⟩
  · by_cases q2 : u = b ∧ w = a
    · obtain ⟨rfl, rfl⟩ := q2
      rw [lk_set_ba]
      exact ⟨fun q => (by rw [ly_ov_cm, ho] at q; cases q), fun _ q => absurd q lk_dc_no.2, fun _ _ => rfl⟩
    · rw [lk_set_n (by omega) (by omega)]
      refine ⟨h1, fun q r => ?_, fun q r => h3 q (fun s => ?_)⟩
      · rw [← hag u w u0 u1 w0 w1 huw r]
        exact h2 q (Or.inl r)
      · rcases s with s | s | s
        · exact r s
        · exact q1 s
        · exact q2 s
theorem lk_z_skip (a0 : 0 ≤ a) (ab : a < b) (ho : ly_ov lo hi a b = false) : lk_z lo hi n o (if b ≤ a + 1 then 0 else a + 1) (if b ≤ a + 1 then b + 1 else b) f ↔ lk_z lo hi n o a b f := by
  have key : ∀ u w, 0 ≤ u → 0 ≤ w → u ≠ w → ly_ov lo hi u w = true → (lk_dc (if b ≤ a + 1 then 0 else a + 1) (if b ≤ a + 1 then b + 1 else b) u w ↔ lk_dc a b u w) := by
    intro u w u0 w0 huw q
    rw [lk_dc_n a0 ab u0 w0 huw]
    constructor
    · rintro (r | ⟨rfl, rfl⟩ | ⟨rfl, rfl⟩)
      · exact r
      · rw [ho] at q; cases q
      · rw [ly_ov_cm, ho] at q; cases q
    · exact Or.inl
  constructor
  · intro hz u w u0 u1 w0 w1 huw
    obtain ⟨h1, h2, h3⟩ := hz u w u0 u1 w0 w1 huw
    exact ⟨h1, fun q r => h2 q ((key u w u0 w0 huw q).mpr r), fun q r => h3 q (fun s => r ((key u w u0 w0 huw q).mp s))⟩
  · intro hz u w u0 u1 w0 w1 huw
    obtain ⟨h1, h2, h3⟩ := hz u w u0 u1 w0 w1 huw
    exact ⟨h1, fun q r => h2 q ((key u w u0 w0 huw q).mp r), fun q r => h3 q (fun s => r ((key u w u0 w0 huw q).mpr s))⟩
end TB
/-- all decided pairs keep the class's rules -/
def lk_HN (n : Int) (K : Int → Int) (tn : Bool) (B lo hi : Int → Int) (o : Nat) (a b : Int) : Prop := ∀ x y, 0 ≤ x → x < y → y ≤ n → lk_dc a b x y → ly_ov lo hi x y = true → ly_ok K tn B lo hi o x y = true
theorem lk_HN_n {n : Int} {K : Int → Int} {tn : Bool} {B lo hi : Int → Int} {o : Nat} {a b : Int} (a0 : 0 ≤ a) (ab : a < b) (bn : b ≤ n) (ho : ly_ov lo hi a b = true) :
    lk_HN n K tn B lo hi o (if b ≤ a + 1 then 0 else a + 1) (if b ≤ a + 1 then b + 1 else b) ↔ (lk_HN n K tn B lo hi o a b ∧ ly_ok K tn B lo hi o a b = true) := by
  constructor
  · intro h
    exact ⟨fun x y x0 xy yn hd hov => h x y x0 xy yn ((lk_dc_n a0 ab x0 (by omega) (by omega)).mpr (Or.inl hd)) hov, h a b a0 ab bn ((lk_dc_n a0 ab a0 (by omega) (by omega)).mpr (Or.inr (Or.inl ⟨rfl, rfl⟩))) ho⟩
  · rintro ⟨h1, h2⟩ x y x0 xy yn hd hov
    rcases (lk_dc_n a0 ab x0 (by omega) (by omega)).mp hd with q | ⟨rfl, rfl⟩ | ⟨rfl, rfl⟩
    · exact h1 x y x0 xy yn q hov
    · exact h2
    · omega
theorem lk_HN_skip {n : Int} {K : Int → Int} {tn : Bool} {B lo hi : Int → Int} {o : Nat} {a b : Int} (a0 : 0 ≤ a) (ab : a < b) (ho : ly_ov lo hi a b = false) (h : lk_HN n K tn B lo hi o a b) :
    lk_HN n K tn B lo hi o (if b ≤ a + 1 then 0 else a + 1) (if b ≤ a + 1 then b + 1 else b) := by
  intro x y x0 xy yn hd hov
  rcases (lk_dc_n a0 ab x0 (by omega) (by omega)).mp hd with q | ⟨rfl, rfl⟩ | ⟨rfl, rfl⟩
  · exact h x y x0 xy yn q hov
  · rw [ho] at hov; cases hov
  · omega
/-- the pairs that overlap, from (a, b) on -/
def lk_rem (lo hi : Int → Int) : Nat → Int → Int → List (Int × Int)
  | 0, _, _ => []
  | k + 1, a, b => (if ly_ov lo hi a b then [(a, b)] else []) ++ lk_rem lo hi k (if b ≤ a + 1 then 0 else a + 1) (if b ≤ a + 1 then b + 1 else b)
theorem lk_rem_len {lo hi : Int → Int} : ∀ (k : Nat) (a b : Int), (lk_rem lo hi k a b).length ≤ k
  | 0, _, _ => Nat.le_refl _
  | k + 1, a, b => by
    have ih := lk_rem_len (lo := lo) (hi := hi) k (if b ≤ a + 1 then 0 else a + 1) (if b ≤ a + 1 then b + 1 else b)
    unfold lk_rem
    rw [List.length_append]
    split
    · show 1 + _ ≤ _
      omega
    · show 0 + _ ≤ _
      omega
