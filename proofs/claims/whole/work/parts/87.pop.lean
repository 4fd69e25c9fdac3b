/-! How many bits: the sums of bitCount, in natural numbers -/
def pp_n : Nat → Nat → Nat
  | 0, _ => 0
  | k + 1, N => N % 2 + pp_n k (N / 2)
def pp_m (c : Nat) : Nat → Nat
  | 0 => 0
  | k + 1 => c + 256 * pp_m c k
def pp_1 (m N : Nat) : Nat := N - ((N >>> 1) &&& m)
def pp_2 (m N : Nat) : Nat := (N &&& m) + ((N >>> 2) &&& m)
def pp_3 (m N : Nat) : Nat := (N + (N >>> 4)) &&& m
theorem pp_tb {a y j : Nat} (ha : a < 256) : (a + 256 * y).testBit j = if j < 8 then a.testBit j else y.testBit (j - 8) := by
  rw [show a + 256 * y = 2 ^ 8 * y + a by omega]
  exact Nat.testBit_two_pow_mul_add y (i := 8) ha j
theorem pp_sa {s a y c m : Nat} (ha : a < 256) (hs : s ≤ 8) (hc : c < 2 ^ (8 - s)) : ((a + 256 * y) >>> s) &&& (c + 256 * m) = ((a >>> s) &&& c) + 256 * ((y >>> s) &&& m) := by
  have hc8 : c < 256 := Nat.lt_of_lt_of_le hc (Nat.pow_le_pow_right (n := 2) (by decide) (show 8 - s ≤ 8 by omega))
  have hlow : (a >>> s) &&& c < 256 := Nat.lt_of_le_of_lt Nat.and_le_right hc8
  apply Nat.eq_of_testBit_eq
  intro j
  rw [pp_tb hlow, Nat.testBit_and, Nat.testBit_shiftRight, pp_tb ha, pp_tb hc8]
  by_cases hj : j < 8
  · rw [if_pos hj, if_pos hj, Nat.testBit_and, Nat.testBit_shiftRight]
    by_cases hsj : s + j < 8
    · rw [if_pos hsj]
    · have hz : c.testBit j = false := Nat.testBit_lt_two_pow (Nat.lt_of_lt_of_le hc (Nat.pow_le_pow_right (n := 2) (by decide) (by omega)))
      rw [hz, Bool.and_false, Bool.and_false]
  · rw [if_neg hj, if_neg hj, if_neg (by omega), Nat.testBit_and, Nat.testBit_shiftRight, show s + j - 8 = s + (j - 8) by omega]
theorem pp_a {a y c m : Nat} (ha : a < 256) (hc : c < 256) : (a + 256 * y) &&& (c + 256 * m) = (a &&& c) + 256 * (y &&& m) := by
  have := pp_sa (s := 0) (y := y) (m := m) ha (by decide) hc
  simpa using this
theorem pp_1s {a y m : Nat} (ha : a < 256) : pp_1 (85 + 256 * m) (a + 256 * y) = pp_1 85 a + 256 * pp_1 m y := by
  unfold pp_1
  rw [pp_sa ha (by decide) (by decide)]
  have h1 : (a >>> 1) &&& 85 ≤ a := Nat.le_trans Nat.and_le_left (Nat.shiftRight_le a 1)
  have h2 : (y >>> 1) &&& m ≤ y := Nat.le_trans Nat.and_le_left (Nat.shiftRight_le y 1)
  omega
theorem pp_2s {a y m : Nat} (ha : a < 256) : pp_2 (51 + 256 * m) (a + 256 * y) = pp_2 51 a + 256 * pp_2 m y := by
  unfold pp_2
  rw [pp_sa ha (by decide) (by decide), pp_a ha (by decide)]
  omega
theorem pp_3s {a y m : Nat} (ha : a ≤ 102) (hy : y % 16 ≤ 6) : pp_3 (15 + 256 * m) (a + 256 * y) = pp_3 15 a + 256 * pp_3 m y := by
  unfold pp_3
  have e1 : (a + 256 * y) >>> 4 = (a + 256 * y) / 16 := Nat.shiftRight_eq_div_pow _ 4
  have e2 : a >>> 4 = a / 16 := Nat.shiftRight_eq_div_pow _ 4
  have e3 : y >>> 4 = y / 16 := Nat.shiftRight_eq_div_pow _ 4
  rw [e1, e2, e3, show a + 256 * y + (a + 256 * y) / 16 = (a + a / 16 + 16 * (y % 16)) + 256 * (y + y / 16) by omega, pp_a (by omega) (by decide)]
  have f : ∀ x : Nat, x &&& 15 = x % 16 := fun x => Nat.and_two_pow_sub_one_eq_mod x 4
  rw [f, f]
  omega
theorem pp_byte : ∀ a : Nat, a < 256 → pp_1 85 a < 256 ∧ pp_2 51 (pp_1 85 a) % 16 ≤ 6 ∧ pp_2 51 (pp_1 85 a) ≤ 102 ∧ pp_3 15 (pp_2 51 (pp_1 85 a)) = pp_n 8 a := by decide +kernel
/-- the counts of the bytes -/
def pp_c : Nat → Nat → Nat
  | 0, _ => 0
  | k + 1, N => pp_n 8 (N % 256) + 256 * pp_c k (N / 256)
theorem pp_cs : ∀ (k N : Nat), N < 256 ^ k → pp_2 (pp_m 51 k) (pp_1 (pp_m 85 k) N) % 16 ≤ 6 ∧ pp_3 (pp_m 15 k) (pp_2 (pp_m 51 k) (pp_1 (pp_m 85 k) N)) = pp_c k N
  | 0, N, h => by
    have : N = 0 := by
      have : N < 1 := h
      omega
    subst this
    exact ⟨by decide, by decide⟩
  | k + 1, N, h => by
    have hN : N / 256 < 256 ^ k := by
      rw [Nat.pow_succ] at h
      exact Nat.div_lt_of_lt_mul (by rw [Nat.mul_comm]; exact h)
    obtain ⟨i1, i2⟩ := pp_cs k (N / 256) hN
    obtain ⟨b1, b2, b3, b4⟩ := pp_byte (N % 256) (Nat.mod_lt _ (by decide))
    have e : N = N % 256 + 256 * (N / 256) := by omega
    have e1 : pp_1 (pp_m 85 (k + 1)) N = pp_1 85 (N % 256) + 256 * pp_1 (pp_m 85 k) (N / 256) := by
      conv => lhs; rw [e]
      exact pp_1s (Nat.mod_lt _ (by decide))
    have e2 : pp_2 (pp_m 51 (k + 1)) (pp_1 (pp_m 85 (k + 1)) N) = pp_2 51 (pp_1 85 (N % 256)) + 256 * pp_2 (pp_m 51 k) (pp_1 (pp_m 85 k) (N / 256)) := by
      rw [e1]
      exact pp_2s b1
    rw [e2]
    refine ⟨by omega, ?_⟩
    show pp_3 (15 + 256 * pp_m 15 k) _ = _
    rw [pp_3s b3 i1, b4, i2]
    rfl
theorem pp_n_le : ∀ k N : Nat, pp_n k N ≤ k
  | 0, _ => Nat.le_refl _
  | k + 1, N => by
    have := pp_n_le k (N / 2)
    unfold pp_n
    omega
theorem pp_n8 (k N : Nat) : pp_n (8 + k) N = pp_n 8 (N % 256) + pp_n k (N / 256) := by
  rw [show 8 + k = k + 8 by omega]
  simp only [pp_n]
  rw [show N / 2 / 2 / 2 / 2 / 2 / 2 / 2 / 2 = N / 256 by omega]
  omega
/-- the last sums -/
theorem pp_d1 {a y s : Nat} (h : a < 256) (e : s = a + 256 * y) : s / 256 = y := by omega
theorem pp_d2 {a b y s : Nat} (ha : a < 256) (hb : b < 256) (e : s = a + 256 * (b + 256 * y)) : s / 65536 = y := by omega
theorem pp_d4 {a b c d y s : Nat} (ha : a < 256) (hb : b < 256) (hc : c < 256) (hd : d < 256) (e : s = a + 256 * (b + 256 * (c + 256 * (d + 256 * y)))) : s / 4294967296 = y := by
  have e1 := pp_d2 ha hb e
  have e2 := pp_d2 hc hd e1
  rw [← e2, Nat.div_div_eq_div_mul]
theorem pp_md {x y s : Nat} (h : x < 128) (e : s = x + 256 * y) : s % 128 = x := by omega
theorem pp_sum {a0 a1 a2 a3 a4 a5 a6 a7 r1 r2 r3 r4 r5 r6 r7 s3 s4 s5 s6 : Nat} (h0 : a0 ≤ 8) (h1 : a1 ≤ 8) (h2 : a2 ≤ 8) (h3 : a3 ≤ 8) (h4 : a4 ≤ 8) (h5 : a5 ≤ 8) (h6 : a6 ≤ 8) (h7 : a7 ≤ 8)
    (e7 : r7 = a7 + 256 * 0) (e6 : r6 = a6 + 256 * r7) (e5 : r5 = a5 + 256 * r6) (e4 : r4 = a4 + 256 * r5) (e3 : r3 = a3 + 256 * r4) (e2 : r2 = a2 + 256 * r3) (e1 : r1 = a1 + 256 * r2) (e0 : s3 = a0 + 256 * r1)
    (f4 : s4 = s3 + s3 / 256) (f5 : s5 = s4 + s4 / 65536) (f6 : s6 = s5 + s5 / 4294967296) :
    s6 % 128 = a0 + (a1 + (a2 + (a3 + (a4 + (a5 + (a6 + (a7 + 0))))))) := by
  rw [pp_d1 (by omega) e0] at f4
  have g4 : s4 = (a0 + a1) + 256 * ((a1 + a2) + 256 * (r2 + r3)) := by rw [f4, e0, e1, e2]; omega
  rw [pp_d2 (by omega) (by omega) g4] at f5
  have g5 : s5 = (a0 + a1 + a2 + a3) + 256 * ((a1 + a2 + a3 + a4) + 256 * ((a2 + a3 + a4 + a5) + 256 * ((a3 + a4 + a5 + a6) + 256 * (r4 + r5 + r6 + r7)))) := by rw [f5, g4, e2, e3, e4, e5, e6]; omega
  rw [pp_d4 (by omega) (by omega) (by omega) (by omega) g5] at f6
  have g6 : s6 = (a0 + (a1 + (a2 + (a3 + (a4 + (a5 + (a6 + (a7 + 0)))))))) + 256 * ((a1 + a2 + a3 + a4) + 256 * ((a2 + a3 + a4 + a5) + 256 * ((a3 + a4 + a5 + a6) + 256 * (r4 + r5 + r6 + r7))) + r5 + r6 + r7) := by rw [f6, g5]; omega
  exact pp_md (by omega) g6
/-- the whole of bitCount, in numbers -/
def pp_all (N : Nat) : Nat :=
  let s3 := pp_3 1085102592571150095 (pp_2 3689348814741910323 (pp_1 6148914691236517205 N))
  let s4 := s3 + s3 >>> 8
  let s5 := s4 + s4 >>> 16
  (s5 + s5 >>> 32) % 128
theorem pp_all_n {N : Nat} (h : N < 2 ^ 64) : pp_all N = pp_n 64 N := by
  have h1 := (pp_cs 8 N h).2
  have m1 : pp_m 85 8 = 6148914691236517205 := by decide
  have m2 : pp_m 51 8 = 3689348814741910323 := by decide
  have m3 : pp_m 15 8 = 1085102592571150095 := by decide
  rw [m1, m2, m3] at h1
  unfold pp_all
  rw [h1]
  have p1 : pp_n 64 N = pp_n 8 (N % 256) + pp_n 56 (N / 256) := pp_n8 56 _
  have p2 : pp_n 56 (N / 256) = pp_n 8 (N / 256 % 256) + pp_n 48 (N / 256 / 256) := pp_n8 48 _
  have p3 : pp_n 48 (N / 256 / 256) = pp_n 8 (N / 256 / 256 % 256) + pp_n 40 (N / 256 / 256 / 256) := pp_n8 40 _
  have p4 : pp_n 40 (N / 256 / 256 / 256) = pp_n 8 (N / 256 / 256 / 256 % 256) + pp_n 32 (N / 256 / 256 / 256 / 256) := pp_n8 32 _
  have p5 : pp_n 32 (N / 256 / 256 / 256 / 256) = pp_n 8 (N / 256 / 256 / 256 / 256 % 256) + pp_n 24 (N / 256 / 256 / 256 / 256 / 256) := pp_n8 24 _
  have p6 : pp_n 24 (N / 256 / 256 / 256 / 256 / 256) = pp_n 8 (N / 256 / 256 / 256 / 256 / 256 % 256) + pp_n 16 (N / 256 / 256 / 256 / 256 / 256 / 256) := pp_n8 16 _
  have p7 : pp_n 16 (N / 256 / 256 / 256 / 256 / 256 / 256) = pp_n 8 (N / 256 / 256 / 256 / 256 / 256 / 256 % 256) + pp_n 8 (N / 256 / 256 / 256 / 256 / 256 / 256 / 256) := pp_n8 8 _
  have p8 : pp_n 8 (N / 256 / 256 / 256 / 256 / 256 / 256 / 256) = pp_n 8 (N / 256 / 256 / 256 / 256 / 256 / 256 / 256 % 256) + 0 := pp_n8 0 _
  rw [p1, p2, p3, p4, p5, p6, p7, p8]
  have q4 : pp_c 8 N + pp_c 8 N >>> 8 = pp_c 8 N + pp_c 8 N / 256 := congrArg _ (Nat.shiftRight_eq_div_pow _ 8)
  have q5 : ∀ x : Nat, x + x >>> 16 = x + x / 65536 := fun x => congrArg _ (Nat.shiftRight_eq_div_pow _ 16)
  have q6 : ∀ x : Nat, x + x >>> 32 = x + x / 4294967296 := fun x => congrArg _ (Nat.shiftRight_eq_div_pow _ 32)
  exact pp_sum (pp_n_le 8 _) (pp_n_le 8 _) (pp_n_le 8 _) (pp_n_le 8 _) (pp_n_le 8 _) (pp_n_le 8 _) (pp_n_le 8 _) (pp_n_le 8 _) (rfl : pp_c 1 (N / 256 / 256 / 256 / 256 / 256 / 256 / 256) = _) (rfl : pp_c 2 (N / 256 / 256 / 256 / 256 / 256 / 256) = _) (rfl : pp_c 3 (N / 256 / 256 / 256 / 256 / 256) = _) (rfl : pp_c 4 (N / 256 / 256 / 256 / 256) = _) (rfl : pp_c 5 (N / 256 / 256 / 256) = _) (rfl : pp_c 6 (N / 256 / 256) = _) (rfl : pp_c 7 (N / 256) = _) (rfl : pp_c 8 N = _) q4 (q5 _) (q6 _)
/-- how many of the first k -/
def ct_s (f : Nat → Bool) : Nat → Nat
  | 0 => 0
  | k + 1 => ct_s f k + (if f k then 1 else 0)
theorem ct_s_add (f : Nat → Bool) (a : Nat) : ∀ b : Nat, ct_s f (a + b) = ct_s f a + ct_s (fun j => f (a + j)) b
  | 0 => rfl
  | b + 1 => by
    have ih := ct_s_add f a b
    show ct_s f (a + b) + (if f (a + b) then 1 else 0) = _
    rw [ih, Nat.add_assoc]
    rfl
theorem ct_s_cg {f f' : Nat → Bool} : ∀ k : Nat, (∀ j, j < k → f j = f' j) → ct_s f k = ct_s f' k
  | 0, _ => rfl
  | k + 1, h => by
    unfold ct_s
    rw [ct_s_cg k (fun j hj => h j (by omega)), h k (Nat.lt_succ_self k)]
theorem pp_n_s : ∀ k N : Nat, pp_n k N = ct_s (fun j => N.testBit j) k
  | 0, _ => rfl
  | k + 1, N => by
    have ih := pp_n_s k (N / 2)
    unfold pp_n
    rw [ih, Nat.add_comm k 1, ct_s_add]
    congr 1
    · show N % 2 = 0 + (if N.testBit 0 then 1 else 0)
      rw [Nat.testBit_zero]
      rcases Nat.mod_two_eq_zero_or_one N with q | q <;> rw [q] <;> rfl
    · refine ct_s_cg k (fun j _ => ?_)
      show (N / 2).testBit j = N.testBit (1 + j)
      rw [Nat.add_comm 1 j, Nat.testBit_succ]
