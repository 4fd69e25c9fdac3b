/-! LayerOrders: an order is a row of bits -/
def ly_ix (a b : Int) : Nat := (b * (b - 1) / 2 + a).toNat
def ly_ab (o : Nat) (a b : Int) : Bool := if a < b then o.testBit (ly_ix a b) else !(o.testBit (ly_ix b a))
def ly_bt (o : Nat) (s a b : Int) : Bool := ly_ab o s a != ly_ab o s b
theorem ly_tri {b : Int} (b0 : 0 ≤ b) (b1 : b ≤ 6) : 0 ≤ b * (b - 1) ∧ b * (b - 1) ≤ 30 := by
  have : b = 0 ∨ b = 1 ∨ b = 2 ∨ b = 3 ∨ b = 4 ∨ b = 5 ∨ b = 6 := by omega
  rcases this with rfl | rfl | rfl | rfl | rfl | rfl | rfl <;> decide
theorem ly_ix_eq {a b : Int} (a0 : 0 ≤ a) (b0 : 0 ≤ b) (b1 : b ≤ 6) : b * (b - 1) / 2 + a = (ly_ix a b : Int) := by
  have := ly_tri b0 b1
  unfold ly_ix
  rw [Int.toNat_of_nonneg (by omega)]
theorem ly_ix_lt {a b : Int} (a0 : 0 ≤ a) (a1 : a ≤ 6) (b0 : 0 ≤ b) (b1 : b ≤ 6) : ly_ix a b < 22 := by
  have h1 := ly_ix_eq a0 b0 b1
  have h2 := ly_tri b0 b1
  omega
section LY
variable {g : ev_G} {d : Nat} {h : List ev_AC}
theorem ct_bit {a b : Int} (a0 : 0 ≤ a) (a1 : a ≤ 6) (b0 : 0 ≤ b) (b1 : b ≤ 6) : ev_C g mO_bit d [ev_i a, ev_i b] h 0 0 (ev_V (some (ev_i ((2 ^ ly_ix a b : Nat) : Int))) h) := by
  have ht := ly_tri b0 b1
  have hx := ly_ix_lt a0 a1 b0 b1
  refine ev_ofE (by decide +kernel) rfl (Nat.le_of_ble_eq_true rfl) rfl rfl ?_
  refine ev_iconst dO_bit_0 ?_
  refine ev_iload_n dO_bit_1 rfl ?_
  refine ev_iload_n dO_bit_2 rfl ?_
  refine ev_iconst dO_bit_3 ?_
  refine ev_isub dO_bit_4 ?_
  refine ev_imul dO_bit_5 ?_
  refine ev_iconst dO_bit_6 ?_
  refine ev_div dO_bit_7 ht.1 (by omega) (by decide) (by decide) ?_
  refine ev_iload_n dO_bit_8 rfl ?_
  refine ev_iadd dO_bit_9 ?_
  refine ev_shl1 dO_bit_10 (ly_ix_eq a0 b0 b1) (by omega) ?_
  refine ev_ireturn dO_bit_11 rfl ?_
  exact ⟨rfl, rfl⟩
theorem ly_and_bd (o : Nat) {k : Nat} (hk : k < 22) : ((o &&& 2 ^ k : Nat) : Int) < 2147483648 := by
  have h1 : o &&& 2 ^ k ≤ 2 ^ k := Nat.and_le_right
  have h2 : 2 ^ k ≤ 2 ^ 22 := Nat.pow_le_pow_right (by decide) (by omega)
  have h3 : (2 : Nat) ^ 22 = 4194304 := by decide
  omega
theorem ct_isAbove {o : Nat} {a b : Int} (a0 : 0 ≤ a) (a1 : a ≤ 6) (b0 : 0 ≤ b) (b1 : b ≤ 6) : ev_C g mO_isAbove (d + 1) [ev_i o, ev_i a, ev_i b] h 0 0 (ev_V (some (ev_i (ev_b (ly_ab o a b)))) h) := by
  refine ev_ofE (by decide +kernel) rfl (Nat.le_of_ble_eq_true rfl) rfl rfl ?_
  refine ev_iload_n dO_isAbove_0 rfl ?_
  refine ev_iload_n dO_isAbove_1 rfl ?_
  refine ev_icmp_ge (tgt := 23) dO_isAbove_2 rfl (by omega) (by omega) (by omega) (by omega) (fun hb => ?_) (fun hb => ?_)
  · refine ev_iload_n dO_isAbove_23 rfl ?_
    refine ev_iload_n dO_isAbove_24 rfl ?_
    refine ev_iload_n dO_isAbove_25 rfl ?_
    refine ev_cS dO_isAbove_26 cs_O_48 (ct_bit b0 b1 a0 a1) rfl rfl (Nat.le_of_ble_eq_true rfl) (Nat.le_of_ble_eq_true rfl) (Nat.le_of_ble_eq_true rfl) ?_
    refine ev_and dO_isAbove_29 ?_
    have hx := ly_ix_lt b0 b1 a0 a1
    have e : ly_ab o a b = !(o.testBit (ly_ix b a)) := if_neg (by omega)
    have hbd := ly_and_bd o hx
    have e2 := ev_bit0 o (ly_ix b a)
    refine ev_if_ne (tgt := 37) dO_isAbove_30 rfl (by omega) (by omega) (fun hb2 => ?_) (fun hb2 => ?_)
    · refine ev_iconst dO_isAbove_37 ?_
      refine ev_zreturn dO_isAbove_38 rfl ?_ ?_
      · decide
      · refine ⟨?_, rfl⟩
        rw [e]
        cases ht : o.testBit (ly_ix b a) with
        | true => rfl
        | false => exact absurd (by rw [e2, ht]; rfl) hb2
    · refine ev_iconst dO_isAbove_33 ?_
      refine ev_goto (tgt := 38) dO_isAbove_34 rfl ?_
      refine ev_zreturn dO_isAbove_38 rfl ?_ ?_
      · decide
      · refine ⟨?_, rfl⟩
        rw [e]
        cases ht : o.testBit (ly_ix b a) with
        | false => rfl
        | true =>
          rw [e2, ht, if_pos rfl] at hb2
          have : 0 < 2 ^ ly_ix b a := Nat.two_pow_pos _
          omega
  · refine ev_iload_n dO_isAbove_5 rfl ?_
    refine ev_iload_n dO_isAbove_6 rfl ?_
    refine ev_iload_n dO_isAbove_7 rfl ?_
    refine ev_cS dO_isAbove_8 cs_O_48 (ct_bit a0 a1 b0 b1) rfl rfl (Nat.le_of_ble_eq_true rfl) (Nat.le_of_ble_eq_true rfl) (Nat.le_of_ble_eq_true rfl) ?_
    refine ev_and dO_isAbove_11 ?_
    have hx := ly_ix_lt a0 a1 b0 b1
    have e : ly_ab o a b = o.testBit (ly_ix a b) := if_pos hb
    have hbd := ly_and_bd o hx
    have e2 := ev_bit0 o (ly_ix a b)
    refine ev_if_eq (tgt := 19) dO_isAbove_12 rfl (by omega) (by omega) (fun hb2 => ?_) (fun hb2 => ?_)
    · refine ev_iconst dO_isAbove_19 ?_
      refine ev_goto (tgt := 38) dO_isAbove_20 rfl ?_
      refine ev_zreturn dO_isAbove_38 rfl ?_ ?_
      · decide
      · refine ⟨?_, rfl⟩
        rw [e]
        cases ht : o.testBit (ly_ix a b) with
        | false => rfl
        | true =>
          rw [e2, ht, if_pos rfl] at hb2
          have : 0 < 2 ^ ly_ix a b := Nat.two_pow_pos _
          omega
    · refine ev_iconst dO_isAbove_15 ?_
      refine ev_goto (tgt := 38) dO_isAbove_16 rfl ?_
      refine ev_zreturn dO_isAbove_38 rfl ?_ ?_
      · decide
      · refine ⟨?_, rfl⟩
        rw [e]
        cases ht : o.testBit (ly_ix a b) with
        | true => rfl
        | false => exact absurd (by rw [e2, ht]; rfl) hb2
theorem ct_isBetween {o : Nat} {s a b : Int} (s0 : 0 ≤ s) (s1 : s ≤ 6) (a0 : 0 ≤ a) (a1 : a ≤ 6) (b0 : 0 ≤ b) (b1 : b ≤ 6) : ev_C g mO_isBetween (d + 2) [ev_i o, ev_i s, ev_i a, ev_i b] h 0 0 (ev_V (some (ev_i (ev_b (ly_bt o s a b)))) h) := by
  refine ev_ofE (by decide +kernel) rfl (Nat.le_of_ble_eq_true rfl) rfl rfl ?_
  refine ev_iload_n dO_isBetween_0 rfl ?_
  refine ev_iload_n dO_isBetween_1 rfl ?_
  refine ev_iload_n dO_isBetween_2 rfl ?_
  refine ev_cS dO_isBetween_3 cs_O_75 (ct_isAbove s0 s1 a0 a1) rfl rfl (Nat.le_of_ble_eq_true rfl) (Nat.le_of_ble_eq_true rfl) (Nat.le_of_ble_eq_true rfl) ?_
  refine ev_iload_n dO_isBetween_6 rfl ?_
  refine ev_iload_n dO_isBetween_7 rfl ?_
  refine ev_iload_n dO_isBetween_8 rfl ?_
  refine ev_cS dO_isBetween_9 cs_O_75 (ct_isAbove s0 s1 b0 b1) rfl rfl (Nat.le_of_ble_eq_true rfl) (Nat.le_of_ble_eq_true rfl) (Nat.le_of_ble_eq_true rfl) ?_
  refine ev_qeq (tgt := 19) dO_isBetween_12 rfl (fun hb => ?_) (fun hb => ?_)
  · refine ev_iconst dO_isBetween_19 ?_
    refine ev_zreturn dO_isBetween_20 rfl ?_ ?_
    · decide
    · exact ⟨by rw [ly_bt, hb]; simp [ev_b], rfl⟩
  · refine ev_iconst dO_isBetween_15 ?_
    refine ev_goto (tgt := 20) dO_isBetween_16 rfl ?_
    refine ev_zreturn dO_isBetween_20 rfl ?_ ?_
    · decide
    · exact ⟨by rw [ly_bt, bne_iff_ne.mpr hb]; rfl, rfl⟩
end LY
