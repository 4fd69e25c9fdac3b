/-! The reference: get, between -/
section R4
variable {g : ev_G} {d : Nat} {c : Nat → ev_AC} {h : List ev_AC} {th L n : Int} {tn : Bool} {P K S : Int → Int} {ty : Int} {z : MZ} {y : MY} {t : List ev_AC}
theorem ct_Mget {i j : Int} (i0 : 0 ≤ i) (i1 : i ≤ 6) (j0 : 0 ≤ j) (j1 : j ≤ 6) : ev_C g mM_get d [.ref 16, ev_i i, ev_i j] (MH c th L n tn P K S ty z y t) 0 0 (ev_V (some (ev_i (z.1 (7 * i + j)))) (MH c th L n tn P K S ty z y t)) := by
  refine ev_ofE (by decide +kernel) rfl (Nat.le_of_ble_eq_true rfl) rfl rfl ?_
  refine ev_aload_n dM_get_0 rfl ?_
  refine ev_get dM_get_1 fl_M_23 rfl rfl ?_
  refine ev_bipush dM_get_4 rfl ?_
  refine ev_iload_n dM_get_6 rfl ?_
  refine ev_imul dM_get_7 ?_
  refine ev_iload_n dM_get_8 rfl ?_
  refine ev_iadd dM_get_9 ?_
  refine ev_iald dM_get_10 rfl (by omega) (by omega) (by decide) ?_
  refine ev_ireturn dM_get_11 rfl ?_
  exact ⟨rfl, rfl⟩
/-- is s between a and b: -2 where one is open -/
def mz_bt (z : MZ) (s a b : Int) : Int := if z.1 (7 * s + a) = -2 ∨ z.1 (7 * s + b) = -2 then -2 else if z.1 (7 * s + a) = z.1 (7 * s + b) then 0 else 1
theorem ct_Mbetween {s a b : Int} (s0 : 0 ≤ s) (s1 : s ≤ 6) (a0 : 0 ≤ a) (a1 : a ≤ 6) (b0 : 0 ≤ b) (b1 : b ≤ 6) (hz : ∀ i, 0 ≤ i → i < 49 → -2 ≤ z.1 i ∧ z.1 i ≤ 1) :
    ev_C g mM_between (d + 1) [.ref 16, ev_i s, ev_i a, ev_i b] (MH c th L n tn P K S ty z y t) 0 0 (ev_V (some (ev_i (mz_bt z s a b))) (MH c th L n tn P K S ty z y t)) := by
  have za := hz (7 * s + a) (by omega) (by omega)
  have zb := hz (7 * s + b) (by omega) (by omega)
  unfold mz_bt
  refine ev_ofE (by decide +kernel) rfl (Nat.le_of_ble_eq_true rfl) rfl rfl ?_
  refine ev_aload_n dM_between_0 rfl ?_
  refine ev_iload_n dM_between_1 rfl ?_
  refine ev_iload_n dM_between_2 rfl ?_
  refine ev_cV dM_between_3 cv_M_124 (ct_Mget s0 s1 a0 a1) rfl rfl rfl (Nat.le_of_ble_eq_true rfl) (Nat.le_of_ble_eq_true rfl) (Nat.le_of_ble_eq_true rfl) ?_
  refine ev_istore dM_between_6 (Nat.le_of_ble_eq_true rfl) ?_
  refine ev_aload_n dM_between_8 rfl ?_
  refine ev_iload_n dM_between_9 rfl ?_
  refine ev_iload_n dM_between_10 rfl ?_
  refine ev_cV dM_between_11 cv_M_124 (ct_Mget s0 s1 b0 b1) rfl rfl rfl (Nat.le_of_ble_eq_true rfl) (Nat.le_of_ble_eq_true rfl) (Nat.le_of_ble_eq_true rfl) ?_
  refine ev_istore dM_between_14 (Nat.le_of_ble_eq_true rfl) ?_
  refine ev_iload dM_between_16 rfl ?_
  refine ev_bipush dM_between_18 rfl ?_
  refine ev_icmp_eq (tgt := 30) dM_between_20 rfl (by omega) (by omega) (by omega) (by omega) (fun h1 => ?_) (fun h1 => ?_)
  · rw [if_pos (Or.inl h1)]
    refine ev_bipush dM_between_30 rfl ?_
    refine ev_goto (tgt := 47) dM_between_32 rfl ?_
    refine ev_ireturn dM_between_47 rfl ?_
    exact ⟨rfl, rfl⟩
  · refine ev_iload dM_between_23 rfl ?_
    refine ev_bipush dM_between_25 rfl ?_
    refine ev_icmp_ne (tgt := 35) dM_between_27 rfl (by omega) (by omega) (by omega) (by omega) (fun h2 => ?_) (fun h2 => ?_)
    · rw [if_neg (by omega)]
      refine ev_iload dM_between_35 rfl ?_
      refine ev_iload dM_between_37 rfl ?_
      refine ev_icmp_eq (tgt := 46) dM_between_39 rfl (by omega) (by omega) (by omega) (by omega) (fun h3 => ?_) (fun h3 => ?_)
      · rw [if_pos h3]
        refine ev_iconst dM_between_46 ?_
        refine ev_ireturn dM_between_47 rfl ?_
        exact ⟨rfl, rfl⟩
      · rw [if_neg h3]
        refine ev_iconst dM_between_42 ?_
        refine ev_goto (tgt := 47) dM_between_43 rfl ?_
        refine ev_ireturn dM_between_47 rfl ?_
        exact ⟨rfl, rfl⟩
    · rw [if_pos (Or.inr h2)]
      refine ev_bipush dM_between_30 rfl ?_
      refine ev_goto (tgt := 47) dM_between_32 rfl ?_
      refine ev_ireturn dM_between_47 rfl ?_
      exact ⟨rfl, rfl⟩
end R4
