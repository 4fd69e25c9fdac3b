/-! The law: its loop, its beginning -/
section RUN
variable {g : ev_G} {d : Nat} {u : UInt32}
theorem law_loop (hs : ev_SC g) : ∀ k : Nat, law_I g d u k := by
  intro k
  induction k with
  | zero =>
    intro i th s S ty rs z y F e kn h o5 o6 i0 iL hk hW
    have hsL := hs.1
    refine ev_iload dL_law_23 rfl ?_
    refine ev_sload_n dL_law_25 rfl ?_
    refine ev_salen hs dL_law_26 ?_
    refine ev_iconst dL_law_27 ?_
    refine ev_isub dL_law_28 ?_
    refine ev_icmp_gt (tgt := 767) dL_law_29 rfl (by omega) (by omega) (by omega) (by omega) (fun g1 => ?_) (fun g1 => ?_)
    · refine ev_iconst dL_law_767 ?_
      refine ev_zreturn dL_law_768 rfl ?_ ?_
      · decide
      · rfl
    · omega
  | succ k ih =>
    intro i th s S ty rs z y F e kn h o5 o6 i0 iL hk hW
    have hsL := hs.1
    obtain ⟨L, n, tn, P, K⟩ := s
    obtain ⟨hLO, ht, hS⟩ := hW
    refine ev_iload dL_law_23 rfl ?_
    refine ev_sload_n dL_law_25 rfl ?_
    refine ev_salen hs dL_law_26 ?_
    refine ev_iconst dL_law_27 ?_
    refine ev_isub dL_law_28 ?_
    refine ev_icmp_gt (tgt := 767) dL_law_29 rfl (by omega) (by omega) (by omega) (by omega) (fun g1 => ?_) (fun g1 => ?_)
    · refine ev_iconst dL_law_767 ?_
      refine ev_zreturn dL_law_768 rfl ?_ ?_
      · decide
      · rfl
    · have i1 : i + 4 ≤ (ev_sL g : Int) := by omega
      refine ev_sload_n dL_law_32 rfl ?_
      refine ev_iload dL_law_33 rfl ?_
      refine ev_sald hs dL_law_35 (by omega) (by omega) ?_
      refine ev_bipush dL_law_36 rfl ?_
      refine ev_and31 dL_law_38 (fun w w0 w1 => ?_)
      have hw : w = 0 ∨ w = 1 ∨ w = 2 ∨ w = 3 ∨ w = 4 ∨ w = 5 ∨ w = 6 ∨ w = 7 ∨ w = 8 ∨ w = 9 ∨ w = 10 ∨ w = 11 ∨ w = 12 ∨ w = 13 ∨ w = 14 ∨ w = 15 ∨ w = 16 ∨ 16 < w := by omega
      rcases hw with rfl | rfl | rfl | rfl | rfl | rfl | rfl | rfl | rfl | rfl | rfl | rfl | rfl | rfl | rfl | rfl | rfl | hw
      · refine ev_tableIn (tgt := 120) dL_law_39 (by decide) (by decide) (by decide) (by decide) rfl rfl ?_
        exact law_strip hs ih i0 i1 hk ht.1 ht.2 hS hLO
      · refine ev_tableIn (tgt := 156) dL_law_39 (by decide) (by decide) (by decide) (by decide) rfl rfl ?_
        exact law_crease hs ih i0 i1 hk ht.1 ht.2 hS hLO
      · refine ev_tableIn (tgt := 224) dL_law_39 (by decide) (by decide) (by decide) (by decide) rfl rfl ?_
        exact law_turn hs ih i0 i1 hk ht.1 ht.2 hS hLO
      · refine ev_tableIn (tgt := 237) dL_law_39 (by decide) (by decide) (by decide) (by decide) rfl rfl ?_
        exact law_count hs ih i0 i1 hk ht.1 ht.2 hS hLO
      · refine ev_tableIn (tgt := 262) dL_law_39 (by decide) (by decide) (by decide) (by decide) rfl rfl ?_
        exact law_segment hs ih i0 i1 hk ht.1 ht.2 hS hLO
      · refine ev_tableIn (tgt := 330) dL_law_39 (by decide) (by decide) (by decide) (by decide) rfl rfl ?_
        exact law_whereIs hs ih i0 i1 hk ht.1 ht.2 hS hLO
      · refine ev_tableIn (tgt := 386) dL_law_39 (by decide) (by decide) (by decide) (by decide) rfl rfl ?_
        exact law_width hs ih i0 i1 hk ht.1 ht.2 hS hLO
      · refine ev_tableIn (tgt := 399) dL_law_39 (by decide) (by decide) (by decide) (by decide) rfl rfl ?_
        exact law_thickness hs ih i0 i1 hk ht.1 ht.2 hS hLO
      · refine ev_tableIn (tgt := 412) dL_law_39 (by decide) (by decide) (by decide) (by decide) rfl rfl ?_
        exact law_foldable hs ih i0 i1 hk ht.1 ht.2 hS hLO
      · refine ev_tableIn (tgt := 425) dL_law_39 (by decide) (by decide) (by decide) (by decide) rfl rfl ?_
        exact law_steps hs ih i0 i1 hk ht.1 ht.2 hS hLO
      · refine ev_tableIn (tgt := 438) dL_law_39 (by decide) (by decide) (by decide) (by decide) rfl rfl ?_
        exact law_step hs ih i0 i1 hk ht.1 ht.2 hS hLO
      · refine ev_tableIn (tgt := 506) dL_law_39 (by decide) (by decide) (by decide) (by decide) rfl rfl ?_
        exact law_orders hs ih i0 i1 hk ht.1 ht.2 hS hLO
      · refine ev_tableIn (tgt := 519) dL_law_39 (by decide) (by decide) (by decide) (by decide) rfl rfl ?_
        exact law_above hs ih i0 i1 hk ht.1 ht.2 hS hLO
      · refine ev_tableIn (tgt := 599) dL_law_39 (by decide) (by decide) (by decide) (by decide) rfl rfl ?_
        exact law_layer hs ih i0 i1 hk ht.1 ht.2 hS hLO
      · refine ev_tableIn (tgt := 679) dL_law_39 (by decide) (by decide) (by decide) (by decide) rfl rfl ?_
        exact law_marks hs ih i0 i1 hk ht.1 ht.2 hS hLO
      · refine ev_tableIn (tgt := 692) dL_law_39 (by decide) (by decide) (by decide) (by decide) rfl rfl ?_
        exact law_type hs ih i0 i1 hk ht.1 ht.2 hS hLO
      · refine ev_tableIn (tgt := 748) dL_law_39 (by decide) (by decide) (by decide) (by decide) rfl rfl ?_
        exact law_run hs ih i0 i1 hk ht.1 ht.2 hS hLO
      · refine ev_tableOut (tgt := 761) dL_law_39 (by omega) (by omega) (Or.inr hw) rfl ?_
        refine ev_room (kc' := k + (15 - e)) (ks' := 6 * k + (4194304 - 128 * 2 ^ e)) (by omega) (by omega) ?_
        refine ev_iinc dL_law_761 rfl ?_
        refine ev_goto (tgt := 23) dL_law_764 rfl ?_
        exact ih (i + 4) th (L, n, tn, P, K) S ty rs z y F e kn h o5 o6 (by omega) (by omega) (by omega) ⟨hLO, ht, hS⟩
/-- the whole law: from its first instruction it comes to its end with true -/
theorem law_all (hs : ev_SC g) : ev_E g false mL_law (d + 40) 0 [some (.float u), none, none, none, none, none, none] [] [] 559 4197704 (fun o _ => o = .inl (some (ev_i 1))) := by
  have hsL := hs.1
  refine ev_new (M := mL_law) dL_law_0 nc_L_8 ?_
  refine ev_dup dL_law_3 rfl ?_
  refine ev_callI (b := 0) dL_law_4 ci_L_43 rfl rfl rfl (Nat.le_of_ble_eq_true rfl) (ct_Finit (d := d + 34)) (by decide) (by decide) rfl (fun v h1 q => ?_)
  obtain ⟨qv, ok, B, lo, hi, rfl, gvv⟩ := q
  cases Sum.inl.inj qv
  refine ev_room (kc' := 543) (ks' := 4197489) (by decide) (by decide) ?_
  refine ev_astore_n dL_law_7 (Nat.le_of_ble_eq_true rfl) ?_
  refine ev_new (M := mL_law) dL_law_8 nc_L_44 ?_
  refine ev_hp (h' := rp (fun i => ((oh 1 0 false (fun _ => 0) (fun _ => 0) B lo hi (lc 0) (rq (0, 0, fun _ => 0, fun _ => 0, fun _ => 0, fun _ => 0, fun _ => 0)) (ev_ia 7 (fun _ => 0)) (ev_ia 6 (fun _ => 0)) (ev_ia 6 (fun _ => 0)) (ev_ia 6 (fun _ => 0)) (ev_ia 6 (fun _ => 0)) false 0 14 0 [ev_ia 64 (fun _ => 0), ev_ia 60 (fun _ => 0)])[i]?).getD (lc 0)) [.inr (4, [ev_i 0, ev_i 0, ev_i 0, .null, .null, ev_i 0, .null, ev_i 0, .null, .null, .null, .null, .null, .null, ev_i 0, .null, .null, .null, ev_i 0, .null, .null, ev_i 0])]) rfl ?_
  refine ev_dup dL_law_11 rfl ?_
  refine ev_cI (b := 16) dL_law_12 ci_L_46 (ct_Minit (d := d + 38)) rfl rfl rfl rfl (Nat.le_of_ble_eq_true rfl) (by decide) (by decide) ?_
  refine ev_room (kc' := 528) (ks' := 4197249) (by decide) (by decide) ?_
  refine ev_astore_n dL_law_15 (Nat.le_of_ble_eq_true rfl) ?_
  refine ev_iconst dL_law_16 ?_
  refine ev_nL (n := 1) dL_law_17 rfl (by decide) ?_
  refine ev_astore_n dL_law_19 (Nat.le_of_ble_eq_true rfl) ?_
  refine ev_iconst dL_law_20 ?_
  refine ev_istore dL_law_21 (Nat.le_of_ble_eq_true rfl) ?_
  refine ev_room (kc' := 512 + (15 - 0)) (ks' := 6 * 512 + (4194304 - 128 * 2 ^ 0)) (by decide) (by decide) ?_
  refine law_loop hs 512 0 0 (1, 0, false, fun _ => 0, fun _ => 0) (fun _ => 0) 0 (0, 0, fun _ => 0, fun _ => 0, fun _ => 0, fun _ => 0, fun _ => 0) mz0 my0 (fun _ => 0) 0 false _ none none (by decide) (by omega) (by omega) ⟨?_, ⟨by decide, by decide⟩, fun i i0 i1 => ⟨by show (0 : Int) ≤ 0; decide, by show (0 : Int) ≤ 126; decide⟩⟩
  exact ⟨0, 0, fun _ => 0, [], 0, ev_ia 64 (fun _ => 0), [], ⟨ok, B, lo, hi, rfl, gvv⟩, ⟨rfl, ⟨by decide, by decide⟩, fun i x q => by simp at q⟩, Or.inl rfl, fun q => by cases q⟩
end RUN
