/-! The reference: its constructor -/
section RI2
variable {g : ev_G} {d : Nat} {c : Nat → ev_AC}
theorem ct_Minit : ev_C g mM_init (d + 1) [.ref 16] (rp c [.inr (4, [ev_i 0, ev_i 0, ev_i 0, .null, .null, ev_i 0, .null, ev_i 0, .null, .null, .null, .null, .null, .null, ev_i 0, .null, .null, .null, ev_i 0, .null, .null, ev_i 0])]) 14 218 (ev_V none (MH c 0 1 0 false (fun _ => 0) (fun _ => 0) (fun _ => 0) 0 mz0 my0 [])) := by
  refine ev_ofE (by decide +kernel) rfl (Nat.le_of_ble_eq_true rfl) rfl rfl ?_
  refine ev_aload_n dM_init_0 rfl ?_
  refine ev_obj dM_init_1 wm_M_1 wo_i wo_c (Nat.le_of_ble_eq_true rfl) ?_
  refine ev_aload_n dM_init_4 rfl ?_
  refine ev_iconst dM_init_5 ?_
  refine ev_put dM_init_6 fp_M_7 (fun q => by cases q) rfl (Nat.le_of_ble_eq_true rfl) rfl rfl ?_
  refine ev_hp (h' := rp c (.inr (4, [ev_i 0, ev_i 1, ev_i 0, .null, .null, ev_i 0, .null, ev_i 0, .null, .null, .null, .null, .null, .null, ev_i 0, .null, .null, .null, ev_i 0, .null, .null, ev_i 0]) :: [])) rfl ?_
  refine ev_aload_n dM_init_9 rfl ?_
  refine ev_bipush dM_init_10 rfl ?_
  refine ev_nI (n := 6) dM_init_12 rfl (by decide) ?_
  refine ev_put dM_init_14 fp_M_13 (fun _ => rfl) rfl (Nat.le_of_ble_eq_true rfl) rfl rfl ?_
  refine ev_hp (h' := rp c (.inr (4, [ev_i 0, ev_i 1, ev_i 0, .ref 17, .null, ev_i 0, .null, ev_i 0, .null, .null, .null, .null, .null, .null, ev_i 0, .null, .null, .null, ev_i 0, .null, .null, ev_i 0]) :: [ev_ia 6 (fun _ => 0)])) rfl ?_
  refine ev_aload_n dM_init_17 rfl ?_
  refine ev_bipush dM_init_18 rfl ?_
  refine ev_nI (n := 6) dM_init_20 rfl (by decide) ?_
  refine ev_put dM_init_22 fp_M_17 (fun _ => rfl) rfl (Nat.le_of_ble_eq_true rfl) rfl rfl ?_
  refine ev_hp (h' := rp c (.inr (4, [ev_i 0, ev_i 1, ev_i 0, .ref 17, .ref 18, ev_i 0, .null, ev_i 0, .null, .null, .null, .null, .null, .null, ev_i 0, .null, .null, .null, ev_i 0, .null, .null, ev_i 0]) :: [ev_ia 6 (fun _ => 0), ev_ia 6 (fun _ => 0)])) rfl ?_
  refine ev_aload_n dM_init_25 rfl ?_
  refine ev_bipush dM_init_26 rfl ?_
  refine ev_nI (n := 60) dM_init_28 rfl (by decide) ?_
  refine ev_put dM_init_30 fp_M_20 (fun _ => rfl) rfl (Nat.le_of_ble_eq_true rfl) rfl rfl ?_
  refine ev_hp (h' := rp c (.inr (4, [ev_i 0, ev_i 1, ev_i 0, .ref 17, .ref 18, ev_i 0, .ref 19, ev_i 0, .null, .null, .null, .null, .null, .null, ev_i 0, .null, .null, .null, ev_i 0, .null, .null, ev_i 0]) :: [ev_ia 6 (fun _ => 0), ev_ia 6 (fun _ => 0), ev_ia 60 (fun _ => 0)])) rfl ?_
  refine ev_aload_n dM_init_33 rfl ?_
  refine ev_bipush dM_init_34 rfl ?_
  refine ev_nI (n := 49) dM_init_36 rfl (by decide) ?_
  refine ev_put dM_init_38 fp_M_23 (fun _ => rfl) rfl (Nat.le_of_ble_eq_true rfl) rfl rfl ?_
  refine ev_hp (h' := rp c (.inr (4, [ev_i 0, ev_i 1, ev_i 0, .ref 17, .ref 18, ev_i 0, .ref 19, ev_i 0, .ref 20, .null, .null, .null, .null, .null, ev_i 0, .null, .null, .null, ev_i 0, .null, .null, ev_i 0]) :: [ev_ia 6 (fun _ => 0), ev_ia 6 (fun _ => 0), ev_ia 60 (fun _ => 0), ev_ia 49 (fun _ => 0)])) rfl ?_
  refine ev_aload_n dM_init_41 rfl ?_
  refine ev_bipush dM_init_42 rfl ?_
  refine ev_nI (n := 21) dM_init_44 rfl (by decide) ?_
  refine ev_put dM_init_46 fp_M_26 (fun _ => rfl) rfl (Nat.le_of_ble_eq_true rfl) rfl rfl ?_
  refine ev_hp (h' := rp c (.inr (4, [ev_i 0, ev_i 1, ev_i 0, .ref 17, .ref 18, ev_i 0, .ref 19, ev_i 0, .ref 20, .ref 21, .null, .null, .null, .null, ev_i 0, .null, .null, .null, ev_i 0, .null, .null, ev_i 0]) :: [ev_ia 6 (fun _ => 0), ev_ia 6 (fun _ => 0), ev_ia 60 (fun _ => 0), ev_ia 49 (fun _ => 0), ev_ia 21 (fun _ => 0)])) rfl ?_
  refine ev_aload_n dM_init_49 rfl ?_
  refine ev_bipush dM_init_50 rfl ?_
  refine ev_nI (n := 21) dM_init_52 rfl (by decide) ?_
  refine ev_put dM_init_54 fp_M_29 (fun _ => rfl) rfl (Nat.le_of_ble_eq_true rfl) rfl rfl ?_
  refine ev_hp (h' := rp c (.inr (4, [ev_i 0, ev_i 1, ev_i 0, .ref 17, .ref 18, ev_i 0, .ref 19, ev_i 0, .ref 20, .ref 21, .ref 22, .null, .null, .null, ev_i 0, .null, .null, .null, ev_i 0, .null, .null, ev_i 0]) :: [ev_ia 6 (fun _ => 0), ev_ia 6 (fun _ => 0), ev_ia 60 (fun _ => 0), ev_ia 49 (fun _ => 0), ev_ia 21 (fun _ => 0), ev_ia 21 (fun _ => 0)])) rfl ?_
  refine ev_aload_n dM_init_57 rfl ?_
  refine ev_bipush dM_init_58 rfl ?_
  refine ev_nI (n := 7) dM_init_60 rfl (by decide) ?_
  refine ev_put dM_init_62 fp_M_32 (fun _ => rfl) rfl (Nat.le_of_ble_eq_true rfl) rfl rfl ?_
  refine ev_hp (h' := rp c (.inr (4, [ev_i 0, ev_i 1, ev_i 0, .ref 17, .ref 18, ev_i 0, .ref 19, ev_i 0, .ref 20, .ref 21, .ref 22, .ref 23, .null, .null, ev_i 0, .null, .null, .null, ev_i 0, .null, .null, ev_i 0]) :: [ev_ia 6 (fun _ => 0), ev_ia 6 (fun _ => 0), ev_ia 60 (fun _ => 0), ev_ia 49 (fun _ => 0), ev_ia 21 (fun _ => 0), ev_ia 21 (fun _ => 0), ev_ia 7 (fun _ => 0)])) rfl ?_
  refine ev_aload_n dM_init_65 rfl ?_
  refine ev_bipush dM_init_66 rfl ?_
  refine ev_nI (n := 7) dM_init_68 rfl (by decide) ?_
  refine ev_put dM_init_70 fp_M_35 (fun _ => rfl) rfl (Nat.le_of_ble_eq_true rfl) rfl rfl ?_
  refine ev_hp (h' := rp c (.inr (4, [ev_i 0, ev_i 1, ev_i 0, .ref 17, .ref 18, ev_i 0, .ref 19, ev_i 0, .ref 20, .ref 21, .ref 22, .ref 23, .ref 24, .null, ev_i 0, .null, .null, .null, ev_i 0, .null, .null, ev_i 0]) :: [ev_ia 6 (fun _ => 0), ev_ia 6 (fun _ => 0), ev_ia 60 (fun _ => 0), ev_ia 49 (fun _ => 0), ev_ia 21 (fun _ => 0), ev_ia 21 (fun _ => 0), ev_ia 7 (fun _ => 0), ev_ia 7 (fun _ => 0)])) rfl ?_
  refine ev_aload_n dM_init_73 rfl ?_
  refine ev_bipush dM_init_74 rfl ?_
  refine ev_nI (n := 6) dM_init_76 rfl (by decide) ?_
  refine ev_put dM_init_78 fp_M_38 (fun _ => rfl) rfl (Nat.le_of_ble_eq_true rfl) rfl rfl ?_
  refine ev_hp (h' := rp c (.inr (4, [ev_i 0, ev_i 1, ev_i 0, .ref 17, .ref 18, ev_i 0, .ref 19, ev_i 0, .ref 20, .ref 21, .ref 22, .ref 23, .ref 24, .ref 25, ev_i 0, .null, .null, .null, ev_i 0, .null, .null, ev_i 0]) :: [ev_ia 6 (fun _ => 0), ev_ia 6 (fun _ => 0), ev_ia 60 (fun _ => 0), ev_ia 49 (fun _ => 0), ev_ia 21 (fun _ => 0), ev_ia 21 (fun _ => 0), ev_ia 7 (fun _ => 0), ev_ia 7 (fun _ => 0), ev_ia 6 (fun _ => 0)])) rfl ?_
  refine ev_aload_n dM_init_81 rfl ?_
  refine ev_bipush dM_init_82 rfl ?_
  refine ev_nI (n := 7) dM_init_84 rfl (by decide) ?_
  refine ev_put dM_init_86 fp_M_41 (fun _ => rfl) rfl (Nat.le_of_ble_eq_true rfl) rfl rfl ?_
  refine ev_hp (h' := rp c (.inr (4, [ev_i 0, ev_i 1, ev_i 0, .ref 17, .ref 18, ev_i 0, .ref 19, ev_i 0, .ref 20, .ref 21, .ref 22, .ref 23, .ref 24, .ref 25, ev_i 0, .ref 26, .null, .null, ev_i 0, .null, .null, ev_i 0]) :: [ev_ia 6 (fun _ => 0), ev_ia 6 (fun _ => 0), ev_ia 60 (fun _ => 0), ev_ia 49 (fun _ => 0), ev_ia 21 (fun _ => 0), ev_ia 21 (fun _ => 0), ev_ia 7 (fun _ => 0), ev_ia 7 (fun _ => 0), ev_ia 6 (fun _ => 0), ev_ia 7 (fun _ => 0)])) rfl ?_
  refine ev_aload_n dM_init_89 rfl ?_
  refine ev_bipush dM_init_90 rfl ?_
  refine ev_nI (n := 7) dM_init_92 rfl (by decide) ?_
  refine ev_put dM_init_94 fp_M_44 (fun _ => rfl) rfl (Nat.le_of_ble_eq_true rfl) rfl rfl ?_
  refine ev_hp (h' := rp c (.inr (4, [ev_i 0, ev_i 1, ev_i 0, .ref 17, .ref 18, ev_i 0, .ref 19, ev_i 0, .ref 20, .ref 21, .ref 22, .ref 23, .ref 24, .ref 25, ev_i 0, .ref 26, .ref 27, .null, ev_i 0, .null, .null, ev_i 0]) :: [ev_ia 6 (fun _ => 0), ev_ia 6 (fun _ => 0), ev_ia 60 (fun _ => 0), ev_ia 49 (fun _ => 0), ev_ia 21 (fun _ => 0), ev_ia 21 (fun _ => 0), ev_ia 7 (fun _ => 0), ev_ia 7 (fun _ => 0), ev_ia 6 (fun _ => 0), ev_ia 7 (fun _ => 0), ev_ia 7 (fun _ => 0)])) rfl ?_
  refine ev_aload_n dM_init_97 rfl ?_
  refine ev_bipush dM_init_98 rfl ?_
  refine ev_nI (n := 7) dM_init_100 rfl (by decide) ?_
  refine ev_put dM_init_102 fp_M_47 (fun _ => rfl) rfl (Nat.le_of_ble_eq_true rfl) rfl rfl ?_
  refine ev_hp (h' := rp c (.inr (4, [ev_i 0, ev_i 1, ev_i 0, .ref 17, .ref 18, ev_i 0, .ref 19, ev_i 0, .ref 20, .ref 21, .ref 22, .ref 23, .ref 24, .ref 25, ev_i 0, .ref 26, .ref 27, .ref 28, ev_i 0, .null, .null, ev_i 0]) :: [ev_ia 6 (fun _ => 0), ev_ia 6 (fun _ => 0), ev_ia 60 (fun _ => 0), ev_ia 49 (fun _ => 0), ev_ia 21 (fun _ => 0), ev_ia 21 (fun _ => 0), ev_ia 7 (fun _ => 0), ev_ia 7 (fun _ => 0), ev_ia 6 (fun _ => 0), ev_ia 7 (fun _ => 0), ev_ia 7 (fun _ => 0), ev_ia 7 (fun _ => 0)])) rfl ?_
  refine ev_aload_n dM_init_105 rfl ?_
  refine ev_bipush dM_init_106 rfl ?_
  refine ev_nI (n := 7) dM_init_108 rfl (by decide) ?_
  refine ev_put dM_init_110 fp_M_50 (fun _ => rfl) rfl (Nat.le_of_ble_eq_true rfl) rfl rfl ?_
  refine ev_hp (h' := rp c (.inr (4, [ev_i 0, ev_i 1, ev_i 0, .ref 17, .ref 18, ev_i 0, .ref 19, ev_i 0, .ref 20, .ref 21, .ref 22, .ref 23, .ref 24, .ref 25, ev_i 0, .ref 26, .ref 27, .ref 28, ev_i 0, .ref 29, .null, ev_i 0]) :: [ev_ia 6 (fun _ => 0), ev_ia 6 (fun _ => 0), ev_ia 60 (fun _ => 0), ev_ia 49 (fun _ => 0), ev_ia 21 (fun _ => 0), ev_ia 21 (fun _ => 0), ev_ia 7 (fun _ => 0), ev_ia 7 (fun _ => 0), ev_ia 6 (fun _ => 0), ev_ia 7 (fun _ => 0), ev_ia 7 (fun _ => 0), ev_ia 7 (fun _ => 0), ev_ia 7 (fun _ => 0)])) rfl ?_
  refine ev_aload_n dM_init_113 rfl ?_
  refine ev_bipush dM_init_114 rfl ?_
  refine ev_nI (n := 7) dM_init_116 rfl (by decide) ?_
  refine ev_put dM_init_118 fp_M_53 (fun _ => rfl) rfl (Nat.le_of_ble_eq_true rfl) rfl rfl ?_
  refine ev_hp (h' := rp c (.inr (4, [ev_i 0, ev_i 1, ev_i 0, .ref 17, .ref 18, ev_i 0, .ref 19, ev_i 0, .ref 20, .ref 21, .ref 22, .ref 23, .ref 24, .ref 25, ev_i 0, .ref 26, .ref 27, .ref 28, ev_i 0, .ref 29, .ref 30, ev_i 0]) :: [ev_ia 6 (fun _ => 0), ev_ia 6 (fun _ => 0), ev_ia 60 (fun _ => 0), ev_ia 49 (fun _ => 0), ev_ia 21 (fun _ => 0), ev_ia 21 (fun _ => 0), ev_ia 7 (fun _ => 0), ev_ia 7 (fun _ => 0), ev_ia 6 (fun _ => 0), ev_ia 7 (fun _ => 0), ev_ia 7 (fun _ => 0), ev_ia 7 (fun _ => 0), ev_ia 7 (fun _ => 0), ev_ia 7 (fun _ => 0)])) rfl ?_
  refine ev_return dM_init_121 rfl ?_
  exact ⟨rfl, rfl⟩
end RI2
