theorem dF_init_0 : decode cF_init 0 = .ok ((.aload_n 0), 1) := by decide +kernel
theorem dF_init_1 : decode cF_init 1 = .ok ((.invokespecial 3), 3) := by decide +kernel
theorem dF_init_4 : decode cF_init 4 = .ok ((.aload_n 0), 1) := by decide +kernel
theorem dF_init_5 : decode cF_init 5 = .ok ((.new 9), 3) := by decide +kernel
theorem dF_init_8 : decode cF_init 8 = .ok (.dup, 1) := by decide +kernel
theorem dF_init_9 : decode cF_init 9 = .ok ((.invokespecial 11), 3) := by decide +kernel
theorem dF_init_12 : decode cF_init 12 = .ok ((.putfield 12), 3) := by decide +kernel
theorem dF_init_15 : decode cF_init 15 = .ok ((.aload_n 0), 1) := by decide +kernel
theorem dF_init_16 : decode cF_init 16 = .ok ((.new 16), 3) := by decide +kernel
theorem dF_init_19 : decode cF_init 19 = .ok (.dup, 1) := by decide +kernel
theorem dF_init_20 : decode cF_init 20 = .ok ((.aload_n 0), 1) := by decide +kernel
theorem dF_init_21 : decode cF_init 21 = .ok ((.getfield 12), 3) := by decide +kernel
theorem dF_init_24 : decode cF_init 24 = .ok ((.invokespecial 18), 3) := by decide +kernel
theorem dF_init_27 : decode cF_init 27 = .ok ((.putfield 21), 3) := by decide +kernel
theorem dF_init_30 : decode cF_init 30 = .ok ((.aload_n 0), 1) := by decide +kernel
theorem dF_init_31 : decode cF_init 31 = .ok ((.new 25), 3) := by decide +kernel
theorem dF_init_34 : decode cF_init 34 = .ok (.dup, 1) := by decide +kernel
theorem dF_init_35 : decode cF_init 35 = .ok ((.aload_n 0), 1) := by decide +kernel
theorem dF_init_36 : decode cF_init 36 = .ok ((.getfield 12), 3) := by decide +kernel
theorem dF_init_39 : decode cF_init 39 = .ok ((.invokespecial 27), 3) := by decide +kernel
theorem dF_init_42 : decode cF_init 42 = .ok ((.putfield 28), 3) := by decide +kernel
theorem dF_init_45 : decode cF_init 45 = .ok ((.aload_n 0), 1) := by decide +kernel
theorem dF_init_46 : decode cF_init 46 = .ok ((.bipush 60), 2) := by decide +kernel
theorem dF_init_48 : decode cF_init 48 = .ok ((.newarray .int), 2) := by decide +kernel
theorem dF_init_50 : decode cF_init 50 = .ok ((.putfield 32), 3) := by decide +kernel
theorem dF_init_53 : decode cF_init 53 = .ok ((.aload_n 0), 1) := by decide +kernel
theorem dF_init_54 : decode cF_init 54 = .ok ((.iconst 0), 1) := by decide +kernel
theorem dF_init_55 : decode cF_init 55 = .ok ((.putfield 36), 3) := by decide +kernel
theorem dF_init_58 : decode cF_init 58 = .ok (.return_, 1) := by decide +kernel
theorem dF_turn_0 : decode cF_turn 0 = .ok ((.aload_n 0), 1) := by decide +kernel
theorem dF_turn_1 : decode cF_turn 1 = .ok ((.getfield 12), 3) := by decide +kernel
theorem dF_turn_4 : decode cF_turn 4 = .ok ((.invokevirtual 65), 3) := by decide +kernel
theorem dF_turn_7 : decode cF_turn 7 = .ok ((.aload_n 0), 1) := by decide +kernel
theorem dF_turn_8 : decode cF_turn 8 = .ok ((.getfield 28), 3) := by decide +kernel
theorem dF_turn_11 : decode cF_turn 11 = .ok ((.invokevirtual 68), 3) := by decide +kernel
theorem dF_turn_14 : decode cF_turn 14 = .ok ((.aload_n 0), 1) := by decide +kernel
theorem dF_turn_15 : decode cF_turn 15 = .ok ((.getfield 12), 3) := by decide +kernel
theorem dF_turn_18 : decode cF_turn 18 = .ok ((.getfield 71), 3) := by decide +kernel
theorem dF_turn_21 : decode cF_turn 21 = .ok (.ireturn, 1) := by decide +kernel
theorem dF_count_0 : decode cF_count 0 = .ok ((.iload_n 1), 1) := by decide +kernel
theorem dF_count_1 : decode cF_count 1 = .ok ((.tableswitch 60 0 3 #[31, 39, 47, 55]), 31) := by decide +kernel
theorem dF_count_32 : decode cF_count 32 = .ok ((.aload_n 0), 1) := by decide +kernel
theorem dF_count_33 : decode cF_count 33 = .ok ((.getfield 12), 3) := by decide +kernel
theorem dF_count_36 : decode cF_count 36 = .ok ((.getfield 75), 3) := by decide +kernel
theorem dF_count_39 : decode cF_count 39 = .ok (.ireturn, 1) := by decide +kernel
theorem dF_count_40 : decode cF_count 40 = .ok ((.aload_n 0), 1) := by decide +kernel
theorem dF_count_41 : decode cF_count 41 = .ok ((.getfield 12), 3) := by decide +kernel
theorem dF_count_44 : decode cF_count 44 = .ok ((.getfield 62), 3) := by decide +kernel
theorem dF_count_47 : decode cF_count 47 = .ok (.ireturn, 1) := by decide +kernel
theorem dF_count_48 : decode cF_count 48 = .ok ((.aload_n 0), 1) := by decide +kernel
theorem dF_count_49 : decode cF_count 49 = .ok ((.getfield 12), 3) := by decide +kernel
theorem dF_count_52 : decode cF_count 52 = .ok ((.invokevirtual 78), 3) := by decide +kernel
theorem dF_count_55 : decode cF_count 55 = .ok (.ireturn, 1) := by decide +kernel
theorem dF_count_56 : decode cF_count 56 = .ok ((.aload_n 0), 1) := by decide +kernel
theorem dF_count_57 : decode cF_count 57 = .ok ((.getfield 36), 3) := by decide +kernel
theorem dF_count_60 : decode cF_count 60 = .ok (.ireturn, 1) := by decide +kernel
theorem dF_count_61 : decode cF_count 61 = .ok ((.iconst (-1)), 1) := by decide +kernel
theorem dF_count_62 : decode cF_count 62 = .ok (.ireturn, 1) := by decide +kernel
theorem dF_width_0 : decode cF_width 0 = .ok ((.aload_n 0), 1) := by decide +kernel
theorem dF_width_1 : decode cF_width 1 = .ok ((.getfield 12), 3) := by decide +kernel
theorem dF_width_4 : decode cF_width 4 = .ok ((.invokevirtual 116), 3) := by decide +kernel
theorem dF_width_7 : decode cF_width 7 = .ok (.ireturn, 1) := by decide +kernel
theorem dF_thickness_0 : decode cF_thickness 0 = .ok ((.aload_n 0), 1) := by decide +kernel
theorem dF_thickness_1 : decode cF_thickness 1 = .ok ((.getfield 12), 3) := by decide +kernel
theorem dF_thickness_4 : decode cF_thickness 4 = .ok ((.invokevirtual 119), 3) := by decide +kernel
theorem dF_thickness_7 : decode cF_thickness 7 = .ok (.ireturn, 1) := by decide +kernel
theorem dF_foldable_0 : decode cF_foldable 0 = .ok ((.aload_n 0), 1) := by decide +kernel
theorem dF_foldable_1 : decode cF_foldable 1 = .ok ((.getfield 12), 3) := by decide +kernel
theorem dF_foldable_4 : decode cF_foldable 4 = .ok ((.invokevirtual 78), 3) := by decide +kernel
theorem dF_foldable_7 : decode cF_foldable 7 = .ok ((.ifCond .le 5), 3) := by decide +kernel
theorem dF_foldable_10 : decode cF_foldable 10 = .ok ((.iconst (-1)), 1) := by decide +kernel
theorem dF_foldable_11 : decode cF_foldable 11 = .ok (.ireturn, 1) := by decide +kernel
theorem dF_foldable_12 : decode cF_foldable 12 = .ok ((.aload_n 0), 1) := by decide +kernel
theorem dF_foldable_13 : decode cF_foldable 13 = .ok ((.getfield 21), 3) := by decide +kernel
theorem dF_foldable_16 : decode cF_foldable 16 = .ok ((.invokevirtual 122), 3) := by decide +kernel
theorem dF_foldable_19 : decode cF_foldable 19 = .ok ((.aload_n 0), 1) := by decide +kernel
theorem dF_foldable_20 : decode cF_foldable 20 = .ok ((.getfield 21), 3) := by decide +kernel
theorem dF_foldable_23 : decode cF_foldable 23 = .ok ((.getfield 125), 3) := by decide +kernel
theorem dF_foldable_26 : decode cF_foldable 26 = .ok ((.iconst 1), 1) := by decide +kernel
theorem dF_foldable_27 : decode cF_foldable 27 = .ok ((.if_icmp .ne 7), 3) := by decide +kernel
theorem dF_foldable_30 : decode cF_foldable 30 = .ok ((.iconst 1), 1) := by decide +kernel
theorem dF_foldable_31 : decode cF_foldable 31 = .ok ((.goto 4), 3) := by decide +kernel
theorem dF_foldable_34 : decode cF_foldable 34 = .ok ((.iconst 0), 1) := by decide +kernel
theorem dF_foldable_35 : decode cF_foldable 35 = .ok (.ireturn, 1) := by decide +kernel
theorem dF_steps_0 : decode cF_steps 0 = .ok ((.aload_n 0), 1) := by decide +kernel
theorem dF_steps_1 : decode cF_steps 1 = .ok ((.getfield 12), 3) := by decide +kernel
theorem dF_steps_4 : decode cF_steps 4 = .ok ((.invokevirtual 78), 3) := by decide +kernel
theorem dF_steps_7 : decode cF_steps 7 = .ok ((.ifCond .le 5), 3) := by decide +kernel
theorem dF_steps_10 : decode cF_steps 10 = .ok ((.iconst (-1)), 1) := by decide +kernel
theorem dF_steps_11 : decode cF_steps 11 = .ok (.ireturn, 1) := by decide +kernel
theorem dF_steps_12 : decode cF_steps 12 = .ok ((.aload_n 0), 1) := by decide +kernel
theorem dF_steps_13 : decode cF_steps 13 = .ok ((.getfield 21), 3) := by decide +kernel
theorem dF_steps_16 : decode cF_steps 16 = .ok ((.invokevirtual 122), 3) := by decide +kernel
theorem dF_steps_19 : decode cF_steps 19 = .ok ((.aload_n 0), 1) := by decide +kernel
theorem dF_steps_20 : decode cF_steps 20 = .ok ((.getfield 21), 3) := by decide +kernel
theorem dF_steps_23 : decode cF_steps 23 = .ok ((.getfield 128), 3) := by decide +kernel
theorem dF_steps_26 : decode cF_steps 26 = .ok (.ireturn, 1) := by decide +kernel
theorem dF_orders_0 : decode cF_orders 0 = .ok ((.aload_n 0), 1) := by decide +kernel
theorem dF_orders_1 : decode cF_orders 1 = .ok ((.getfield 28), 3) := by decide +kernel
theorem dF_orders_4 : decode cF_orders 4 = .ok ((.invokevirtual 144), 3) := by decide +kernel
theorem dF_orders_7 : decode cF_orders 7 = .ok ((.aload_n 0), 1) := by decide +kernel
theorem dF_orders_8 : decode cF_orders 8 = .ok ((.getfield 28), 3) := by decide +kernel
theorem dF_orders_11 : decode cF_orders 11 = .ok ((.getfield 147), 3) := by decide +kernel
theorem dF_orders_14 : decode cF_orders 14 = .ok (.ireturn, 1) := by decide +kernel
theorem dF_marks_0 : decode cF_marks 0 = .ok ((.aload_n 0), 1) := by decide +kernel
theorem dF_marks_1 : decode cF_marks 1 = .ok ((.getfield 28), 3) := by decide +kernel
theorem dF_marks_4 : decode cF_marks 4 = .ok ((.invokevirtual 144), 3) := by decide +kernel
theorem dF_marks_7 : decode cF_marks 7 = .ok ((.aload_n 0), 1) := by decide +kernel
theorem dF_marks_8 : decode cF_marks 8 = .ok ((.getfield 28), 3) := by decide +kernel
theorem dF_marks_11 : decode cF_marks 11 = .ok ((.getfield 169), 3) := by decide +kernel
theorem dF_marks_14 : decode cF_marks 14 = .ok ((.invokestatic 173), 3) := by decide +kernel
theorem dF_marks_17 : decode cF_marks 17 = .ok (.ireturn, 1) := by decide +kernel
theorem dF_run_0 : decode cF_run 0 = .ok ((.aload_n 0), 1) := by decide +kernel
theorem dF_run_1 : decode cF_run 1 = .ok ((.getfield 36), 3) := by decide +kernel
theorem dF_run_4 : decode cF_run 4 = .ok ((.istore_n 1), 1) := by decide +kernel
theorem dF_run_5 : decode cF_run 5 = .ok ((.aload_n 0), 1) := by decide +kernel
theorem dF_run_6 : decode cF_run 6 = .ok ((.iconst 0), 1) := by decide +kernel
theorem dF_run_7 : decode cF_run 7 = .ok ((.putfield 36), 3) := by decide +kernel
theorem dF_run_10 : decode cF_run 10 = .ok ((.iconst 0), 1) := by decide +kernel
theorem dF_run_11 : decode cF_run 11 = .ok ((.istore_n 2), 1) := by decide +kernel
theorem dF_run_12 : decode cF_run 12 = .ok ((.iconst 0), 1) := by decide +kernel
theorem dF_run_13 : decode cF_run 13 = .ok ((.istore_n 3), 1) := by decide +kernel
theorem dF_run_14 : decode cF_run 14 = .ok ((.iload_n 3), 1) := by decide +kernel
theorem dF_run_15 : decode cF_run 15 = .ok ((.iload_n 1), 1) := by decide +kernel
theorem dF_run_16 : decode cF_run 16 = .ok ((.if_icmp .ge 81), 3) := by decide +kernel
theorem dF_run_19 : decode cF_run 19 = .ok ((.aload_n 0), 1) := by decide +kernel
theorem dF_run_20 : decode cF_run 20 = .ok ((.getfield 32), 3) := by decide +kernel
theorem dF_run_23 : decode cF_run 23 = .ok ((.iload_n 3), 1) := by decide +kernel
theorem dF_run_24 : decode cF_run 24 = .ok (.iaload, 1) := by decide +kernel
theorem dF_run_25 : decode cF_run 25 = .ok ((.bipush 32), 2) := by decide +kernel
theorem dF_run_27 : decode cF_run 27 = .ok ((.if_icmp .ne 9), 3) := by decide +kernel
theorem dF_run_30 : decode cF_run 30 = .ok ((.iinc 3 1), 3) := by decide +kernel
theorem dF_run_33 : decode cF_run 33 = .ok ((.goto (-19)), 3) := by decide +kernel
theorem dF_run_36 : decode cF_run 36 = .ok ((.aload_n 0), 1) := by decide +kernel
theorem dF_run_37 : decode cF_run 37 = .ok ((.getfield 32), 3) := by decide +kernel
theorem dF_run_40 : decode cF_run 40 = .ok ((.iload_n 3), 1) := by decide +kernel
theorem dF_run_41 : decode cF_run 41 = .ok (.iaload, 1) := by decide +kernel
theorem dF_run_42 : decode cF_run 42 = .ok ((.invokestatic 183), 3) := by decide +kernel
theorem dF_run_45 : decode cF_run 45 = .ok ((.ifCond .eq 14), 3) := by decide +kernel
theorem dF_run_48 : decode cF_run 48 = .ok ((.aload_n 0), 1) := by decide +kernel
theorem dF_run_49 : decode cF_run 49 = .ok ((.iload_n 3), 1) := by decide +kernel
theorem dF_run_50 : decode cF_run 50 = .ok ((.iconst 1), 1) := by decide +kernel
theorem dF_run_51 : decode cF_run 51 = .ok (.iadd, 1) := by decide +kernel
theorem dF_run_52 : decode cF_run 52 = .ok ((.iload_n 1), 1) := by decide +kernel
theorem dF_run_53 : decode cF_run 53 = .ok ((.invokevirtual 186), 3) := by decide +kernel
theorem dF_run_56 : decode cF_run 56 = .ok ((.goto 4), 3) := by decide +kernel
theorem dF_run_59 : decode cF_run 59 = .ok ((.iconst 0), 1) := by decide +kernel
theorem dF_run_60 : decode cF_run 60 = .ok ((.istore 4), 2) := by decide +kernel
theorem dF_run_62 : decode cF_run 62 = .ok ((.aload_n 0), 1) := by decide +kernel
theorem dF_run_63 : decode cF_run 63 = .ok ((.aload_n 0), 1) := by decide +kernel
theorem dF_run_64 : decode cF_run 64 = .ok ((.getfield 32), 3) := by decide +kernel
theorem dF_run_67 : decode cF_run 67 = .ok ((.iload_n 3), 1) := by decide +kernel
theorem dF_run_68 : decode cF_run 68 = .ok (.iaload, 1) := by decide +kernel
theorem dF_run_69 : decode cF_run 69 = .ok ((.iload_n 3), 1) := by decide +kernel
theorem dF_run_70 : decode cF_run 70 = .ok ((.iconst 1), 1) := by decide +kernel
theorem dF_run_71 : decode cF_run 71 = .ok (.iadd, 1) := by decide +kernel
theorem dF_run_72 : decode cF_run 72 = .ok ((.iload 4), 2) := by decide +kernel
theorem dF_run_74 : decode cF_run 74 = .ok ((.invokevirtual 189), 3) := by decide +kernel
theorem dF_run_77 : decode cF_run 77 = .ok ((.ifCond .eq 7), 3) := by decide +kernel
theorem dF_run_80 : decode cF_run 80 = .ok ((.iconst (-1)), 1) := by decide +kernel
theorem dF_run_81 : decode cF_run 81 = .ok ((.iload_n 3), 1) := by decide +kernel
theorem dF_run_82 : decode cF_run 82 = .ok (.isub, 1) := by decide +kernel
theorem dF_run_83 : decode cF_run 83 = .ok (.ireturn, 1) := by decide +kernel
theorem dF_run_84 : decode cF_run 84 = .ok ((.iinc 2 1), 3) := by decide +kernel
theorem dF_run_87 : decode cF_run 87 = .ok ((.iload_n 3), 1) := by decide +kernel
theorem dF_run_88 : decode cF_run 88 = .ok ((.iconst 1), 1) := by decide +kernel
theorem dF_run_89 : decode cF_run 89 = .ok ((.iload 4), 2) := by decide +kernel
theorem dF_run_91 : decode cF_run 91 = .ok (.iadd, 1) := by decide +kernel
theorem dF_run_92 : decode cF_run 92 = .ok (.iadd, 1) := by decide +kernel
theorem dF_run_93 : decode cF_run 93 = .ok ((.istore_n 3), 1) := by decide +kernel
theorem dF_run_94 : decode cF_run 94 = .ok ((.goto (-80)), 3) := by decide +kernel
theorem dF_run_97 : decode cF_run 97 = .ok ((.iload_n 2), 1) := by decide +kernel
theorem dF_run_98 : decode cF_run 98 = .ok (.ireturn, 1) := by decide +kernel
theorem dF_takesNumber_0 : decode cF_takesNumber 0 = .ok ((.iload_n 0), 1) := by decide +kernel
theorem dF_takesNumber_1 : decode cF_takesNumber 1 = .ok ((.bipush 115), 2) := by decide +kernel
theorem dF_takesNumber_3 : decode cF_takesNumber 3 = .ok ((.if_icmp .eq 11), 3) := by decide +kernel
theorem dF_takesNumber_6 : decode cF_takesNumber 6 = .ok ((.iload_n 0), 1) := by decide +kernel
theorem dF_takesNumber_7 : decode cF_takesNumber 7 = .ok ((.invokestatic 192), 3) := by decide +kernel
theorem dF_takesNumber_10 : decode cF_takesNumber 10 = .ok ((.iconst (-1)), 1) := by decide +kernel
theorem dF_takesNumber_11 : decode cF_takesNumber 11 = .ok ((.if_icmp .eq 7), 3) := by decide +kernel
theorem dF_takesNumber_14 : decode cF_takesNumber 14 = .ok ((.iconst 1), 1) := by decide +kernel
theorem dF_takesNumber_15 : decode cF_takesNumber 15 = .ok ((.goto 4), 3) := by decide +kernel
theorem dF_takesNumber_18 : decode cF_takesNumber 18 = .ok ((.iconst 0), 1) := by decide +kernel
theorem dF_takesNumber_19 : decode cF_takesNumber 19 = .ok (.ireturn, 1) := by decide +kernel
theorem dF_markOf_0 : decode cF_markOf 0 = .ok ((.iload_n 0), 1) := by decide +kernel
theorem dF_markOf_1 : decode cF_markOf 1 = .ok ((.lookupswitch 51 #[(102, 43), (109, 45), (118, 47), (120, 49)]), 43) := by decide +kernel
theorem dF_markOf_44 : decode cF_markOf 44 = .ok ((.iconst 0), 1) := by decide +kernel
theorem dF_markOf_45 : decode cF_markOf 45 = .ok (.ireturn, 1) := by decide +kernel
theorem dF_markOf_46 : decode cF_markOf 46 = .ok ((.iconst 1), 1) := by decide +kernel
theorem dF_markOf_47 : decode cF_markOf 47 = .ok (.ireturn, 1) := by decide +kernel
theorem dF_markOf_48 : decode cF_markOf 48 = .ok ((.iconst 2), 1) := by decide +kernel
theorem dF_markOf_49 : decode cF_markOf 49 = .ok (.ireturn, 1) := by decide +kernel
theorem dF_markOf_50 : decode cF_markOf 50 = .ok ((.iconst 3), 1) := by decide +kernel
theorem dF_markOf_51 : decode cF_markOf 51 = .ok (.ireturn, 1) := by decide +kernel
theorem dF_markOf_52 : decode cF_markOf 52 = .ok ((.iconst (-1)), 1) := by decide +kernel
theorem dF_markOf_53 : decode cF_markOf 53 = .ok (.ireturn, 1) := by decide +kernel
theorem dF_digitsFrom_0 : decode cF_digitsFrom 0 = .ok ((.iconst 0), 1) := by decide +kernel
theorem dF_digitsFrom_1 : decode cF_digitsFrom 1 = .ok ((.istore_n 3), 1) := by decide +kernel
theorem dF_digitsFrom_2 : decode cF_digitsFrom 2 = .ok ((.iload_n 3), 1) := by decide +kernel
theorem dF_digitsFrom_3 : decode cF_digitsFrom 3 = .ok ((.iconst 4), 1) := by decide +kernel
theorem dF_digitsFrom_4 : decode cF_digitsFrom 4 = .ok ((.if_icmp .ge 30), 3) := by decide +kernel
theorem dF_digitsFrom_7 : decode cF_digitsFrom 7 = .ok ((.iload_n 1), 1) := by decide +kernel
theorem dF_digitsFrom_8 : decode cF_digitsFrom 8 = .ok ((.iload_n 3), 1) := by decide +kernel
theorem dF_digitsFrom_9 : decode cF_digitsFrom 9 = .ok (.iadd, 1) := by decide +kernel
theorem dF_digitsFrom_10 : decode cF_digitsFrom 10 = .ok ((.iload_n 2), 1) := by decide +kernel
theorem dF_digitsFrom_11 : decode cF_digitsFrom 11 = .ok ((.if_icmp .ge 23), 3) := by decide +kernel
theorem dF_digitsFrom_14 : decode cF_digitsFrom 14 = .ok ((.aload_n 0), 1) := by decide +kernel
theorem dF_digitsFrom_15 : decode cF_digitsFrom 15 = .ok ((.getfield 32), 3) := by decide +kernel
theorem dF_digitsFrom_18 : decode cF_digitsFrom 18 = .ok ((.iload_n 1), 1) := by decide +kernel
theorem dF_digitsFrom_19 : decode cF_digitsFrom 19 = .ok ((.iload_n 3), 1) := by decide +kernel
theorem dF_digitsFrom_20 : decode cF_digitsFrom 20 = .ok (.iadd, 1) := by decide +kernel
theorem dF_digitsFrom_21 : decode cF_digitsFrom 21 = .ok (.iaload, 1) := by decide +kernel
theorem dF_digitsFrom_22 : decode cF_digitsFrom 22 = .ok ((.invokestatic 195), 3) := by decide +kernel
theorem dF_digitsFrom_25 : decode cF_digitsFrom 25 = .ok ((.ifCond .eq 9), 3) := by decide +kernel
theorem dF_digitsFrom_28 : decode cF_digitsFrom 28 = .ok ((.iinc 3 1), 3) := by decide +kernel
theorem dF_digitsFrom_31 : decode cF_digitsFrom 31 = .ok ((.goto (-29)), 3) := by decide +kernel
theorem dF_digitsFrom_34 : decode cF_digitsFrom 34 = .ok ((.iload_n 3), 1) := by decide +kernel
theorem dF_digitsFrom_35 : decode cF_digitsFrom 35 = .ok (.ireturn, 1) := by decide +kernel
theorem dF_isDigit_0 : decode cF_isDigit 0 = .ok ((.iload_n 0), 1) := by decide +kernel
theorem dF_isDigit_1 : decode cF_isDigit 1 = .ok ((.bipush 48), 2) := by decide +kernel
theorem dF_isDigit_3 : decode cF_isDigit 3 = .ok ((.if_icmp .lt 13), 3) := by decide +kernel
theorem dF_isDigit_6 : decode cF_isDigit 6 = .ok ((.iload_n 0), 1) := by decide +kernel
theorem dF_isDigit_7 : decode cF_isDigit 7 = .ok ((.bipush 57), 2) := by decide +kernel
theorem dF_isDigit_9 : decode cF_isDigit 9 = .ok ((.if_icmp .gt 7), 3) := by decide +kernel
theorem dF_isDigit_12 : decode cF_isDigit 12 = .ok ((.iconst 1), 1) := by decide +kernel
theorem dF_isDigit_13 : decode cF_isDigit 13 = .ok ((.goto 4), 3) := by decide +kernel
theorem dF_isDigit_16 : decode cF_isDigit 16 = .ok ((.iconst 0), 1) := by decide +kernel
theorem dF_isDigit_17 : decode cF_isDigit 17 = .ok (.ireturn, 1) := by decide +kernel
theorem dF_operate_0 : decode cF_operate 0 = .ok ((.iload_n 1), 1) := by decide +kernel
theorem dF_operate_1 : decode cF_operate 1 = .ok ((.bipush 116), 2) := by decide +kernel
theorem dF_operate_3 : decode cF_operate 3 = .ok ((.if_icmp .ne 10), 3) := by decide +kernel
theorem dF_operate_6 : decode cF_operate 6 = .ok ((.aload_n 0), 1) := by decide +kernel
theorem dF_operate_7 : decode cF_operate 7 = .ok ((.invokevirtual 198), 3) := by decide +kernel
theorem dF_operate_10 : decode cF_operate 10 = .ok (.pop, 1) := by decide +kernel
theorem dF_operate_11 : decode cF_operate 11 = .ok ((.iconst 0), 1) := by decide +kernel
theorem dF_operate_12 : decode cF_operate 12 = .ok (.ireturn, 1) := by decide +kernel
theorem dF_operate_13 : decode cF_operate 13 = .ok ((.iload_n 3), 1) := by decide +kernel
theorem dF_operate_14 : decode cF_operate 14 = .ok ((.ifCond .ne 5), 3) := by decide +kernel
theorem dF_operate_17 : decode cF_operate 17 = .ok ((.iconst 1), 1) := by decide +kernel
theorem dF_operate_18 : decode cF_operate 18 = .ok (.ireturn, 1) := by decide +kernel
theorem dF_operate_19 : decode cF_operate 19 = .ok ((.aload_n 0), 1) := by decide +kernel
theorem dF_operate_20 : decode cF_operate 20 = .ok ((.iload_n 2), 1) := by decide +kernel
theorem dF_operate_21 : decode cF_operate 21 = .ok ((.iload_n 3), 1) := by decide +kernel
theorem dF_operate_22 : decode cF_operate 22 = .ok ((.invokevirtual 202), 3) := by decide +kernel
theorem dF_operate_25 : decode cF_operate 25 = .ok ((.istore 4), 2) := by decide +kernel
theorem dF_operate_27 : decode cF_operate 27 = .ok ((.iload_n 1), 1) := by decide +kernel
theorem dF_operate_28 : decode cF_operate 28 = .ok ((.bipush 115), 2) := by decide +kernel
theorem dF_operate_30 : decode cF_operate 30 = .ok ((.if_icmp .ne 12), 3) := by decide +kernel
theorem dF_operate_33 : decode cF_operate 33 = .ok ((.aload_n 0), 1) := by decide +kernel
theorem dF_operate_34 : decode cF_operate 34 = .ok ((.iload 4), 2) := by decide +kernel
theorem dF_operate_36 : decode cF_operate 36 = .ok ((.invokevirtual 40), 3) := by decide +kernel
theorem dF_operate_39 : decode cF_operate 39 = .ok ((.goto 13), 3) := by decide +kernel
theorem dF_operate_42 : decode cF_operate 42 = .ok ((.aload_n 0), 1) := by decide +kernel
theorem dF_operate_43 : decode cF_operate 43 = .ok ((.iload 4), 2) := by decide +kernel
theorem dF_operate_45 : decode cF_operate 45 = .ok ((.iload_n 1), 1) := by decide +kernel
theorem dF_operate_46 : decode cF_operate 46 = .ok ((.invokestatic 192), 3) := by decide +kernel
theorem dF_operate_49 : decode cF_operate 49 = .ok ((.invokevirtual 51), 3) := by decide +kernel
theorem dF_operate_52 : decode cF_operate 52 = .ok (.ireturn, 1) := by decide +kernel
theorem dF_numberAt_0 : decode cF_numberAt 0 = .ok ((.iconst 0), 1) := by decide +kernel
theorem dF_numberAt_1 : decode cF_numberAt 1 = .ok ((.istore_n 3), 1) := by decide +kernel
theorem dF_numberAt_2 : decode cF_numberAt 2 = .ok ((.iload_n 1), 1) := by decide +kernel
theorem dF_numberAt_3 : decode cF_numberAt 3 = .ok ((.istore 4), 2) := by decide +kernel
theorem dF_numberAt_5 : decode cF_numberAt 5 = .ok ((.iload 4), 2) := by decide +kernel
theorem dF_numberAt_7 : decode cF_numberAt 7 = .ok ((.iload_n 1), 1) := by decide +kernel
theorem dF_numberAt_8 : decode cF_numberAt 8 = .ok ((.iload_n 2), 1) := by decide +kernel
theorem dF_numberAt_9 : decode cF_numberAt 9 = .ok (.iadd, 1) := by decide +kernel
theorem dF_numberAt_10 : decode cF_numberAt 10 = .ok ((.if_icmp .ge 25), 3) := by decide +kernel
theorem dF_numberAt_13 : decode cF_numberAt 13 = .ok ((.iload_n 3), 1) := by decide +kernel
theorem dF_numberAt_14 : decode cF_numberAt 14 = .ok ((.bipush 10), 2) := by decide +kernel
theorem dF_numberAt_16 : decode cF_numberAt 16 = .ok (.imul, 1) := by decide +kernel
theorem dF_numberAt_17 : decode cF_numberAt 17 = .ok ((.aload_n 0), 1) := by decide +kernel
theorem dF_numberAt_18 : decode cF_numberAt 18 = .ok ((.getfield 32), 3) := by decide +kernel
theorem dF_numberAt_21 : decode cF_numberAt 21 = .ok ((.iload 4), 2) := by decide +kernel
theorem dF_numberAt_23 : decode cF_numberAt 23 = .ok (.iaload, 1) := by decide +kernel
theorem dF_numberAt_24 : decode cF_numberAt 24 = .ok ((.bipush 48), 2) := by decide +kernel
theorem dF_numberAt_26 : decode cF_numberAt 26 = .ok (.isub, 1) := by decide +kernel
theorem dF_numberAt_27 : decode cF_numberAt 27 = .ok (.iadd, 1) := by decide +kernel
theorem dF_numberAt_28 : decode cF_numberAt 28 = .ok ((.istore_n 3), 1) := by decide +kernel
theorem dF_numberAt_29 : decode cF_numberAt 29 = .ok ((.iinc 4 1), 3) := by decide +kernel
theorem dF_numberAt_32 : decode cF_numberAt 32 = .ok ((.goto (-27)), 3) := by decide +kernel
theorem dF_numberAt_35 : decode cF_numberAt 35 = .ok ((.iload_n 3), 1) := by decide +kernel
theorem dF_numberAt_36 : decode cF_numberAt 36 = .ok (.ireturn, 1) := by decide +kernel
theorem dF_tryStrip_0 : decode cF_tryStrip 0 = .ok ((.iload_n 1), 1) := by decide +kernel
theorem dF_tryStrip_1 : decode cF_tryStrip 1 = .ok ((.iconst 1), 1) := by decide +kernel
theorem dF_tryStrip_2 : decode cF_tryStrip 2 = .ok ((.if_icmp .lt 9), 3) := by decide +kernel
theorem dF_tryStrip_5 : decode cF_tryStrip 5 = .ok ((.iload_n 1), 1) := by decide +kernel
theorem dF_tryStrip_6 : decode cF_tryStrip 6 = .ok ((.bipush 60), 2) := by decide +kernel
theorem dF_tryStrip_8 : decode cF_tryStrip 8 = .ok ((.if_icmp .le 5), 3) := by decide +kernel
theorem dF_tryStrip_11 : decode cF_tryStrip 11 = .ok ((.iconst 1), 1) := by decide +kernel
theorem dF_tryStrip_12 : decode cF_tryStrip 12 = .ok (.ireturn, 1) := by decide +kernel
theorem dF_tryStrip_13 : decode cF_tryStrip 13 = .ok ((.aload_n 0), 1) := by decide +kernel
theorem dF_tryStrip_14 : decode cF_tryStrip 14 = .ok ((.getfield 12), 3) := by decide +kernel
theorem dF_tryStrip_17 : decode cF_tryStrip 17 = .ok ((.iload_n 1), 1) := by decide +kernel
theorem dF_tryStrip_18 : decode cF_tryStrip 18 = .ok ((.invokevirtual 205), 3) := by decide +kernel
theorem dF_tryStrip_21 : decode cF_tryStrip 21 = .ok ((.aload_n 0), 1) := by decide +kernel
theorem dF_tryStrip_22 : decode cF_tryStrip 22 = .ok ((.getfield 28), 3) := by decide +kernel
theorem dF_tryStrip_25 : decode cF_tryStrip 25 = .ok ((.invokevirtual 68), 3) := by decide +kernel
theorem dF_tryStrip_28 : decode cF_tryStrip 28 = .ok ((.iconst 0), 1) := by decide +kernel
theorem dF_tryStrip_29 : decode cF_tryStrip 29 = .ok (.ireturn, 1) := by decide +kernel
theorem dF_tryCrease_0 : decode cF_tryCrease 0 = .ok ((.aload_n 0), 1) := by decide +kernel
theorem dF_tryCrease_1 : decode cF_tryCrease 1 = .ok ((.getfield 12), 3) := by decide +kernel
theorem dF_tryCrease_4 : decode cF_tryCrease 4 = .ok ((.iload_n 1), 1) := by decide +kernel
theorem dF_tryCrease_5 : decode cF_tryCrease 5 = .ok ((.iload_n 2), 1) := by decide +kernel
theorem dF_tryCrease_6 : decode cF_tryCrease 6 = .ok ((.invokevirtual 209), 3) := by decide +kernel
theorem dF_tryCrease_9 : decode cF_tryCrease 9 = .ok ((.istore_n 3), 1) := by decide +kernel
theorem dF_tryCrease_10 : decode cF_tryCrease 10 = .ok ((.iload_n 3), 1) := by decide +kernel
theorem dF_tryCrease_11 : decode cF_tryCrease 11 = .ok ((.ifCond .ne 19), 3) := by decide +kernel
theorem dF_tryCrease_14 : decode cF_tryCrease 14 = .ok ((.aload_n 0), 1) := by decide +kernel
theorem dF_tryCrease_15 : decode cF_tryCrease 15 = .ok ((.getfield 12), 3) := by decide +kernel
theorem dF_tryCrease_18 : decode cF_tryCrease 18 = .ok ((.iload_n 1), 1) := by decide +kernel
theorem dF_tryCrease_19 : decode cF_tryCrease 19 = .ok ((.iload_n 2), 1) := by decide +kernel
theorem dF_tryCrease_20 : decode cF_tryCrease 20 = .ok ((.invokevirtual 212), 3) := by decide +kernel
theorem dF_tryCrease_23 : decode cF_tryCrease 23 = .ok ((.aload_n 0), 1) := by decide +kernel
theorem dF_tryCrease_24 : decode cF_tryCrease 24 = .ok ((.getfield 28), 3) := by decide +kernel
theorem dF_tryCrease_27 : decode cF_tryCrease 27 = .ok ((.invokevirtual 68), 3) := by decide +kernel
theorem dF_tryCrease_30 : decode cF_tryCrease 30 = .ok ((.iload_n 3), 1) := by decide +kernel
theorem dF_tryCrease_31 : decode cF_tryCrease 31 = .ok (.ireturn, 1) := by decide +kernel
theorem dF_strip_0 : decode cF_strip 0 = .ok ((.aload_n 0), 1) := by decide +kernel
theorem dF_strip_1 : decode cF_strip 1 = .ok ((.iload_n 1), 1) := by decide +kernel
theorem dF_strip_2 : decode cF_strip 2 = .ok ((.invokevirtual 40), 3) := by decide +kernel
theorem dF_strip_5 : decode cF_strip 5 = .ok ((.ifCond .eq 13), 3) := by decide +kernel
theorem dF_strip_8 : decode cF_strip 8 = .ok ((.new 44), 3) := by decide +kernel
theorem dF_strip_11 : decode cF_strip 11 = .ok (.dup, 1) := by decide +kernel
theorem dF_strip_12 : decode cF_strip 12 = .ok ((.ldc 46), 2) := by decide +kernel
theorem dF_strip_14 : decode cF_strip 14 = .ok ((.invokespecial 48), 3) := by decide +kernel
theorem dF_strip_17 : decode cF_strip 17 = .ok (.athrow, 1) := by decide +kernel
theorem dF_strip_18 : decode cF_strip 18 = .ok (.return_, 1) := by decide +kernel
theorem dF_crease_0 : decode cF_crease 0 = .ok ((.aload_n 0), 1) := by decide +kernel
theorem dF_crease_1 : decode cF_crease 1 = .ok ((.iload_n 1), 1) := by decide +kernel
theorem dF_crease_2 : decode cF_crease 2 = .ok ((.iload_n 2), 1) := by decide +kernel
theorem dF_crease_3 : decode cF_crease 3 = .ok ((.invokevirtual 51), 3) := by decide +kernel
theorem dF_crease_6 : decode cF_crease 6 = .ok ((.istore_n 3), 1) := by decide +kernel
theorem dF_crease_7 : decode cF_crease 7 = .ok ((.iload_n 3), 1) := by decide +kernel
theorem dF_crease_8 : decode cF_crease 8 = .ok ((.iconst 1), 1) := by decide +kernel
theorem dF_crease_9 : decode cF_crease 9 = .ok ((.if_icmp .ne 13), 3) := by decide +kernel
theorem dF_crease_12 : decode cF_crease 12 = .ok ((.new 44), 3) := by decide +kernel
theorem dF_crease_15 : decode cF_crease 15 = .ok (.dup, 1) := by decide +kernel
theorem dF_crease_16 : decode cF_crease 16 = .ok ((.ldc 55), 2) := by decide +kernel
theorem dF_crease_18 : decode cF_crease 18 = .ok ((.invokespecial 48), 3) := by decide +kernel
theorem dF_crease_21 : decode cF_crease 21 = .ok (.athrow, 1) := by decide +kernel
theorem dF_crease_22 : decode cF_crease 22 = .ok ((.iload_n 3), 1) := by decide +kernel
theorem dF_crease_23 : decode cF_crease 23 = .ok ((.iconst 2), 1) := by decide +kernel
theorem dF_crease_24 : decode cF_crease 24 = .ok ((.if_icmp .ne 13), 3) := by decide +kernel
theorem dF_crease_27 : decode cF_crease 27 = .ok ((.new 57), 3) := by decide +kernel
theorem dF_crease_30 : decode cF_crease 30 = .ok (.dup, 1) := by decide +kernel
theorem dF_crease_31 : decode cF_crease 31 = .ok ((.ldc 59), 2) := by decide +kernel
theorem dF_crease_33 : decode cF_crease 33 = .ok ((.invokespecial 61), 3) := by decide +kernel
theorem dF_crease_36 : decode cF_crease 36 = .ok (.athrow, 1) := by decide +kernel
theorem dF_crease_37 : decode cF_crease 37 = .ok ((.aload_n 0), 1) := by decide +kernel
theorem dF_crease_38 : decode cF_crease 38 = .ok ((.getfield 12), 3) := by decide +kernel
theorem dF_crease_41 : decode cF_crease 41 = .ok ((.getfield 62), 3) := by decide +kernel
theorem dF_crease_44 : decode cF_crease 44 = .ok (.ireturn, 1) := by decide +kernel
theorem dF_segment_0 : decode cF_segment 0 = .ok ((.aload_n 0), 1) := by decide +kernel
theorem dF_segment_1 : decode cF_segment 1 = .ok ((.getfield 12), 3) := by decide +kernel
theorem dF_segment_4 : decode cF_segment 4 = .ok ((.iload_n 1), 1) := by decide +kernel
theorem dF_segment_5 : decode cF_segment 5 = .ok ((.invokevirtual 82), 3) := by decide +kernel
theorem dF_segment_8 : decode cF_segment 8 = .ok ((.ifCond .ne 13), 3) := by decide +kernel
theorem dF_segment_11 : decode cF_segment 11 = .ok ((.new 86), 3) := by decide +kernel
theorem dF_segment_14 : decode cF_segment 14 = .ok (.dup, 1) := by decide +kernel
theorem dF_segment_15 : decode cF_segment 15 = .ok ((.ldc 88), 2) := by decide +kernel
theorem dF_segment_17 : decode cF_segment 17 = .ok ((.invokespecial 90), 3) := by decide +kernel
theorem dF_segment_20 : decode cF_segment 20 = .ok (.athrow, 1) := by decide +kernel
theorem dF_segment_21 : decode cF_segment 21 = .ok ((.iload_n 2), 1) := by decide +kernel
theorem dF_segment_22 : decode cF_segment 22 = .ok ((.tableswitch 118 0 5 #[38, 47, 56, 66, 76, 93]), 38) := by decide +kernel
theorem dF_segment_60 : decode cF_segment 60 = .ok ((.aload_n 0), 1) := by decide +kernel
theorem dF_segment_61 : decode cF_segment 61 = .ok ((.getfield 12), 3) := by decide +kernel
theorem dF_segment_64 : decode cF_segment 64 = .ok ((.iload_n 1), 1) := by decide +kernel
theorem dF_segment_65 : decode cF_segment 65 = .ok ((.invokevirtual 91), 3) := by decide +kernel
theorem dF_segment_68 : decode cF_segment 68 = .ok (.ireturn, 1) := by decide +kernel
theorem dF_segment_69 : decode cF_segment 69 = .ok ((.aload_n 0), 1) := by decide +kernel
theorem dF_segment_70 : decode cF_segment 70 = .ok ((.getfield 12), 3) := by decide +kernel
theorem dF_segment_73 : decode cF_segment 73 = .ok ((.iload_n 1), 1) := by decide +kernel
theorem dF_segment_74 : decode cF_segment 74 = .ok ((.invokevirtual 94), 3) := by decide +kernel
theorem dF_segment_77 : decode cF_segment 77 = .ok (.ireturn, 1) := by decide +kernel
theorem dF_segment_78 : decode cF_segment 78 = .ok ((.aload_n 0), 1) := by decide +kernel
theorem dF_segment_79 : decode cF_segment 79 = .ok ((.getfield 12), 3) := by decide +kernel
theorem dF_segment_82 : decode cF_segment 82 = .ok ((.getfield 97), 3) := by decide +kernel
theorem dF_segment_85 : decode cF_segment 85 = .ok ((.iload_n 1), 1) := by decide +kernel
theorem dF_segment_86 : decode cF_segment 86 = .ok (.iaload, 1) := by decide +kernel
theorem dF_segment_87 : decode cF_segment 87 = .ok (.ireturn, 1) := by decide +kernel
theorem dF_segment_88 : decode cF_segment 88 = .ok ((.aload_n 0), 1) := by decide +kernel
theorem dF_segment_89 : decode cF_segment 89 = .ok ((.getfield 12), 3) := by decide +kernel
theorem dF_segment_92 : decode cF_segment 92 = .ok ((.getfield 100), 3) := by decide +kernel
theorem dF_segment_95 : decode cF_segment 95 = .ok ((.iload_n 1), 1) := by decide +kernel
theorem dF_segment_96 : decode cF_segment 96 = .ok (.iaload, 1) := by decide +kernel
theorem dF_segment_97 : decode cF_segment 97 = .ok (.ireturn, 1) := by decide +kernel
theorem dF_segment_98 : decode cF_segment 98 = .ok ((.aload_n 0), 1) := by decide +kernel
theorem dF_segment_99 : decode cF_segment 99 = .ok ((.getfield 12), 3) := by decide +kernel
theorem dF_segment_102 : decode cF_segment 102 = .ok ((.iload_n 1), 1) := by decide +kernel
theorem dF_segment_103 : decode cF_segment 103 = .ok ((.invokevirtual 103), 3) := by decide +kernel
theorem dF_segment_106 : decode cF_segment 106 = .ok ((.ifCond .eq 7), 3) := by decide +kernel
theorem dF_segment_109 : decode cF_segment 109 = .ok ((.iconst 1), 1) := by decide +kernel
theorem dF_segment_110 : decode cF_segment 110 = .ok ((.goto 4), 3) := by decide +kernel
theorem dF_segment_113 : decode cF_segment 113 = .ok ((.iconst 0), 1) := by decide +kernel
theorem dF_segment_114 : decode cF_segment 114 = .ok (.ireturn, 1) := by decide +kernel
theorem dF_segment_115 : decode cF_segment 115 = .ok ((.iload_n 1), 1) := by decide +kernel
theorem dF_segment_116 : decode cF_segment 116 = .ok ((.aload_n 0), 1) := by decide +kernel
theorem dF_segment_117 : decode cF_segment 117 = .ok ((.getfield 12), 3) := by decide +kernel
theorem dF_segment_120 : decode cF_segment 120 = .ok ((.getfield 62), 3) := by decide +kernel
theorem dF_segment_123 : decode cF_segment 123 = .ok ((.if_icmp .ge 15), 3) := by decide +kernel
theorem dF_segment_126 : decode cF_segment 126 = .ok ((.aload_n 0), 1) := by decide +kernel
theorem dF_segment_127 : decode cF_segment 127 = .ok ((.getfield 12), 3) := by decide +kernel
theorem dF_segment_130 : decode cF_segment 130 = .ok ((.getfield 106), 3) := by decide +kernel
theorem dF_segment_133 : decode cF_segment 133 = .ok ((.iload_n 1), 1) := by decide +kernel
theorem dF_segment_134 : decode cF_segment 134 = .ok (.iaload, 1) := by decide +kernel
theorem dF_segment_135 : decode cF_segment 135 = .ok ((.goto 4), 3) := by decide +kernel
theorem dF_segment_138 : decode cF_segment 138 = .ok ((.iconst (-1)), 1) := by decide +kernel
theorem dF_segment_139 : decode cF_segment 139 = .ok (.ireturn, 1) := by decide +kernel
theorem dF_segment_140 : decode cF_segment 140 = .ok ((.new 44), 3) := by decide +kernel
theorem dF_segment_143 : decode cF_segment 143 = .ok (.dup, 1) := by decide +kernel
theorem dF_segment_144 : decode cF_segment 144 = .ok ((.ldc 109), 2) := by decide +kernel
theorem dF_segment_146 : decode cF_segment 146 = .ok ((.invokespecial 48), 3) := by decide +kernel
theorem dF_segment_149 : decode cF_segment 149 = .ok (.athrow, 1) := by decide +kernel
theorem dF_whereIs_0 : decode cF_whereIs 0 = .ok ((.iload_n 1), 1) := by decide +kernel
theorem dF_whereIs_1 : decode cF_whereIs 1 = .ok ((.ifCond .lt 14), 3) := by decide +kernel
theorem dF_whereIs_4 : decode cF_whereIs 4 = .ok ((.iload_n 1), 1) := by decide +kernel
theorem dF_whereIs_5 : decode cF_whereIs 5 = .ok ((.aload_n 0), 1) := by decide +kernel
theorem dF_whereIs_6 : decode cF_whereIs 6 = .ok ((.getfield 12), 3) := by decide +kernel
theorem dF_whereIs_9 : decode cF_whereIs 9 = .ok ((.getfield 75), 3) := by decide +kernel
theorem dF_whereIs_12 : decode cF_whereIs 12 = .ok ((.if_icmp .le 13), 3) := by decide +kernel
theorem dF_whereIs_15 : decode cF_whereIs 15 = .ok ((.new 44), 3) := by decide +kernel
theorem dF_whereIs_18 : decode cF_whereIs 18 = .ok (.dup, 1) := by decide +kernel
theorem dF_whereIs_19 : decode cF_whereIs 19 = .ok ((.ldc 111), 2) := by decide +kernel
theorem dF_whereIs_21 : decode cF_whereIs 21 = .ok ((.invokespecial 48), 3) := by decide +kernel
theorem dF_whereIs_24 : decode cF_whereIs 24 = .ok (.athrow, 1) := by decide +kernel
theorem dF_whereIs_25 : decode cF_whereIs 25 = .ok ((.aload_n 0), 1) := by decide +kernel
theorem dF_whereIs_26 : decode cF_whereIs 26 = .ok ((.getfield 12), 3) := by decide +kernel
theorem dF_whereIs_29 : decode cF_whereIs 29 = .ok ((.iload_n 1), 1) := by decide +kernel
theorem dF_whereIs_30 : decode cF_whereIs 30 = .ok ((.invokevirtual 113), 3) := by decide +kernel
theorem dF_whereIs_33 : decode cF_whereIs 33 = .ok (.ireturn, 1) := by decide +kernel
theorem dF_step_0 : decode cF_step 0 = .ok ((.iload_n 1), 1) := by decide +kernel
theorem dF_step_1 : decode cF_step 1 = .ok ((.ifCond .lt 11), 3) := by decide +kernel
theorem dF_step_4 : decode cF_step 4 = .ok ((.iload_n 1), 1) := by decide +kernel
theorem dF_step_5 : decode cF_step 5 = .ok ((.aload_n 0), 1) := by decide +kernel
theorem dF_step_6 : decode cF_step 6 = .ok ((.invokevirtual 131), 3) := by decide +kernel
theorem dF_step_9 : decode cF_step 9 = .ok ((.if_icmp .lt 13), 3) := by decide +kernel
theorem dF_step_12 : decode cF_step 12 = .ok ((.new 86), 3) := by decide +kernel
theorem dF_step_15 : decode cF_step 15 = .ok (.dup, 1) := by decide +kernel
theorem dF_step_16 : decode cF_step 16 = .ok ((.ldc 134), 2) := by decide +kernel
theorem dF_step_18 : decode cF_step 18 = .ok ((.invokespecial 90), 3) := by decide +kernel
theorem dF_step_21 : decode cF_step 21 = .ok (.athrow, 1) := by decide +kernel
theorem dF_step_22 : decode cF_step 22 = .ok ((.iload_n 2), 1) := by decide +kernel
theorem dF_step_23 : decode cF_step 23 = .ok ((.ifCond .eq 18), 3) := by decide +kernel
theorem dF_step_26 : decode cF_step 26 = .ok ((.iload_n 2), 1) := by decide +kernel
theorem dF_step_27 : decode cF_step 27 = .ok ((.iconst 1), 1) := by decide +kernel
theorem dF_step_28 : decode cF_step 28 = .ok ((.if_icmp .eq 13), 3) := by decide +kernel
theorem dF_step_31 : decode cF_step 31 = .ok ((.new 44), 3) := by decide +kernel
theorem dF_step_34 : decode cF_step 34 = .ok (.dup, 1) := by decide +kernel
theorem dF_step_35 : decode cF_step 35 = .ok ((.ldc 136), 2) := by decide +kernel
theorem dF_step_37 : decode cF_step 37 = .ok ((.invokespecial 48), 3) := by decide +kernel
theorem dF_step_40 : decode cF_step 40 = .ok (.athrow, 1) := by decide +kernel
theorem dF_step_41 : decode cF_step 41 = .ok ((.iload_n 2), 1) := by decide +kernel
theorem dF_step_42 : decode cF_step 42 = .ok ((.ifCond .ne 15), 3) := by decide +kernel
theorem dF_step_45 : decode cF_step 45 = .ok ((.aload_n 0), 1) := by decide +kernel
theorem dF_step_46 : decode cF_step 46 = .ok ((.getfield 21), 3) := by decide +kernel
theorem dF_step_49 : decode cF_step 49 = .ok ((.getfield 138), 3) := by decide +kernel
theorem dF_step_52 : decode cF_step 52 = .ok ((.iload_n 1), 1) := by decide +kernel
theorem dF_step_53 : decode cF_step 53 = .ok (.iaload, 1) := by decide +kernel
theorem dF_step_54 : decode cF_step 54 = .ok ((.goto 12), 3) := by decide +kernel
theorem dF_step_57 : decode cF_step 57 = .ok ((.aload_n 0), 1) := by decide +kernel
theorem dF_step_58 : decode cF_step 58 = .ok ((.getfield 21), 3) := by decide +kernel
theorem dF_step_61 : decode cF_step 61 = .ok ((.getfield 141), 3) := by decide +kernel
theorem dF_step_64 : decode cF_step 64 = .ok ((.iload_n 1), 1) := by decide +kernel
theorem dF_step_65 : decode cF_step 65 = .ok (.iaload, 1) := by decide +kernel
theorem dF_step_66 : decode cF_step 66 = .ok (.ireturn, 1) := by decide +kernel
theorem dF_above_0 : decode cF_above 0 = .ok ((.aload_n 0), 1) := by decide +kernel
theorem dF_above_1 : decode cF_above 1 = .ok ((.getfield 28), 3) := by decide +kernel
theorem dF_above_4 : decode cF_above 4 = .ok ((.invokevirtual 144), 3) := by decide +kernel
theorem dF_above_7 : decode cF_above 7 = .ok ((.iload_n 1), 1) := by decide +kernel
theorem dF_above_8 : decode cF_above 8 = .ok ((.ifCond .lt 36), 3) := by decide +kernel
theorem dF_above_11 : decode cF_above 11 = .ok ((.iload_n 1), 1) := by decide +kernel
theorem dF_above_12 : decode cF_above 12 = .ok ((.aload_n 0), 1) := by decide +kernel
theorem dF_above_13 : decode cF_above 13 = .ok ((.getfield 28), 3) := by decide +kernel
theorem dF_above_16 : decode cF_above 16 = .ok ((.getfield 147), 3) := by decide +kernel
theorem dF_above_19 : decode cF_above 19 = .ok ((.if_icmp .ge 25), 3) := by decide +kernel
theorem dF_above_22 : decode cF_above 22 = .ok ((.aload_n 0), 1) := by decide +kernel
theorem dF_above_23 : decode cF_above 23 = .ok ((.getfield 12), 3) := by decide +kernel
theorem dF_above_26 : decode cF_above 26 = .ok ((.iload_n 2), 1) := by decide +kernel
theorem dF_above_27 : decode cF_above 27 = .ok ((.invokevirtual 82), 3) := by decide +kernel
theorem dF_above_30 : decode cF_above 30 = .ok ((.ifCond .eq 14), 3) := by decide +kernel
theorem dF_above_33 : decode cF_above 33 = .ok ((.aload_n 0), 1) := by decide +kernel
theorem dF_above_34 : decode cF_above 34 = .ok ((.getfield 12), 3) := by decide +kernel
theorem dF_above_37 : decode cF_above 37 = .ok ((.iload_n 3), 1) := by decide +kernel
theorem dF_above_38 : decode cF_above 38 = .ok ((.invokevirtual 82), 3) := by decide +kernel
theorem dF_above_41 : decode cF_above 41 = .ok ((.ifCond .ne 13), 3) := by decide +kernel
theorem dF_above_44 : decode cF_above 44 = .ok ((.new 86), 3) := by decide +kernel
theorem dF_above_47 : decode cF_above 47 = .ok (.dup, 1) := by decide +kernel
theorem dF_above_48 : decode cF_above 48 = .ok ((.ldc 150), 2) := by decide +kernel
theorem dF_above_50 : decode cF_above 50 = .ok ((.invokespecial 90), 3) := by decide +kernel
theorem dF_above_53 : decode cF_above 53 = .ok (.athrow, 1) := by decide +kernel
theorem dF_above_54 : decode cF_above 54 = .ok ((.iload_n 2), 1) := by decide +kernel
theorem dF_above_55 : decode cF_above 55 = .ok ((.iload_n 3), 1) := by decide +kernel
theorem dF_above_56 : decode cF_above 56 = .ok ((.if_icmp .eq 15), 3) := by decide +kernel
theorem dF_above_59 : decode cF_above 59 = .ok ((.aload_n 0), 1) := by decide +kernel
theorem dF_above_60 : decode cF_above 60 = .ok ((.getfield 12), 3) := by decide +kernel
theorem dF_above_63 : decode cF_above 63 = .ok ((.iload_n 2), 1) := by decide +kernel
theorem dF_above_64 : decode cF_above 64 = .ok ((.iload_n 3), 1) := by decide +kernel
theorem dF_above_65 : decode cF_above 65 = .ok ((.invokevirtual 152), 3) := by decide +kernel
theorem dF_above_68 : decode cF_above 68 = .ok ((.ifCond .ne 5), 3) := by decide +kernel
theorem dF_above_71 : decode cF_above 71 = .ok ((.iconst (-1)), 1) := by decide +kernel
theorem dF_above_72 : decode cF_above 72 = .ok (.ireturn, 1) := by decide +kernel
theorem dF_above_73 : decode cF_above 73 = .ok ((.aload_n 0), 1) := by decide +kernel
theorem dF_above_74 : decode cF_above 74 = .ok ((.getfield 28), 3) := by decide +kernel
theorem dF_above_77 : decode cF_above 77 = .ok ((.getfield 156), 3) := by decide +kernel
theorem dF_above_80 : decode cF_above 80 = .ok ((.iload_n 1), 1) := by decide +kernel
theorem dF_above_81 : decode cF_above 81 = .ok (.iaload, 1) := by decide +kernel
theorem dF_above_82 : decode cF_above 82 = .ok ((.iload_n 2), 1) := by decide +kernel
theorem dF_above_83 : decode cF_above 83 = .ok ((.iload_n 3), 1) := by decide +kernel
theorem dF_above_84 : decode cF_above 84 = .ok ((.invokestatic 159), 3) := by decide +kernel
theorem dF_above_87 : decode cF_above 87 = .ok ((.ifCond .eq 7), 3) := by decide +kernel
theorem dF_above_90 : decode cF_above 90 = .ok ((.iconst 1), 1) := by decide +kernel
theorem dF_above_91 : decode cF_above 91 = .ok ((.goto 4), 3) := by decide +kernel
theorem dF_above_94 : decode cF_above 94 = .ok ((.iconst 0), 1) := by decide +kernel
theorem dF_above_95 : decode cF_above 95 = .ok (.ireturn, 1) := by decide +kernel
theorem dF_layer_0 : decode cF_layer 0 = .ok ((.aload_n 0), 1) := by decide +kernel
theorem dF_layer_1 : decode cF_layer 1 = .ok ((.getfield 28), 3) := by decide +kernel
theorem dF_layer_4 : decode cF_layer 4 = .ok ((.invokevirtual 144), 3) := by decide +kernel
theorem dF_layer_7 : decode cF_layer 7 = .ok ((.iload_n 1), 1) := by decide +kernel
theorem dF_layer_8 : decode cF_layer 8 = .ok ((.ifCond .lt 14), 3) := by decide +kernel
theorem dF_layer_11 : decode cF_layer 11 = .ok ((.iload_n 1), 1) := by decide +kernel
theorem dF_layer_12 : decode cF_layer 12 = .ok ((.aload_n 0), 1) := by decide +kernel
theorem dF_layer_13 : decode cF_layer 13 = .ok ((.getfield 28), 3) := by decide +kernel
theorem dF_layer_16 : decode cF_layer 16 = .ok ((.getfield 147), 3) := by decide +kernel
theorem dF_layer_19 : decode cF_layer 19 = .ok ((.if_icmp .lt 13), 3) := by decide +kernel
theorem dF_layer_22 : decode cF_layer 22 = .ok ((.new 86), 3) := by decide +kernel
theorem dF_layer_25 : decode cF_layer 25 = .ok (.dup, 1) := by decide +kernel
theorem dF_layer_26 : decode cF_layer 26 = .ok ((.ldc 163), 2) := by decide +kernel
theorem dF_layer_28 : decode cF_layer 28 = .ok ((.invokespecial 90), 3) := by decide +kernel
theorem dF_layer_31 : decode cF_layer 31 = .ok (.athrow, 1) := by decide +kernel
theorem dF_layer_32 : decode cF_layer 32 = .ok ((.aload_n 0), 1) := by decide +kernel
theorem dF_layer_33 : decode cF_layer 33 = .ok ((.getfield 28), 3) := by decide +kernel
theorem dF_layer_36 : decode cF_layer 36 = .ok ((.aload_n 0), 1) := by decide +kernel
theorem dF_layer_37 : decode cF_layer 37 = .ok ((.getfield 28), 3) := by decide +kernel
theorem dF_layer_40 : decode cF_layer 40 = .ok ((.getfield 156), 3) := by decide +kernel
theorem dF_layer_43 : decode cF_layer 43 = .ok ((.iload_n 1), 1) := by decide +kernel
theorem dF_layer_44 : decode cF_layer 44 = .ok (.iaload, 1) := by decide +kernel
theorem dF_layer_45 : decode cF_layer 45 = .ok ((.iload_n 2), 1) := by decide +kernel
theorem dF_layer_46 : decode cF_layer 46 = .ok ((.iload_n 3), 1) := by decide +kernel
theorem dF_layer_47 : decode cF_layer 47 = .ok ((.invokevirtual 165), 3) := by decide +kernel
theorem dF_layer_50 : decode cF_layer 50 = .ok (.ireturn, 1) := by decide +kernel
theorem dF_type_0 : decode cF_type 0 = .ok ((.iload_n 1), 1) := by decide +kernel
theorem dF_type_1 : decode cF_type 1 = .ok ((.bipush 32), 2) := by decide +kernel
theorem dF_type_3 : decode cF_type 3 = .ok ((.if_icmp .lt 9), 3) := by decide +kernel
theorem dF_type_6 : decode cF_type 6 = .ok ((.iload_n 1), 1) := by decide +kernel
theorem dF_type_7 : decode cF_type 7 = .ok ((.bipush 126), 2) := by decide +kernel
theorem dF_type_9 : decode cF_type 9 = .ok ((.if_icmp .le 13), 3) := by decide +kernel
theorem dF_type_12 : decode cF_type 12 = .ok ((.new 44), 3) := by decide +kernel
theorem dF_type_15 : decode cF_type 15 = .ok (.dup, 1) := by decide +kernel
theorem dF_type_16 : decode cF_type 16 = .ok ((.ldc 179), 2) := by decide +kernel
theorem dF_type_18 : decode cF_type 18 = .ok ((.invokespecial 48), 3) := by decide +kernel
theorem dF_type_21 : decode cF_type 21 = .ok (.athrow, 1) := by decide +kernel
theorem dF_type_22 : decode cF_type 22 = .ok ((.aload_n 0), 1) := by decide +kernel
theorem dF_type_23 : decode cF_type 23 = .ok ((.getfield 36), 3) := by decide +kernel
theorem dF_type_26 : decode cF_type 26 = .ok ((.bipush 60), 2) := by decide +kernel
theorem dF_type_28 : decode cF_type 28 = .ok ((.if_icmp .lt 13), 3) := by decide +kernel
theorem dF_type_31 : decode cF_type 31 = .ok ((.new 57), 3) := by decide +kernel
theorem dF_type_34 : decode cF_type 34 = .ok (.dup, 1) := by decide +kernel
theorem dF_type_35 : decode cF_type 35 = .ok ((.ldc 181), 2) := by decide +kernel
theorem dF_type_37 : decode cF_type 37 = .ok ((.invokespecial 61), 3) := by decide +kernel
theorem dF_type_40 : decode cF_type 40 = .ok (.athrow, 1) := by decide +kernel
theorem dF_type_41 : decode cF_type 41 = .ok ((.aload_n 0), 1) := by decide +kernel
theorem dF_type_42 : decode cF_type 42 = .ok ((.getfield 32), 3) := by decide +kernel
theorem dF_type_45 : decode cF_type 45 = .ok ((.aload_n 0), 1) := by decide +kernel
theorem dF_type_46 : decode cF_type 46 = .ok ((.getfield 36), 3) := by decide +kernel
theorem dF_type_49 : decode cF_type 49 = .ok ((.iload_n 1), 1) := by decide +kernel
theorem dF_type_50 : decode cF_type 50 = .ok (.iastore, 1) := by decide +kernel
theorem dF_type_51 : decode cF_type 51 = .ok ((.aload_n 0), 1) := by decide +kernel
theorem dF_type_52 : decode cF_type 52 = .ok (.dup, 1) := by decide +kernel
theorem dF_type_53 : decode cF_type 53 = .ok ((.getfield 36), 3) := by decide +kernel
theorem dF_type_56 : decode cF_type 56 = .ok ((.iconst 1), 1) := by decide +kernel
theorem dF_type_57 : decode cF_type 57 = .ok (.iadd, 1) := by decide +kernel
theorem dF_type_58 : decode cF_type 58 = .ok ((.putfield 36), 3) := by decide +kernel
theorem dF_type_61 : decode cF_type 61 = .ok ((.aload_n 0), 1) := by decide +kernel
theorem dF_type_62 : decode cF_type 62 = .ok ((.getfield 36), 3) := by decide +kernel
theorem dF_type_65 : decode cF_type 65 = .ok (.ireturn, 1) := by decide +kernel
