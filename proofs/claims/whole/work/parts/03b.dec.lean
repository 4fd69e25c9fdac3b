theorem dP_init_0 : decode cP_init 0 = .ok ((.aload_n 0), 1) := by decide +kernel
theorem dP_init_1 : decode cP_init 1 = .ok ((.invokespecial 3), 3) := by decide +kernel
theorem dP_init_4 : decode cP_init 4 = .ok ((.aload_n 0), 1) := by decide +kernel
theorem dP_init_5 : decode cP_init 5 = .ok ((.bipush 6), 2) := by decide +kernel
theorem dP_init_7 : decode cP_init 7 = .ok ((.newarray .int), 2) := by decide +kernel
theorem dP_init_9 : decode cP_init 9 = .ok ((.putfield 9), 3) := by decide +kernel
theorem dP_init_12 : decode cP_init 12 = .ok ((.aload_n 0), 1) := by decide +kernel
theorem dP_init_13 : decode cP_init 13 = .ok ((.bipush 6), 2) := by decide +kernel
theorem dP_init_15 : decode cP_init 15 = .ok ((.newarray .int), 2) := by decide +kernel
theorem dP_init_17 : decode cP_init 17 = .ok ((.putfield 15), 3) := by decide +kernel
theorem dP_init_20 : decode cP_init 20 = .ok ((.aload_n 0), 1) := by decide +kernel
theorem dP_init_21 : decode cP_init 21 = .ok ((.bipush 8), 2) := by decide +kernel
theorem dP_init_23 : decode cP_init 23 = .ok ((.newarray .int), 2) := by decide +kernel
theorem dP_init_25 : decode cP_init 25 = .ok ((.putfield 18), 3) := by decide +kernel
theorem dP_init_28 : decode cP_init 28 = .ok ((.aload_n 0), 1) := by decide +kernel
theorem dP_init_29 : decode cP_init 29 = .ok ((.bipush 7), 2) := by decide +kernel
theorem dP_init_31 : decode cP_init 31 = .ok ((.newarray .int), 2) := by decide +kernel
theorem dP_init_33 : decode cP_init 33 = .ok ((.putfield 21), 3) := by decide +kernel
theorem dP_init_36 : decode cP_init 36 = .ok ((.aload_n 0), 1) := by decide +kernel
theorem dP_init_37 : decode cP_init 37 = .ok ((.bipush 7), 2) := by decide +kernel
theorem dP_init_39 : decode cP_init 39 = .ok ((.newarray .int), 2) := by decide +kernel
theorem dP_init_41 : decode cP_init 41 = .ok ((.putfield 24), 3) := by decide +kernel
theorem dP_init_44 : decode cP_init 44 = .ok ((.aload_n 0), 1) := by decide +kernel
theorem dP_init_45 : decode cP_init 45 = .ok ((.iconst 1), 1) := by decide +kernel
theorem dP_init_46 : decode cP_init 46 = .ok ((.invokevirtual 27), 3) := by decide +kernel
theorem dP_init_49 : decode cP_init 49 = .ok (.return_, 1) := by decide +kernel
theorem dP_renew_0 : decode cP_renew 0 = .ok ((.aload_n 0), 1) := by decide +kernel
theorem dP_renew_1 : decode cP_renew 1 = .ok ((.iload_n 1), 1) := by decide +kernel
theorem dP_renew_2 : decode cP_renew 2 = .ok ((.putfield 31), 3) := by decide +kernel
theorem dP_renew_5 : decode cP_renew 5 = .ok ((.aload_n 0), 1) := by decide +kernel
theorem dP_renew_6 : decode cP_renew 6 = .ok ((.iconst 0), 1) := by decide +kernel
theorem dP_renew_7 : decode cP_renew 7 = .ok ((.putfield 35), 3) := by decide +kernel
theorem dP_renew_10 : decode cP_renew 10 = .ok ((.aload_n 0), 1) := by decide +kernel
theorem dP_renew_11 : decode cP_renew 11 = .ok ((.iconst 0), 1) := by decide +kernel
theorem dP_renew_12 : decode cP_renew 12 = .ok ((.putfield 38), 3) := by decide +kernel
theorem dP_renew_15 : decode cP_renew 15 = .ok ((.aload_n 0), 1) := by decide +kernel
theorem dP_renew_16 : decode cP_renew 16 = .ok ((.invokevirtual 42), 3) := by decide +kernel
theorem dP_renew_19 : decode cP_renew 19 = .ok (.return_, 1) := by decide +kernel
theorem dP_fold_0 : decode cP_fold 0 = .ok ((.aload_n 0), 1) := by decide +kernel
theorem dP_fold_1 : decode cP_fold 1 = .ok ((.getfield 18), 3) := by decide +kernel
theorem dP_fold_4 : decode cP_fold 4 = .ok ((.iconst 0), 1) := by decide +kernel
theorem dP_fold_5 : decode cP_fold 5 = .ok ((.iconst 0), 1) := by decide +kernel
theorem dP_fold_6 : decode cP_fold 6 = .ok (.iastore, 1) := by decide +kernel
theorem dP_fold_7 : decode cP_fold 7 = .ok ((.iconst 0), 1) := by decide +kernel
theorem dP_fold_8 : decode cP_fold 8 = .ok ((.istore_n 1), 1) := by decide +kernel
theorem dP_fold_9 : decode cP_fold 9 = .ok ((.iload_n 1), 1) := by decide +kernel
theorem dP_fold_10 : decode cP_fold 10 = .ok ((.aload_n 0), 1) := by decide +kernel
theorem dP_fold_11 : decode cP_fold 11 = .ok ((.getfield 35), 3) := by decide +kernel
theorem dP_fold_14 : decode cP_fold 14 = .ok ((.if_icmp .gt 80), 3) := by decide +kernel
theorem dP_fold_17 : decode cP_fold 17 = .ok ((.aload_n 0), 1) := by decide +kernel
theorem dP_fold_18 : decode cP_fold 18 = .ok ((.getfield 18), 3) := by decide +kernel
theorem dP_fold_21 : decode cP_fold 21 = .ok ((.iload_n 1), 1) := by decide +kernel
theorem dP_fold_22 : decode cP_fold 22 = .ok ((.iconst 1), 1) := by decide +kernel
theorem dP_fold_23 : decode cP_fold 23 = .ok (.iadd, 1) := by decide +kernel
theorem dP_fold_24 : decode cP_fold 24 = .ok ((.aload_n 0), 1) := by decide +kernel
theorem dP_fold_25 : decode cP_fold 25 = .ok ((.getfield 18), 3) := by decide +kernel
theorem dP_fold_28 : decode cP_fold 28 = .ok ((.iload_n 1), 1) := by decide +kernel
theorem dP_fold_29 : decode cP_fold 29 = .ok (.iaload, 1) := by decide +kernel
theorem dP_fold_30 : decode cP_fold 30 = .ok ((.iload_n 1), 1) := by decide +kernel
theorem dP_fold_31 : decode cP_fold 31 = .ok ((.invokestatic 60), 3) := by decide +kernel
theorem dP_fold_34 : decode cP_fold 34 = .ok ((.aload_n 0), 1) := by decide +kernel
theorem dP_fold_35 : decode cP_fold 35 = .ok ((.iload_n 1), 1) := by decide +kernel
theorem dP_fold_36 : decode cP_fold 36 = .ok ((.invokevirtual 63), 3) := by decide +kernel
theorem dP_fold_39 : decode cP_fold 39 = .ok (.imul, 1) := by decide +kernel
theorem dP_fold_40 : decode cP_fold 40 = .ok (.iadd, 1) := by decide +kernel
theorem dP_fold_41 : decode cP_fold 41 = .ok (.iastore, 1) := by decide +kernel
theorem dP_fold_42 : decode cP_fold 42 = .ok ((.aload_n 0), 1) := by decide +kernel
theorem dP_fold_43 : decode cP_fold 43 = .ok ((.getfield 21), 3) := by decide +kernel
theorem dP_fold_46 : decode cP_fold 46 = .ok ((.iload_n 1), 1) := by decide +kernel
theorem dP_fold_47 : decode cP_fold 47 = .ok ((.aload_n 0), 1) := by decide +kernel
theorem dP_fold_48 : decode cP_fold 48 = .ok ((.getfield 18), 3) := by decide +kernel
theorem dP_fold_51 : decode cP_fold 51 = .ok ((.iload_n 1), 1) := by decide +kernel
theorem dP_fold_52 : decode cP_fold 52 = .ok (.iaload, 1) := by decide +kernel
theorem dP_fold_53 : decode cP_fold 53 = .ok ((.aload_n 0), 1) := by decide +kernel
theorem dP_fold_54 : decode cP_fold 54 = .ok ((.getfield 18), 3) := by decide +kernel
theorem dP_fold_57 : decode cP_fold 57 = .ok ((.iload_n 1), 1) := by decide +kernel
theorem dP_fold_58 : decode cP_fold 58 = .ok ((.iconst 1), 1) := by decide +kernel
theorem dP_fold_59 : decode cP_fold 59 = .ok (.iadd, 1) := by decide +kernel
theorem dP_fold_60 : decode cP_fold 60 = .ok (.iaload, 1) := by decide +kernel
theorem dP_fold_61 : decode cP_fold 61 = .ok ((.invokestatic 66), 3) := by decide +kernel
theorem dP_fold_64 : decode cP_fold 64 = .ok (.iastore, 1) := by decide +kernel
theorem dP_fold_65 : decode cP_fold 65 = .ok ((.aload_n 0), 1) := by decide +kernel
theorem dP_fold_66 : decode cP_fold 66 = .ok ((.getfield 24), 3) := by decide +kernel
theorem dP_fold_69 : decode cP_fold 69 = .ok ((.iload_n 1), 1) := by decide +kernel
theorem dP_fold_70 : decode cP_fold 70 = .ok ((.aload_n 0), 1) := by decide +kernel
theorem dP_fold_71 : decode cP_fold 71 = .ok ((.getfield 18), 3) := by decide +kernel
theorem dP_fold_74 : decode cP_fold 74 = .ok ((.iload_n 1), 1) := by decide +kernel
theorem dP_fold_75 : decode cP_fold 75 = .ok (.iaload, 1) := by decide +kernel
theorem dP_fold_76 : decode cP_fold 76 = .ok ((.aload_n 0), 1) := by decide +kernel
theorem dP_fold_77 : decode cP_fold 77 = .ok ((.getfield 18), 3) := by decide +kernel
theorem dP_fold_80 : decode cP_fold 80 = .ok ((.iload_n 1), 1) := by decide +kernel
theorem dP_fold_81 : decode cP_fold 81 = .ok ((.iconst 1), 1) := by decide +kernel
theorem dP_fold_82 : decode cP_fold 82 = .ok (.iadd, 1) := by decide +kernel
theorem dP_fold_83 : decode cP_fold 83 = .ok (.iaload, 1) := by decide +kernel
theorem dP_fold_84 : decode cP_fold 84 = .ok ((.invokestatic 72), 3) := by decide +kernel
theorem dP_fold_87 : decode cP_fold 87 = .ok (.iastore, 1) := by decide +kernel
theorem dP_fold_88 : decode cP_fold 88 = .ok ((.iinc 1 1), 3) := by decide +kernel
theorem dP_fold_91 : decode cP_fold 91 = .ok ((.goto (-82)), 3) := by decide +kernel
theorem dP_fold_94 : decode cP_fold 94 = .ok (.return_, 1) := by decide +kernel
theorem dP_direction_0 : decode cP_direction 0 = .ok ((.iload_n 0), 1) := by decide +kernel
theorem dP_direction_1 : decode cP_direction 1 = .ok ((.iconst 2), 1) := by decide +kernel
theorem dP_direction_2 : decode cP_direction 2 = .ok (.irem, 1) := by decide +kernel
theorem dP_direction_3 : decode cP_direction 3 = .ok ((.ifCond .ne 7), 3) := by decide +kernel
theorem dP_direction_6 : decode cP_direction 6 = .ok ((.iconst 1), 1) := by decide +kernel
theorem dP_direction_7 : decode cP_direction 7 = .ok ((.goto 4), 3) := by decide +kernel
theorem dP_direction_10 : decode cP_direction 10 = .ok ((.iconst (-1)), 1) := by decide +kernel
theorem dP_direction_11 : decode cP_direction 11 = .ok (.ireturn, 1) := by decide +kernel
theorem dP_segmentLength_0 : decode cP_segmentLength 0 = .ok ((.aload_n 0), 1) := by decide +kernel
theorem dP_segmentLength_1 : decode cP_segmentLength 1 = .ok ((.iload_n 1), 1) := by decide +kernel
theorem dP_segmentLength_2 : decode cP_segmentLength 2 = .ok ((.invokevirtual 75), 3) := by decide +kernel
theorem dP_segmentLength_5 : decode cP_segmentLength 5 = .ok ((.aload_n 0), 1) := by decide +kernel
theorem dP_segmentLength_6 : decode cP_segmentLength 6 = .ok ((.iload_n 1), 1) := by decide +kernel
theorem dP_segmentLength_7 : decode cP_segmentLength 7 = .ok ((.invokevirtual 78), 3) := by decide +kernel
theorem dP_segmentLength_10 : decode cP_segmentLength 10 = .ok (.isub, 1) := by decide +kernel
theorem dP_segmentLength_11 : decode cP_segmentLength 11 = .ok (.ireturn, 1) := by decide +kernel
theorem dP_rightEnd_0 : decode cP_rightEnd 0 = .ok ((.iload_n 1), 1) := by decide +kernel
theorem dP_rightEnd_1 : decode cP_rightEnd 1 = .ok ((.aload_n 0), 1) := by decide +kernel
theorem dP_rightEnd_2 : decode cP_rightEnd 2 = .ok ((.getfield 35), 3) := by decide +kernel
theorem dP_rightEnd_5 : decode cP_rightEnd 5 = .ok ((.if_icmp .ge 12), 3) := by decide +kernel
theorem dP_rightEnd_8 : decode cP_rightEnd 8 = .ok ((.aload_n 0), 1) := by decide +kernel
theorem dP_rightEnd_9 : decode cP_rightEnd 9 = .ok ((.getfield 9), 3) := by decide +kernel
theorem dP_rightEnd_12 : decode cP_rightEnd 12 = .ok ((.iload_n 1), 1) := by decide +kernel
theorem dP_rightEnd_13 : decode cP_rightEnd 13 = .ok (.iaload, 1) := by decide +kernel
theorem dP_rightEnd_14 : decode cP_rightEnd 14 = .ok ((.goto 7), 3) := by decide +kernel
theorem dP_rightEnd_17 : decode cP_rightEnd 17 = .ok ((.aload_n 0), 1) := by decide +kernel
theorem dP_rightEnd_18 : decode cP_rightEnd 18 = .ok ((.getfield 31), 3) := by decide +kernel
theorem dP_rightEnd_21 : decode cP_rightEnd 21 = .ok (.ireturn, 1) := by decide +kernel
theorem dP_leftEnd_0 : decode cP_leftEnd 0 = .ok ((.iload_n 1), 1) := by decide +kernel
theorem dP_leftEnd_1 : decode cP_leftEnd 1 = .ok ((.ifCond .ne 7), 3) := by decide +kernel
theorem dP_leftEnd_4 : decode cP_leftEnd 4 = .ok ((.iconst 0), 1) := by decide +kernel
theorem dP_leftEnd_5 : decode cP_leftEnd 5 = .ok ((.goto 11), 3) := by decide +kernel
theorem dP_leftEnd_8 : decode cP_leftEnd 8 = .ok ((.aload_n 0), 1) := by decide +kernel
theorem dP_leftEnd_9 : decode cP_leftEnd 9 = .ok ((.getfield 9), 3) := by decide +kernel
theorem dP_leftEnd_12 : decode cP_leftEnd 12 = .ok ((.iload_n 1), 1) := by decide +kernel
theorem dP_leftEnd_13 : decode cP_leftEnd 13 = .ok ((.iconst 1), 1) := by decide +kernel
theorem dP_leftEnd_14 : decode cP_leftEnd 14 = .ok (.isub, 1) := by decide +kernel
theorem dP_leftEnd_15 : decode cP_leftEnd 15 = .ok (.iaload, 1) := by decide +kernel
theorem dP_leftEnd_16 : decode cP_leftEnd 16 = .ok (.ireturn, 1) := by decide +kernel
theorem dP_turnOver_0 : decode cP_turnOver 0 = .ok ((.aload_n 0), 1) := by decide +kernel
theorem dP_turnOver_1 : decode cP_turnOver 1 = .ok ((.aload_n 0), 1) := by decide +kernel
theorem dP_turnOver_2 : decode cP_turnOver 2 = .ok ((.getfield 38), 3) := by decide +kernel
theorem dP_turnOver_5 : decode cP_turnOver 5 = .ok ((.ifCond .ne 7), 3) := by decide +kernel
theorem dP_turnOver_8 : decode cP_turnOver 8 = .ok ((.iconst 1), 1) := by decide +kernel
theorem dP_turnOver_9 : decode cP_turnOver 9 = .ok ((.goto 4), 3) := by decide +kernel
theorem dP_turnOver_12 : decode cP_turnOver 12 = .ok ((.iconst 0), 1) := by decide +kernel
theorem dP_turnOver_13 : decode cP_turnOver 13 = .ok ((.putfield 38), 3) := by decide +kernel
theorem dP_turnOver_16 : decode cP_turnOver 16 = .ok (.return_, 1) := by decide +kernel
theorem dP_freeCreases_0 : decode cP_freeCreases 0 = .ok ((.iconst 0), 1) := by decide +kernel
theorem dP_freeCreases_1 : decode cP_freeCreases 1 = .ok ((.istore_n 1), 1) := by decide +kernel
theorem dP_freeCreases_2 : decode cP_freeCreases 2 = .ok ((.iconst 0), 1) := by decide +kernel
theorem dP_freeCreases_3 : decode cP_freeCreases 3 = .ok ((.istore_n 2), 1) := by decide +kernel
theorem dP_freeCreases_4 : decode cP_freeCreases 4 = .ok ((.iload_n 2), 1) := by decide +kernel
theorem dP_freeCreases_5 : decode cP_freeCreases 5 = .ok ((.aload_n 0), 1) := by decide +kernel
theorem dP_freeCreases_6 : decode cP_freeCreases 6 = .ok ((.getfield 35), 3) := by decide +kernel
theorem dP_freeCreases_9 : decode cP_freeCreases 9 = .ok ((.if_icmp .ge 21), 3) := by decide +kernel
theorem dP_freeCreases_12 : decode cP_freeCreases 12 = .ok ((.aload_n 0), 1) := by decide +kernel
theorem dP_freeCreases_13 : decode cP_freeCreases 13 = .ok ((.getfield 15), 3) := by decide +kernel
theorem dP_freeCreases_16 : decode cP_freeCreases 16 = .ok ((.iload_n 2), 1) := by decide +kernel
theorem dP_freeCreases_17 : decode cP_freeCreases 17 = .ok (.iaload, 1) := by decide +kernel
theorem dP_freeCreases_18 : decode cP_freeCreases 18 = .ok ((.ifCond .ne 6), 3) := by decide +kernel
theorem dP_freeCreases_21 : decode cP_freeCreases 21 = .ok ((.iinc 1 1), 3) := by decide +kernel
theorem dP_freeCreases_24 : decode cP_freeCreases 24 = .ok ((.iinc 2 1), 3) := by decide +kernel
theorem dP_freeCreases_27 : decode cP_freeCreases 27 = .ok ((.goto (-23)), 3) := by decide +kernel
theorem dP_freeCreases_30 : decode cP_freeCreases 30 = .ok ((.iload_n 1), 1) := by decide +kernel
theorem dP_freeCreases_31 : decode cP_freeCreases 31 = .ok (.ireturn, 1) := by decide +kernel
theorem dP_reach_0 : decode cP_reach 0 = .ok ((.aload_n 0), 1) := by decide +kernel
theorem dP_reach_1 : decode cP_reach 1 = .ok ((.getfield 18), 3) := by decide +kernel
theorem dP_reach_4 : decode cP_reach 4 = .ok ((.iconst 0), 1) := by decide +kernel
theorem dP_reach_5 : decode cP_reach 5 = .ok (.iaload, 1) := by decide +kernel
theorem dP_reach_6 : decode cP_reach 6 = .ok ((.istore_n 1), 1) := by decide +kernel
theorem dP_reach_7 : decode cP_reach 7 = .ok ((.aload_n 0), 1) := by decide +kernel
theorem dP_reach_8 : decode cP_reach 8 = .ok ((.getfield 18), 3) := by decide +kernel
theorem dP_reach_11 : decode cP_reach 11 = .ok ((.iconst 0), 1) := by decide +kernel
theorem dP_reach_12 : decode cP_reach 12 = .ok (.iaload, 1) := by decide +kernel
theorem dP_reach_13 : decode cP_reach 13 = .ok ((.istore_n 2), 1) := by decide +kernel
theorem dP_reach_14 : decode cP_reach 14 = .ok ((.iconst 1), 1) := by decide +kernel
theorem dP_reach_15 : decode cP_reach 15 = .ok ((.istore_n 3), 1) := by decide +kernel
theorem dP_reach_16 : decode cP_reach 16 = .ok ((.iload_n 3), 1) := by decide +kernel
theorem dP_reach_17 : decode cP_reach 17 = .ok ((.aload_n 0), 1) := by decide +kernel
theorem dP_reach_18 : decode cP_reach 18 = .ok ((.invokevirtual 81), 3) := by decide +kernel
theorem dP_reach_21 : decode cP_reach 21 = .ok ((.if_icmp .gt 31), 3) := by decide +kernel
theorem dP_reach_24 : decode cP_reach 24 = .ok ((.iload_n 1), 1) := by decide +kernel
theorem dP_reach_25 : decode cP_reach 25 = .ok ((.aload_n 0), 1) := by decide +kernel
theorem dP_reach_26 : decode cP_reach 26 = .ok ((.getfield 18), 3) := by decide +kernel
theorem dP_reach_29 : decode cP_reach 29 = .ok ((.iload_n 3), 1) := by decide +kernel
theorem dP_reach_30 : decode cP_reach 30 = .ok (.iaload, 1) := by decide +kernel
theorem dP_reach_31 : decode cP_reach 31 = .ok ((.invokestatic 66), 3) := by decide +kernel
theorem dP_reach_34 : decode cP_reach 34 = .ok ((.istore_n 1), 1) := by decide +kernel
theorem dP_reach_35 : decode cP_reach 35 = .ok ((.iload_n 2), 1) := by decide +kernel
theorem dP_reach_36 : decode cP_reach 36 = .ok ((.aload_n 0), 1) := by decide +kernel
theorem dP_reach_37 : decode cP_reach 37 = .ok ((.getfield 18), 3) := by decide +kernel
theorem dP_reach_40 : decode cP_reach 40 = .ok ((.iload_n 3), 1) := by decide +kernel
theorem dP_reach_41 : decode cP_reach 41 = .ok (.iaload, 1) := by decide +kernel
theorem dP_reach_42 : decode cP_reach 42 = .ok ((.invokestatic 72), 3) := by decide +kernel
theorem dP_reach_45 : decode cP_reach 45 = .ok ((.istore_n 2), 1) := by decide +kernel
theorem dP_reach_46 : decode cP_reach 46 = .ok ((.iinc 3 1), 3) := by decide +kernel
theorem dP_reach_49 : decode cP_reach 49 = .ok ((.goto (-33)), 3) := by decide +kernel
theorem dP_reach_52 : decode cP_reach 52 = .ok ((.iload_n 2), 1) := by decide +kernel
theorem dP_reach_53 : decode cP_reach 53 = .ok ((.iload_n 1), 1) := by decide +kernel
theorem dP_reach_54 : decode cP_reach 54 = .ok (.isub, 1) := by decide +kernel
theorem dP_reach_55 : decode cP_reach 55 = .ok (.ireturn, 1) := by decide +kernel
theorem dP_segments_0 : decode cP_segments 0 = .ok ((.aload_n 0), 1) := by decide +kernel
theorem dP_segments_1 : decode cP_segments 1 = .ok ((.getfield 35), 3) := by decide +kernel
theorem dP_segments_4 : decode cP_segments 4 = .ok ((.iconst 1), 1) := by decide +kernel
theorem dP_segments_5 : decode cP_segments 5 = .ok (.iadd, 1) := by decide +kernel
theorem dP_segments_6 : decode cP_segments 6 = .ok (.ireturn, 1) := by decide +kernel
theorem dP_mostImages_0 : decode cP_mostImages 0 = .ok ((.iconst 0), 1) := by decide +kernel
theorem dP_mostImages_1 : decode cP_mostImages 1 = .ok ((.istore_n 1), 1) := by decide +kernel
theorem dP_mostImages_2 : decode cP_mostImages 2 = .ok ((.iconst 0), 1) := by decide +kernel
theorem dP_mostImages_3 : decode cP_mostImages 3 = .ok ((.istore_n 2), 1) := by decide +kernel
theorem dP_mostImages_4 : decode cP_mostImages 4 = .ok ((.iload_n 2), 1) := by decide +kernel
theorem dP_mostImages_5 : decode cP_mostImages 5 = .ok ((.aload_n 0), 1) := by decide +kernel
theorem dP_mostImages_6 : decode cP_mostImages 6 = .ok ((.getfield 35), 3) := by decide +kernel
theorem dP_mostImages_9 : decode cP_mostImages 9 = .ok ((.if_icmp .gt 24), 3) := by decide +kernel
theorem dP_mostImages_12 : decode cP_mostImages 12 = .ok ((.iload_n 1), 1) := by decide +kernel
theorem dP_mostImages_13 : decode cP_mostImages 13 = .ok ((.aload_n 0), 1) := by decide +kernel
theorem dP_mostImages_14 : decode cP_mostImages 14 = .ok ((.aload_n 0), 1) := by decide +kernel
theorem dP_mostImages_15 : decode cP_mostImages 15 = .ok ((.getfield 21), 3) := by decide +kernel
theorem dP_mostImages_18 : decode cP_mostImages 18 = .ok ((.iload_n 2), 1) := by decide +kernel
theorem dP_mostImages_19 : decode cP_mostImages 19 = .ok (.iaload, 1) := by decide +kernel
theorem dP_mostImages_20 : decode cP_mostImages 20 = .ok ((.invokevirtual 85), 3) := by decide +kernel
theorem dP_mostImages_23 : decode cP_mostImages 23 = .ok ((.invokestatic 72), 3) := by decide +kernel
theorem dP_mostImages_26 : decode cP_mostImages 26 = .ok ((.istore_n 1), 1) := by decide +kernel
theorem dP_mostImages_27 : decode cP_mostImages 27 = .ok ((.iinc 2 1), 3) := by decide +kernel
theorem dP_mostImages_30 : decode cP_mostImages 30 = .ok ((.goto (-26)), 3) := by decide +kernel
theorem dP_mostImages_33 : decode cP_mostImages 33 = .ok ((.iload_n 1), 1) := by decide +kernel
theorem dP_mostImages_34 : decode cP_mostImages 34 = .ok (.ireturn, 1) := by decide +kernel
theorem dP_imagesOver_0 : decode cP_imagesOver 0 = .ok ((.iconst 0), 1) := by decide +kernel
theorem dP_imagesOver_1 : decode cP_imagesOver 1 = .ok ((.istore_n 2), 1) := by decide +kernel
theorem dP_imagesOver_2 : decode cP_imagesOver 2 = .ok ((.iconst 0), 1) := by decide +kernel
theorem dP_imagesOver_3 : decode cP_imagesOver 3 = .ok ((.istore_n 3), 1) := by decide +kernel
theorem dP_imagesOver_4 : decode cP_imagesOver 4 = .ok ((.iload_n 3), 1) := by decide +kernel
theorem dP_imagesOver_5 : decode cP_imagesOver 5 = .ok ((.aload_n 0), 1) := by decide +kernel
theorem dP_imagesOver_6 : decode cP_imagesOver 6 = .ok ((.getfield 35), 3) := by decide +kernel
theorem dP_imagesOver_9 : decode cP_imagesOver 9 = .ok ((.if_icmp .gt 21), 3) := by decide +kernel
theorem dP_imagesOver_12 : decode cP_imagesOver 12 = .ok ((.aload_n 0), 1) := by decide +kernel
theorem dP_imagesOver_13 : decode cP_imagesOver 13 = .ok ((.iload_n 3), 1) := by decide +kernel
theorem dP_imagesOver_14 : decode cP_imagesOver 14 = .ok ((.iload_n 1), 1) := by decide +kernel
theorem dP_imagesOver_15 : decode cP_imagesOver 15 = .ok ((.invokevirtual 88), 3) := by decide +kernel
theorem dP_imagesOver_18 : decode cP_imagesOver 18 = .ok ((.ifCond .eq 6), 3) := by decide +kernel
theorem dP_imagesOver_21 : decode cP_imagesOver 21 = .ok ((.iinc 2 1), 3) := by decide +kernel
theorem dP_imagesOver_24 : decode cP_imagesOver 24 = .ok ((.iinc 3 1), 3) := by decide +kernel
theorem dP_imagesOver_27 : decode cP_imagesOver 27 = .ok ((.goto (-23)), 3) := by decide +kernel
theorem dP_imagesOver_30 : decode cP_imagesOver 30 = .ok ((.iload_n 2), 1) := by decide +kernel
theorem dP_imagesOver_31 : decode cP_imagesOver 31 = .ok (.ireturn, 1) := by decide +kernel
theorem dP_liesOver_0 : decode cP_liesOver 0 = .ok ((.aload_n 0), 1) := by decide +kernel
theorem dP_liesOver_1 : decode cP_liesOver 1 = .ok ((.getfield 21), 3) := by decide +kernel
theorem dP_liesOver_4 : decode cP_liesOver 4 = .ok ((.iload_n 1), 1) := by decide +kernel
theorem dP_liesOver_5 : decode cP_liesOver 5 = .ok (.iaload, 1) := by decide +kernel
theorem dP_liesOver_6 : decode cP_liesOver 6 = .ok ((.iload_n 2), 1) := by decide +kernel
theorem dP_liesOver_7 : decode cP_liesOver 7 = .ok ((.if_icmp .gt 17), 3) := by decide +kernel
theorem dP_liesOver_10 : decode cP_liesOver 10 = .ok ((.iload_n 2), 1) := by decide +kernel
theorem dP_liesOver_11 : decode cP_liesOver 11 = .ok ((.aload_n 0), 1) := by decide +kernel
theorem dP_liesOver_12 : decode cP_liesOver 12 = .ok ((.getfield 24), 3) := by decide +kernel
theorem dP_liesOver_15 : decode cP_liesOver 15 = .ok ((.iload_n 1), 1) := by decide +kernel
theorem dP_liesOver_16 : decode cP_liesOver 16 = .ok (.iaload, 1) := by decide +kernel
theorem dP_liesOver_17 : decode cP_liesOver 17 = .ok ((.if_icmp .ge 7), 3) := by decide +kernel
theorem dP_liesOver_20 : decode cP_liesOver 20 = .ok ((.iconst 1), 1) := by decide +kernel
theorem dP_liesOver_21 : decode cP_liesOver 21 = .ok ((.goto 4), 3) := by decide +kernel
theorem dP_liesOver_24 : decode cP_liesOver 24 = .ok ((.iconst 0), 1) := by decide +kernel
theorem dP_liesOver_25 : decode cP_liesOver 25 = .ok (.ireturn, 1) := by decide +kernel
theorem dP_overlap_0 : decode cP_overlap 0 = .ok ((.aload_n 0), 1) := by decide +kernel
theorem dP_overlap_1 : decode cP_overlap 1 = .ok ((.getfield 21), 3) := by decide +kernel
theorem dP_overlap_4 : decode cP_overlap 4 = .ok ((.iload_n 1), 1) := by decide +kernel
theorem dP_overlap_5 : decode cP_overlap 5 = .ok (.iaload, 1) := by decide +kernel
theorem dP_overlap_6 : decode cP_overlap 6 = .ok ((.aload_n 0), 1) := by decide +kernel
theorem dP_overlap_7 : decode cP_overlap 7 = .ok ((.getfield 24), 3) := by decide +kernel
theorem dP_overlap_10 : decode cP_overlap 10 = .ok ((.iload_n 2), 1) := by decide +kernel
theorem dP_overlap_11 : decode cP_overlap 11 = .ok (.iaload, 1) := by decide +kernel
theorem dP_overlap_12 : decode cP_overlap 12 = .ok ((.if_icmp .ge 22), 3) := by decide +kernel
theorem dP_overlap_15 : decode cP_overlap 15 = .ok ((.aload_n 0), 1) := by decide +kernel
theorem dP_overlap_16 : decode cP_overlap 16 = .ok ((.getfield 21), 3) := by decide +kernel
theorem dP_overlap_19 : decode cP_overlap 19 = .ok ((.iload_n 2), 1) := by decide +kernel
theorem dP_overlap_20 : decode cP_overlap 20 = .ok (.iaload, 1) := by decide +kernel
theorem dP_overlap_21 : decode cP_overlap 21 = .ok ((.aload_n 0), 1) := by decide +kernel
theorem dP_overlap_22 : decode cP_overlap 22 = .ok ((.getfield 24), 3) := by decide +kernel
theorem dP_overlap_25 : decode cP_overlap 25 = .ok ((.iload_n 1), 1) := by decide +kernel
theorem dP_overlap_26 : decode cP_overlap 26 = .ok (.iaload, 1) := by decide +kernel
theorem dP_overlap_27 : decode cP_overlap 27 = .ok ((.if_icmp .ge 7), 3) := by decide +kernel
theorem dP_overlap_30 : decode cP_overlap 30 = .ok ((.iconst 1), 1) := by decide +kernel
theorem dP_overlap_31 : decode cP_overlap 31 = .ok ((.goto 4), 3) := by decide +kernel
theorem dP_overlap_34 : decode cP_overlap 34 = .ok ((.iconst 0), 1) := by decide +kernel
theorem dP_overlap_35 : decode cP_overlap 35 = .ok (.ireturn, 1) := by decide +kernel
theorem dP_frontUp_0 : decode cP_frontUp 0 = .ok ((.iload_n 1), 1) := by decide +kernel
theorem dP_frontUp_1 : decode cP_frontUp 1 = .ok ((.iconst 2), 1) := by decide +kernel
theorem dP_frontUp_2 : decode cP_frontUp 2 = .ok (.irem, 1) := by decide +kernel
theorem dP_frontUp_3 : decode cP_frontUp 3 = .ok ((.ifCond .ne 7), 3) := by decide +kernel
theorem dP_frontUp_6 : decode cP_frontUp 6 = .ok ((.iconst 1), 1) := by decide +kernel
theorem dP_frontUp_7 : decode cP_frontUp 7 = .ok ((.goto 4), 3) := by decide +kernel
theorem dP_frontUp_10 : decode cP_frontUp 10 = .ok ((.iconst 0), 1) := by decide +kernel
theorem dP_frontUp_11 : decode cP_frontUp 11 = .ok ((.aload_n 0), 1) := by decide +kernel
theorem dP_frontUp_12 : decode cP_frontUp 12 = .ok ((.getfield 38), 3) := by decide +kernel
theorem dP_frontUp_15 : decode cP_frontUp 15 = .ok ((.if_icmp .eq 7), 3) := by decide +kernel
theorem dP_frontUp_18 : decode cP_frontUp 18 = .ok ((.iconst 1), 1) := by decide +kernel
theorem dP_frontUp_19 : decode cP_frontUp 19 = .ok ((.goto 4), 3) := by decide +kernel
theorem dP_frontUp_22 : decode cP_frontUp 22 = .ok ((.iconst 0), 1) := by decide +kernel
theorem dP_frontUp_23 : decode cP_frontUp 23 = .ok (.ireturn, 1) := by decide +kernel
theorem dP_foldedCrease_0 : decode cP_foldedCrease 0 = .ok ((.aload_n 0), 1) := by decide +kernel
theorem dP_foldedCrease_1 : decode cP_foldedCrease 1 = .ok ((.getfield 18), 3) := by decide +kernel
theorem dP_foldedCrease_4 : decode cP_foldedCrease 4 = .ok ((.iload_n 1), 1) := by decide +kernel
theorem dP_foldedCrease_5 : decode cP_foldedCrease 5 = .ok ((.iconst 1), 1) := by decide +kernel
theorem dP_foldedCrease_6 : decode cP_foldedCrease 6 = .ok (.iadd, 1) := by decide +kernel
theorem dP_foldedCrease_7 : decode cP_foldedCrease 7 = .ok (.iaload, 1) := by decide +kernel
theorem dP_foldedCrease_8 : decode cP_foldedCrease 8 = .ok (.ireturn, 1) := by decide +kernel
theorem dP_hasInside_0 : decode cP_hasInside 0 = .ok ((.aload_n 0), 1) := by decide +kernel
theorem dP_hasInside_1 : decode cP_hasInside 1 = .ok ((.getfield 21), 3) := by decide +kernel
theorem dP_hasInside_4 : decode cP_hasInside 4 = .ok ((.iload_n 1), 1) := by decide +kernel
theorem dP_hasInside_5 : decode cP_hasInside 5 = .ok (.iaload, 1) := by decide +kernel
theorem dP_hasInside_6 : decode cP_hasInside 6 = .ok ((.iload_n 2), 1) := by decide +kernel
theorem dP_hasInside_7 : decode cP_hasInside 7 = .ok ((.if_icmp .ge 17), 3) := by decide +kernel
theorem dP_hasInside_10 : decode cP_hasInside 10 = .ok ((.iload_n 2), 1) := by decide +kernel
theorem dP_hasInside_11 : decode cP_hasInside 11 = .ok ((.aload_n 0), 1) := by decide +kernel
theorem dP_hasInside_12 : decode cP_hasInside 12 = .ok ((.getfield 24), 3) := by decide +kernel
theorem dP_hasInside_15 : decode cP_hasInside 15 = .ok ((.iload_n 1), 1) := by decide +kernel
theorem dP_hasInside_16 : decode cP_hasInside 16 = .ok (.iaload, 1) := by decide +kernel
theorem dP_hasInside_17 : decode cP_hasInside 17 = .ok ((.if_icmp .ge 7), 3) := by decide +kernel
theorem dP_hasInside_20 : decode cP_hasInside 20 = .ok ((.iconst 1), 1) := by decide +kernel
theorem dP_hasInside_21 : decode cP_hasInside 21 = .ok ((.goto 4), 3) := by decide +kernel
theorem dP_hasInside_24 : decode cP_hasInside 24 = .ok ((.iconst 0), 1) := by decide +kernel
theorem dP_hasInside_25 : decode cP_hasInside 25 = .ok (.ireturn, 1) := by decide +kernel
theorem dP_judgeCrease_0 : decode cP_judgeCrease 0 = .ok ((.iload_n 1), 1) := by decide +kernel
theorem dP_judgeCrease_1 : decode cP_judgeCrease 1 = .ok ((.iconst 1), 1) := by decide +kernel
theorem dP_judgeCrease_2 : decode cP_judgeCrease 2 = .ok ((.if_icmp .lt 20), 3) := by decide +kernel
theorem dP_judgeCrease_5 : decode cP_judgeCrease 5 = .ok ((.iload_n 1), 1) := by decide +kernel
theorem dP_judgeCrease_6 : decode cP_judgeCrease 6 = .ok ((.aload_n 0), 1) := by decide +kernel
theorem dP_judgeCrease_7 : decode cP_judgeCrease 7 = .ok ((.getfield 31), 3) := by decide +kernel
theorem dP_judgeCrease_10 : decode cP_judgeCrease 10 = .ok ((.if_icmp .ge 12), 3) := by decide +kernel
theorem dP_judgeCrease_13 : decode cP_judgeCrease 13 = .ok ((.iload_n 2), 1) := by decide +kernel
theorem dP_judgeCrease_14 : decode cP_judgeCrease 14 = .ok ((.ifCond .lt 8), 3) := by decide +kernel
theorem dP_judgeCrease_17 : decode cP_judgeCrease 17 = .ok ((.iload_n 2), 1) := by decide +kernel
theorem dP_judgeCrease_18 : decode cP_judgeCrease 18 = .ok ((.iconst 3), 1) := by decide +kernel
theorem dP_judgeCrease_19 : decode cP_judgeCrease 19 = .ok ((.if_icmp .le 5), 3) := by decide +kernel
theorem dP_judgeCrease_22 : decode cP_judgeCrease 22 = .ok ((.iconst 1), 1) := by decide +kernel
theorem dP_judgeCrease_23 : decode cP_judgeCrease 23 = .ok (.ireturn, 1) := by decide +kernel
theorem dP_judgeCrease_24 : decode cP_judgeCrease 24 = .ok ((.aload_n 0), 1) := by decide +kernel
theorem dP_judgeCrease_25 : decode cP_judgeCrease 25 = .ok ((.iload_n 1), 1) := by decide +kernel
theorem dP_judgeCrease_26 : decode cP_judgeCrease 26 = .ok ((.invokevirtual 45), 3) := by decide +kernel
theorem dP_judgeCrease_29 : decode cP_judgeCrease 29 = .ok ((.ifCond .eq 5), 3) := by decide +kernel
theorem dP_judgeCrease_32 : decode cP_judgeCrease 32 = .ok ((.iconst 0), 1) := by decide +kernel
theorem dP_judgeCrease_33 : decode cP_judgeCrease 33 = .ok (.ireturn, 1) := by decide +kernel
theorem dP_judgeCrease_34 : decode cP_judgeCrease 34 = .ok ((.iload_n 2), 1) := by decide +kernel
theorem dP_judgeCrease_35 : decode cP_judgeCrease 35 = .ok ((.iconst 3), 1) := by decide +kernel
theorem dP_judgeCrease_36 : decode cP_judgeCrease 36 = .ok ((.if_icmp .ne 5), 3) := by decide +kernel
theorem dP_judgeCrease_39 : decode cP_judgeCrease 39 = .ok ((.iconst 1), 1) := by decide +kernel
theorem dP_judgeCrease_40 : decode cP_judgeCrease 40 = .ok (.ireturn, 1) := by decide +kernel
theorem dP_judgeCrease_41 : decode cP_judgeCrease 41 = .ok ((.aload_n 0), 1) := by decide +kernel
theorem dP_judgeCrease_42 : decode cP_judgeCrease 42 = .ok ((.getfield 35), 3) := by decide +kernel
theorem dP_judgeCrease_45 : decode cP_judgeCrease 45 = .ok ((.bipush 6), 2) := by decide +kernel
theorem dP_judgeCrease_47 : decode cP_judgeCrease 47 = .ok ((.if_icmp .ge 7), 3) := by decide +kernel
theorem dP_judgeCrease_50 : decode cP_judgeCrease 50 = .ok ((.iconst 0), 1) := by decide +kernel
theorem dP_judgeCrease_51 : decode cP_judgeCrease 51 = .ok ((.goto 4), 3) := by decide +kernel
theorem dP_judgeCrease_54 : decode cP_judgeCrease 54 = .ok ((.iconst 2), 1) := by decide +kernel
theorem dP_judgeCrease_55 : decode cP_judgeCrease 55 = .ok (.ireturn, 1) := by decide +kernel
theorem dP_hasCreaseAt_0 : decode cP_hasCreaseAt 0 = .ok ((.aload_n 0), 1) := by decide +kernel
theorem dP_hasCreaseAt_1 : decode cP_hasCreaseAt 1 = .ok ((.iload_n 1), 1) := by decide +kernel
theorem dP_hasCreaseAt_2 : decode cP_hasCreaseAt 2 = .ok ((.invokevirtual 49), 3) := by decide +kernel
theorem dP_hasCreaseAt_5 : decode cP_hasCreaseAt 5 = .ok ((.istore_n 2), 1) := by decide +kernel
theorem dP_hasCreaseAt_6 : decode cP_hasCreaseAt 6 = .ok ((.iload_n 2), 1) := by decide +kernel
theorem dP_hasCreaseAt_7 : decode cP_hasCreaseAt 7 = .ok ((.aload_n 0), 1) := by decide +kernel
theorem dP_hasCreaseAt_8 : decode cP_hasCreaseAt 8 = .ok ((.getfield 35), 3) := by decide +kernel
theorem dP_hasCreaseAt_11 : decode cP_hasCreaseAt 11 = .ok ((.if_icmp .ge 17), 3) := by decide +kernel
theorem dP_hasCreaseAt_14 : decode cP_hasCreaseAt 14 = .ok ((.aload_n 0), 1) := by decide +kernel
theorem dP_hasCreaseAt_15 : decode cP_hasCreaseAt 15 = .ok ((.getfield 9), 3) := by decide +kernel
theorem dP_hasCreaseAt_18 : decode cP_hasCreaseAt 18 = .ok ((.iload_n 2), 1) := by decide +kernel
theorem dP_hasCreaseAt_19 : decode cP_hasCreaseAt 19 = .ok (.iaload, 1) := by decide +kernel
theorem dP_hasCreaseAt_20 : decode cP_hasCreaseAt 20 = .ok ((.iload_n 1), 1) := by decide +kernel
theorem dP_hasCreaseAt_21 : decode cP_hasCreaseAt 21 = .ok ((.if_icmp .ne 7), 3) := by decide +kernel
theorem dP_hasCreaseAt_24 : decode cP_hasCreaseAt 24 = .ok ((.iconst 1), 1) := by decide +kernel
theorem dP_hasCreaseAt_25 : decode cP_hasCreaseAt 25 = .ok ((.goto 4), 3) := by decide +kernel
theorem dP_hasCreaseAt_28 : decode cP_hasCreaseAt 28 = .ok ((.iconst 0), 1) := by decide +kernel
theorem dP_hasCreaseAt_29 : decode cP_hasCreaseAt 29 = .ok (.ireturn, 1) := by decide +kernel
theorem dP_creasesBefore_0 : decode cP_creasesBefore 0 = .ok ((.iconst 0), 1) := by decide +kernel
theorem dP_creasesBefore_1 : decode cP_creasesBefore 1 = .ok ((.istore_n 2), 1) := by decide +kernel
theorem dP_creasesBefore_2 : decode cP_creasesBefore 2 = .ok ((.iload_n 2), 1) := by decide +kernel
theorem dP_creasesBefore_3 : decode cP_creasesBefore 3 = .ok ((.aload_n 0), 1) := by decide +kernel
theorem dP_creasesBefore_4 : decode cP_creasesBefore 4 = .ok ((.getfield 35), 3) := by decide +kernel
theorem dP_creasesBefore_7 : decode cP_creasesBefore 7 = .ok ((.if_icmp .ge 19), 3) := by decide +kernel
theorem dP_creasesBefore_10 : decode cP_creasesBefore 10 = .ok ((.aload_n 0), 1) := by decide +kernel
theorem dP_creasesBefore_11 : decode cP_creasesBefore 11 = .ok ((.getfield 9), 3) := by decide +kernel
theorem dP_creasesBefore_14 : decode cP_creasesBefore 14 = .ok ((.iload_n 2), 1) := by decide +kernel
theorem dP_creasesBefore_15 : decode cP_creasesBefore 15 = .ok (.iaload, 1) := by decide +kernel
theorem dP_creasesBefore_16 : decode cP_creasesBefore 16 = .ok ((.iload_n 1), 1) := by decide +kernel
theorem dP_creasesBefore_17 : decode cP_creasesBefore 17 = .ok ((.if_icmp .ge 9), 3) := by decide +kernel
theorem dP_creasesBefore_20 : decode cP_creasesBefore 20 = .ok ((.iinc 2 1), 3) := by decide +kernel
theorem dP_creasesBefore_23 : decode cP_creasesBefore 23 = .ok ((.goto (-21)), 3) := by decide +kernel
theorem dP_creasesBefore_26 : decode cP_creasesBefore 26 = .ok ((.iload_n 2), 1) := by decide +kernel
theorem dP_creasesBefore_27 : decode cP_creasesBefore 27 = .ok (.ireturn, 1) := by decide +kernel
theorem dP_setCrease_0 : decode cP_setCrease 0 = .ok ((.aload_n 0), 1) := by decide +kernel
theorem dP_setCrease_1 : decode cP_setCrease 1 = .ok ((.iload_n 1), 1) := by decide +kernel
theorem dP_setCrease_2 : decode cP_setCrease 2 = .ok ((.invokevirtual 49), 3) := by decide +kernel
theorem dP_setCrease_5 : decode cP_setCrease 5 = .ok ((.istore_n 3), 1) := by decide +kernel
theorem dP_setCrease_6 : decode cP_setCrease 6 = .ok ((.iload_n 2), 1) := by decide +kernel
theorem dP_setCrease_7 : decode cP_setCrease 7 = .ok ((.iconst 3), 1) := by decide +kernel
theorem dP_setCrease_8 : decode cP_setCrease 8 = .ok ((.if_icmp .ne 11), 3) := by decide +kernel
theorem dP_setCrease_11 : decode cP_setCrease 11 = .ok ((.aload_n 0), 1) := by decide +kernel
theorem dP_setCrease_12 : decode cP_setCrease 12 = .ok ((.iload_n 3), 1) := by decide +kernel
theorem dP_setCrease_13 : decode cP_setCrease 13 = .ok ((.invokevirtual 53), 3) := by decide +kernel
theorem dP_setCrease_16 : decode cP_setCrease 16 = .ok ((.goto 28), 3) := by decide +kernel
theorem dP_setCrease_19 : decode cP_setCrease 19 = .ok ((.aload_n 0), 1) := by decide +kernel
theorem dP_setCrease_20 : decode cP_setCrease 20 = .ok ((.iload_n 1), 1) := by decide +kernel
theorem dP_setCrease_21 : decode cP_setCrease 21 = .ok ((.invokevirtual 45), 3) := by decide +kernel
theorem dP_setCrease_24 : decode cP_setCrease 24 = .ok ((.ifCond .eq 13), 3) := by decide +kernel
theorem dP_setCrease_27 : decode cP_setCrease 27 = .ok ((.aload_n 0), 1) := by decide +kernel
theorem dP_setCrease_28 : decode cP_setCrease 28 = .ok ((.getfield 15), 3) := by decide +kernel
theorem dP_setCrease_31 : decode cP_setCrease 31 = .ok ((.iload_n 3), 1) := by decide +kernel
theorem dP_setCrease_32 : decode cP_setCrease 32 = .ok ((.iload_n 2), 1) := by decide +kernel
theorem dP_setCrease_33 : decode cP_setCrease 33 = .ok (.iastore, 1) := by decide +kernel
theorem dP_setCrease_34 : decode cP_setCrease 34 = .ok ((.goto 10), 3) := by decide +kernel
theorem dP_setCrease_37 : decode cP_setCrease 37 = .ok ((.aload_n 0), 1) := by decide +kernel
theorem dP_setCrease_38 : decode cP_setCrease 38 = .ok ((.iload_n 3), 1) := by decide +kernel
theorem dP_setCrease_39 : decode cP_setCrease 39 = .ok ((.iload_n 1), 1) := by decide +kernel
theorem dP_setCrease_40 : decode cP_setCrease 40 = .ok ((.iload_n 2), 1) := by decide +kernel
theorem dP_setCrease_41 : decode cP_setCrease 41 = .ok ((.invokevirtual 56), 3) := by decide +kernel
theorem dP_setCrease_44 : decode cP_setCrease 44 = .ok ((.aload_n 0), 1) := by decide +kernel
theorem dP_setCrease_45 : decode cP_setCrease 45 = .ok ((.invokevirtual 42), 3) := by decide +kernel
theorem dP_setCrease_48 : decode cP_setCrease 48 = .ok (.return_, 1) := by decide +kernel
theorem dP_removeCrease_0 : decode cP_removeCrease 0 = .ok ((.aload_n 0), 1) := by decide +kernel
theorem dP_removeCrease_1 : decode cP_removeCrease 1 = .ok (.dup, 1) := by decide +kernel
theorem dP_removeCrease_2 : decode cP_removeCrease 2 = .ok ((.getfield 35), 3) := by decide +kernel
theorem dP_removeCrease_5 : decode cP_removeCrease 5 = .ok ((.iconst 1), 1) := by decide +kernel
theorem dP_removeCrease_6 : decode cP_removeCrease 6 = .ok (.isub, 1) := by decide +kernel
theorem dP_removeCrease_7 : decode cP_removeCrease 7 = .ok ((.putfield 35), 3) := by decide +kernel
theorem dP_removeCrease_10 : decode cP_removeCrease 10 = .ok ((.iload_n 1), 1) := by decide +kernel
theorem dP_removeCrease_11 : decode cP_removeCrease 11 = .ok ((.istore_n 2), 1) := by decide +kernel
theorem dP_removeCrease_12 : decode cP_removeCrease 12 = .ok ((.iload_n 2), 1) := by decide +kernel
theorem dP_removeCrease_13 : decode cP_removeCrease 13 = .ok ((.aload_n 0), 1) := by decide +kernel
theorem dP_removeCrease_14 : decode cP_removeCrease 14 = .ok ((.getfield 35), 3) := by decide +kernel
theorem dP_removeCrease_17 : decode cP_removeCrease 17 = .ok ((.if_icmp .ge 37), 3) := by decide +kernel
theorem dP_removeCrease_20 : decode cP_removeCrease 20 = .ok ((.aload_n 0), 1) := by decide +kernel
theorem dP_removeCrease_21 : decode cP_removeCrease 21 = .ok ((.getfield 9), 3) := by decide +kernel
theorem dP_removeCrease_24 : decode cP_removeCrease 24 = .ok ((.iload_n 2), 1) := by decide +kernel
theorem dP_removeCrease_25 : decode cP_removeCrease 25 = .ok ((.aload_n 0), 1) := by decide +kernel
theorem dP_removeCrease_26 : decode cP_removeCrease 26 = .ok ((.getfield 9), 3) := by decide +kernel
theorem dP_removeCrease_29 : decode cP_removeCrease 29 = .ok ((.iload_n 2), 1) := by decide +kernel
theorem dP_removeCrease_30 : decode cP_removeCrease 30 = .ok ((.iconst 1), 1) := by decide +kernel
theorem dP_removeCrease_31 : decode cP_removeCrease 31 = .ok (.iadd, 1) := by decide +kernel
theorem dP_removeCrease_32 : decode cP_removeCrease 32 = .ok (.iaload, 1) := by decide +kernel
theorem dP_removeCrease_33 : decode cP_removeCrease 33 = .ok (.iastore, 1) := by decide +kernel
theorem dP_removeCrease_34 : decode cP_removeCrease 34 = .ok ((.aload_n 0), 1) := by decide +kernel
theorem dP_removeCrease_35 : decode cP_removeCrease 35 = .ok ((.getfield 15), 3) := by decide +kernel
theorem dP_removeCrease_38 : decode cP_removeCrease 38 = .ok ((.iload_n 2), 1) := by decide +kernel
theorem dP_removeCrease_39 : decode cP_removeCrease 39 = .ok ((.aload_n 0), 1) := by decide +kernel
theorem dP_removeCrease_40 : decode cP_removeCrease 40 = .ok ((.getfield 15), 3) := by decide +kernel
theorem dP_removeCrease_43 : decode cP_removeCrease 43 = .ok ((.iload_n 2), 1) := by decide +kernel
theorem dP_removeCrease_44 : decode cP_removeCrease 44 = .ok ((.iconst 1), 1) := by decide +kernel
theorem dP_removeCrease_45 : decode cP_removeCrease 45 = .ok (.iadd, 1) := by decide +kernel
theorem dP_removeCrease_46 : decode cP_removeCrease 46 = .ok (.iaload, 1) := by decide +kernel
theorem dP_removeCrease_47 : decode cP_removeCrease 47 = .ok (.iastore, 1) := by decide +kernel
theorem dP_removeCrease_48 : decode cP_removeCrease 48 = .ok ((.iinc 2 1), 3) := by decide +kernel
theorem dP_removeCrease_51 : decode cP_removeCrease 51 = .ok ((.goto (-39)), 3) := by decide +kernel
theorem dP_removeCrease_54 : decode cP_removeCrease 54 = .ok (.return_, 1) := by decide +kernel
theorem dP_insertCrease_0 : decode cP_insertCrease 0 = .ok ((.aload_n 0), 1) := by decide +kernel
theorem dP_insertCrease_1 : decode cP_insertCrease 1 = .ok ((.getfield 35), 3) := by decide +kernel
theorem dP_insertCrease_4 : decode cP_insertCrease 4 = .ok ((.istore 4), 2) := by decide +kernel
theorem dP_insertCrease_6 : decode cP_insertCrease 6 = .ok ((.iload 4), 2) := by decide +kernel
theorem dP_insertCrease_8 : decode cP_insertCrease 8 = .ok ((.iload_n 1), 1) := by decide +kernel
theorem dP_insertCrease_9 : decode cP_insertCrease 9 = .ok ((.if_icmp .le 41), 3) := by decide +kernel
theorem dP_insertCrease_12 : decode cP_insertCrease 12 = .ok ((.aload_n 0), 1) := by decide +kernel
theorem dP_insertCrease_13 : decode cP_insertCrease 13 = .ok ((.getfield 9), 3) := by decide +kernel
theorem dP_insertCrease_16 : decode cP_insertCrease 16 = .ok ((.iload 4), 2) := by decide +kernel
theorem dP_insertCrease_18 : decode cP_insertCrease 18 = .ok ((.aload_n 0), 1) := by decide +kernel
theorem dP_insertCrease_19 : decode cP_insertCrease 19 = .ok ((.getfield 9), 3) := by decide +kernel
theorem dP_insertCrease_22 : decode cP_insertCrease 22 = .ok ((.iload 4), 2) := by decide +kernel
theorem dP_insertCrease_24 : decode cP_insertCrease 24 = .ok ((.iconst 1), 1) := by decide +kernel
theorem dP_insertCrease_25 : decode cP_insertCrease 25 = .ok (.isub, 1) := by decide +kernel
theorem dP_insertCrease_26 : decode cP_insertCrease 26 = .ok (.iaload, 1) := by decide +kernel
theorem dP_insertCrease_27 : decode cP_insertCrease 27 = .ok (.iastore, 1) := by decide +kernel
theorem dP_insertCrease_28 : decode cP_insertCrease 28 = .ok ((.aload_n 0), 1) := by decide +kernel
theorem dP_insertCrease_29 : decode cP_insertCrease 29 = .ok ((.getfield 15), 3) := by decide +kernel
theorem dP_insertCrease_32 : decode cP_insertCrease 32 = .ok ((.iload 4), 2) := by decide +kernel
theorem dP_insertCrease_34 : decode cP_insertCrease 34 = .ok ((.aload_n 0), 1) := by decide +kernel
theorem dP_insertCrease_35 : decode cP_insertCrease 35 = .ok ((.getfield 15), 3) := by decide +kernel
theorem dP_insertCrease_38 : decode cP_insertCrease 38 = .ok ((.iload 4), 2) := by decide +kernel
theorem dP_insertCrease_40 : decode cP_insertCrease 40 = .ok ((.iconst 1), 1) := by decide +kernel
theorem dP_insertCrease_41 : decode cP_insertCrease 41 = .ok (.isub, 1) := by decide +kernel
theorem dP_insertCrease_42 : decode cP_insertCrease 42 = .ok (.iaload, 1) := by decide +kernel
theorem dP_insertCrease_43 : decode cP_insertCrease 43 = .ok (.iastore, 1) := by decide +kernel
theorem dP_insertCrease_44 : decode cP_insertCrease 44 = .ok ((.iinc 4 (-1)), 3) := by decide +kernel
theorem dP_insertCrease_47 : decode cP_insertCrease 47 = .ok ((.goto (-41)), 3) := by decide +kernel
theorem dP_insertCrease_50 : decode cP_insertCrease 50 = .ok ((.aload_n 0), 1) := by decide +kernel
theorem dP_insertCrease_51 : decode cP_insertCrease 51 = .ok ((.getfield 9), 3) := by decide +kernel
theorem dP_insertCrease_54 : decode cP_insertCrease 54 = .ok ((.iload_n 1), 1) := by decide +kernel
theorem dP_insertCrease_55 : decode cP_insertCrease 55 = .ok ((.iload_n 2), 1) := by decide +kernel
theorem dP_insertCrease_56 : decode cP_insertCrease 56 = .ok (.iastore, 1) := by decide +kernel
theorem dP_insertCrease_57 : decode cP_insertCrease 57 = .ok ((.aload_n 0), 1) := by decide +kernel
theorem dP_insertCrease_58 : decode cP_insertCrease 58 = .ok ((.getfield 15), 3) := by decide +kernel
theorem dP_insertCrease_61 : decode cP_insertCrease 61 = .ok ((.iload_n 1), 1) := by decide +kernel
theorem dP_insertCrease_62 : decode cP_insertCrease 62 = .ok ((.iload_n 3), 1) := by decide +kernel
theorem dP_insertCrease_63 : decode cP_insertCrease 63 = .ok (.iastore, 1) := by decide +kernel
theorem dP_insertCrease_64 : decode cP_insertCrease 64 = .ok ((.aload_n 0), 1) := by decide +kernel
theorem dP_insertCrease_65 : decode cP_insertCrease 65 = .ok (.dup, 1) := by decide +kernel
theorem dP_insertCrease_66 : decode cP_insertCrease 66 = .ok ((.getfield 35), 3) := by decide +kernel
theorem dP_insertCrease_69 : decode cP_insertCrease 69 = .ok ((.iconst 1), 1) := by decide +kernel
theorem dP_insertCrease_70 : decode cP_insertCrease 70 = .ok (.iadd, 1) := by decide +kernel
theorem dP_insertCrease_71 : decode cP_insertCrease 71 = .ok ((.putfield 35), 3) := by decide +kernel
theorem dP_insertCrease_74 : decode cP_insertCrease 74 = .ok (.return_, 1) := by decide +kernel
theorem dP_hasSegment_0 : decode cP_hasSegment 0 = .ok ((.iload_n 1), 1) := by decide +kernel
theorem dP_hasSegment_1 : decode cP_hasSegment 1 = .ok ((.ifCond .lt 15), 3) := by decide +kernel
theorem dP_hasSegment_4 : decode cP_hasSegment 4 = .ok ((.iload_n 1), 1) := by decide +kernel
theorem dP_hasSegment_5 : decode cP_hasSegment 5 = .ok ((.aload_n 0), 1) := by decide +kernel
theorem dP_hasSegment_6 : decode cP_hasSegment 6 = .ok ((.getfield 35), 3) := by decide +kernel
theorem dP_hasSegment_9 : decode cP_hasSegment 9 = .ok ((.if_icmp .gt 7), 3) := by decide +kernel
theorem dP_hasSegment_12 : decode cP_hasSegment 12 = .ok ((.iconst 1), 1) := by decide +kernel
theorem dP_hasSegment_13 : decode cP_hasSegment 13 = .ok ((.goto 4), 3) := by decide +kernel
theorem dP_hasSegment_16 : decode cP_hasSegment 16 = .ok ((.iconst 0), 1) := by decide +kernel
theorem dP_hasSegment_17 : decode cP_hasSegment 17 = .ok (.ireturn, 1) := by decide +kernel
theorem dP_foldedPlace_0 : decode cP_foldedPlace 0 = .ok ((.aload_n 0), 1) := by decide +kernel
theorem dP_foldedPlace_1 : decode cP_foldedPlace 1 = .ok ((.iload_n 1), 1) := by decide +kernel
theorem dP_foldedPlace_2 : decode cP_foldedPlace 2 = .ok ((.invokevirtual 49), 3) := by decide +kernel
theorem dP_foldedPlace_5 : decode cP_foldedPlace 5 = .ok ((.istore_n 2), 1) := by decide +kernel
theorem dP_foldedPlace_6 : decode cP_foldedPlace 6 = .ok ((.aload_n 0), 1) := by decide +kernel
theorem dP_foldedPlace_7 : decode cP_foldedPlace 7 = .ok ((.getfield 18), 3) := by decide +kernel
theorem dP_foldedPlace_10 : decode cP_foldedPlace 10 = .ok ((.iload_n 2), 1) := by decide +kernel
theorem dP_foldedPlace_11 : decode cP_foldedPlace 11 = .ok (.iaload, 1) := by decide +kernel
theorem dP_foldedPlace_12 : decode cP_foldedPlace 12 = .ok ((.iload_n 2), 1) := by decide +kernel
theorem dP_foldedPlace_13 : decode cP_foldedPlace 13 = .ok ((.invokestatic 60), 3) := by decide +kernel
theorem dP_foldedPlace_16 : decode cP_foldedPlace 16 = .ok ((.iload_n 1), 1) := by decide +kernel
theorem dP_foldedPlace_17 : decode cP_foldedPlace 17 = .ok ((.aload_n 0), 1) := by decide +kernel
theorem dP_foldedPlace_18 : decode cP_foldedPlace 18 = .ok ((.iload_n 2), 1) := by decide +kernel
theorem dP_foldedPlace_19 : decode cP_foldedPlace 19 = .ok ((.invokevirtual 78), 3) := by decide +kernel
theorem dP_foldedPlace_22 : decode cP_foldedPlace 22 = .ok (.isub, 1) := by decide +kernel
theorem dP_foldedPlace_23 : decode cP_foldedPlace 23 = .ok (.imul, 1) := by decide +kernel
theorem dP_foldedPlace_24 : decode cP_foldedPlace 24 = .ok (.iadd, 1) := by decide +kernel
theorem dP_foldedPlace_25 : decode cP_foldedPlace 25 = .ok (.ireturn, 1) := by decide +kernel
