theorem dR_init_0 : decode cR_init 0 = .ok ((.aload_n 0), 1) := by decide +kernel
theorem dR_init_1 : decode cR_init 1 = .ok ((.invokespecial 3), 3) := by decide +kernel
theorem dR_init_4 : decode cR_init 4 = .ok ((.aload_n 0), 1) := by decide +kernel
theorem dR_init_5 : decode cR_init 5 = .ok ((.aload_n 1), 1) := by decide +kernel
theorem dR_init_6 : decode cR_init 6 = .ok ((.putfield 9), 3) := by decide +kernel
theorem dR_init_9 : decode cR_init 9 = .ok ((.aload_n 0), 1) := by decide +kernel
theorem dR_init_10 : decode cR_init 10 = .ok ((.bipush 7), 2) := by decide +kernel
theorem dR_init_12 : decode cR_init 12 = .ok ((.newarray .int), 2) := by decide +kernel
theorem dR_init_14 : decode cR_init 14 = .ok ((.putfield 15), 3) := by decide +kernel
theorem dR_init_17 : decode cR_init 17 = .ok ((.aload_n 0), 1) := by decide +kernel
theorem dR_init_18 : decode cR_init 18 = .ok ((.bipush 6), 2) := by decide +kernel
theorem dR_init_20 : decode cR_init 20 = .ok ((.newarray .int), 2) := by decide +kernel
theorem dR_init_22 : decode cR_init 22 = .ok ((.putfield 19), 3) := by decide +kernel
theorem dR_init_25 : decode cR_init 25 = .ok ((.aload_n 0), 1) := by decide +kernel
theorem dR_init_26 : decode cR_init 26 = .ok ((.bipush 6), 2) := by decide +kernel
theorem dR_init_28 : decode cR_init 28 = .ok ((.newarray .int), 2) := by decide +kernel
theorem dR_init_30 : decode cR_init 30 = .ok ((.putfield 22), 3) := by decide +kernel
theorem dR_init_33 : decode cR_init 33 = .ok ((.aload_n 0), 1) := by decide +kernel
theorem dR_init_34 : decode cR_init 34 = .ok ((.bipush 6), 2) := by decide +kernel
theorem dR_init_36 : decode cR_init 36 = .ok ((.newarray .int), 2) := by decide +kernel
theorem dR_init_38 : decode cR_init 38 = .ok ((.putfield 25), 3) := by decide +kernel
theorem dR_init_41 : decode cR_init 41 = .ok ((.aload_n 0), 1) := by decide +kernel
theorem dR_init_42 : decode cR_init 42 = .ok ((.bipush 6), 2) := by decide +kernel
theorem dR_init_44 : decode cR_init 44 = .ok ((.newarray .int), 2) := by decide +kernel
theorem dR_init_46 : decode cR_init 46 = .ok ((.putfield 28), 3) := by decide +kernel
theorem dR_init_49 : decode cR_init 49 = .ok (.return_, 1) := by decide +kernel
theorem dR_reduce_0 : decode cR_reduce 0 = .ok ((.aload_n 0), 1) := by decide +kernel
theorem dR_reduce_1 : decode cR_reduce 1 = .ok ((.invokevirtual 31), 3) := by decide +kernel
theorem dR_reduce_4 : decode cR_reduce 4 = .ok ((.iconst 1), 1) := by decide +kernel
theorem dR_reduce_5 : decode cR_reduce 5 = .ok ((.istore_n 1), 1) := by decide +kernel
theorem dR_reduce_6 : decode cR_reduce 6 = .ok ((.iconst 0), 1) := by decide +kernel
theorem dR_reduce_7 : decode cR_reduce 7 = .ok ((.istore_n 2), 1) := by decide +kernel
theorem dR_reduce_8 : decode cR_reduce 8 = .ok ((.iload_n 2), 1) := by decide +kernel
theorem dR_reduce_9 : decode cR_reduce 9 = .ok ((.bipush 6), 2) := by decide +kernel
theorem dR_reduce_11 : decode cR_reduce 11 = .ok ((.if_icmp .ge 34), 3) := by decide +kernel
theorem dR_reduce_14 : decode cR_reduce 14 = .ok ((.iload_n 1), 1) := by decide +kernel
theorem dR_reduce_15 : decode cR_reduce 15 = .ok ((.ifCond .eq 30), 3) := by decide +kernel
theorem dR_reduce_18 : decode cR_reduce 18 = .ok ((.aload_n 0), 1) := by decide +kernel
theorem dR_reduce_19 : decode cR_reduce 19 = .ok ((.getfield 34), 3) := by decide +kernel
theorem dR_reduce_22 : decode cR_reduce 22 = .ok ((.iconst 1), 1) := by decide +kernel
theorem dR_reduce_23 : decode cR_reduce 23 = .ok ((.if_icmp .le 14), 3) := by decide +kernel
theorem dR_reduce_26 : decode cR_reduce 26 = .ok ((.aload_n 0), 1) := by decide +kernel
theorem dR_reduce_27 : decode cR_reduce 27 = .ok ((.invokevirtual 38), 3) := by decide +kernel
theorem dR_reduce_30 : decode cR_reduce 30 = .ok ((.ifCond .eq 7), 3) := by decide +kernel
theorem dR_reduce_33 : decode cR_reduce 33 = .ok ((.iconst 1), 1) := by decide +kernel
theorem dR_reduce_34 : decode cR_reduce 34 = .ok ((.goto 4), 3) := by decide +kernel
theorem dR_reduce_37 : decode cR_reduce 37 = .ok ((.iconst 0), 1) := by decide +kernel
theorem dR_reduce_38 : decode cR_reduce 38 = .ok ((.istore_n 1), 1) := by decide +kernel
theorem dR_reduce_39 : decode cR_reduce 39 = .ok ((.iinc 2 1), 3) := by decide +kernel
theorem dR_reduce_42 : decode cR_reduce 42 = .ok ((.goto (-34)), 3) := by decide +kernel
theorem dR_reduce_45 : decode cR_reduce 45 = .ok (.return_, 1) := by decide +kernel
theorem dR_copyPattern_0 : decode cR_copyPattern 0 = .ok ((.aload_n 0), 1) := by decide +kernel
theorem dR_copyPattern_1 : decode cR_copyPattern 1 = .ok ((.iconst 0), 1) := by decide +kernel
theorem dR_copyPattern_2 : decode cR_copyPattern 2 = .ok ((.putfield 42), 3) := by decide +kernel
theorem dR_copyPattern_5 : decode cR_copyPattern 5 = .ok ((.aload_n 0), 1) := by decide +kernel
theorem dR_copyPattern_6 : decode cR_copyPattern 6 = .ok ((.aload_n 0), 1) := by decide +kernel
theorem dR_copyPattern_7 : decode cR_copyPattern 7 = .ok ((.getfield 9), 3) := by decide +kernel
theorem dR_copyPattern_10 : decode cR_copyPattern 10 = .ok ((.invokevirtual 45), 3) := by decide +kernel
theorem dR_copyPattern_13 : decode cR_copyPattern 13 = .ok ((.putfield 34), 3) := by decide +kernel
theorem dR_copyPattern_16 : decode cR_copyPattern 16 = .ok ((.iconst 0), 1) := by decide +kernel
theorem dR_copyPattern_17 : decode cR_copyPattern 17 = .ok ((.istore_n 1), 1) := by decide +kernel
theorem dR_copyPattern_18 : decode cR_copyPattern 18 = .ok ((.iload_n 1), 1) := by decide +kernel
theorem dR_copyPattern_19 : decode cR_copyPattern 19 = .ok ((.aload_n 0), 1) := by decide +kernel
theorem dR_copyPattern_20 : decode cR_copyPattern 20 = .ok ((.getfield 34), 3) := by decide +kernel
theorem dR_copyPattern_23 : decode cR_copyPattern 23 = .ok ((.if_icmp .ge 23), 3) := by decide +kernel
theorem dR_copyPattern_26 : decode cR_copyPattern 26 = .ok ((.aload_n 0), 1) := by decide +kernel
theorem dR_copyPattern_27 : decode cR_copyPattern 27 = .ok ((.getfield 15), 3) := by decide +kernel
theorem dR_copyPattern_30 : decode cR_copyPattern 30 = .ok ((.iload_n 1), 1) := by decide +kernel
theorem dR_copyPattern_31 : decode cR_copyPattern 31 = .ok ((.aload_n 0), 1) := by decide +kernel
theorem dR_copyPattern_32 : decode cR_copyPattern 32 = .ok ((.getfield 9), 3) := by decide +kernel
theorem dR_copyPattern_35 : decode cR_copyPattern 35 = .ok ((.iload_n 1), 1) := by decide +kernel
theorem dR_copyPattern_36 : decode cR_copyPattern 36 = .ok ((.invokevirtual 51), 3) := by decide +kernel
theorem dR_copyPattern_39 : decode cR_copyPattern 39 = .ok (.iastore, 1) := by decide +kernel
theorem dR_copyPattern_40 : decode cR_copyPattern 40 = .ok ((.iinc 1 1), 3) := by decide +kernel
theorem dR_copyPattern_43 : decode cR_copyPattern 43 = .ok ((.goto (-25)), 3) := by decide +kernel
theorem dR_copyPattern_46 : decode cR_copyPattern 46 = .ok ((.iconst 0), 1) := by decide +kernel
theorem dR_copyPattern_47 : decode cR_copyPattern 47 = .ok ((.istore_n 1), 1) := by decide +kernel
theorem dR_copyPattern_48 : decode cR_copyPattern 48 = .ok ((.iload_n 1), 1) := by decide +kernel
theorem dR_copyPattern_49 : decode cR_copyPattern 49 = .ok ((.aload_n 0), 1) := by decide +kernel
theorem dR_copyPattern_50 : decode cR_copyPattern 50 = .ok ((.getfield 9), 3) := by decide +kernel
theorem dR_copyPattern_53 : decode cR_copyPattern 53 = .ok ((.getfield 55), 3) := by decide +kernel
theorem dR_copyPattern_56 : decode cR_copyPattern 56 = .ok ((.if_icmp .ge 39), 3) := by decide +kernel
theorem dR_copyPattern_59 : decode cR_copyPattern 59 = .ok ((.aload_n 0), 1) := by decide +kernel
theorem dR_copyPattern_60 : decode cR_copyPattern 60 = .ok ((.getfield 19), 3) := by decide +kernel
theorem dR_copyPattern_63 : decode cR_copyPattern 63 = .ok ((.iload_n 1), 1) := by decide +kernel
theorem dR_copyPattern_64 : decode cR_copyPattern 64 = .ok ((.aload_n 0), 1) := by decide +kernel
theorem dR_copyPattern_65 : decode cR_copyPattern 65 = .ok ((.getfield 9), 3) := by decide +kernel
theorem dR_copyPattern_68 : decode cR_copyPattern 68 = .ok ((.getfield 58), 3) := by decide +kernel
theorem dR_copyPattern_71 : decode cR_copyPattern 71 = .ok ((.iload_n 1), 1) := by decide +kernel
theorem dR_copyPattern_72 : decode cR_copyPattern 72 = .ok (.iaload, 1) := by decide +kernel
theorem dR_copyPattern_73 : decode cR_copyPattern 73 = .ok (.iastore, 1) := by decide +kernel
theorem dR_copyPattern_74 : decode cR_copyPattern 74 = .ok ((.aload_n 0), 1) := by decide +kernel
theorem dR_copyPattern_75 : decode cR_copyPattern 75 = .ok ((.getfield 22), 3) := by decide +kernel
theorem dR_copyPattern_78 : decode cR_copyPattern 78 = .ok ((.iload_n 1), 1) := by decide +kernel
theorem dR_copyPattern_79 : decode cR_copyPattern 79 = .ok ((.aload_n 0), 1) := by decide +kernel
theorem dR_copyPattern_80 : decode cR_copyPattern 80 = .ok ((.getfield 9), 3) := by decide +kernel
theorem dR_copyPattern_83 : decode cR_copyPattern 83 = .ok ((.getfield 61), 3) := by decide +kernel
theorem dR_copyPattern_86 : decode cR_copyPattern 86 = .ok ((.iload_n 1), 1) := by decide +kernel
theorem dR_copyPattern_87 : decode cR_copyPattern 87 = .ok (.iaload, 1) := by decide +kernel
theorem dR_copyPattern_88 : decode cR_copyPattern 88 = .ok (.iastore, 1) := by decide +kernel
theorem dR_copyPattern_89 : decode cR_copyPattern 89 = .ok ((.iinc 1 1), 3) := by decide +kernel
theorem dR_copyPattern_92 : decode cR_copyPattern 92 = .ok ((.goto (-44)), 3) := by decide +kernel
theorem dR_copyPattern_95 : decode cR_copyPattern 95 = .ok (.return_, 1) := by decide +kernel
theorem dR_reduceOnce_0 : decode cR_reduceOnce 0 = .ok ((.aload_n 0), 1) := by decide +kernel
theorem dR_reduceOnce_1 : decode cR_reduceOnce 1 = .ok ((.getfield 15), 3) := by decide +kernel
theorem dR_reduceOnce_4 : decode cR_reduceOnce 4 = .ok ((.iconst 0), 1) := by decide +kernel
theorem dR_reduceOnce_5 : decode cR_reduceOnce 5 = .ok (.iaload, 1) := by decide +kernel
theorem dR_reduceOnce_6 : decode cR_reduceOnce 6 = .ok ((.aload_n 0), 1) := by decide +kernel
theorem dR_reduceOnce_7 : decode cR_reduceOnce 7 = .ok ((.getfield 15), 3) := by decide +kernel
theorem dR_reduceOnce_10 : decode cR_reduceOnce 10 = .ok ((.iconst 1), 1) := by decide +kernel
theorem dR_reduceOnce_11 : decode cR_reduceOnce 11 = .ok (.iaload, 1) := by decide +kernel
theorem dR_reduceOnce_12 : decode cR_reduceOnce 12 = .ok ((.if_icmp .gt 23), 3) := by decide +kernel
theorem dR_reduceOnce_15 : decode cR_reduceOnce 15 = .ok ((.aload_n 0), 1) := by decide +kernel
theorem dR_reduceOnce_16 : decode cR_reduceOnce 16 = .ok ((.iconst 1), 1) := by decide +kernel
theorem dR_reduceOnce_17 : decode cR_reduceOnce 17 = .ok ((.iconst 0), 1) := by decide +kernel
theorem dR_reduceOnce_18 : decode cR_reduceOnce 18 = .ok ((.invokevirtual 62), 3) := by decide +kernel
theorem dR_reduceOnce_21 : decode cR_reduceOnce 21 = .ok ((.aload_n 0), 1) := by decide +kernel
theorem dR_reduceOnce_22 : decode cR_reduceOnce 22 = .ok ((.iconst 0), 1) := by decide +kernel
theorem dR_reduceOnce_23 : decode cR_reduceOnce 23 = .ok ((.iconst 1), 1) := by decide +kernel
theorem dR_reduceOnce_24 : decode cR_reduceOnce 24 = .ok ((.invokevirtual 66), 3) := by decide +kernel
theorem dR_reduceOnce_27 : decode cR_reduceOnce 27 = .ok ((.aload_n 0), 1) := by decide +kernel
theorem dR_reduceOnce_28 : decode cR_reduceOnce 28 = .ok ((.iconst 0), 1) := by decide +kernel
theorem dR_reduceOnce_29 : decode cR_reduceOnce 29 = .ok ((.iconst 1), 1) := by decide +kernel
theorem dR_reduceOnce_30 : decode cR_reduceOnce 30 = .ok ((.invokevirtual 69), 3) := by decide +kernel
theorem dR_reduceOnce_33 : decode cR_reduceOnce 33 = .ok ((.iconst 1), 1) := by decide +kernel
theorem dR_reduceOnce_34 : decode cR_reduceOnce 34 = .ok (.ireturn, 1) := by decide +kernel
theorem dR_reduceOnce_35 : decode cR_reduceOnce 35 = .ok ((.aload_n 0), 1) := by decide +kernel
theorem dR_reduceOnce_36 : decode cR_reduceOnce 36 = .ok ((.getfield 15), 3) := by decide +kernel
theorem dR_reduceOnce_39 : decode cR_reduceOnce 39 = .ok ((.aload_n 0), 1) := by decide +kernel
theorem dR_reduceOnce_40 : decode cR_reduceOnce 40 = .ok ((.getfield 34), 3) := by decide +kernel
theorem dR_reduceOnce_43 : decode cR_reduceOnce 43 = .ok ((.iconst 1), 1) := by decide +kernel
theorem dR_reduceOnce_44 : decode cR_reduceOnce 44 = .ok (.isub, 1) := by decide +kernel
theorem dR_reduceOnce_45 : decode cR_reduceOnce 45 = .ok (.iaload, 1) := by decide +kernel
theorem dR_reduceOnce_46 : decode cR_reduceOnce 46 = .ok ((.aload_n 0), 1) := by decide +kernel
theorem dR_reduceOnce_47 : decode cR_reduceOnce 47 = .ok ((.getfield 15), 3) := by decide +kernel
theorem dR_reduceOnce_50 : decode cR_reduceOnce 50 = .ok ((.aload_n 0), 1) := by decide +kernel
theorem dR_reduceOnce_51 : decode cR_reduceOnce 51 = .ok ((.getfield 34), 3) := by decide +kernel
theorem dR_reduceOnce_54 : decode cR_reduceOnce 54 = .ok ((.iconst 2), 1) := by decide +kernel
theorem dR_reduceOnce_55 : decode cR_reduceOnce 55 = .ok (.isub, 1) := by decide +kernel
theorem dR_reduceOnce_56 : decode cR_reduceOnce 56 = .ok (.iaload, 1) := by decide +kernel
theorem dR_reduceOnce_57 : decode cR_reduceOnce 57 = .ok ((.if_icmp .gt 26), 3) := by decide +kernel
theorem dR_reduceOnce_60 : decode cR_reduceOnce 60 = .ok ((.aload_n 0), 1) := by decide +kernel
theorem dR_reduceOnce_61 : decode cR_reduceOnce 61 = .ok ((.iconst 2), 1) := by decide +kernel
theorem dR_reduceOnce_62 : decode cR_reduceOnce 62 = .ok ((.aload_n 0), 1) := by decide +kernel
theorem dR_reduceOnce_63 : decode cR_reduceOnce 63 = .ok ((.getfield 34), 3) := by decide +kernel
theorem dR_reduceOnce_66 : decode cR_reduceOnce 66 = .ok ((.iconst 2), 1) := by decide +kernel
theorem dR_reduceOnce_67 : decode cR_reduceOnce 67 = .ok (.isub, 1) := by decide +kernel
theorem dR_reduceOnce_68 : decode cR_reduceOnce 68 = .ok ((.invokevirtual 62), 3) := by decide +kernel
theorem dR_reduceOnce_71 : decode cR_reduceOnce 71 = .ok ((.aload_n 0), 1) := by decide +kernel
theorem dR_reduceOnce_72 : decode cR_reduceOnce 72 = .ok (.dup, 1) := by decide +kernel
theorem dR_reduceOnce_73 : decode cR_reduceOnce 73 = .ok ((.getfield 34), 3) := by decide +kernel
theorem dR_reduceOnce_76 : decode cR_reduceOnce 76 = .ok ((.iconst 1), 1) := by decide +kernel
theorem dR_reduceOnce_77 : decode cR_reduceOnce 77 = .ok (.isub, 1) := by decide +kernel
theorem dR_reduceOnce_78 : decode cR_reduceOnce 78 = .ok ((.putfield 34), 3) := by decide +kernel
theorem dR_reduceOnce_81 : decode cR_reduceOnce 81 = .ok ((.iconst 1), 1) := by decide +kernel
theorem dR_reduceOnce_82 : decode cR_reduceOnce 82 = .ok (.ireturn, 1) := by decide +kernel
theorem dR_reduceOnce_83 : decode cR_reduceOnce 83 = .ok ((.aload_n 0), 1) := by decide +kernel
theorem dR_reduceOnce_84 : decode cR_reduceOnce 84 = .ok ((.invokevirtual 72), 3) := by decide +kernel
theorem dR_reduceOnce_87 : decode cR_reduceOnce 87 = .ok ((.istore_n 1), 1) := by decide +kernel
theorem dR_reduceOnce_88 : decode cR_reduceOnce 88 = .ok ((.iload_n 1), 1) := by decide +kernel
theorem dR_reduceOnce_89 : decode cR_reduceOnce 89 = .ok ((.iconst (-1)), 1) := by decide +kernel
theorem dR_reduceOnce_90 : decode cR_reduceOnce 90 = .ok ((.if_icmp .ne 5), 3) := by decide +kernel
theorem dR_reduceOnce_93 : decode cR_reduceOnce 93 = .ok ((.iconst 0), 1) := by decide +kernel
theorem dR_reduceOnce_94 : decode cR_reduceOnce 94 = .ok (.ireturn, 1) := by decide +kernel
theorem dR_reduceOnce_95 : decode cR_reduceOnce 95 = .ok ((.aload_n 0), 1) := by decide +kernel
theorem dR_reduceOnce_96 : decode cR_reduceOnce 96 = .ok ((.iconst 3), 1) := by decide +kernel
theorem dR_reduceOnce_97 : decode cR_reduceOnce 97 = .ok ((.iload_n 1), 1) := by decide +kernel
theorem dR_reduceOnce_98 : decode cR_reduceOnce 98 = .ok ((.iconst 1), 1) := by decide +kernel
theorem dR_reduceOnce_99 : decode cR_reduceOnce 99 = .ok (.isub, 1) := by decide +kernel
theorem dR_reduceOnce_100 : decode cR_reduceOnce 100 = .ok ((.invokevirtual 62), 3) := by decide +kernel
theorem dR_reduceOnce_103 : decode cR_reduceOnce 103 = .ok ((.aload_n 0), 1) := by decide +kernel
theorem dR_reduceOnce_104 : decode cR_reduceOnce 104 = .ok ((.iload_n 1), 1) := by decide +kernel
theorem dR_reduceOnce_105 : decode cR_reduceOnce 105 = .ok ((.invokevirtual 75), 3) := by decide +kernel
theorem dR_reduceOnce_108 : decode cR_reduceOnce 108 = .ok ((.iconst 1), 1) := by decide +kernel
theorem dR_reduceOnce_109 : decode cR_reduceOnce 109 = .ok (.ireturn, 1) := by decide +kernel
theorem dR_note_0 : decode cR_note 0 = .ok ((.aload_n 0), 1) := by decide +kernel
theorem dR_note_1 : decode cR_note 1 = .ok ((.getfield 25), 3) := by decide +kernel
theorem dR_note_4 : decode cR_note 4 = .ok ((.aload_n 0), 1) := by decide +kernel
theorem dR_note_5 : decode cR_note 5 = .ok ((.getfield 42), 3) := by decide +kernel
theorem dR_note_8 : decode cR_note 8 = .ok ((.iload_n 1), 1) := by decide +kernel
theorem dR_note_9 : decode cR_note 9 = .ok (.iastore, 1) := by decide +kernel
theorem dR_note_10 : decode cR_note 10 = .ok ((.aload_n 0), 1) := by decide +kernel
theorem dR_note_11 : decode cR_note 11 = .ok ((.getfield 28), 3) := by decide +kernel
theorem dR_note_14 : decode cR_note 14 = .ok ((.aload_n 0), 1) := by decide +kernel
theorem dR_note_15 : decode cR_note 15 = .ok ((.getfield 42), 3) := by decide +kernel
theorem dR_note_18 : decode cR_note 18 = .ok ((.aload_n 0), 1) := by decide +kernel
theorem dR_note_19 : decode cR_note 19 = .ok ((.getfield 19), 3) := by decide +kernel
theorem dR_note_22 : decode cR_note 22 = .ok ((.iload_n 2), 1) := by decide +kernel
theorem dR_note_23 : decode cR_note 23 = .ok (.iaload, 1) := by decide +kernel
theorem dR_note_24 : decode cR_note 24 = .ok (.iastore, 1) := by decide +kernel
theorem dR_note_25 : decode cR_note 25 = .ok ((.aload_n 0), 1) := by decide +kernel
theorem dR_note_26 : decode cR_note 26 = .ok (.dup, 1) := by decide +kernel
theorem dR_note_27 : decode cR_note 27 = .ok ((.getfield 42), 3) := by decide +kernel
theorem dR_note_30 : decode cR_note 30 = .ok ((.iconst 1), 1) := by decide +kernel
theorem dR_note_31 : decode cR_note 31 = .ok (.iadd, 1) := by decide +kernel
theorem dR_note_32 : decode cR_note 32 = .ok ((.putfield 42), 3) := by decide +kernel
theorem dR_note_35 : decode cR_note 35 = .ok (.return_, 1) := by decide +kernel
theorem dR_removeLengths_0 : decode cR_removeLengths 0 = .ok ((.aload_n 0), 1) := by decide +kernel
theorem dR_removeLengths_1 : decode cR_removeLengths 1 = .ok (.dup, 1) := by decide +kernel
theorem dR_removeLengths_2 : decode cR_removeLengths 2 = .ok ((.getfield 34), 3) := by decide +kernel
theorem dR_removeLengths_5 : decode cR_removeLengths 5 = .ok ((.iload_n 2), 1) := by decide +kernel
theorem dR_removeLengths_6 : decode cR_removeLengths 6 = .ok (.isub, 1) := by decide +kernel
theorem dR_removeLengths_7 : decode cR_removeLengths 7 = .ok ((.putfield 34), 3) := by decide +kernel
theorem dR_removeLengths_10 : decode cR_removeLengths 10 = .ok ((.iload_n 1), 1) := by decide +kernel
theorem dR_removeLengths_11 : decode cR_removeLengths 11 = .ok ((.istore_n 3), 1) := by decide +kernel
theorem dR_removeLengths_12 : decode cR_removeLengths 12 = .ok ((.iload_n 3), 1) := by decide +kernel
theorem dR_removeLengths_13 : decode cR_removeLengths 13 = .ok ((.aload_n 0), 1) := by decide +kernel
theorem dR_removeLengths_14 : decode cR_removeLengths 14 = .ok ((.getfield 34), 3) := by decide +kernel
theorem dR_removeLengths_17 : decode cR_removeLengths 17 = .ok ((.if_icmp .ge 23), 3) := by decide +kernel
theorem dR_removeLengths_20 : decode cR_removeLengths 20 = .ok ((.aload_n 0), 1) := by decide +kernel
theorem dR_removeLengths_21 : decode cR_removeLengths 21 = .ok ((.getfield 15), 3) := by decide +kernel
theorem dR_removeLengths_24 : decode cR_removeLengths 24 = .ok ((.iload_n 3), 1) := by decide +kernel
theorem dR_removeLengths_25 : decode cR_removeLengths 25 = .ok ((.aload_n 0), 1) := by decide +kernel
theorem dR_removeLengths_26 : decode cR_removeLengths 26 = .ok ((.getfield 15), 3) := by decide +kernel
theorem dR_removeLengths_29 : decode cR_removeLengths 29 = .ok ((.iload_n 3), 1) := by decide +kernel
theorem dR_removeLengths_30 : decode cR_removeLengths 30 = .ok ((.iload_n 2), 1) := by decide +kernel
theorem dR_removeLengths_31 : decode cR_removeLengths 31 = .ok (.iadd, 1) := by decide +kernel
theorem dR_removeLengths_32 : decode cR_removeLengths 32 = .ok (.iaload, 1) := by decide +kernel
theorem dR_removeLengths_33 : decode cR_removeLengths 33 = .ok (.iastore, 1) := by decide +kernel
theorem dR_removeLengths_34 : decode cR_removeLengths 34 = .ok ((.iinc 3 1), 3) := by decide +kernel
theorem dR_removeLengths_37 : decode cR_removeLengths 37 = .ok ((.goto (-25)), 3) := by decide +kernel
theorem dR_removeLengths_40 : decode cR_removeLengths 40 = .ok (.return_, 1) := by decide +kernel
theorem dR_removeCreases_0 : decode cR_removeCreases 0 = .ok ((.iload_n 1), 1) := by decide +kernel
theorem dR_removeCreases_1 : decode cR_removeCreases 1 = .ok ((.istore_n 3), 1) := by decide +kernel
theorem dR_removeCreases_2 : decode cR_removeCreases 2 = .ok ((.iload_n 3), 1) := by decide +kernel
theorem dR_removeCreases_3 : decode cR_removeCreases 3 = .ok ((.iload_n 2), 1) := by decide +kernel
theorem dR_removeCreases_4 : decode cR_removeCreases 4 = .ok (.iadd, 1) := by decide +kernel
theorem dR_removeCreases_5 : decode cR_removeCreases 5 = .ok ((.bipush 6), 2) := by decide +kernel
theorem dR_removeCreases_7 : decode cR_removeCreases 7 = .ok ((.if_icmp .ge 37), 3) := by decide +kernel
theorem dR_removeCreases_10 : decode cR_removeCreases 10 = .ok ((.aload_n 0), 1) := by decide +kernel
theorem dR_removeCreases_11 : decode cR_removeCreases 11 = .ok ((.getfield 19), 3) := by decide +kernel
theorem dR_removeCreases_14 : decode cR_removeCreases 14 = .ok ((.iload_n 3), 1) := by decide +kernel
theorem dR_removeCreases_15 : decode cR_removeCreases 15 = .ok ((.aload_n 0), 1) := by decide +kernel
theorem dR_removeCreases_16 : decode cR_removeCreases 16 = .ok ((.getfield 19), 3) := by decide +kernel
theorem dR_removeCreases_19 : decode cR_removeCreases 19 = .ok ((.iload_n 3), 1) := by decide +kernel
theorem dR_removeCreases_20 : decode cR_removeCreases 20 = .ok ((.iload_n 2), 1) := by decide +kernel
theorem dR_removeCreases_21 : decode cR_removeCreases 21 = .ok (.iadd, 1) := by decide +kernel
theorem dR_removeCreases_22 : decode cR_removeCreases 22 = .ok (.iaload, 1) := by decide +kernel
theorem dR_removeCreases_23 : decode cR_removeCreases 23 = .ok (.iastore, 1) := by decide +kernel
theorem dR_removeCreases_24 : decode cR_removeCreases 24 = .ok ((.aload_n 0), 1) := by decide +kernel
theorem dR_removeCreases_25 : decode cR_removeCreases 25 = .ok ((.getfield 22), 3) := by decide +kernel
theorem dR_removeCreases_28 : decode cR_removeCreases 28 = .ok ((.iload_n 3), 1) := by decide +kernel
theorem dR_removeCreases_29 : decode cR_removeCreases 29 = .ok ((.aload_n 0), 1) := by decide +kernel
theorem dR_removeCreases_30 : decode cR_removeCreases 30 = .ok ((.getfield 22), 3) := by decide +kernel
theorem dR_removeCreases_33 : decode cR_removeCreases 33 = .ok ((.iload_n 3), 1) := by decide +kernel
theorem dR_removeCreases_34 : decode cR_removeCreases 34 = .ok ((.iload_n 2), 1) := by decide +kernel
theorem dR_removeCreases_35 : decode cR_removeCreases 35 = .ok (.iadd, 1) := by decide +kernel
theorem dR_removeCreases_36 : decode cR_removeCreases 36 = .ok (.iaload, 1) := by decide +kernel
theorem dR_removeCreases_37 : decode cR_removeCreases 37 = .ok (.iastore, 1) := by decide +kernel
theorem dR_removeCreases_38 : decode cR_removeCreases 38 = .ok ((.iinc 3 1), 3) := by decide +kernel
theorem dR_removeCreases_41 : decode cR_removeCreases 41 = .ok ((.goto (-39)), 3) := by decide +kernel
theorem dR_removeCreases_44 : decode cR_removeCreases 44 = .ok (.return_, 1) := by decide +kernel
theorem dR_leftmostPleat_0 : decode cR_leftmostPleat 0 = .ok ((.iconst 1), 1) := by decide +kernel
theorem dR_leftmostPleat_1 : decode cR_leftmostPleat 1 = .ok ((.istore_n 1), 1) := by decide +kernel
theorem dR_leftmostPleat_2 : decode cR_leftmostPleat 2 = .ok ((.iload_n 1), 1) := by decide +kernel
theorem dR_leftmostPleat_3 : decode cR_leftmostPleat 3 = .ok ((.aload_n 0), 1) := by decide +kernel
theorem dR_leftmostPleat_4 : decode cR_leftmostPleat 4 = .ok ((.getfield 34), 3) := by decide +kernel
theorem dR_leftmostPleat_7 : decode cR_leftmostPleat 7 = .ok ((.iconst 1), 1) := by decide +kernel
theorem dR_leftmostPleat_8 : decode cR_leftmostPleat 8 = .ok (.isub, 1) := by decide +kernel
theorem dR_leftmostPleat_9 : decode cR_leftmostPleat 9 = .ok ((.if_icmp .ge 62), 3) := by decide +kernel
theorem dR_leftmostPleat_12 : decode cR_leftmostPleat 12 = .ok ((.aload_n 0), 1) := by decide +kernel
theorem dR_leftmostPleat_13 : decode cR_leftmostPleat 13 = .ok ((.getfield 15), 3) := by decide +kernel
theorem dR_leftmostPleat_16 : decode cR_leftmostPleat 16 = .ok ((.iload_n 1), 1) := by decide +kernel
theorem dR_leftmostPleat_17 : decode cR_leftmostPleat 17 = .ok (.iaload, 1) := by decide +kernel
theorem dR_leftmostPleat_18 : decode cR_leftmostPleat 18 = .ok ((.aload_n 0), 1) := by decide +kernel
theorem dR_leftmostPleat_19 : decode cR_leftmostPleat 19 = .ok ((.getfield 15), 3) := by decide +kernel
theorem dR_leftmostPleat_22 : decode cR_leftmostPleat 22 = .ok ((.iload_n 1), 1) := by decide +kernel
theorem dR_leftmostPleat_23 : decode cR_leftmostPleat 23 = .ok ((.iconst 1), 1) := by decide +kernel
theorem dR_leftmostPleat_24 : decode cR_leftmostPleat 24 = .ok (.isub, 1) := by decide +kernel
theorem dR_leftmostPleat_25 : decode cR_leftmostPleat 25 = .ok (.iaload, 1) := by decide +kernel
theorem dR_leftmostPleat_26 : decode cR_leftmostPleat 26 = .ok ((.if_icmp .gt 39), 3) := by decide +kernel
theorem dR_leftmostPleat_29 : decode cR_leftmostPleat 29 = .ok ((.aload_n 0), 1) := by decide +kernel
theorem dR_leftmostPleat_30 : decode cR_leftmostPleat 30 = .ok ((.getfield 15), 3) := by decide +kernel
theorem dR_leftmostPleat_33 : decode cR_leftmostPleat 33 = .ok ((.iload_n 1), 1) := by decide +kernel
theorem dR_leftmostPleat_34 : decode cR_leftmostPleat 34 = .ok (.iaload, 1) := by decide +kernel
theorem dR_leftmostPleat_35 : decode cR_leftmostPleat 35 = .ok ((.aload_n 0), 1) := by decide +kernel
theorem dR_leftmostPleat_36 : decode cR_leftmostPleat 36 = .ok ((.getfield 15), 3) := by decide +kernel
theorem dR_leftmostPleat_39 : decode cR_leftmostPleat 39 = .ok ((.iload_n 1), 1) := by decide +kernel
theorem dR_leftmostPleat_40 : decode cR_leftmostPleat 40 = .ok ((.iconst 1), 1) := by decide +kernel
theorem dR_leftmostPleat_41 : decode cR_leftmostPleat 41 = .ok (.iadd, 1) := by decide +kernel
theorem dR_leftmostPleat_42 : decode cR_leftmostPleat 42 = .ok (.iaload, 1) := by decide +kernel
theorem dR_leftmostPleat_43 : decode cR_leftmostPleat 43 = .ok ((.if_icmp .gt 22), 3) := by decide +kernel
theorem dR_leftmostPleat_46 : decode cR_leftmostPleat 46 = .ok ((.aload_n 0), 1) := by decide +kernel
theorem dR_leftmostPleat_47 : decode cR_leftmostPleat 47 = .ok ((.getfield 22), 3) := by decide +kernel
theorem dR_leftmostPleat_50 : decode cR_leftmostPleat 50 = .ok ((.iload_n 1), 1) := by decide +kernel
theorem dR_leftmostPleat_51 : decode cR_leftmostPleat 51 = .ok ((.iconst 1), 1) := by decide +kernel
theorem dR_leftmostPleat_52 : decode cR_leftmostPleat 52 = .ok (.isub, 1) := by decide +kernel
theorem dR_leftmostPleat_53 : decode cR_leftmostPleat 53 = .ok (.iaload, 1) := by decide +kernel
theorem dR_leftmostPleat_54 : decode cR_leftmostPleat 54 = .ok ((.aload_n 0), 1) := by decide +kernel
theorem dR_leftmostPleat_55 : decode cR_leftmostPleat 55 = .ok ((.getfield 22), 3) := by decide +kernel
theorem dR_leftmostPleat_58 : decode cR_leftmostPleat 58 = .ok ((.iload_n 1), 1) := by decide +kernel
theorem dR_leftmostPleat_59 : decode cR_leftmostPleat 59 = .ok (.iaload, 1) := by decide +kernel
theorem dR_leftmostPleat_60 : decode cR_leftmostPleat 60 = .ok ((.if_icmp .eq 5), 3) := by decide +kernel
theorem dR_leftmostPleat_63 : decode cR_leftmostPleat 63 = .ok ((.iload_n 1), 1) := by decide +kernel
theorem dR_leftmostPleat_64 : decode cR_leftmostPleat 64 = .ok (.ireturn, 1) := by decide +kernel
theorem dR_leftmostPleat_65 : decode cR_leftmostPleat 65 = .ok ((.iinc 1 1), 3) := by decide +kernel
theorem dR_leftmostPleat_68 : decode cR_leftmostPleat 68 = .ok ((.goto (-66)), 3) := by decide +kernel
theorem dR_leftmostPleat_71 : decode cR_leftmostPleat 71 = .ok ((.iconst (-1)), 1) := by decide +kernel
theorem dR_leftmostPleat_72 : decode cR_leftmostPleat 72 = .ok (.ireturn, 1) := by decide +kernel
theorem dR_flatten_0 : decode cR_flatten 0 = .ok ((.aload_n 0), 1) := by decide +kernel
theorem dR_flatten_1 : decode cR_flatten 1 = .ok ((.getfield 15), 3) := by decide +kernel
theorem dR_flatten_4 : decode cR_flatten 4 = .ok ((.iload_n 1), 1) := by decide +kernel
theorem dR_flatten_5 : decode cR_flatten 5 = .ok ((.iconst 1), 1) := by decide +kernel
theorem dR_flatten_6 : decode cR_flatten 6 = .ok (.isub, 1) := by decide +kernel
theorem dR_flatten_7 : decode cR_flatten 7 = .ok ((.aload_n 0), 1) := by decide +kernel
theorem dR_flatten_8 : decode cR_flatten 8 = .ok ((.getfield 15), 3) := by decide +kernel
theorem dR_flatten_11 : decode cR_flatten 11 = .ok ((.iload_n 1), 1) := by decide +kernel
theorem dR_flatten_12 : decode cR_flatten 12 = .ok ((.iconst 1), 1) := by decide +kernel
theorem dR_flatten_13 : decode cR_flatten 13 = .ok (.isub, 1) := by decide +kernel
theorem dR_flatten_14 : decode cR_flatten 14 = .ok (.iaload, 1) := by decide +kernel
theorem dR_flatten_15 : decode cR_flatten 15 = .ok ((.aload_n 0), 1) := by decide +kernel
theorem dR_flatten_16 : decode cR_flatten 16 = .ok ((.getfield 15), 3) := by decide +kernel
theorem dR_flatten_19 : decode cR_flatten 19 = .ok ((.iload_n 1), 1) := by decide +kernel
theorem dR_flatten_20 : decode cR_flatten 20 = .ok (.iaload, 1) := by decide +kernel
theorem dR_flatten_21 : decode cR_flatten 21 = .ok (.isub, 1) := by decide +kernel
theorem dR_flatten_22 : decode cR_flatten 22 = .ok ((.aload_n 0), 1) := by decide +kernel
theorem dR_flatten_23 : decode cR_flatten 23 = .ok ((.getfield 15), 3) := by decide +kernel
theorem dR_flatten_26 : decode cR_flatten 26 = .ok ((.iload_n 1), 1) := by decide +kernel
theorem dR_flatten_27 : decode cR_flatten 27 = .ok ((.iconst 1), 1) := by decide +kernel
theorem dR_flatten_28 : decode cR_flatten 28 = .ok (.iadd, 1) := by decide +kernel
theorem dR_flatten_29 : decode cR_flatten 29 = .ok (.iaload, 1) := by decide +kernel
theorem dR_flatten_30 : decode cR_flatten 30 = .ok (.iadd, 1) := by decide +kernel
theorem dR_flatten_31 : decode cR_flatten 31 = .ok (.iastore, 1) := by decide +kernel
theorem dR_flatten_32 : decode cR_flatten 32 = .ok ((.aload_n 0), 1) := by decide +kernel
theorem dR_flatten_33 : decode cR_flatten 33 = .ok ((.iload_n 1), 1) := by decide +kernel
theorem dR_flatten_34 : decode cR_flatten 34 = .ok ((.iconst 1), 1) := by decide +kernel
theorem dR_flatten_35 : decode cR_flatten 35 = .ok (.isub, 1) := by decide +kernel
theorem dR_flatten_36 : decode cR_flatten 36 = .ok ((.iconst 2), 1) := by decide +kernel
theorem dR_flatten_37 : decode cR_flatten 37 = .ok ((.invokevirtual 69), 3) := by decide +kernel
theorem dR_flatten_40 : decode cR_flatten 40 = .ok ((.aload_n 0), 1) := by decide +kernel
theorem dR_flatten_41 : decode cR_flatten 41 = .ok ((.iload_n 1), 1) := by decide +kernel
theorem dR_flatten_42 : decode cR_flatten 42 = .ok ((.iconst 2), 1) := by decide +kernel
theorem dR_flatten_43 : decode cR_flatten 43 = .ok ((.invokevirtual 66), 3) := by decide +kernel
theorem dR_flatten_46 : decode cR_flatten 46 = .ok (.return_, 1) := by decide +kernel
