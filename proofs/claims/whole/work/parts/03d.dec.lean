theorem dO_init_0 : decode cO_init 0 = .ok ((.aload_n 0), 1) := by decide +kernel
theorem dO_init_1 : decode cO_init 1 = .ok ((.invokespecial 3), 3) := by decide +kernel
theorem dO_init_4 : decode cO_init 4 = .ok ((.aload_n 0), 1) := by decide +kernel
theorem dO_init_5 : decode cO_init 5 = .ok ((.aload_n 1), 1) := by decide +kernel
theorem dO_init_6 : decode cO_init 6 = .ok ((.putfield 9), 3) := by decide +kernel
theorem dO_init_9 : decode cO_init 9 = .ok ((.aload_n 0), 1) := by decide +kernel
theorem dO_init_10 : decode cO_init 10 = .ok ((.bipush 64), 2) := by decide +kernel
theorem dO_init_12 : decode cO_init 12 = .ok ((.newarray .int), 2) := by decide +kernel
theorem dO_init_14 : decode cO_init 14 = .ok ((.putfield 15), 3) := by decide +kernel
theorem dO_init_17 : decode cO_init 17 = .ok (.return_, 1) := by decide +kernel
theorem dO_forget_0 : decode cO_forget 0 = .ok ((.aload_n 0), 1) := by decide +kernel
theorem dO_forget_1 : decode cO_forget 1 = .ok ((.iconst 0), 1) := by decide +kernel
theorem dO_forget_2 : decode cO_forget 2 = .ok ((.putfield 19), 3) := by decide +kernel
theorem dO_forget_5 : decode cO_forget 5 = .ok (.return_, 1) := by decide +kernel
theorem dO_findAll_0 : decode cO_findAll 0 = .ok ((.aload_n 0), 1) := by decide +kernel
theorem dO_findAll_1 : decode cO_findAll 1 = .ok ((.getfield 19), 3) := by decide +kernel
theorem dO_findAll_4 : decode cO_findAll 4 = .ok ((.ifCond .ne 25), 3) := by decide +kernel
theorem dO_findAll_7 : decode cO_findAll 7 = .ok ((.aload_n 0), 1) := by decide +kernel
theorem dO_findAll_8 : decode cO_findAll 8 = .ok ((.iconst 0), 1) := by decide +kernel
theorem dO_findAll_9 : decode cO_findAll 9 = .ok ((.putfield 23), 3) := by decide +kernel
theorem dO_findAll_12 : decode cO_findAll 12 = .ok ((.aload_n 0), 1) := by decide +kernel
theorem dO_findAll_13 : decode cO_findAll 13 = .ok ((.lconst 0), 1) := by decide +kernel
theorem dO_findAll_14 : decode cO_findAll 14 = .ok ((.putfield 27), 3) := by decide +kernel
theorem dO_findAll_17 : decode cO_findAll 17 = .ok ((.aload_n 0), 1) := by decide +kernel
theorem dO_findAll_18 : decode cO_findAll 18 = .ok ((.iconst 0), 1) := by decide +kernel
theorem dO_findAll_19 : decode cO_findAll 19 = .ok ((.iconst 1), 1) := by decide +kernel
theorem dO_findAll_20 : decode cO_findAll 20 = .ok ((.iconst 0), 1) := by decide +kernel
theorem dO_findAll_21 : decode cO_findAll 21 = .ok ((.invokevirtual 31), 3) := by decide +kernel
theorem dO_findAll_24 : decode cO_findAll 24 = .ok ((.aload_n 0), 1) := by decide +kernel
theorem dO_findAll_25 : decode cO_findAll 25 = .ok ((.iconst 1), 1) := by decide +kernel
theorem dO_findAll_26 : decode cO_findAll 26 = .ok ((.putfield 19), 3) := by decide +kernel
theorem dO_findAll_29 : decode cO_findAll 29 = .ok (.return_, 1) := by decide +kernel
theorem dO_decide_0 : decode cO_decide 0 = .ok ((.iload_n 2), 1) := by decide +kernel
theorem dO_decide_1 : decode cO_decide 1 = .ok ((.aload_n 0), 1) := by decide +kernel
theorem dO_decide_2 : decode cO_decide 2 = .ok ((.getfield 9), 3) := by decide +kernel
theorem dO_decide_5 : decode cO_decide 5 = .ok ((.getfield 35), 3) := by decide +kernel
theorem dO_decide_8 : decode cO_decide 8 = .ok ((.if_icmp .le 9), 3) := by decide +kernel
theorem dO_decide_11 : decode cO_decide 11 = .ok ((.aload_n 0), 1) := by decide +kernel
theorem dO_decide_12 : decode cO_decide 12 = .ok ((.iload_n 3), 1) := by decide +kernel
theorem dO_decide_13 : decode cO_decide 13 = .ok ((.invokevirtual 40), 3) := by decide +kernel
theorem dO_decide_16 : decode cO_decide 16 = .ok (.return_, 1) := by decide +kernel
theorem dO_decide_17 : decode cO_decide 17 = .ok ((.iload_n 1), 1) := by decide +kernel
theorem dO_decide_18 : decode cO_decide 18 = .ok ((.iconst 1), 1) := by decide +kernel
theorem dO_decide_19 : decode cO_decide 19 = .ok (.iadd, 1) := by decide +kernel
theorem dO_decide_20 : decode cO_decide 20 = .ok ((.iload_n 2), 1) := by decide +kernel
theorem dO_decide_21 : decode cO_decide 21 = .ok ((.if_icmp .lt 7), 3) := by decide +kernel
theorem dO_decide_24 : decode cO_decide 24 = .ok ((.iconst 1), 1) := by decide +kernel
theorem dO_decide_25 : decode cO_decide 25 = .ok ((.goto 4), 3) := by decide +kernel
theorem dO_decide_28 : decode cO_decide 28 = .ok ((.iconst 0), 1) := by decide +kernel
theorem dO_decide_29 : decode cO_decide 29 = .ok ((.istore 4), 2) := by decide +kernel
theorem dO_decide_31 : decode cO_decide 31 = .ok ((.iload 4), 2) := by decide +kernel
theorem dO_decide_33 : decode cO_decide 33 = .ok ((.ifCond .eq 7), 3) := by decide +kernel
theorem dO_decide_36 : decode cO_decide 36 = .ok ((.iconst 0), 1) := by decide +kernel
theorem dO_decide_37 : decode cO_decide 37 = .ok ((.goto 6), 3) := by decide +kernel
theorem dO_decide_40 : decode cO_decide 40 = .ok ((.iload_n 1), 1) := by decide +kernel
theorem dO_decide_41 : decode cO_decide 41 = .ok ((.iconst 1), 1) := by decide +kernel
theorem dO_decide_42 : decode cO_decide 42 = .ok (.iadd, 1) := by decide +kernel
theorem dO_decide_43 : decode cO_decide 43 = .ok ((.istore 5), 2) := by decide +kernel
theorem dO_decide_45 : decode cO_decide 45 = .ok ((.iload 4), 2) := by decide +kernel
theorem dO_decide_47 : decode cO_decide 47 = .ok ((.ifCond .eq 9), 3) := by decide +kernel
theorem dO_decide_50 : decode cO_decide 50 = .ok ((.iload_n 2), 1) := by decide +kernel
theorem dO_decide_51 : decode cO_decide 51 = .ok ((.iconst 1), 1) := by decide +kernel
theorem dO_decide_52 : decode cO_decide 52 = .ok (.iadd, 1) := by decide +kernel
theorem dO_decide_53 : decode cO_decide 53 = .ok ((.goto 4), 3) := by decide +kernel
theorem dO_decide_56 : decode cO_decide 56 = .ok ((.iload_n 2), 1) := by decide +kernel
theorem dO_decide_57 : decode cO_decide 57 = .ok ((.istore 6), 2) := by decide +kernel
theorem dO_decide_59 : decode cO_decide 59 = .ok ((.aload_n 0), 1) := by decide +kernel
theorem dO_decide_60 : decode cO_decide 60 = .ok ((.getfield 9), 3) := by decide +kernel
theorem dO_decide_63 : decode cO_decide 63 = .ok ((.iload_n 1), 1) := by decide +kernel
theorem dO_decide_64 : decode cO_decide 64 = .ok ((.iload_n 2), 1) := by decide +kernel
theorem dO_decide_65 : decode cO_decide 65 = .ok ((.invokevirtual 44), 3) := by decide +kernel
theorem dO_decide_68 : decode cO_decide 68 = .ok ((.ifCond .ne 13), 3) := by decide +kernel
theorem dO_decide_71 : decode cO_decide 71 = .ok ((.aload_n 0), 1) := by decide +kernel
theorem dO_decide_72 : decode cO_decide 72 = .ok ((.iload 5), 2) := by decide +kernel
theorem dO_decide_74 : decode cO_decide 74 = .ok ((.iload 6), 2) := by decide +kernel
theorem dO_decide_76 : decode cO_decide 76 = .ok ((.iload_n 3), 1) := by decide +kernel
theorem dO_decide_77 : decode cO_decide 77 = .ok ((.invokevirtual 31), 3) := by decide +kernel
theorem dO_decide_80 : decode cO_decide 80 = .ok (.return_, 1) := by decide +kernel
theorem dO_decide_81 : decode cO_decide 81 = .ok ((.iconst 0), 1) := by decide +kernel
theorem dO_decide_82 : decode cO_decide 82 = .ok ((.istore 7), 2) := by decide +kernel
theorem dO_decide_84 : decode cO_decide 84 = .ok ((.iload 7), 2) := by decide +kernel
theorem dO_decide_86 : decode cO_decide 86 = .ok ((.iconst 1), 1) := by decide +kernel
theorem dO_decide_87 : decode cO_decide 87 = .ok ((.if_icmp .gt 81), 3) := by decide +kernel
theorem dO_decide_90 : decode cO_decide 90 = .ok ((.iload 7), 2) := by decide +kernel
theorem dO_decide_92 : decode cO_decide 92 = .ok ((.ifCond .ne 7), 3) := by decide +kernel
theorem dO_decide_95 : decode cO_decide 95 = .ok ((.iload_n 3), 1) := by decide +kernel
theorem dO_decide_96 : decode cO_decide 96 = .ok ((.goto 10), 3) := by decide +kernel
theorem dO_decide_99 : decode cO_decide 99 = .ok ((.iload_n 3), 1) := by decide +kernel
theorem dO_decide_100 : decode cO_decide 100 = .ok ((.iload_n 1), 1) := by decide +kernel
theorem dO_decide_101 : decode cO_decide 101 = .ok ((.iload_n 2), 1) := by decide +kernel
theorem dO_decide_102 : decode cO_decide 102 = .ok ((.invokestatic 48), 3) := by decide +kernel
theorem dO_decide_105 : decode cO_decide 105 = .ok (.ior, 1) := by decide +kernel
theorem dO_decide_106 : decode cO_decide 106 = .ok ((.istore 8), 2) := by decide +kernel
theorem dO_decide_108 : decode cO_decide 108 = .ok ((.aload_n 0), 1) := by decide +kernel
theorem dO_decide_109 : decode cO_decide 109 = .ok ((.iload 8), 2) := by decide +kernel
theorem dO_decide_111 : decode cO_decide 111 = .ok ((.iload_n 1), 1) := by decide +kernel
theorem dO_decide_112 : decode cO_decide 112 = .ok ((.iload_n 2), 1) := by decide +kernel
theorem dO_decide_113 : decode cO_decide 113 = .ok ((.invokevirtual 52), 3) := by decide +kernel
theorem dO_decide_116 : decode cO_decide 116 = .ok ((.ifCond .eq 46), 3) := by decide +kernel
theorem dO_decide_119 : decode cO_decide 119 = .ok ((.aload_n 0), 1) := by decide +kernel
theorem dO_decide_120 : decode cO_decide 120 = .ok ((.iload 8), 2) := by decide +kernel
theorem dO_decide_122 : decode cO_decide 122 = .ok ((.iload_n 1), 1) := by decide +kernel
theorem dO_decide_123 : decode cO_decide 123 = .ok ((.iload_n 2), 1) := by decide +kernel
theorem dO_decide_124 : decode cO_decide 124 = .ok ((.invokevirtual 56), 3) := by decide +kernel
theorem dO_decide_127 : decode cO_decide 127 = .ok ((.ifCond .eq 35), 3) := by decide +kernel
theorem dO_decide_130 : decode cO_decide 130 = .ok ((.aload_n 0), 1) := by decide +kernel
theorem dO_decide_131 : decode cO_decide 131 = .ok ((.iload 8), 2) := by decide +kernel
theorem dO_decide_133 : decode cO_decide 133 = .ok ((.iload_n 1), 1) := by decide +kernel
theorem dO_decide_134 : decode cO_decide 134 = .ok ((.iload_n 2), 1) := by decide +kernel
theorem dO_decide_135 : decode cO_decide 135 = .ok ((.invokevirtual 59), 3) := by decide +kernel
theorem dO_decide_138 : decode cO_decide 138 = .ok ((.ifCond .eq 24), 3) := by decide +kernel
theorem dO_decide_141 : decode cO_decide 141 = .ok ((.aload_n 0), 1) := by decide +kernel
theorem dO_decide_142 : decode cO_decide 142 = .ok ((.iload 8), 2) := by decide +kernel
theorem dO_decide_144 : decode cO_decide 144 = .ok ((.iload_n 1), 1) := by decide +kernel
theorem dO_decide_145 : decode cO_decide 145 = .ok ((.iload_n 2), 1) := by decide +kernel
theorem dO_decide_146 : decode cO_decide 146 = .ok ((.invokevirtual 62), 3) := by decide +kernel
theorem dO_decide_149 : decode cO_decide 149 = .ok ((.ifCond .eq 13), 3) := by decide +kernel
theorem dO_decide_152 : decode cO_decide 152 = .ok ((.aload_n 0), 1) := by decide +kernel
theorem dO_decide_153 : decode cO_decide 153 = .ok ((.iload 5), 2) := by decide +kernel
theorem dO_decide_155 : decode cO_decide 155 = .ok ((.iload 6), 2) := by decide +kernel
theorem dO_decide_157 : decode cO_decide 157 = .ok ((.iload 8), 2) := by decide +kernel
theorem dO_decide_159 : decode cO_decide 159 = .ok ((.invokevirtual 31), 3) := by decide +kernel
theorem dO_decide_162 : decode cO_decide 162 = .ok ((.iinc 7 1), 3) := by decide +kernel
theorem dO_decide_165 : decode cO_decide 165 = .ok ((.goto (-81)), 3) := by decide +kernel
theorem dO_decide_168 : decode cO_decide 168 = .ok (.return_, 1) := by decide +kernel
theorem dO_keep_0 : decode cO_keep 0 = .ok ((.aload_n 0), 1) := by decide +kernel
theorem dO_keep_1 : decode cO_keep 1 = .ok ((.getfield 23), 3) := by decide +kernel
theorem dO_keep_4 : decode cO_keep 4 = .ok ((.aload_n 0), 1) := by decide +kernel
theorem dO_keep_5 : decode cO_keep 5 = .ok ((.getfield 15), 3) := by decide +kernel
theorem dO_keep_8 : decode cO_keep 8 = .ok (.arraylength, 1) := by decide +kernel
theorem dO_keep_9 : decode cO_keep 9 = .ok ((.if_icmp .lt 21), 3) := by decide +kernel
theorem dO_keep_12 : decode cO_keep 12 = .ok ((.aload_n 0), 1) := by decide +kernel
theorem dO_keep_13 : decode cO_keep 13 = .ok ((.aload_n 0), 1) := by decide +kernel
theorem dO_keep_14 : decode cO_keep 14 = .ok ((.getfield 15), 3) := by decide +kernel
theorem dO_keep_17 : decode cO_keep 17 = .ok ((.iconst 2), 1) := by decide +kernel
theorem dO_keep_18 : decode cO_keep 18 = .ok ((.aload_n 0), 1) := by decide +kernel
theorem dO_keep_19 : decode cO_keep 19 = .ok ((.getfield 15), 3) := by decide +kernel
theorem dO_keep_22 : decode cO_keep 22 = .ok (.arraylength, 1) := by decide +kernel
theorem dO_keep_23 : decode cO_keep 23 = .ok (.imul, 1) := by decide +kernel
theorem dO_keep_24 : decode cO_keep 24 = .ok ((.invokestatic 65), 3) := by decide +kernel
theorem dO_keep_27 : decode cO_keep 27 = .ok ((.putfield 15), 3) := by decide +kernel
theorem dO_keep_30 : decode cO_keep 30 = .ok ((.aload_n 0), 1) := by decide +kernel
theorem dO_keep_31 : decode cO_keep 31 = .ok ((.getfield 15), 3) := by decide +kernel
theorem dO_keep_34 : decode cO_keep 34 = .ok ((.aload_n 0), 1) := by decide +kernel
theorem dO_keep_35 : decode cO_keep 35 = .ok ((.getfield 23), 3) := by decide +kernel
theorem dO_keep_38 : decode cO_keep 38 = .ok ((.iload_n 1), 1) := by decide +kernel
theorem dO_keep_39 : decode cO_keep 39 = .ok (.iastore, 1) := by decide +kernel
theorem dO_keep_40 : decode cO_keep 40 = .ok ((.aload_n 0), 1) := by decide +kernel
theorem dO_keep_41 : decode cO_keep 41 = .ok (.dup, 1) := by decide +kernel
theorem dO_keep_42 : decode cO_keep 42 = .ok ((.getfield 23), 3) := by decide +kernel
theorem dO_keep_45 : decode cO_keep 45 = .ok ((.iconst 1), 1) := by decide +kernel
theorem dO_keep_46 : decode cO_keep 46 = .ok (.iadd, 1) := by decide +kernel
theorem dO_keep_47 : decode cO_keep 47 = .ok ((.putfield 23), 3) := by decide +kernel
theorem dO_keep_50 : decode cO_keep 50 = .ok ((.aload_n 0), 1) := by decide +kernel
theorem dO_keep_51 : decode cO_keep 51 = .ok (.dup, 1) := by decide +kernel
theorem dO_keep_52 : decode cO_keep 52 = .ok ((.getfield 27), 3) := by decide +kernel
theorem dO_keep_55 : decode cO_keep 55 = .ok ((.lconst 1), 1) := by decide +kernel
theorem dO_keep_56 : decode cO_keep 56 = .ok ((.aload_n 0), 1) := by decide +kernel
theorem dO_keep_57 : decode cO_keep 57 = .ok ((.iload_n 1), 1) := by decide +kernel
theorem dO_keep_58 : decode cO_keep 58 = .ok ((.invokevirtual 71), 3) := by decide +kernel
theorem dO_keep_61 : decode cO_keep 61 = .ok (.lshl, 1) := by decide +kernel
theorem dO_keep_62 : decode cO_keep 62 = .ok (.lor, 1) := by decide +kernel
theorem dO_keep_63 : decode cO_keep 63 = .ok ((.putfield 27), 3) := by decide +kernel
theorem dO_keep_66 : decode cO_keep 66 = .ok (.return_, 1) := by decide +kernel
theorem dO_markingOf_0 : decode cO_markingOf 0 = .ok ((.iconst 0), 1) := by decide +kernel
theorem dO_markingOf_1 : decode cO_markingOf 1 = .ok ((.istore_n 2), 1) := by decide +kernel
theorem dO_markingOf_2 : decode cO_markingOf 2 = .ok ((.iconst 0), 1) := by decide +kernel
theorem dO_markingOf_3 : decode cO_markingOf 3 = .ok ((.istore_n 3), 1) := by decide +kernel
theorem dO_markingOf_4 : decode cO_markingOf 4 = .ok ((.iload_n 3), 1) := by decide +kernel
theorem dO_markingOf_5 : decode cO_markingOf 5 = .ok ((.aload_n 0), 1) := by decide +kernel
theorem dO_markingOf_6 : decode cO_markingOf 6 = .ok ((.getfield 9), 3) := by decide +kernel
theorem dO_markingOf_9 : decode cO_markingOf 9 = .ok ((.getfield 35), 3) := by decide +kernel
theorem dO_markingOf_12 : decode cO_markingOf 12 = .ok ((.if_icmp .ge 26), 3) := by decide +kernel
theorem dO_markingOf_15 : decode cO_markingOf 15 = .ok ((.iload_n 1), 1) := by decide +kernel
theorem dO_markingOf_16 : decode cO_markingOf 16 = .ok ((.iload_n 3), 1) := by decide +kernel
theorem dO_markingOf_17 : decode cO_markingOf 17 = .ok ((.iload_n 3), 1) := by decide +kernel
theorem dO_markingOf_18 : decode cO_markingOf 18 = .ok ((.iconst 1), 1) := by decide +kernel
theorem dO_markingOf_19 : decode cO_markingOf 19 = .ok (.iadd, 1) := by decide +kernel
theorem dO_markingOf_20 : decode cO_markingOf 20 = .ok ((.invokestatic 75), 3) := by decide +kernel
theorem dO_markingOf_23 : decode cO_markingOf 23 = .ok ((.ifCond .eq 9), 3) := by decide +kernel
theorem dO_markingOf_26 : decode cO_markingOf 26 = .ok ((.iload_n 2), 1) := by decide +kernel
theorem dO_markingOf_27 : decode cO_markingOf 27 = .ok ((.iconst 1), 1) := by decide +kernel
theorem dO_markingOf_28 : decode cO_markingOf 28 = .ok ((.iload_n 3), 1) := by decide +kernel
theorem dO_markingOf_29 : decode cO_markingOf 29 = .ok (.ishl, 1) := by decide +kernel
theorem dO_markingOf_30 : decode cO_markingOf 30 = .ok (.ior, 1) := by decide +kernel
theorem dO_markingOf_31 : decode cO_markingOf 31 = .ok ((.istore_n 2), 1) := by decide +kernel
theorem dO_markingOf_32 : decode cO_markingOf 32 = .ok ((.iinc 3 1), 3) := by decide +kernel
theorem dO_markingOf_35 : decode cO_markingOf 35 = .ok ((.goto (-31)), 3) := by decide +kernel
theorem dO_markingOf_38 : decode cO_markingOf 38 = .ok ((.iload_n 2), 1) := by decide +kernel
theorem dO_markingOf_39 : decode cO_markingOf 39 = .ok (.ireturn, 1) := by decide +kernel
theorem dO_isAbove_0 : decode cO_isAbove 0 = .ok ((.iload_n 1), 1) := by decide +kernel
theorem dO_isAbove_1 : decode cO_isAbove 1 = .ok ((.iload_n 2), 1) := by decide +kernel
theorem dO_isAbove_2 : decode cO_isAbove 2 = .ok ((.if_icmp .ge 21), 3) := by decide +kernel
theorem dO_isAbove_5 : decode cO_isAbove 5 = .ok ((.iload_n 0), 1) := by decide +kernel
theorem dO_isAbove_6 : decode cO_isAbove 6 = .ok ((.iload_n 1), 1) := by decide +kernel
theorem dO_isAbove_7 : decode cO_isAbove 7 = .ok ((.iload_n 2), 1) := by decide +kernel
theorem dO_isAbove_8 : decode cO_isAbove 8 = .ok ((.invokestatic 48), 3) := by decide +kernel
theorem dO_isAbove_11 : decode cO_isAbove 11 = .ok (.iand, 1) := by decide +kernel
theorem dO_isAbove_12 : decode cO_isAbove 12 = .ok ((.ifCond .eq 7), 3) := by decide +kernel
theorem dO_isAbove_15 : decode cO_isAbove 15 = .ok ((.iconst 1), 1) := by decide +kernel
theorem dO_isAbove_16 : decode cO_isAbove 16 = .ok ((.goto 22), 3) := by decide +kernel
theorem dO_isAbove_19 : decode cO_isAbove 19 = .ok ((.iconst 0), 1) := by decide +kernel
theorem dO_isAbove_20 : decode cO_isAbove 20 = .ok ((.goto 18), 3) := by decide +kernel
theorem dO_isAbove_23 : decode cO_isAbove 23 = .ok ((.iload_n 0), 1) := by decide +kernel
theorem dO_isAbove_24 : decode cO_isAbove 24 = .ok ((.iload_n 2), 1) := by decide +kernel
theorem dO_isAbove_25 : decode cO_isAbove 25 = .ok ((.iload_n 1), 1) := by decide +kernel
theorem dO_isAbove_26 : decode cO_isAbove 26 = .ok ((.invokestatic 48), 3) := by decide +kernel
theorem dO_isAbove_29 : decode cO_isAbove 29 = .ok (.iand, 1) := by decide +kernel
theorem dO_isAbove_30 : decode cO_isAbove 30 = .ok ((.ifCond .ne 7), 3) := by decide +kernel
theorem dO_isAbove_33 : decode cO_isAbove 33 = .ok ((.iconst 1), 1) := by decide +kernel
theorem dO_isAbove_34 : decode cO_isAbove 34 = .ok ((.goto 4), 3) := by decide +kernel
theorem dO_isAbove_37 : decode cO_isAbove 37 = .ok ((.iconst 0), 1) := by decide +kernel
theorem dO_isAbove_38 : decode cO_isAbove 38 = .ok (.ireturn, 1) := by decide +kernel
theorem dO_bit_0 : decode cO_bit 0 = .ok ((.iconst 1), 1) := by decide +kernel
theorem dO_bit_1 : decode cO_bit 1 = .ok ((.iload_n 1), 1) := by decide +kernel
theorem dO_bit_2 : decode cO_bit 2 = .ok ((.iload_n 1), 1) := by decide +kernel
theorem dO_bit_3 : decode cO_bit 3 = .ok ((.iconst 1), 1) := by decide +kernel
theorem dO_bit_4 : decode cO_bit 4 = .ok (.isub, 1) := by decide +kernel
theorem dO_bit_5 : decode cO_bit 5 = .ok (.imul, 1) := by decide +kernel
theorem dO_bit_6 : decode cO_bit 6 = .ok ((.iconst 2), 1) := by decide +kernel
theorem dO_bit_7 : decode cO_bit 7 = .ok (.idiv, 1) := by decide +kernel
theorem dO_bit_8 : decode cO_bit 8 = .ok ((.iload_n 0), 1) := by decide +kernel
theorem dO_bit_9 : decode cO_bit 9 = .ok (.iadd, 1) := by decide +kernel
theorem dO_bit_10 : decode cO_bit 10 = .ok (.ishl, 1) := by decide +kernel
theorem dO_bit_11 : decode cO_bit 11 = .ok (.ireturn, 1) := by decide +kernel
theorem dO_keepsMark_0 : decode cO_keepsMark 0 = .ok ((.iload_n 3), 1) := by decide +kernel
theorem dO_keepsMark_1 : decode cO_keepsMark 1 = .ok ((.iload_n 2), 1) := by decide +kernel
theorem dO_keepsMark_2 : decode cO_keepsMark 2 = .ok ((.iconst 1), 1) := by decide +kernel
theorem dO_keepsMark_3 : decode cO_keepsMark 3 = .ok (.iadd, 1) := by decide +kernel
theorem dO_keepsMark_4 : decode cO_keepsMark 4 = .ok ((.if_icmp .ne 15), 3) := by decide +kernel
theorem dO_keepsMark_7 : decode cO_keepsMark 7 = .ok ((.aload_n 0), 1) := by decide +kernel
theorem dO_keepsMark_8 : decode cO_keepsMark 8 = .ok ((.getfield 9), 3) := by decide +kernel
theorem dO_keepsMark_11 : decode cO_keepsMark 11 = .ok ((.getfield 78), 3) := by decide +kernel
theorem dO_keepsMark_14 : decode cO_keepsMark 14 = .ok ((.iload_n 2), 1) := by decide +kernel
theorem dO_keepsMark_15 : decode cO_keepsMark 15 = .ok (.iaload, 1) := by decide +kernel
theorem dO_keepsMark_16 : decode cO_keepsMark 16 = .ok ((.ifCond .ne 5), 3) := by decide +kernel
theorem dO_keepsMark_19 : decode cO_keepsMark 19 = .ok ((.iconst 1), 1) := by decide +kernel
theorem dO_keepsMark_20 : decode cO_keepsMark 20 = .ok (.ireturn, 1) := by decide +kernel
theorem dO_keepsMark_21 : decode cO_keepsMark 21 = .ok ((.aload_n 0), 1) := by decide +kernel
theorem dO_keepsMark_22 : decode cO_keepsMark 22 = .ok ((.getfield 9), 3) := by decide +kernel
theorem dO_keepsMark_25 : decode cO_keepsMark 25 = .ok ((.getfield 78), 3) := by decide +kernel
theorem dO_keepsMark_28 : decode cO_keepsMark 28 = .ok ((.iload_n 2), 1) := by decide +kernel
theorem dO_keepsMark_29 : decode cO_keepsMark 29 = .ok (.iaload, 1) := by decide +kernel
theorem dO_keepsMark_30 : decode cO_keepsMark 30 = .ok ((.iconst 2), 1) := by decide +kernel
theorem dO_keepsMark_31 : decode cO_keepsMark 31 = .ok ((.if_icmp .ne 7), 3) := by decide +kernel
theorem dO_keepsMark_34 : decode cO_keepsMark 34 = .ok ((.iconst 1), 1) := by decide +kernel
theorem dO_keepsMark_35 : decode cO_keepsMark 35 = .ok ((.goto 4), 3) := by decide +kernel
theorem dO_keepsMark_38 : decode cO_keepsMark 38 = .ok ((.iconst 0), 1) := by decide +kernel
theorem dO_keepsMark_39 : decode cO_keepsMark 39 = .ok ((.aload_n 0), 1) := by decide +kernel
theorem dO_keepsMark_40 : decode cO_keepsMark 40 = .ok ((.getfield 9), 3) := by decide +kernel
theorem dO_keepsMark_43 : decode cO_keepsMark 43 = .ok ((.iload_n 2), 1) := by decide +kernel
theorem dO_keepsMark_44 : decode cO_keepsMark 44 = .ok ((.invokevirtual 81), 3) := by decide +kernel
theorem dO_keepsMark_47 : decode cO_keepsMark 47 = .ok ((.if_icmp .ne 7), 3) := by decide +kernel
theorem dO_keepsMark_50 : decode cO_keepsMark 50 = .ok ((.iconst 1), 1) := by decide +kernel
theorem dO_keepsMark_51 : decode cO_keepsMark 51 = .ok ((.goto 4), 3) := by decide +kernel
theorem dO_keepsMark_54 : decode cO_keepsMark 54 = .ok ((.iconst 0), 1) := by decide +kernel
theorem dO_keepsMark_55 : decode cO_keepsMark 55 = .ok ((.istore 4), 2) := by decide +kernel
theorem dO_keepsMark_57 : decode cO_keepsMark 57 = .ok ((.iload_n 1), 1) := by decide +kernel
theorem dO_keepsMark_58 : decode cO_keepsMark 58 = .ok ((.iload_n 3), 1) := by decide +kernel
theorem dO_keepsMark_59 : decode cO_keepsMark 59 = .ok ((.iload_n 2), 1) := by decide +kernel
theorem dO_keepsMark_60 : decode cO_keepsMark 60 = .ok ((.invokestatic 75), 3) := by decide +kernel
theorem dO_keepsMark_63 : decode cO_keepsMark 63 = .ok ((.iload 4), 2) := by decide +kernel
theorem dO_keepsMark_65 : decode cO_keepsMark 65 = .ok ((.if_icmp .ne 7), 3) := by decide +kernel
theorem dO_keepsMark_68 : decode cO_keepsMark 68 = .ok ((.iconst 1), 1) := by decide +kernel
theorem dO_keepsMark_69 : decode cO_keepsMark 69 = .ok ((.goto 4), 3) := by decide +kernel
theorem dO_keepsMark_72 : decode cO_keepsMark 72 = .ok ((.iconst 0), 1) := by decide +kernel
theorem dO_keepsMark_73 : decode cO_keepsMark 73 = .ok (.ireturn, 1) := by decide +kernel
theorem dO_makesNoRound_0 : decode cO_makesNoRound 0 = .ok ((.iconst 0), 1) := by decide +kernel
theorem dO_makesNoRound_1 : decode cO_makesNoRound 1 = .ok ((.istore 4), 2) := by decide +kernel
theorem dO_makesNoRound_3 : decode cO_makesNoRound 3 = .ok ((.iload 4), 2) := by decide +kernel
theorem dO_makesNoRound_5 : decode cO_makesNoRound 5 = .ok ((.iload_n 2), 1) := by decide +kernel
theorem dO_makesNoRound_6 : decode cO_makesNoRound 6 = .ok ((.if_icmp .ge 70), 3) := by decide +kernel
theorem dO_makesNoRound_9 : decode cO_makesNoRound 9 = .ok ((.aload_n 0), 1) := by decide +kernel
theorem dO_makesNoRound_10 : decode cO_makesNoRound 10 = .ok ((.getfield 9), 3) := by decide +kernel
theorem dO_makesNoRound_13 : decode cO_makesNoRound 13 = .ok ((.iload 4), 2) := by decide +kernel
theorem dO_makesNoRound_15 : decode cO_makesNoRound 15 = .ok ((.iload_n 2), 1) := by decide +kernel
theorem dO_makesNoRound_16 : decode cO_makesNoRound 16 = .ok ((.invokevirtual 44), 3) := by decide +kernel
theorem dO_makesNoRound_19 : decode cO_makesNoRound 19 = .ok ((.ifCond .eq 51), 3) := by decide +kernel
theorem dO_makesNoRound_22 : decode cO_makesNoRound 22 = .ok ((.aload_n 0), 1) := by decide +kernel
theorem dO_makesNoRound_23 : decode cO_makesNoRound 23 = .ok ((.getfield 9), 3) := by decide +kernel
theorem dO_makesNoRound_26 : decode cO_makesNoRound 26 = .ok ((.iload 4), 2) := by decide +kernel
theorem dO_makesNoRound_28 : decode cO_makesNoRound 28 = .ok ((.iload_n 3), 1) := by decide +kernel
theorem dO_makesNoRound_29 : decode cO_makesNoRound 29 = .ok ((.invokevirtual 44), 3) := by decide +kernel
theorem dO_makesNoRound_32 : decode cO_makesNoRound 32 = .ok ((.ifCond .eq 38), 3) := by decide +kernel
theorem dO_makesNoRound_35 : decode cO_makesNoRound 35 = .ok ((.iload_n 1), 1) := by decide +kernel
theorem dO_makesNoRound_36 : decode cO_makesNoRound 36 = .ok ((.iload_n 2), 1) := by decide +kernel
theorem dO_makesNoRound_37 : decode cO_makesNoRound 37 = .ok ((.iload_n 3), 1) := by decide +kernel
theorem dO_makesNoRound_38 : decode cO_makesNoRound 38 = .ok ((.invokestatic 75), 3) := by decide +kernel
theorem dO_makesNoRound_41 : decode cO_makesNoRound 41 = .ok ((.iload_n 1), 1) := by decide +kernel
theorem dO_makesNoRound_42 : decode cO_makesNoRound 42 = .ok ((.iload_n 3), 1) := by decide +kernel
theorem dO_makesNoRound_43 : decode cO_makesNoRound 43 = .ok ((.iload 4), 2) := by decide +kernel
theorem dO_makesNoRound_45 : decode cO_makesNoRound 45 = .ok ((.invokestatic 75), 3) := by decide +kernel
theorem dO_makesNoRound_48 : decode cO_makesNoRound 48 = .ok ((.if_icmp .ne 22), 3) := by decide +kernel
theorem dO_makesNoRound_51 : decode cO_makesNoRound 51 = .ok ((.iload_n 1), 1) := by decide +kernel
theorem dO_makesNoRound_52 : decode cO_makesNoRound 52 = .ok ((.iload_n 3), 1) := by decide +kernel
theorem dO_makesNoRound_53 : decode cO_makesNoRound 53 = .ok ((.iload 4), 2) := by decide +kernel
theorem dO_makesNoRound_55 : decode cO_makesNoRound 55 = .ok ((.invokestatic 75), 3) := by decide +kernel
theorem dO_makesNoRound_58 : decode cO_makesNoRound 58 = .ok ((.iload_n 1), 1) := by decide +kernel
theorem dO_makesNoRound_59 : decode cO_makesNoRound 59 = .ok ((.iload 4), 2) := by decide +kernel
theorem dO_makesNoRound_61 : decode cO_makesNoRound 61 = .ok ((.iload_n 2), 1) := by decide +kernel
theorem dO_makesNoRound_62 : decode cO_makesNoRound 62 = .ok ((.invokestatic 75), 3) := by decide +kernel
theorem dO_makesNoRound_65 : decode cO_makesNoRound 65 = .ok ((.if_icmp .ne 5), 3) := by decide +kernel
theorem dO_makesNoRound_68 : decode cO_makesNoRound 68 = .ok ((.iconst 0), 1) := by decide +kernel
theorem dO_makesNoRound_69 : decode cO_makesNoRound 69 = .ok (.ireturn, 1) := by decide +kernel
theorem dO_makesNoRound_70 : decode cO_makesNoRound 70 = .ok ((.iinc 4 1), 3) := by decide +kernel
theorem dO_makesNoRound_73 : decode cO_makesNoRound 73 = .ok ((.goto (-70)), 3) := by decide +kernel
theorem dO_makesNoRound_76 : decode cO_makesNoRound 76 = .ok ((.iconst 1), 1) := by decide +kernel
theorem dO_makesNoRound_77 : decode cO_makesNoRound 77 = .ok (.ireturn, 1) := by decide +kernel
theorem dO_crossesNoCrease_0 : decode cO_crossesNoCrease 0 = .ok ((.iload_n 2), 1) := by decide +kernel
theorem dO_crossesNoCrease_1 : decode cO_crossesNoCrease 1 = .ok ((.ifCond .le 38), 3) := by decide +kernel
theorem dO_crossesNoCrease_4 : decode cO_crossesNoCrease 4 = .ok ((.aload_n 0), 1) := by decide +kernel
theorem dO_crossesNoCrease_5 : decode cO_crossesNoCrease 5 = .ok ((.getfield 9), 3) := by decide +kernel
theorem dO_crossesNoCrease_8 : decode cO_crossesNoCrease 8 = .ok ((.iload_n 3), 1) := by decide +kernel
theorem dO_crossesNoCrease_9 : decode cO_crossesNoCrease 9 = .ok ((.aload_n 0), 1) := by decide +kernel
theorem dO_crossesNoCrease_10 : decode cO_crossesNoCrease 10 = .ok ((.getfield 9), 3) := by decide +kernel
theorem dO_crossesNoCrease_13 : decode cO_crossesNoCrease 13 = .ok ((.iload_n 2), 1) := by decide +kernel
theorem dO_crossesNoCrease_14 : decode cO_crossesNoCrease 14 = .ok ((.iconst 1), 1) := by decide +kernel
theorem dO_crossesNoCrease_15 : decode cO_crossesNoCrease 15 = .ok (.isub, 1) := by decide +kernel
theorem dO_crossesNoCrease_16 : decode cO_crossesNoCrease 16 = .ok ((.invokevirtual 85), 3) := by decide +kernel
theorem dO_crossesNoCrease_19 : decode cO_crossesNoCrease 19 = .ok ((.invokevirtual 88), 3) := by decide +kernel
theorem dO_crossesNoCrease_22 : decode cO_crossesNoCrease 22 = .ok ((.ifCond .eq 17), 3) := by decide +kernel
theorem dO_crossesNoCrease_25 : decode cO_crossesNoCrease 25 = .ok ((.iload_n 1), 1) := by decide +kernel
theorem dO_crossesNoCrease_26 : decode cO_crossesNoCrease 26 = .ok ((.iload_n 3), 1) := by decide +kernel
theorem dO_crossesNoCrease_27 : decode cO_crossesNoCrease 27 = .ok ((.iload_n 2), 1) := by decide +kernel
theorem dO_crossesNoCrease_28 : decode cO_crossesNoCrease 28 = .ok ((.iconst 1), 1) := by decide +kernel
theorem dO_crossesNoCrease_29 : decode cO_crossesNoCrease 29 = .ok (.isub, 1) := by decide +kernel
theorem dO_crossesNoCrease_30 : decode cO_crossesNoCrease 30 = .ok ((.iload_n 2), 1) := by decide +kernel
theorem dO_crossesNoCrease_31 : decode cO_crossesNoCrease 31 = .ok ((.invokestatic 91), 3) := by decide +kernel
theorem dO_crossesNoCrease_34 : decode cO_crossesNoCrease 34 = .ok ((.ifCond .eq 5), 3) := by decide +kernel
theorem dO_crossesNoCrease_37 : decode cO_crossesNoCrease 37 = .ok ((.iconst 0), 1) := by decide +kernel
theorem dO_crossesNoCrease_38 : decode cO_crossesNoCrease 38 = .ok (.ireturn, 1) := by decide +kernel
theorem dO_crossesNoCrease_39 : decode cO_crossesNoCrease 39 = .ok ((.aload_n 0), 1) := by decide +kernel
theorem dO_crossesNoCrease_40 : decode cO_crossesNoCrease 40 = .ok ((.getfield 9), 3) := by decide +kernel
theorem dO_crossesNoCrease_43 : decode cO_crossesNoCrease 43 = .ok ((.iload_n 2), 1) := by decide +kernel
theorem dO_crossesNoCrease_44 : decode cO_crossesNoCrease 44 = .ok ((.aload_n 0), 1) := by decide +kernel
theorem dO_crossesNoCrease_45 : decode cO_crossesNoCrease 45 = .ok ((.getfield 9), 3) := by decide +kernel
theorem dO_crossesNoCrease_48 : decode cO_crossesNoCrease 48 = .ok ((.iload_n 3), 1) := by decide +kernel
theorem dO_crossesNoCrease_49 : decode cO_crossesNoCrease 49 = .ok ((.iconst 1), 1) := by decide +kernel
theorem dO_crossesNoCrease_50 : decode cO_crossesNoCrease 50 = .ok (.isub, 1) := by decide +kernel
theorem dO_crossesNoCrease_51 : decode cO_crossesNoCrease 51 = .ok ((.invokevirtual 85), 3) := by decide +kernel
theorem dO_crossesNoCrease_54 : decode cO_crossesNoCrease 54 = .ok ((.invokevirtual 88), 3) := by decide +kernel
theorem dO_crossesNoCrease_57 : decode cO_crossesNoCrease 57 = .ok ((.ifCond .eq 15), 3) := by decide +kernel
theorem dO_crossesNoCrease_60 : decode cO_crossesNoCrease 60 = .ok ((.iload_n 1), 1) := by decide +kernel
theorem dO_crossesNoCrease_61 : decode cO_crossesNoCrease 61 = .ok ((.iload_n 2), 1) := by decide +kernel
theorem dO_crossesNoCrease_62 : decode cO_crossesNoCrease 62 = .ok ((.iload_n 3), 1) := by decide +kernel
theorem dO_crossesNoCrease_63 : decode cO_crossesNoCrease 63 = .ok ((.iconst 1), 1) := by decide +kernel
theorem dO_crossesNoCrease_64 : decode cO_crossesNoCrease 64 = .ok (.isub, 1) := by decide +kernel
theorem dO_crossesNoCrease_65 : decode cO_crossesNoCrease 65 = .ok ((.iload_n 3), 1) := by decide +kernel
theorem dO_crossesNoCrease_66 : decode cO_crossesNoCrease 66 = .ok ((.invokestatic 91), 3) := by decide +kernel
theorem dO_crossesNoCrease_69 : decode cO_crossesNoCrease 69 = .ok ((.ifCond .ne 7), 3) := by decide +kernel
theorem dO_crossesNoCrease_72 : decode cO_crossesNoCrease 72 = .ok ((.iconst 1), 1) := by decide +kernel
theorem dO_crossesNoCrease_73 : decode cO_crossesNoCrease 73 = .ok ((.goto 4), 3) := by decide +kernel
theorem dO_crossesNoCrease_76 : decode cO_crossesNoCrease 76 = .ok ((.iconst 0), 1) := by decide +kernel
theorem dO_crossesNoCrease_77 : decode cO_crossesNoCrease 77 = .ok (.ireturn, 1) := by decide +kernel
theorem dO_isBetween_0 : decode cO_isBetween 0 = .ok ((.iload_n 0), 1) := by decide +kernel
theorem dO_isBetween_1 : decode cO_isBetween 1 = .ok ((.iload_n 1), 1) := by decide +kernel
theorem dO_isBetween_2 : decode cO_isBetween 2 = .ok ((.iload_n 2), 1) := by decide +kernel
theorem dO_isBetween_3 : decode cO_isBetween 3 = .ok ((.invokestatic 75), 3) := by decide +kernel
theorem dO_isBetween_6 : decode cO_isBetween 6 = .ok ((.iload_n 0), 1) := by decide +kernel
theorem dO_isBetween_7 : decode cO_isBetween 7 = .ok ((.iload_n 1), 1) := by decide +kernel
theorem dO_isBetween_8 : decode cO_isBetween 8 = .ok ((.iload_n 3), 1) := by decide +kernel
theorem dO_isBetween_9 : decode cO_isBetween 9 = .ok ((.invokestatic 75), 3) := by decide +kernel
theorem dO_isBetween_12 : decode cO_isBetween 12 = .ok ((.if_icmp .eq 7), 3) := by decide +kernel
theorem dO_isBetween_15 : decode cO_isBetween 15 = .ok ((.iconst 1), 1) := by decide +kernel
theorem dO_isBetween_16 : decode cO_isBetween 16 = .ok ((.goto 4), 3) := by decide +kernel
theorem dO_isBetween_19 : decode cO_isBetween 19 = .ok ((.iconst 0), 1) := by decide +kernel
theorem dO_isBetween_20 : decode cO_isBetween 20 = .ok (.ireturn, 1) := by decide +kernel
theorem dO_creasesNest_0 : decode cO_creasesNest 0 = .ok ((.iload_n 2), 1) := by decide +kernel
theorem dO_creasesNest_1 : decode cO_creasesNest 1 = .ok ((.ifCond .eq 26), 3) := by decide +kernel
theorem dO_creasesNest_4 : decode cO_creasesNest 4 = .ok ((.aload_n 0), 1) := by decide +kernel
theorem dO_creasesNest_5 : decode cO_creasesNest 5 = .ok ((.getfield 9), 3) := by decide +kernel
theorem dO_creasesNest_8 : decode cO_creasesNest 8 = .ok ((.iload_n 2), 1) := by decide +kernel
theorem dO_creasesNest_9 : decode cO_creasesNest 9 = .ok ((.iconst 1), 1) := by decide +kernel
theorem dO_creasesNest_10 : decode cO_creasesNest 10 = .ok (.isub, 1) := by decide +kernel
theorem dO_creasesNest_11 : decode cO_creasesNest 11 = .ok ((.invokevirtual 85), 3) := by decide +kernel
theorem dO_creasesNest_14 : decode cO_creasesNest 14 = .ok ((.aload_n 0), 1) := by decide +kernel
theorem dO_creasesNest_15 : decode cO_creasesNest 15 = .ok ((.getfield 9), 3) := by decide +kernel
theorem dO_creasesNest_18 : decode cO_creasesNest 18 = .ok ((.iload_n 3), 1) := by decide +kernel
theorem dO_creasesNest_19 : decode cO_creasesNest 19 = .ok ((.iconst 1), 1) := by decide +kernel
theorem dO_creasesNest_20 : decode cO_creasesNest 20 = .ok (.isub, 1) := by decide +kernel
theorem dO_creasesNest_21 : decode cO_creasesNest 21 = .ok ((.invokevirtual 85), 3) := by decide +kernel
theorem dO_creasesNest_24 : decode cO_creasesNest 24 = .ok ((.if_icmp .eq 5), 3) := by decide +kernel
theorem dO_creasesNest_27 : decode cO_creasesNest 27 = .ok ((.iconst 1), 1) := by decide +kernel
theorem dO_creasesNest_28 : decode cO_creasesNest 28 = .ok (.ireturn, 1) := by decide +kernel
theorem dO_creasesNest_29 : decode cO_creasesNest 29 = .ok ((.iload_n 1), 1) := by decide +kernel
theorem dO_creasesNest_30 : decode cO_creasesNest 30 = .ok ((.iload_n 3), 1) := by decide +kernel
theorem dO_creasesNest_31 : decode cO_creasesNest 31 = .ok ((.iconst 1), 1) := by decide +kernel
theorem dO_creasesNest_32 : decode cO_creasesNest 32 = .ok (.isub, 1) := by decide +kernel
theorem dO_creasesNest_33 : decode cO_creasesNest 33 = .ok ((.iload_n 2), 1) := by decide +kernel
theorem dO_creasesNest_34 : decode cO_creasesNest 34 = .ok ((.iconst 1), 1) := by decide +kernel
theorem dO_creasesNest_35 : decode cO_creasesNest 35 = .ok (.isub, 1) := by decide +kernel
theorem dO_creasesNest_36 : decode cO_creasesNest 36 = .ok ((.iload_n 2), 1) := by decide +kernel
theorem dO_creasesNest_37 : decode cO_creasesNest 37 = .ok ((.invokestatic 91), 3) := by decide +kernel
theorem dO_creasesNest_40 : decode cO_creasesNest 40 = .ok ((.iload_n 1), 1) := by decide +kernel
theorem dO_creasesNest_41 : decode cO_creasesNest 41 = .ok ((.iload_n 3), 1) := by decide +kernel
theorem dO_creasesNest_42 : decode cO_creasesNest 42 = .ok ((.iload_n 2), 1) := by decide +kernel
theorem dO_creasesNest_43 : decode cO_creasesNest 43 = .ok ((.iconst 1), 1) := by decide +kernel
theorem dO_creasesNest_44 : decode cO_creasesNest 44 = .ok (.isub, 1) := by decide +kernel
theorem dO_creasesNest_45 : decode cO_creasesNest 45 = .ok ((.iload_n 2), 1) := by decide +kernel
theorem dO_creasesNest_46 : decode cO_creasesNest 46 = .ok ((.invokestatic 91), 3) := by decide +kernel
theorem dO_creasesNest_49 : decode cO_creasesNest 49 = .ok ((.if_icmp .ne 7), 3) := by decide +kernel
theorem dO_creasesNest_52 : decode cO_creasesNest 52 = .ok ((.iconst 1), 1) := by decide +kernel
theorem dO_creasesNest_53 : decode cO_creasesNest 53 = .ok ((.goto 4), 3) := by decide +kernel
theorem dO_creasesNest_56 : decode cO_creasesNest 56 = .ok ((.iconst 0), 1) := by decide +kernel
theorem dO_creasesNest_57 : decode cO_creasesNest 57 = .ok (.ireturn, 1) := by decide +kernel
theorem dO_segmentAt_0 : decode cO_segmentAt 0 = .ok ((.iconst 0), 1) := by decide +kernel
theorem dO_segmentAt_1 : decode cO_segmentAt 1 = .ok ((.istore 4), 2) := by decide +kernel
theorem dO_segmentAt_3 : decode cO_segmentAt 3 = .ok ((.iload 4), 2) := by decide +kernel
theorem dO_segmentAt_5 : decode cO_segmentAt 5 = .ok ((.aload_n 0), 1) := by decide +kernel
theorem dO_segmentAt_6 : decode cO_segmentAt 6 = .ok ((.getfield 9), 3) := by decide +kernel
theorem dO_segmentAt_9 : decode cO_segmentAt 9 = .ok ((.getfield 35), 3) := by decide +kernel
theorem dO_segmentAt_12 : decode cO_segmentAt 12 = .ok ((.if_icmp .gt 37), 3) := by decide +kernel
theorem dO_segmentAt_15 : decode cO_segmentAt 15 = .ok ((.aload_n 0), 1) := by decide +kernel
theorem dO_segmentAt_16 : decode cO_segmentAt 16 = .ok ((.getfield 9), 3) := by decide +kernel
theorem dO_segmentAt_19 : decode cO_segmentAt 19 = .ok ((.iload 4), 2) := by decide +kernel
theorem dO_segmentAt_21 : decode cO_segmentAt 21 = .ok ((.iload_n 2), 1) := by decide +kernel
theorem dO_segmentAt_22 : decode cO_segmentAt 22 = .ok ((.invokevirtual 95), 3) := by decide +kernel
theorem dO_segmentAt_25 : decode cO_segmentAt 25 = .ok ((.ifCond .eq 18), 3) := by decide +kernel
theorem dO_segmentAt_28 : decode cO_segmentAt 28 = .ok ((.aload_n 0), 1) := by decide +kernel
theorem dO_segmentAt_29 : decode cO_segmentAt 29 = .ok ((.iload_n 1), 1) := by decide +kernel
theorem dO_segmentAt_30 : decode cO_segmentAt 30 = .ok ((.iload 4), 2) := by decide +kernel
theorem dO_segmentAt_32 : decode cO_segmentAt 32 = .ok ((.iload_n 2), 1) := by decide +kernel
theorem dO_segmentAt_33 : decode cO_segmentAt 33 = .ok ((.invokevirtual 98), 3) := by decide +kernel
theorem dO_segmentAt_36 : decode cO_segmentAt 36 = .ok ((.iload_n 3), 1) := by decide +kernel
theorem dO_segmentAt_37 : decode cO_segmentAt 37 = .ok ((.if_icmp .ne 6), 3) := by decide +kernel
theorem dO_segmentAt_40 : decode cO_segmentAt 40 = .ok ((.iload 4), 2) := by decide +kernel
theorem dO_segmentAt_42 : decode cO_segmentAt 42 = .ok (.ireturn, 1) := by decide +kernel
theorem dO_segmentAt_43 : decode cO_segmentAt 43 = .ok ((.iinc 4 1), 3) := by decide +kernel
theorem dO_segmentAt_46 : decode cO_segmentAt 46 = .ok ((.goto (-43)), 3) := by decide +kernel
theorem dO_segmentAt_49 : decode cO_segmentAt 49 = .ok ((.iconst (-1)), 1) := by decide +kernel
theorem dO_segmentAt_50 : decode cO_segmentAt 50 = .ok (.ireturn, 1) := by decide +kernel
theorem dO_below_0 : decode cO_below 0 = .ok ((.iconst 0), 1) := by decide +kernel
theorem dO_below_1 : decode cO_below 1 = .ok ((.istore 4), 2) := by decide +kernel
theorem dO_below_3 : decode cO_below 3 = .ok ((.iconst 0), 1) := by decide +kernel
theorem dO_below_4 : decode cO_below 4 = .ok ((.istore 5), 2) := by decide +kernel
theorem dO_below_6 : decode cO_below 6 = .ok ((.iload 5), 2) := by decide +kernel
theorem dO_below_8 : decode cO_below 8 = .ok ((.aload_n 0), 1) := by decide +kernel
theorem dO_below_9 : decode cO_below 9 = .ok ((.getfield 9), 3) := by decide +kernel
theorem dO_below_12 : decode cO_below 12 = .ok ((.getfield 35), 3) := by decide +kernel
theorem dO_below_15 : decode cO_below 15 = .ok ((.if_icmp .gt 41), 3) := by decide +kernel
theorem dO_below_18 : decode cO_below 18 = .ok ((.iload 5), 2) := by decide +kernel
theorem dO_below_20 : decode cO_below 20 = .ok ((.iload_n 2), 1) := by decide +kernel
theorem dO_below_21 : decode cO_below 21 = .ok ((.if_icmp .eq 29), 3) := by decide +kernel
theorem dO_below_24 : decode cO_below 24 = .ok ((.aload_n 0), 1) := by decide +kernel
theorem dO_below_25 : decode cO_below 25 = .ok ((.getfield 9), 3) := by decide +kernel
theorem dO_below_28 : decode cO_below 28 = .ok ((.iload 5), 2) := by decide +kernel
theorem dO_below_30 : decode cO_below 30 = .ok ((.iload_n 3), 1) := by decide +kernel
theorem dO_below_31 : decode cO_below 31 = .ok ((.invokevirtual 95), 3) := by decide +kernel
theorem dO_below_34 : decode cO_below 34 = .ok ((.ifCond .eq 16), 3) := by decide +kernel
theorem dO_below_37 : decode cO_below 37 = .ok ((.iload_n 1), 1) := by decide +kernel
theorem dO_below_38 : decode cO_below 38 = .ok ((.iload_n 2), 1) := by decide +kernel
theorem dO_below_39 : decode cO_below 39 = .ok ((.iload 5), 2) := by decide +kernel
theorem dO_below_41 : decode cO_below 41 = .ok ((.invokestatic 75), 3) := by decide +kernel
theorem dO_below_44 : decode cO_below 44 = .ok ((.ifCond .eq 6), 3) := by decide +kernel
theorem dO_below_47 : decode cO_below 47 = .ok ((.iinc 4 1), 3) := by decide +kernel
theorem dO_below_50 : decode cO_below 50 = .ok ((.iinc 5 1), 3) := by decide +kernel
theorem dO_below_53 : decode cO_below 53 = .ok ((.goto (-47)), 3) := by decide +kernel
theorem dO_below_56 : decode cO_below 56 = .ok ((.iload 4), 2) := by decide +kernel
theorem dO_below_58 : decode cO_below 58 = .ok (.ireturn, 1) := by decide +kernel
