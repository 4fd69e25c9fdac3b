theorem dM_init_0 : decode cM_init 0 = .ok ((.aload_n 0), 1) := by decide +kernel
theorem dM_init_1 : decode cM_init 1 = .ok ((.invokespecial 1), 3) := by decide +kernel
theorem dM_init_4 : decode cM_init 4 = .ok ((.aload_n 0), 1) := by decide +kernel
theorem dM_init_5 : decode cM_init 5 = .ok ((.iconst 1), 1) := by decide +kernel
theorem dM_init_6 : decode cM_init 6 = .ok ((.putfield 7), 3) := by decide +kernel
theorem dM_init_9 : decode cM_init 9 = .ok ((.aload_n 0), 1) := by decide +kernel
theorem dM_init_10 : decode cM_init 10 = .ok ((.bipush 6), 2) := by decide +kernel
theorem dM_init_12 : decode cM_init 12 = .ok ((.newarray .int), 2) := by decide +kernel
theorem dM_init_14 : decode cM_init 14 = .ok ((.putfield 13), 3) := by decide +kernel
theorem dM_init_17 : decode cM_init 17 = .ok ((.aload_n 0), 1) := by decide +kernel
theorem dM_init_18 : decode cM_init 18 = .ok ((.bipush 6), 2) := by decide +kernel
theorem dM_init_20 : decode cM_init 20 = .ok ((.newarray .int), 2) := by decide +kernel
theorem dM_init_22 : decode cM_init 22 = .ok ((.putfield 17), 3) := by decide +kernel
theorem dM_init_25 : decode cM_init 25 = .ok ((.aload_n 0), 1) := by decide +kernel
theorem dM_init_26 : decode cM_init 26 = .ok ((.bipush 60), 2) := by decide +kernel
theorem dM_init_28 : decode cM_init 28 = .ok ((.newarray .int), 2) := by decide +kernel
theorem dM_init_30 : decode cM_init 30 = .ok ((.putfield 20), 3) := by decide +kernel
theorem dM_init_33 : decode cM_init 33 = .ok ((.aload_n 0), 1) := by decide +kernel
theorem dM_init_34 : decode cM_init 34 = .ok ((.bipush 49), 2) := by decide +kernel
theorem dM_init_36 : decode cM_init 36 = .ok ((.newarray .int), 2) := by decide +kernel
theorem dM_init_38 : decode cM_init 38 = .ok ((.putfield 23), 3) := by decide +kernel
theorem dM_init_41 : decode cM_init 41 = .ok ((.aload_n 0), 1) := by decide +kernel
theorem dM_init_42 : decode cM_init 42 = .ok ((.bipush 21), 2) := by decide +kernel
theorem dM_init_44 : decode cM_init 44 = .ok ((.newarray .int), 2) := by decide +kernel
theorem dM_init_46 : decode cM_init 46 = .ok ((.putfield 26), 3) := by decide +kernel
theorem dM_init_49 : decode cM_init 49 = .ok ((.aload_n 0), 1) := by decide +kernel
theorem dM_init_50 : decode cM_init 50 = .ok ((.bipush 21), 2) := by decide +kernel
theorem dM_init_52 : decode cM_init 52 = .ok ((.newarray .int), 2) := by decide +kernel
theorem dM_init_54 : decode cM_init 54 = .ok ((.putfield 29), 3) := by decide +kernel
theorem dM_init_57 : decode cM_init 57 = .ok ((.aload_n 0), 1) := by decide +kernel
theorem dM_init_58 : decode cM_init 58 = .ok ((.bipush 7), 2) := by decide +kernel
theorem dM_init_60 : decode cM_init 60 = .ok ((.newarray .int), 2) := by decide +kernel
theorem dM_init_62 : decode cM_init 62 = .ok ((.putfield 32), 3) := by decide +kernel
theorem dM_init_65 : decode cM_init 65 = .ok ((.aload_n 0), 1) := by decide +kernel
theorem dM_init_66 : decode cM_init 66 = .ok ((.bipush 7), 2) := by decide +kernel
theorem dM_init_68 : decode cM_init 68 = .ok ((.newarray .int), 2) := by decide +kernel
theorem dM_init_70 : decode cM_init 70 = .ok ((.putfield 35), 3) := by decide +kernel
theorem dM_init_73 : decode cM_init 73 = .ok ((.aload_n 0), 1) := by decide +kernel
theorem dM_init_74 : decode cM_init 74 = .ok ((.bipush 6), 2) := by decide +kernel
theorem dM_init_76 : decode cM_init 76 = .ok ((.newarray .int), 2) := by decide +kernel
theorem dM_init_78 : decode cM_init 78 = .ok ((.putfield 38), 3) := by decide +kernel
theorem dM_init_81 : decode cM_init 81 = .ok ((.aload_n 0), 1) := by decide +kernel
theorem dM_init_82 : decode cM_init 82 = .ok ((.bipush 7), 2) := by decide +kernel
theorem dM_init_84 : decode cM_init 84 = .ok ((.newarray .int), 2) := by decide +kernel
theorem dM_init_86 : decode cM_init 86 = .ok ((.putfield 41), 3) := by decide +kernel
theorem dM_init_89 : decode cM_init 89 = .ok ((.aload_n 0), 1) := by decide +kernel
theorem dM_init_90 : decode cM_init 90 = .ok ((.bipush 7), 2) := by decide +kernel
theorem dM_init_92 : decode cM_init 92 = .ok ((.newarray .int), 2) := by decide +kernel
theorem dM_init_94 : decode cM_init 94 = .ok ((.putfield 44), 3) := by decide +kernel
theorem dM_init_97 : decode cM_init 97 = .ok ((.aload_n 0), 1) := by decide +kernel
theorem dM_init_98 : decode cM_init 98 = .ok ((.bipush 7), 2) := by decide +kernel
theorem dM_init_100 : decode cM_init 100 = .ok ((.newarray .int), 2) := by decide +kernel
theorem dM_init_102 : decode cM_init 102 = .ok ((.putfield 47), 3) := by decide +kernel
theorem dM_init_105 : decode cM_init 105 = .ok ((.aload_n 0), 1) := by decide +kernel
theorem dM_init_106 : decode cM_init 106 = .ok ((.bipush 7), 2) := by decide +kernel
theorem dM_init_108 : decode cM_init 108 = .ok ((.newarray .int), 2) := by decide +kernel
theorem dM_init_110 : decode cM_init 110 = .ok ((.putfield 50), 3) := by decide +kernel
theorem dM_init_113 : decode cM_init 113 = .ok ((.aload_n 0), 1) := by decide +kernel
theorem dM_init_114 : decode cM_init 114 = .ok ((.bipush 7), 2) := by decide +kernel
theorem dM_init_116 : decode cM_init 116 = .ok ((.newarray .int), 2) := by decide +kernel
theorem dM_init_118 : decode cM_init 118 = .ok ((.putfield 53), 3) := by decide +kernel
theorem dM_init_121 : decode cM_init 121 = .ok (.return_, 1) := by decide +kernel
theorem dM_thrown_0 : decode cM_thrown 0 = .ok ((.aload_n 0), 1) := by decide +kernel
theorem dM_thrown_1 : decode cM_thrown 1 = .ok ((.getfield 56), 3) := by decide +kernel
theorem dM_thrown_4 : decode cM_thrown 4 = .ok (.ireturn, 1) := by decide +kernel
theorem dM_strip_0 : decode cM_strip 0 = .ok ((.aload_n 0), 1) := by decide +kernel
theorem dM_strip_1 : decode cM_strip 1 = .ok ((.iload_n 1), 1) := by decide +kernel
theorem dM_strip_2 : decode cM_strip 2 = .ok ((.iconst 1), 1) := by decide +kernel
theorem dM_strip_3 : decode cM_strip 3 = .ok ((.if_icmp .lt 9), 3) := by decide +kernel
theorem dM_strip_6 : decode cM_strip 6 = .ok ((.iload_n 1), 1) := by decide +kernel
theorem dM_strip_7 : decode cM_strip 7 = .ok ((.bipush 60), 2) := by decide +kernel
theorem dM_strip_9 : decode cM_strip 9 = .ok ((.if_icmp .le 7), 3) := by decide +kernel
theorem dM_strip_12 : decode cM_strip 12 = .ok ((.iconst 1), 1) := by decide +kernel
theorem dM_strip_13 : decode cM_strip 13 = .ok ((.goto 4), 3) := by decide +kernel
theorem dM_strip_16 : decode cM_strip 16 = .ok ((.iconst 0), 1) := by decide +kernel
theorem dM_strip_17 : decode cM_strip 17 = .ok ((.iconst 0), 1) := by decide +kernel
theorem dM_strip_18 : decode cM_strip 18 = .ok ((.invokevirtual 59), 3) := by decide +kernel
theorem dM_strip_21 : decode cM_strip 21 = .ok ((.ifCond .eq 4), 3) := by decide +kernel
theorem dM_strip_24 : decode cM_strip 24 = .ok (.return_, 1) := by decide +kernel
theorem dM_strip_25 : decode cM_strip 25 = .ok ((.aload_n 0), 1) := by decide +kernel
theorem dM_strip_26 : decode cM_strip 26 = .ok ((.iload_n 1), 1) := by decide +kernel
theorem dM_strip_27 : decode cM_strip 27 = .ok ((.putfield 7), 3) := by decide +kernel
theorem dM_strip_30 : decode cM_strip 30 = .ok ((.aload_n 0), 1) := by decide +kernel
theorem dM_strip_31 : decode cM_strip 31 = .ok ((.iconst 0), 1) := by decide +kernel
theorem dM_strip_32 : decode cM_strip 32 = .ok ((.putfield 63), 3) := by decide +kernel
theorem dM_strip_35 : decode cM_strip 35 = .ok ((.aload_n 0), 1) := by decide +kernel
theorem dM_strip_36 : decode cM_strip 36 = .ok ((.iconst 0), 1) := by decide +kernel
theorem dM_strip_37 : decode cM_strip 37 = .ok ((.putfield 66), 3) := by decide +kernel
theorem dM_strip_40 : decode cM_strip 40 = .ok (.return_, 1) := by decide +kernel
theorem dM_refuse_0 : decode cM_refuse 0 = .ok ((.aload_n 0), 1) := by decide +kernel
theorem dM_refuse_1 : decode cM_refuse 1 = .ok ((.iload_n 1), 1) := by decide +kernel
theorem dM_refuse_2 : decode cM_refuse 2 = .ok ((.ifCond .eq 7), 3) := by decide +kernel
theorem dM_refuse_5 : decode cM_refuse 5 = .ok ((.iconst 1), 1) := by decide +kernel
theorem dM_refuse_6 : decode cM_refuse 6 = .ok ((.goto 12), 3) := by decide +kernel
theorem dM_refuse_9 : decode cM_refuse 9 = .ok ((.iload_n 2), 1) := by decide +kernel
theorem dM_refuse_10 : decode cM_refuse 10 = .ok ((.ifCond .eq 7), 3) := by decide +kernel
theorem dM_refuse_13 : decode cM_refuse 13 = .ok ((.iconst 2), 1) := by decide +kernel
theorem dM_refuse_14 : decode cM_refuse 14 = .ok ((.goto 4), 3) := by decide +kernel
theorem dM_refuse_17 : decode cM_refuse 17 = .ok ((.iconst 0), 1) := by decide +kernel
theorem dM_refuse_18 : decode cM_refuse 18 = .ok ((.putfield 56), 3) := by decide +kernel
theorem dM_refuse_21 : decode cM_refuse 21 = .ok ((.aload_n 0), 1) := by decide +kernel
theorem dM_refuse_22 : decode cM_refuse 22 = .ok ((.getfield 56), 3) := by decide +kernel
theorem dM_refuse_25 : decode cM_refuse 25 = .ok ((.ifCond .le 7), 3) := by decide +kernel
theorem dM_refuse_28 : decode cM_refuse 28 = .ok ((.iconst 1), 1) := by decide +kernel
theorem dM_refuse_29 : decode cM_refuse 29 = .ok ((.goto 4), 3) := by decide +kernel
theorem dM_refuse_32 : decode cM_refuse 32 = .ok ((.iconst 0), 1) := by decide +kernel
theorem dM_refuse_33 : decode cM_refuse 33 = .ok (.ireturn, 1) := by decide +kernel
theorem dM_crease_0 : decode cM_crease 0 = .ok ((.aload_n 0), 1) := by decide +kernel
theorem dM_crease_1 : decode cM_crease 1 = .ok ((.iload_n 1), 1) := by decide +kernel
theorem dM_crease_2 : decode cM_crease 2 = .ok ((.invokevirtual 70), 3) := by decide +kernel
theorem dM_crease_5 : decode cM_crease 5 = .ok ((.istore_n 3), 1) := by decide +kernel
theorem dM_crease_6 : decode cM_crease 6 = .ok ((.iload_n 3), 1) := by decide +kernel
theorem dM_crease_7 : decode cM_crease 7 = .ok ((.aload_n 0), 1) := by decide +kernel
theorem dM_crease_8 : decode cM_crease 8 = .ok ((.getfield 63), 3) := by decide +kernel
theorem dM_crease_11 : decode cM_crease 11 = .ok ((.if_icmp .ge 17), 3) := by decide +kernel
theorem dM_crease_14 : decode cM_crease 14 = .ok ((.aload_n 0), 1) := by decide +kernel
theorem dM_crease_15 : decode cM_crease 15 = .ok ((.getfield 13), 3) := by decide +kernel
theorem dM_crease_18 : decode cM_crease 18 = .ok ((.iload_n 3), 1) := by decide +kernel
theorem dM_crease_19 : decode cM_crease 19 = .ok (.iaload, 1) := by decide +kernel
theorem dM_crease_20 : decode cM_crease 20 = .ok ((.iload_n 1), 1) := by decide +kernel
theorem dM_crease_21 : decode cM_crease 21 = .ok ((.if_icmp .ne 7), 3) := by decide +kernel
theorem dM_crease_24 : decode cM_crease 24 = .ok ((.iconst 1), 1) := by decide +kernel
theorem dM_crease_25 : decode cM_crease 25 = .ok ((.goto 4), 3) := by decide +kernel
theorem dM_crease_28 : decode cM_crease 28 = .ok ((.iconst 0), 1) := by decide +kernel
theorem dM_crease_29 : decode cM_crease 29 = .ok ((.istore 4), 2) := by decide +kernel
theorem dM_crease_31 : decode cM_crease 31 = .ok ((.iload_n 1), 1) := by decide +kernel
theorem dM_crease_32 : decode cM_crease 32 = .ok ((.iconst 1), 1) := by decide +kernel
theorem dM_crease_33 : decode cM_crease 33 = .ok ((.if_icmp .lt 30), 3) := by decide +kernel
theorem dM_crease_36 : decode cM_crease 36 = .ok ((.iload_n 1), 1) := by decide +kernel
theorem dM_crease_37 : decode cM_crease 37 = .ok ((.aload_n 0), 1) := by decide +kernel
theorem dM_crease_38 : decode cM_crease 38 = .ok ((.getfield 7), 3) := by decide +kernel
theorem dM_crease_41 : decode cM_crease 41 = .ok ((.if_icmp .ge 22), 3) := by decide +kernel
theorem dM_crease_44 : decode cM_crease 44 = .ok ((.iload_n 2), 1) := by decide +kernel
theorem dM_crease_45 : decode cM_crease 45 = .ok ((.ifCond .lt 18), 3) := by decide +kernel
theorem dM_crease_48 : decode cM_crease 48 = .ok ((.iload_n 2), 1) := by decide +kernel
theorem dM_crease_49 : decode cM_crease 49 = .ok ((.iconst 3), 1) := by decide +kernel
theorem dM_crease_50 : decode cM_crease 50 = .ok ((.if_icmp .gt 13), 3) := by decide +kernel
theorem dM_crease_53 : decode cM_crease 53 = .ok ((.iload_n 2), 1) := by decide +kernel
theorem dM_crease_54 : decode cM_crease 54 = .ok ((.iconst 3), 1) := by decide +kernel
theorem dM_crease_55 : decode cM_crease 55 = .ok ((.if_icmp .ne 12), 3) := by decide +kernel
theorem dM_crease_58 : decode cM_crease 58 = .ok ((.iload 4), 2) := by decide +kernel
theorem dM_crease_60 : decode cM_crease 60 = .ok ((.ifCond .ne 7), 3) := by decide +kernel
theorem dM_crease_63 : decode cM_crease 63 = .ok ((.iconst 1), 1) := by decide +kernel
theorem dM_crease_64 : decode cM_crease 64 = .ok ((.goto 4), 3) := by decide +kernel
theorem dM_crease_67 : decode cM_crease 67 = .ok ((.iconst 0), 1) := by decide +kernel
theorem dM_crease_68 : decode cM_crease 68 = .ok ((.istore 5), 2) := by decide +kernel
theorem dM_crease_70 : decode cM_crease 70 = .ok ((.aload_n 0), 1) := by decide +kernel
theorem dM_crease_71 : decode cM_crease 71 = .ok ((.iload 5), 2) := by decide +kernel
theorem dM_crease_73 : decode cM_crease 73 = .ok ((.iload 4), 2) := by decide +kernel
theorem dM_crease_75 : decode cM_crease 75 = .ok ((.ifCond .ne 16), 3) := by decide +kernel
theorem dM_crease_78 : decode cM_crease 78 = .ok ((.aload_n 0), 1) := by decide +kernel
theorem dM_crease_79 : decode cM_crease 79 = .ok ((.getfield 63), 3) := by decide +kernel
theorem dM_crease_82 : decode cM_crease 82 = .ok ((.bipush 6), 2) := by decide +kernel
theorem dM_crease_84 : decode cM_crease 84 = .ok ((.if_icmp .ne 7), 3) := by decide +kernel
theorem dM_crease_87 : decode cM_crease 87 = .ok ((.iconst 1), 1) := by decide +kernel
theorem dM_crease_88 : decode cM_crease 88 = .ok ((.goto 4), 3) := by decide +kernel
theorem dM_crease_91 : decode cM_crease 91 = .ok ((.iconst 0), 1) := by decide +kernel
theorem dM_crease_92 : decode cM_crease 92 = .ok ((.invokevirtual 59), 3) := by decide +kernel
theorem dM_crease_95 : decode cM_crease 95 = .ok ((.ifCond .eq 5), 3) := by decide +kernel
theorem dM_crease_98 : decode cM_crease 98 = .ok ((.iconst 0), 1) := by decide +kernel
theorem dM_crease_99 : decode cM_crease 99 = .ok (.ireturn, 1) := by decide +kernel
theorem dM_crease_100 : decode cM_crease 100 = .ok ((.iload 4), 2) := by decide +kernel
theorem dM_crease_102 : decode cM_crease 102 = .ok ((.ifCond .eq 18), 3) := by decide +kernel
theorem dM_crease_105 : decode cM_crease 105 = .ok ((.iload_n 2), 1) := by decide +kernel
theorem dM_crease_106 : decode cM_crease 106 = .ok ((.iconst 3), 1) := by decide +kernel
theorem dM_crease_107 : decode cM_crease 107 = .ok ((.if_icmp .ge 13), 3) := by decide +kernel
theorem dM_crease_110 : decode cM_crease 110 = .ok ((.aload_n 0), 1) := by decide +kernel
theorem dM_crease_111 : decode cM_crease 111 = .ok ((.getfield 17), 3) := by decide +kernel
theorem dM_crease_114 : decode cM_crease 114 = .ok ((.iload_n 3), 1) := by decide +kernel
theorem dM_crease_115 : decode cM_crease 115 = .ok ((.iload_n 2), 1) := by decide +kernel
theorem dM_crease_116 : decode cM_crease 116 = .ok (.iastore, 1) := by decide +kernel
theorem dM_crease_117 : decode cM_crease 117 = .ok ((.goto 145), 3) := by decide +kernel
theorem dM_crease_120 : decode cM_crease 120 = .ok ((.iload 4), 2) := by decide +kernel
theorem dM_crease_122 : decode cM_crease 122 = .ok ((.ifCond .eq 66), 3) := by decide +kernel
theorem dM_crease_125 : decode cM_crease 125 = .ok ((.aload_n 0), 1) := by decide +kernel
theorem dM_crease_126 : decode cM_crease 126 = .ok (.dup, 1) := by decide +kernel
theorem dM_crease_127 : decode cM_crease 127 = .ok ((.getfield 63), 3) := by decide +kernel
theorem dM_crease_130 : decode cM_crease 130 = .ok ((.iconst 1), 1) := by decide +kernel
theorem dM_crease_131 : decode cM_crease 131 = .ok (.isub, 1) := by decide +kernel
theorem dM_crease_132 : decode cM_crease 132 = .ok ((.putfield 63), 3) := by decide +kernel
theorem dM_crease_135 : decode cM_crease 135 = .ok ((.iload_n 3), 1) := by decide +kernel
theorem dM_crease_136 : decode cM_crease 136 = .ok ((.istore 6), 2) := by decide +kernel
theorem dM_crease_138 : decode cM_crease 138 = .ok ((.iload 6), 2) := by decide +kernel
theorem dM_crease_140 : decode cM_crease 140 = .ok ((.aload_n 0), 1) := by decide +kernel
theorem dM_crease_141 : decode cM_crease 141 = .ok ((.getfield 63), 3) := by decide +kernel
theorem dM_crease_144 : decode cM_crease 144 = .ok ((.if_icmp .ge 41), 3) := by decide +kernel
theorem dM_crease_147 : decode cM_crease 147 = .ok ((.aload_n 0), 1) := by decide +kernel
theorem dM_crease_148 : decode cM_crease 148 = .ok ((.getfield 13), 3) := by decide +kernel
theorem dM_crease_151 : decode cM_crease 151 = .ok ((.iload 6), 2) := by decide +kernel
theorem dM_crease_153 : decode cM_crease 153 = .ok ((.aload_n 0), 1) := by decide +kernel
theorem dM_crease_154 : decode cM_crease 154 = .ok ((.getfield 13), 3) := by decide +kernel
theorem dM_crease_157 : decode cM_crease 157 = .ok ((.iload 6), 2) := by decide +kernel
theorem dM_crease_159 : decode cM_crease 159 = .ok ((.iconst 1), 1) := by decide +kernel
theorem dM_crease_160 : decode cM_crease 160 = .ok (.iadd, 1) := by decide +kernel
theorem dM_crease_161 : decode cM_crease 161 = .ok (.iaload, 1) := by decide +kernel
theorem dM_crease_162 : decode cM_crease 162 = .ok (.iastore, 1) := by decide +kernel
theorem dM_crease_163 : decode cM_crease 163 = .ok ((.aload_n 0), 1) := by decide +kernel
theorem dM_crease_164 : decode cM_crease 164 = .ok ((.getfield 17), 3) := by decide +kernel
theorem dM_crease_167 : decode cM_crease 167 = .ok ((.iload 6), 2) := by decide +kernel
theorem dM_crease_169 : decode cM_crease 169 = .ok ((.aload_n 0), 1) := by decide +kernel
theorem dM_crease_170 : decode cM_crease 170 = .ok ((.getfield 17), 3) := by decide +kernel
theorem dM_crease_173 : decode cM_crease 173 = .ok ((.iload 6), 2) := by decide +kernel
theorem dM_crease_175 : decode cM_crease 175 = .ok ((.iconst 1), 1) := by decide +kernel
theorem dM_crease_176 : decode cM_crease 176 = .ok (.iadd, 1) := by decide +kernel
theorem dM_crease_177 : decode cM_crease 177 = .ok (.iaload, 1) := by decide +kernel
theorem dM_crease_178 : decode cM_crease 178 = .ok (.iastore, 1) := by decide +kernel
theorem dM_crease_179 : decode cM_crease 179 = .ok ((.iinc 6 1), 3) := by decide +kernel
theorem dM_crease_182 : decode cM_crease 182 = .ok ((.goto (-44)), 3) := by decide +kernel
theorem dM_crease_185 : decode cM_crease 185 = .ok ((.goto 77), 3) := by decide +kernel
theorem dM_crease_188 : decode cM_crease 188 = .ok ((.aload_n 0), 1) := by decide +kernel
theorem dM_crease_189 : decode cM_crease 189 = .ok ((.getfield 63), 3) := by decide +kernel
theorem dM_crease_192 : decode cM_crease 192 = .ok ((.istore 6), 2) := by decide +kernel
theorem dM_crease_194 : decode cM_crease 194 = .ok ((.iload 6), 2) := by decide +kernel
theorem dM_crease_196 : decode cM_crease 196 = .ok ((.iload_n 3), 1) := by decide +kernel
theorem dM_crease_197 : decode cM_crease 197 = .ok ((.if_icmp .le 41), 3) := by decide +kernel
theorem dM_crease_200 : decode cM_crease 200 = .ok ((.aload_n 0), 1) := by decide +kernel
theorem dM_crease_201 : decode cM_crease 201 = .ok ((.getfield 13), 3) := by decide +kernel
theorem dM_crease_204 : decode cM_crease 204 = .ok ((.iload 6), 2) := by decide +kernel
theorem dM_crease_206 : decode cM_crease 206 = .ok ((.aload_n 0), 1) := by decide +kernel
theorem dM_crease_207 : decode cM_crease 207 = .ok ((.getfield 13), 3) := by decide +kernel
theorem dM_crease_210 : decode cM_crease 210 = .ok ((.iload 6), 2) := by decide +kernel
theorem dM_crease_212 : decode cM_crease 212 = .ok ((.iconst 1), 1) := by decide +kernel
theorem dM_crease_213 : decode cM_crease 213 = .ok (.isub, 1) := by decide +kernel
theorem dM_crease_214 : decode cM_crease 214 = .ok (.iaload, 1) := by decide +kernel
theorem dM_crease_215 : decode cM_crease 215 = .ok (.iastore, 1) := by decide +kernel
theorem dM_crease_216 : decode cM_crease 216 = .ok ((.aload_n 0), 1) := by decide +kernel
theorem dM_crease_217 : decode cM_crease 217 = .ok ((.getfield 17), 3) := by decide +kernel
theorem dM_crease_220 : decode cM_crease 220 = .ok ((.iload 6), 2) := by decide +kernel
theorem dM_crease_222 : decode cM_crease 222 = .ok ((.aload_n 0), 1) := by decide +kernel
theorem dM_crease_223 : decode cM_crease 223 = .ok ((.getfield 17), 3) := by decide +kernel
theorem dM_crease_226 : decode cM_crease 226 = .ok ((.iload 6), 2) := by decide +kernel
theorem dM_crease_228 : decode cM_crease 228 = .ok ((.iconst 1), 1) := by decide +kernel
theorem dM_crease_229 : decode cM_crease 229 = .ok (.isub, 1) := by decide +kernel
theorem dM_crease_230 : decode cM_crease 230 = .ok (.iaload, 1) := by decide +kernel
theorem dM_crease_231 : decode cM_crease 231 = .ok (.iastore, 1) := by decide +kernel
theorem dM_crease_232 : decode cM_crease 232 = .ok ((.iinc 6 (-1)), 3) := by decide +kernel
theorem dM_crease_235 : decode cM_crease 235 = .ok ((.goto (-41)), 3) := by decide +kernel
theorem dM_crease_238 : decode cM_crease 238 = .ok ((.aload_n 0), 1) := by decide +kernel
theorem dM_crease_239 : decode cM_crease 239 = .ok ((.getfield 13), 3) := by decide +kernel
theorem dM_crease_242 : decode cM_crease 242 = .ok ((.iload_n 3), 1) := by decide +kernel
theorem dM_crease_243 : decode cM_crease 243 = .ok ((.iload_n 1), 1) := by decide +kernel
theorem dM_crease_244 : decode cM_crease 244 = .ok (.iastore, 1) := by decide +kernel
theorem dM_crease_245 : decode cM_crease 245 = .ok ((.aload_n 0), 1) := by decide +kernel
theorem dM_crease_246 : decode cM_crease 246 = .ok ((.getfield 17), 3) := by decide +kernel
theorem dM_crease_249 : decode cM_crease 249 = .ok ((.iload_n 3), 1) := by decide +kernel
theorem dM_crease_250 : decode cM_crease 250 = .ok ((.iload_n 2), 1) := by decide +kernel
theorem dM_crease_251 : decode cM_crease 251 = .ok (.iastore, 1) := by decide +kernel
theorem dM_crease_252 : decode cM_crease 252 = .ok ((.aload_n 0), 1) := by decide +kernel
theorem dM_crease_253 : decode cM_crease 253 = .ok (.dup, 1) := by decide +kernel
theorem dM_crease_254 : decode cM_crease 254 = .ok ((.getfield 63), 3) := by decide +kernel
theorem dM_crease_257 : decode cM_crease 257 = .ok ((.iconst 1), 1) := by decide +kernel
theorem dM_crease_258 : decode cM_crease 258 = .ok (.iadd, 1) := by decide +kernel
theorem dM_crease_259 : decode cM_crease 259 = .ok ((.putfield 63), 3) := by decide +kernel
theorem dM_crease_262 : decode cM_crease 262 = .ok ((.aload_n 0), 1) := by decide +kernel
theorem dM_crease_263 : decode cM_crease 263 = .ok ((.getfield 63), 3) := by decide +kernel
theorem dM_crease_266 : decode cM_crease 266 = .ok (.ireturn, 1) := by decide +kernel
theorem dM_before_0 : decode cM_before 0 = .ok ((.iconst 0), 1) := by decide +kernel
theorem dM_before_1 : decode cM_before 1 = .ok ((.istore_n 2), 1) := by decide +kernel
theorem dM_before_2 : decode cM_before 2 = .ok ((.iconst 0), 1) := by decide +kernel
theorem dM_before_3 : decode cM_before 3 = .ok ((.istore_n 3), 1) := by decide +kernel
theorem dM_before_4 : decode cM_before 4 = .ok ((.iload_n 3), 1) := by decide +kernel
theorem dM_before_5 : decode cM_before 5 = .ok ((.aload_n 0), 1) := by decide +kernel
theorem dM_before_6 : decode cM_before 6 = .ok ((.getfield 63), 3) := by decide +kernel
theorem dM_before_9 : decode cM_before 9 = .ok ((.if_icmp .ge 27), 3) := by decide +kernel
theorem dM_before_12 : decode cM_before 12 = .ok ((.iload_n 2), 1) := by decide +kernel
theorem dM_before_13 : decode cM_before 13 = .ok ((.aload_n 0), 1) := by decide +kernel
theorem dM_before_14 : decode cM_before 14 = .ok ((.getfield 13), 3) := by decide +kernel
theorem dM_before_17 : decode cM_before 17 = .ok ((.iload_n 3), 1) := by decide +kernel
theorem dM_before_18 : decode cM_before 18 = .ok (.iaload, 1) := by decide +kernel
theorem dM_before_19 : decode cM_before 19 = .ok ((.iload_n 1), 1) := by decide +kernel
theorem dM_before_20 : decode cM_before 20 = .ok ((.if_icmp .ge 7), 3) := by decide +kernel
theorem dM_before_23 : decode cM_before 23 = .ok ((.iconst 1), 1) := by decide +kernel
theorem dM_before_24 : decode cM_before 24 = .ok ((.goto 4), 3) := by decide +kernel
theorem dM_before_27 : decode cM_before 27 = .ok ((.iconst 0), 1) := by decide +kernel
theorem dM_before_28 : decode cM_before 28 = .ok (.iadd, 1) := by decide +kernel
theorem dM_before_29 : decode cM_before 29 = .ok ((.istore_n 2), 1) := by decide +kernel
theorem dM_before_30 : decode cM_before 30 = .ok ((.iinc 3 1), 3) := by decide +kernel
theorem dM_before_33 : decode cM_before 33 = .ok ((.goto (-29)), 3) := by decide +kernel
theorem dM_before_36 : decode cM_before 36 = .ok ((.iload_n 2), 1) := by decide +kernel
theorem dM_before_37 : decode cM_before 37 = .ok (.ireturn, 1) := by decide +kernel
theorem dM_turn_0 : decode cM_turn 0 = .ok ((.aload_n 0), 1) := by decide +kernel
theorem dM_turn_1 : decode cM_turn 1 = .ok ((.iconst 0), 1) := by decide +kernel
theorem dM_turn_2 : decode cM_turn 2 = .ok ((.putfield 56), 3) := by decide +kernel
theorem dM_turn_5 : decode cM_turn 5 = .ok ((.aload_n 0), 1) := by decide +kernel
theorem dM_turn_6 : decode cM_turn 6 = .ok ((.aload_n 0), 1) := by decide +kernel
theorem dM_turn_7 : decode cM_turn 7 = .ok ((.getfield 66), 3) := by decide +kernel
theorem dM_turn_10 : decode cM_turn 10 = .ok ((.ifCond .ne 7), 3) := by decide +kernel
theorem dM_turn_13 : decode cM_turn 13 = .ok ((.iconst 1), 1) := by decide +kernel
theorem dM_turn_14 : decode cM_turn 14 = .ok ((.goto 4), 3) := by decide +kernel
theorem dM_turn_17 : decode cM_turn 17 = .ok ((.iconst 0), 1) := by decide +kernel
theorem dM_turn_18 : decode cM_turn 18 = .ok ((.putfield 66), 3) := by decide +kernel
theorem dM_turn_21 : decode cM_turn 21 = .ok ((.aload_n 0), 1) := by decide +kernel
theorem dM_turn_22 : decode cM_turn 22 = .ok ((.getfield 66), 3) := by decide +kernel
theorem dM_turn_25 : decode cM_turn 25 = .ok (.ireturn, 1) := by decide +kernel
theorem dM_count_0 : decode cM_count 0 = .ok ((.aload_n 0), 1) := by decide +kernel
theorem dM_count_1 : decode cM_count 1 = .ok ((.iconst 0), 1) := by decide +kernel
theorem dM_count_2 : decode cM_count 2 = .ok ((.putfield 56), 3) := by decide +kernel
theorem dM_count_5 : decode cM_count 5 = .ok ((.iload_n 1), 1) := by decide +kernel
theorem dM_count_6 : decode cM_count 6 = .ok ((.ifCond .ne 10), 3) := by decide +kernel
theorem dM_count_9 : decode cM_count 9 = .ok ((.aload_n 0), 1) := by decide +kernel
theorem dM_count_10 : decode cM_count 10 = .ok ((.getfield 7), 3) := by decide +kernel
theorem dM_count_13 : decode cM_count 13 = .ok ((.goto 40), 3) := by decide +kernel
theorem dM_count_16 : decode cM_count 16 = .ok ((.iload_n 1), 1) := by decide +kernel
theorem dM_count_17 : decode cM_count 17 = .ok ((.iconst 1), 1) := by decide +kernel
theorem dM_count_18 : decode cM_count 18 = .ok ((.if_icmp .ne 10), 3) := by decide +kernel
theorem dM_count_21 : decode cM_count 21 = .ok ((.aload_n 0), 1) := by decide +kernel
theorem dM_count_22 : decode cM_count 22 = .ok ((.getfield 63), 3) := by decide +kernel
theorem dM_count_25 : decode cM_count 25 = .ok ((.goto 28), 3) := by decide +kernel
theorem dM_count_28 : decode cM_count 28 = .ok ((.iload_n 1), 1) := by decide +kernel
theorem dM_count_29 : decode cM_count 29 = .ok ((.iconst 2), 1) := by decide +kernel
theorem dM_count_30 : decode cM_count 30 = .ok ((.if_icmp .ne 10), 3) := by decide +kernel
theorem dM_count_33 : decode cM_count 33 = .ok ((.aload_n 0), 1) := by decide +kernel
theorem dM_count_34 : decode cM_count 34 = .ok ((.invokevirtual 74), 3) := by decide +kernel
theorem dM_count_37 : decode cM_count 37 = .ok ((.goto 16), 3) := by decide +kernel
theorem dM_count_40 : decode cM_count 40 = .ok ((.iload_n 1), 1) := by decide +kernel
theorem dM_count_41 : decode cM_count 41 = .ok ((.iconst 3), 1) := by decide +kernel
theorem dM_count_42 : decode cM_count 42 = .ok ((.if_icmp .ne 10), 3) := by decide +kernel
theorem dM_count_45 : decode cM_count 45 = .ok ((.aload_n 0), 1) := by decide +kernel
theorem dM_count_46 : decode cM_count 46 = .ok ((.getfield 78), 3) := by decide +kernel
theorem dM_count_49 : decode cM_count 49 = .ok ((.goto 4), 3) := by decide +kernel
theorem dM_count_52 : decode cM_count 52 = .ok ((.iconst (-1)), 1) := by decide +kernel
theorem dM_count_53 : decode cM_count 53 = .ok (.ireturn, 1) := by decide +kernel
theorem dM_free_0 : decode cM_free 0 = .ok ((.iconst 0), 1) := by decide +kernel
theorem dM_free_1 : decode cM_free 1 = .ok ((.istore_n 1), 1) := by decide +kernel
theorem dM_free_2 : decode cM_free 2 = .ok ((.iconst 0), 1) := by decide +kernel
theorem dM_free_3 : decode cM_free 3 = .ok ((.istore_n 2), 1) := by decide +kernel
theorem dM_free_4 : decode cM_free 4 = .ok ((.iload_n 2), 1) := by decide +kernel
theorem dM_free_5 : decode cM_free 5 = .ok ((.aload_n 0), 1) := by decide +kernel
theorem dM_free_6 : decode cM_free 6 = .ok ((.getfield 63), 3) := by decide +kernel
theorem dM_free_9 : decode cM_free 9 = .ok ((.if_icmp .ge 26), 3) := by decide +kernel
theorem dM_free_12 : decode cM_free 12 = .ok ((.iload_n 1), 1) := by decide +kernel
theorem dM_free_13 : decode cM_free 13 = .ok ((.aload_n 0), 1) := by decide +kernel
theorem dM_free_14 : decode cM_free 14 = .ok ((.getfield 17), 3) := by decide +kernel
theorem dM_free_17 : decode cM_free 17 = .ok ((.iload_n 2), 1) := by decide +kernel
theorem dM_free_18 : decode cM_free 18 = .ok (.iaload, 1) := by decide +kernel
theorem dM_free_19 : decode cM_free 19 = .ok ((.ifCond .ne 7), 3) := by decide +kernel
theorem dM_free_22 : decode cM_free 22 = .ok ((.iconst 1), 1) := by decide +kernel
theorem dM_free_23 : decode cM_free 23 = .ok ((.goto 4), 3) := by decide +kernel
theorem dM_free_26 : decode cM_free 26 = .ok ((.iconst 0), 1) := by decide +kernel
theorem dM_free_27 : decode cM_free 27 = .ok (.iadd, 1) := by decide +kernel
theorem dM_free_28 : decode cM_free 28 = .ok ((.istore_n 1), 1) := by decide +kernel
theorem dM_free_29 : decode cM_free 29 = .ok ((.iinc 2 1), 3) := by decide +kernel
theorem dM_free_32 : decode cM_free 32 = .ok ((.goto (-28)), 3) := by decide +kernel
theorem dM_free_35 : decode cM_free 35 = .ok ((.iload_n 1), 1) := by decide +kernel
theorem dM_free_36 : decode cM_free 36 = .ok (.ireturn, 1) := by decide +kernel
theorem dM_segment_0 : decode cM_segment 0 = .ok ((.aload_n 0), 1) := by decide +kernel
theorem dM_segment_1 : decode cM_segment 1 = .ok ((.iload_n 1), 1) := by decide +kernel
theorem dM_segment_2 : decode cM_segment 2 = .ok ((.ifCond .lt 11), 3) := by decide +kernel
theorem dM_segment_5 : decode cM_segment 5 = .ok ((.iload_n 1), 1) := by decide +kernel
theorem dM_segment_6 : decode cM_segment 6 = .ok ((.aload_n 0), 1) := by decide +kernel
theorem dM_segment_7 : decode cM_segment 7 = .ok ((.getfield 63), 3) := by decide +kernel
theorem dM_segment_10 : decode cM_segment 10 = .ok ((.if_icmp .le 7), 3) := by decide +kernel
theorem dM_segment_13 : decode cM_segment 13 = .ok ((.iconst 1), 1) := by decide +kernel
theorem dM_segment_14 : decode cM_segment 14 = .ok ((.goto 4), 3) := by decide +kernel
theorem dM_segment_17 : decode cM_segment 17 = .ok ((.iconst 0), 1) := by decide +kernel
theorem dM_segment_18 : decode cM_segment 18 = .ok ((.iload_n 2), 1) := by decide +kernel
theorem dM_segment_19 : decode cM_segment 19 = .ok ((.ifCond .lt 8), 3) := by decide +kernel
theorem dM_segment_22 : decode cM_segment 22 = .ok ((.iload_n 2), 1) := by decide +kernel
theorem dM_segment_23 : decode cM_segment 23 = .ok ((.iconst 5), 1) := by decide +kernel
theorem dM_segment_24 : decode cM_segment 24 = .ok ((.if_icmp .le 7), 3) := by decide +kernel
theorem dM_segment_27 : decode cM_segment 27 = .ok ((.iconst 1), 1) := by decide +kernel
theorem dM_segment_28 : decode cM_segment 28 = .ok ((.goto 4), 3) := by decide +kernel
theorem dM_segment_31 : decode cM_segment 31 = .ok ((.iconst 0), 1) := by decide +kernel
theorem dM_segment_32 : decode cM_segment 32 = .ok ((.invokevirtual 59), 3) := by decide +kernel
theorem dM_segment_35 : decode cM_segment 35 = .ok ((.ifCond .eq 5), 3) := by decide +kernel
theorem dM_segment_38 : decode cM_segment 38 = .ok ((.iconst 0), 1) := by decide +kernel
theorem dM_segment_39 : decode cM_segment 39 = .ok (.ireturn, 1) := by decide +kernel
theorem dM_segment_40 : decode cM_segment 40 = .ok ((.iload_n 2), 1) := by decide +kernel
theorem dM_segment_41 : decode cM_segment 41 = .ok ((.tableswitch 73 0 4 #[35, 41, 47, 53, 59]), 35) := by decide +kernel
theorem dM_segment_76 : decode cM_segment 76 = .ok ((.aload_n 0), 1) := by decide +kernel
theorem dM_segment_77 : decode cM_segment 77 = .ok ((.iload_n 1), 1) := by decide +kernel
theorem dM_segment_78 : decode cM_segment 78 = .ok ((.invokevirtual 81), 3) := by decide +kernel
theorem dM_segment_81 : decode cM_segment 81 = .ok (.ireturn, 1) := by decide +kernel
theorem dM_segment_82 : decode cM_segment 82 = .ok ((.aload_n 0), 1) := by decide +kernel
theorem dM_segment_83 : decode cM_segment 83 = .ok ((.iload_n 1), 1) := by decide +kernel
theorem dM_segment_84 : decode cM_segment 84 = .ok ((.invokevirtual 87), 3) := by decide +kernel
theorem dM_segment_87 : decode cM_segment 87 = .ok (.ireturn, 1) := by decide +kernel
theorem dM_segment_88 : decode cM_segment 88 = .ok ((.aload_n 0), 1) := by decide +kernel
theorem dM_segment_89 : decode cM_segment 89 = .ok ((.iload_n 1), 1) := by decide +kernel
theorem dM_segment_90 : decode cM_segment 90 = .ok ((.invokevirtual 90), 3) := by decide +kernel
theorem dM_segment_93 : decode cM_segment 93 = .ok (.ireturn, 1) := by decide +kernel
theorem dM_segment_94 : decode cM_segment 94 = .ok ((.aload_n 0), 1) := by decide +kernel
theorem dM_segment_95 : decode cM_segment 95 = .ok ((.iload_n 1), 1) := by decide +kernel
theorem dM_segment_96 : decode cM_segment 96 = .ok ((.invokevirtual 93), 3) := by decide +kernel
theorem dM_segment_99 : decode cM_segment 99 = .ok (.ireturn, 1) := by decide +kernel
theorem dM_segment_100 : decode cM_segment 100 = .ok ((.aload_n 0), 1) := by decide +kernel
theorem dM_segment_101 : decode cM_segment 101 = .ok ((.iload_n 1), 1) := by decide +kernel
theorem dM_segment_102 : decode cM_segment 102 = .ok ((.invokevirtual 96), 3) := by decide +kernel
theorem dM_segment_105 : decode cM_segment 105 = .ok ((.ifCond .eq 7), 3) := by decide +kernel
theorem dM_segment_108 : decode cM_segment 108 = .ok ((.iconst 1), 1) := by decide +kernel
theorem dM_segment_109 : decode cM_segment 109 = .ok ((.goto 4), 3) := by decide +kernel
theorem dM_segment_112 : decode cM_segment 112 = .ok ((.iconst 0), 1) := by decide +kernel
theorem dM_segment_113 : decode cM_segment 113 = .ok (.ireturn, 1) := by decide +kernel
theorem dM_segment_114 : decode cM_segment 114 = .ok ((.iload_n 1), 1) := by decide +kernel
theorem dM_segment_115 : decode cM_segment 115 = .ok ((.aload_n 0), 1) := by decide +kernel
theorem dM_segment_116 : decode cM_segment 116 = .ok ((.getfield 63), 3) := by decide +kernel
theorem dM_segment_119 : decode cM_segment 119 = .ok ((.if_icmp .ge 12), 3) := by decide +kernel
theorem dM_segment_122 : decode cM_segment 122 = .ok ((.aload_n 0), 1) := by decide +kernel
theorem dM_segment_123 : decode cM_segment 123 = .ok ((.getfield 17), 3) := by decide +kernel
theorem dM_segment_126 : decode cM_segment 126 = .ok ((.iload_n 1), 1) := by decide +kernel
theorem dM_segment_127 : decode cM_segment 127 = .ok (.iaload, 1) := by decide +kernel
theorem dM_segment_128 : decode cM_segment 128 = .ok ((.goto 4), 3) := by decide +kernel
theorem dM_segment_131 : decode cM_segment 131 = .ok ((.iconst (-1)), 1) := by decide +kernel
theorem dM_segment_132 : decode cM_segment 132 = .ok (.ireturn, 1) := by decide +kernel
theorem dM_leftEnd_0 : decode cM_leftEnd 0 = .ok ((.iload_n 1), 1) := by decide +kernel
theorem dM_leftEnd_1 : decode cM_leftEnd 1 = .ok ((.ifCond .ne 7), 3) := by decide +kernel
theorem dM_leftEnd_4 : decode cM_leftEnd 4 = .ok ((.iconst 0), 1) := by decide +kernel
theorem dM_leftEnd_5 : decode cM_leftEnd 5 = .ok ((.goto 11), 3) := by decide +kernel
theorem dM_leftEnd_8 : decode cM_leftEnd 8 = .ok ((.aload_n 0), 1) := by decide +kernel
theorem dM_leftEnd_9 : decode cM_leftEnd 9 = .ok ((.getfield 13), 3) := by decide +kernel
theorem dM_leftEnd_12 : decode cM_leftEnd 12 = .ok ((.iload_n 1), 1) := by decide +kernel
theorem dM_leftEnd_13 : decode cM_leftEnd 13 = .ok ((.iconst 1), 1) := by decide +kernel
theorem dM_leftEnd_14 : decode cM_leftEnd 14 = .ok (.isub, 1) := by decide +kernel
theorem dM_leftEnd_15 : decode cM_leftEnd 15 = .ok (.iaload, 1) := by decide +kernel
theorem dM_leftEnd_16 : decode cM_leftEnd 16 = .ok (.ireturn, 1) := by decide +kernel
theorem dM_rightEnd_0 : decode cM_rightEnd 0 = .ok ((.iload_n 1), 1) := by decide +kernel
theorem dM_rightEnd_1 : decode cM_rightEnd 1 = .ok ((.aload_n 0), 1) := by decide +kernel
theorem dM_rightEnd_2 : decode cM_rightEnd 2 = .ok ((.getfield 63), 3) := by decide +kernel
theorem dM_rightEnd_5 : decode cM_rightEnd 5 = .ok ((.if_icmp .ne 10), 3) := by decide +kernel
theorem dM_rightEnd_8 : decode cM_rightEnd 8 = .ok ((.aload_n 0), 1) := by decide +kernel
theorem dM_rightEnd_9 : decode cM_rightEnd 9 = .ok ((.getfield 7), 3) := by decide +kernel
theorem dM_rightEnd_12 : decode cM_rightEnd 12 = .ok ((.goto 9), 3) := by decide +kernel
theorem dM_rightEnd_15 : decode cM_rightEnd 15 = .ok ((.aload_n 0), 1) := by decide +kernel
theorem dM_rightEnd_16 : decode cM_rightEnd 16 = .ok ((.getfield 13), 3) := by decide +kernel
theorem dM_rightEnd_19 : decode cM_rightEnd 19 = .ok ((.iload_n 1), 1) := by decide +kernel
theorem dM_rightEnd_20 : decode cM_rightEnd 20 = .ok (.iaload, 1) := by decide +kernel
theorem dM_rightEnd_21 : decode cM_rightEnd 21 = .ok (.ireturn, 1) := by decide +kernel
theorem dM_low_0 : decode cM_low 0 = .ok ((.aload_n 0), 1) := by decide +kernel
theorem dM_low_1 : decode cM_low 1 = .ok ((.aload_n 0), 1) := by decide +kernel
theorem dM_low_2 : decode cM_low 2 = .ok ((.iload_n 1), 1) := by decide +kernel
theorem dM_low_3 : decode cM_low 3 = .ok ((.invokevirtual 81), 3) := by decide +kernel
theorem dM_low_6 : decode cM_low 6 = .ok ((.invokevirtual 84), 3) := by decide +kernel
theorem dM_low_9 : decode cM_low 9 = .ok ((.istore_n 2), 1) := by decide +kernel
theorem dM_low_10 : decode cM_low 10 = .ok ((.aload_n 0), 1) := by decide +kernel
theorem dM_low_11 : decode cM_low 11 = .ok ((.aload_n 0), 1) := by decide +kernel
theorem dM_low_12 : decode cM_low 12 = .ok ((.iload_n 1), 1) := by decide +kernel
theorem dM_low_13 : decode cM_low 13 = .ok ((.invokevirtual 87), 3) := by decide +kernel
theorem dM_low_16 : decode cM_low 16 = .ok ((.invokevirtual 84), 3) := by decide +kernel
theorem dM_low_19 : decode cM_low 19 = .ok ((.istore_n 3), 1) := by decide +kernel
theorem dM_low_20 : decode cM_low 20 = .ok ((.iload_n 2), 1) := by decide +kernel
theorem dM_low_21 : decode cM_low 21 = .ok ((.iload_n 3), 1) := by decide +kernel
theorem dM_low_22 : decode cM_low 22 = .ok ((.if_icmp .ge 7), 3) := by decide +kernel
theorem dM_low_25 : decode cM_low 25 = .ok ((.iload_n 2), 1) := by decide +kernel
theorem dM_low_26 : decode cM_low 26 = .ok ((.goto 4), 3) := by decide +kernel
theorem dM_low_29 : decode cM_low 29 = .ok ((.iload_n 3), 1) := by decide +kernel
theorem dM_low_30 : decode cM_low 30 = .ok (.ireturn, 1) := by decide +kernel
theorem dM_fold_0 : decode cM_fold 0 = .ok ((.iconst 0), 1) := by decide +kernel
theorem dM_fold_1 : decode cM_fold 1 = .ok ((.istore_n 2), 1) := by decide +kernel
theorem dM_fold_2 : decode cM_fold 2 = .ok ((.iconst 0), 1) := by decide +kernel
theorem dM_fold_3 : decode cM_fold 3 = .ok ((.istore_n 3), 1) := by decide +kernel
theorem dM_fold_4 : decode cM_fold 4 = .ok ((.iload_n 3), 1) := by decide +kernel
theorem dM_fold_5 : decode cM_fold 5 = .ok ((.iload_n 1), 1) := by decide +kernel
theorem dM_fold_6 : decode cM_fold 6 = .ok ((.if_icmp .ge 66), 3) := by decide +kernel
theorem dM_fold_9 : decode cM_fold 9 = .ok ((.iconst 0), 1) := by decide +kernel
theorem dM_fold_10 : decode cM_fold 10 = .ok ((.istore 4), 2) := by decide +kernel
theorem dM_fold_12 : decode cM_fold 12 = .ok ((.iconst 0), 1) := by decide +kernel
theorem dM_fold_13 : decode cM_fold 13 = .ok ((.istore 5), 2) := by decide +kernel
theorem dM_fold_15 : decode cM_fold 15 = .ok ((.iload 5), 2) := by decide +kernel
theorem dM_fold_17 : decode cM_fold 17 = .ok ((.aload_n 0), 1) := by decide +kernel
theorem dM_fold_18 : decode cM_fold 18 = .ok ((.getfield 63), 3) := by decide +kernel
theorem dM_fold_21 : decode cM_fold 21 = .ok ((.if_icmp .ge 30), 3) := by decide +kernel
theorem dM_fold_24 : decode cM_fold 24 = .ok ((.iload 4), 2) := by decide +kernel
theorem dM_fold_26 : decode cM_fold 26 = .ok ((.aload_n 0), 1) := by decide +kernel
theorem dM_fold_27 : decode cM_fold 27 = .ok ((.getfield 13), 3) := by decide +kernel
theorem dM_fold_30 : decode cM_fold 30 = .ok ((.iload 5), 2) := by decide +kernel
theorem dM_fold_32 : decode cM_fold 32 = .ok (.iaload, 1) := by decide +kernel
theorem dM_fold_33 : decode cM_fold 33 = .ok ((.iload_n 3), 1) := by decide +kernel
theorem dM_fold_34 : decode cM_fold 34 = .ok ((.if_icmp .gt 7), 3) := by decide +kernel
theorem dM_fold_37 : decode cM_fold 37 = .ok ((.iconst 1), 1) := by decide +kernel
theorem dM_fold_38 : decode cM_fold 38 = .ok ((.goto 4), 3) := by decide +kernel
theorem dM_fold_41 : decode cM_fold 41 = .ok ((.iconst 0), 1) := by decide +kernel
theorem dM_fold_42 : decode cM_fold 42 = .ok (.iadd, 1) := by decide +kernel
theorem dM_fold_43 : decode cM_fold 43 = .ok ((.istore 4), 2) := by decide +kernel
theorem dM_fold_45 : decode cM_fold 45 = .ok ((.iinc 5 1), 3) := by decide +kernel
theorem dM_fold_48 : decode cM_fold 48 = .ok ((.goto (-33)), 3) := by decide +kernel
theorem dM_fold_51 : decode cM_fold 51 = .ok ((.iload_n 2), 1) := by decide +kernel
theorem dM_fold_52 : decode cM_fold 52 = .ok ((.iload 4), 2) := by decide +kernel
theorem dM_fold_54 : decode cM_fold 54 = .ok ((.iconst 2), 1) := by decide +kernel
theorem dM_fold_55 : decode cM_fold 55 = .ok (.irem, 1) := by decide +kernel
theorem dM_fold_56 : decode cM_fold 56 = .ok ((.ifCond .ne 7), 3) := by decide +kernel
theorem dM_fold_59 : decode cM_fold 59 = .ok ((.iconst 1), 1) := by decide +kernel
theorem dM_fold_60 : decode cM_fold 60 = .ok ((.goto 4), 3) := by decide +kernel
theorem dM_fold_63 : decode cM_fold 63 = .ok ((.iconst (-1)), 1) := by decide +kernel
theorem dM_fold_64 : decode cM_fold 64 = .ok (.iadd, 1) := by decide +kernel
theorem dM_fold_65 : decode cM_fold 65 = .ok ((.istore_n 2), 1) := by decide +kernel
theorem dM_fold_66 : decode cM_fold 66 = .ok ((.iinc 3 1), 3) := by decide +kernel
theorem dM_fold_69 : decode cM_fold 69 = .ok ((.goto (-65)), 3) := by decide +kernel
theorem dM_fold_72 : decode cM_fold 72 = .ok ((.iload_n 2), 1) := by decide +kernel
theorem dM_fold_73 : decode cM_fold 73 = .ok (.ireturn, 1) := by decide +kernel
theorem dM_high_0 : decode cM_high 0 = .ok ((.aload_n 0), 1) := by decide +kernel
theorem dM_high_1 : decode cM_high 1 = .ok ((.iload_n 1), 1) := by decide +kernel
theorem dM_high_2 : decode cM_high 2 = .ok ((.invokevirtual 90), 3) := by decide +kernel
theorem dM_high_5 : decode cM_high 5 = .ok ((.aload_n 0), 1) := by decide +kernel
theorem dM_high_6 : decode cM_high 6 = .ok ((.iload_n 1), 1) := by decide +kernel
theorem dM_high_7 : decode cM_high 7 = .ok ((.invokevirtual 87), 3) := by decide +kernel
theorem dM_high_10 : decode cM_high 10 = .ok (.iadd, 1) := by decide +kernel
theorem dM_high_11 : decode cM_high 11 = .ok ((.aload_n 0), 1) := by decide +kernel
theorem dM_high_12 : decode cM_high 12 = .ok ((.iload_n 1), 1) := by decide +kernel
theorem dM_high_13 : decode cM_high 13 = .ok ((.invokevirtual 81), 3) := by decide +kernel
theorem dM_high_16 : decode cM_high 16 = .ok (.isub, 1) := by decide +kernel
theorem dM_high_17 : decode cM_high 17 = .ok (.ireturn, 1) := by decide +kernel
theorem dM_isUp_0 : decode cM_isUp 0 = .ok ((.iload_n 1), 1) := by decide +kernel
theorem dM_isUp_1 : decode cM_isUp 1 = .ok ((.iconst 2), 1) := by decide +kernel
theorem dM_isUp_2 : decode cM_isUp 2 = .ok (.irem, 1) := by decide +kernel
theorem dM_isUp_3 : decode cM_isUp 3 = .ok ((.ifCond .ne 7), 3) := by decide +kernel
theorem dM_isUp_6 : decode cM_isUp 6 = .ok ((.iconst 1), 1) := by decide +kernel
theorem dM_isUp_7 : decode cM_isUp 7 = .ok ((.goto 4), 3) := by decide +kernel
theorem dM_isUp_10 : decode cM_isUp 10 = .ok ((.iconst 0), 1) := by decide +kernel
theorem dM_isUp_11 : decode cM_isUp 11 = .ok ((.aload_n 0), 1) := by decide +kernel
theorem dM_isUp_12 : decode cM_isUp 12 = .ok ((.getfield 66), 3) := by decide +kernel
theorem dM_isUp_15 : decode cM_isUp 15 = .ok ((.if_icmp .eq 7), 3) := by decide +kernel
theorem dM_isUp_18 : decode cM_isUp 18 = .ok ((.iconst 1), 1) := by decide +kernel
theorem dM_isUp_19 : decode cM_isUp 19 = .ok ((.goto 4), 3) := by decide +kernel
theorem dM_isUp_22 : decode cM_isUp 22 = .ok ((.iconst 0), 1) := by decide +kernel
theorem dM_isUp_23 : decode cM_isUp 23 = .ok (.ireturn, 1) := by decide +kernel
theorem dM_whereIs_0 : decode cM_whereIs 0 = .ok ((.aload_n 0), 1) := by decide +kernel
theorem dM_whereIs_1 : decode cM_whereIs 1 = .ok ((.iload_n 1), 1) := by decide +kernel
theorem dM_whereIs_2 : decode cM_whereIs 2 = .ok ((.ifCond .lt 11), 3) := by decide +kernel
theorem dM_whereIs_5 : decode cM_whereIs 5 = .ok ((.iload_n 1), 1) := by decide +kernel
theorem dM_whereIs_6 : decode cM_whereIs 6 = .ok ((.aload_n 0), 1) := by decide +kernel
theorem dM_whereIs_7 : decode cM_whereIs 7 = .ok ((.getfield 7), 3) := by decide +kernel
theorem dM_whereIs_10 : decode cM_whereIs 10 = .ok ((.if_icmp .le 7), 3) := by decide +kernel
theorem dM_whereIs_13 : decode cM_whereIs 13 = .ok ((.iconst 1), 1) := by decide +kernel
theorem dM_whereIs_14 : decode cM_whereIs 14 = .ok ((.goto 4), 3) := by decide +kernel
theorem dM_whereIs_17 : decode cM_whereIs 17 = .ok ((.iconst 0), 1) := by decide +kernel
theorem dM_whereIs_18 : decode cM_whereIs 18 = .ok ((.iconst 0), 1) := by decide +kernel
theorem dM_whereIs_19 : decode cM_whereIs 19 = .ok ((.invokevirtual 59), 3) := by decide +kernel
theorem dM_whereIs_22 : decode cM_whereIs 22 = .ok ((.ifCond .eq 5), 3) := by decide +kernel
theorem dM_whereIs_25 : decode cM_whereIs 25 = .ok ((.iconst 0), 1) := by decide +kernel
theorem dM_whereIs_26 : decode cM_whereIs 26 = .ok (.ireturn, 1) := by decide +kernel
theorem dM_whereIs_27 : decode cM_whereIs 27 = .ok ((.aload_n 0), 1) := by decide +kernel
theorem dM_whereIs_28 : decode cM_whereIs 28 = .ok ((.iload_n 1), 1) := by decide +kernel
theorem dM_whereIs_29 : decode cM_whereIs 29 = .ok ((.invokevirtual 84), 3) := by decide +kernel
theorem dM_whereIs_32 : decode cM_whereIs 32 = .ok (.ireturn, 1) := by decide +kernel
theorem dM_width_0 : decode cM_width 0 = .ok ((.aload_n 0), 1) := by decide +kernel
theorem dM_width_1 : decode cM_width 1 = .ok ((.iconst 0), 1) := by decide +kernel
theorem dM_width_2 : decode cM_width 2 = .ok ((.putfield 56), 3) := by decide +kernel
theorem dM_width_5 : decode cM_width 5 = .ok ((.iconst 0), 1) := by decide +kernel
theorem dM_width_6 : decode cM_width 6 = .ok ((.istore_n 1), 1) := by decide +kernel
theorem dM_width_7 : decode cM_width 7 = .ok ((.iconst 0), 1) := by decide +kernel
theorem dM_width_8 : decode cM_width 8 = .ok ((.istore_n 2), 1) := by decide +kernel
theorem dM_width_9 : decode cM_width 9 = .ok ((.iconst 0), 1) := by decide +kernel
theorem dM_width_10 : decode cM_width 10 = .ok ((.istore_n 3), 1) := by decide +kernel
theorem dM_width_11 : decode cM_width 11 = .ok ((.iload_n 3), 1) := by decide +kernel
theorem dM_width_12 : decode cM_width 12 = .ok ((.aload_n 0), 1) := by decide +kernel
theorem dM_width_13 : decode cM_width 13 = .ok ((.getfield 7), 3) := by decide +kernel
theorem dM_width_16 : decode cM_width 16 = .ok ((.if_icmp .gt 47), 3) := by decide +kernel
theorem dM_width_19 : decode cM_width 19 = .ok ((.aload_n 0), 1) := by decide +kernel
theorem dM_width_20 : decode cM_width 20 = .ok ((.iload_n 3), 1) := by decide +kernel
theorem dM_width_21 : decode cM_width 21 = .ok ((.invokevirtual 84), 3) := by decide +kernel
theorem dM_width_24 : decode cM_width 24 = .ok ((.iload_n 1), 1) := by decide +kernel
theorem dM_width_25 : decode cM_width 25 = .ok ((.if_icmp .ge 11), 3) := by decide +kernel
theorem dM_width_28 : decode cM_width 28 = .ok ((.aload_n 0), 1) := by decide +kernel
theorem dM_width_29 : decode cM_width 29 = .ok ((.iload_n 3), 1) := by decide +kernel
theorem dM_width_30 : decode cM_width 30 = .ok ((.invokevirtual 84), 3) := by decide +kernel
theorem dM_width_33 : decode cM_width 33 = .ok ((.goto 4), 3) := by decide +kernel
theorem dM_width_36 : decode cM_width 36 = .ok ((.iload_n 1), 1) := by decide +kernel
theorem dM_width_37 : decode cM_width 37 = .ok ((.istore_n 1), 1) := by decide +kernel
theorem dM_width_38 : decode cM_width 38 = .ok ((.aload_n 0), 1) := by decide +kernel
theorem dM_width_39 : decode cM_width 39 = .ok ((.iload_n 3), 1) := by decide +kernel
theorem dM_width_40 : decode cM_width 40 = .ok ((.invokevirtual 84), 3) := by decide +kernel
theorem dM_width_43 : decode cM_width 43 = .ok ((.iload_n 2), 1) := by decide +kernel
theorem dM_width_44 : decode cM_width 44 = .ok ((.if_icmp .le 11), 3) := by decide +kernel
theorem dM_width_47 : decode cM_width 47 = .ok ((.aload_n 0), 1) := by decide +kernel
theorem dM_width_48 : decode cM_width 48 = .ok ((.iload_n 3), 1) := by decide +kernel
theorem dM_width_49 : decode cM_width 49 = .ok ((.invokevirtual 84), 3) := by decide +kernel
theorem dM_width_52 : decode cM_width 52 = .ok ((.goto 4), 3) := by decide +kernel
theorem dM_width_55 : decode cM_width 55 = .ok ((.iload_n 2), 1) := by decide +kernel
theorem dM_width_56 : decode cM_width 56 = .ok ((.istore_n 2), 1) := by decide +kernel
theorem dM_width_57 : decode cM_width 57 = .ok ((.iinc 3 1), 3) := by decide +kernel
theorem dM_width_60 : decode cM_width 60 = .ok ((.goto (-49)), 3) := by decide +kernel
theorem dM_width_63 : decode cM_width 63 = .ok ((.iload_n 2), 1) := by decide +kernel
theorem dM_width_64 : decode cM_width 64 = .ok ((.iload_n 1), 1) := by decide +kernel
theorem dM_width_65 : decode cM_width 65 = .ok (.isub, 1) := by decide +kernel
theorem dM_width_66 : decode cM_width 66 = .ok (.ireturn, 1) := by decide +kernel
theorem dM_thickness_0 : decode cM_thickness 0 = .ok ((.aload_n 0), 1) := by decide +kernel
theorem dM_thickness_1 : decode cM_thickness 1 = .ok ((.iconst 0), 1) := by decide +kernel
theorem dM_thickness_2 : decode cM_thickness 2 = .ok ((.putfield 56), 3) := by decide +kernel
theorem dM_thickness_5 : decode cM_thickness 5 = .ok ((.iconst 0), 1) := by decide +kernel
theorem dM_thickness_6 : decode cM_thickness 6 = .ok ((.istore_n 1), 1) := by decide +kernel
theorem dM_thickness_7 : decode cM_thickness 7 = .ok ((.bipush (-60)), 2) := by decide +kernel
theorem dM_thickness_9 : decode cM_thickness 9 = .ok ((.istore_n 2), 1) := by decide +kernel
theorem dM_thickness_10 : decode cM_thickness 10 = .ok ((.iload_n 2), 1) := by decide +kernel
theorem dM_thickness_11 : decode cM_thickness 11 = .ok ((.bipush 60), 2) := by decide +kernel
theorem dM_thickness_13 : decode cM_thickness 13 = .ok ((.if_icmp .ge 58), 3) := by decide +kernel
theorem dM_thickness_16 : decode cM_thickness 16 = .ok ((.iconst 0), 1) := by decide +kernel
theorem dM_thickness_17 : decode cM_thickness 17 = .ok ((.istore_n 3), 1) := by decide +kernel
theorem dM_thickness_18 : decode cM_thickness 18 = .ok ((.iconst 0), 1) := by decide +kernel
theorem dM_thickness_19 : decode cM_thickness 19 = .ok ((.istore 4), 2) := by decide +kernel
theorem dM_thickness_21 : decode cM_thickness 21 = .ok ((.iload 4), 2) := by decide +kernel
theorem dM_thickness_23 : decode cM_thickness 23 = .ok ((.aload_n 0), 1) := by decide +kernel
theorem dM_thickness_24 : decode cM_thickness 24 = .ok ((.getfield 63), 3) := by decide +kernel
theorem dM_thickness_27 : decode cM_thickness 27 = .ok ((.if_icmp .gt 27), 3) := by decide +kernel
theorem dM_thickness_30 : decode cM_thickness 30 = .ok ((.iload_n 3), 1) := by decide +kernel
theorem dM_thickness_31 : decode cM_thickness 31 = .ok ((.aload_n 0), 1) := by decide +kernel
theorem dM_thickness_32 : decode cM_thickness 32 = .ok ((.iload 4), 2) := by decide +kernel
theorem dM_thickness_34 : decode cM_thickness 34 = .ok ((.iload_n 2), 1) := by decide +kernel
theorem dM_thickness_35 : decode cM_thickness 35 = .ok ((.invokevirtual 100), 3) := by decide +kernel
theorem dM_thickness_38 : decode cM_thickness 38 = .ok ((.ifCond .eq 7), 3) := by decide +kernel
theorem dM_thickness_41 : decode cM_thickness 41 = .ok ((.iconst 1), 1) := by decide +kernel
theorem dM_thickness_42 : decode cM_thickness 42 = .ok ((.goto 4), 3) := by decide +kernel
theorem dM_thickness_45 : decode cM_thickness 45 = .ok ((.iconst 0), 1) := by decide +kernel
theorem dM_thickness_46 : decode cM_thickness 46 = .ok (.iadd, 1) := by decide +kernel
theorem dM_thickness_47 : decode cM_thickness 47 = .ok ((.istore_n 3), 1) := by decide +kernel
theorem dM_thickness_48 : decode cM_thickness 48 = .ok ((.iinc 4 1), 3) := by decide +kernel
theorem dM_thickness_51 : decode cM_thickness 51 = .ok ((.goto (-30)), 3) := by decide +kernel
theorem dM_thickness_54 : decode cM_thickness 54 = .ok ((.iload_n 3), 1) := by decide +kernel
theorem dM_thickness_55 : decode cM_thickness 55 = .ok ((.iload_n 1), 1) := by decide +kernel
theorem dM_thickness_56 : decode cM_thickness 56 = .ok ((.if_icmp .le 7), 3) := by decide +kernel
theorem dM_thickness_59 : decode cM_thickness 59 = .ok ((.iload_n 3), 1) := by decide +kernel
theorem dM_thickness_60 : decode cM_thickness 60 = .ok ((.goto 4), 3) := by decide +kernel
theorem dM_thickness_63 : decode cM_thickness 63 = .ok ((.iload_n 1), 1) := by decide +kernel
theorem dM_thickness_64 : decode cM_thickness 64 = .ok ((.istore_n 1), 1) := by decide +kernel
theorem dM_thickness_65 : decode cM_thickness 65 = .ok ((.iinc 2 1), 3) := by decide +kernel
theorem dM_thickness_68 : decode cM_thickness 68 = .ok ((.goto (-58)), 3) := by decide +kernel
theorem dM_thickness_71 : decode cM_thickness 71 = .ok ((.iload_n 1), 1) := by decide +kernel
theorem dM_thickness_72 : decode cM_thickness 72 = .ok (.ireturn, 1) := by decide +kernel
theorem dM_covers_0 : decode cM_covers 0 = .ok ((.aload_n 0), 1) := by decide +kernel
theorem dM_covers_1 : decode cM_covers 1 = .ok ((.iload_n 1), 1) := by decide +kernel
theorem dM_covers_2 : decode cM_covers 2 = .ok ((.invokevirtual 90), 3) := by decide +kernel
theorem dM_covers_5 : decode cM_covers 5 = .ok ((.iload_n 2), 1) := by decide +kernel
theorem dM_covers_6 : decode cM_covers 6 = .ok ((.if_icmp .gt 16), 3) := by decide +kernel
theorem dM_covers_9 : decode cM_covers 9 = .ok ((.iload_n 2), 1) := by decide +kernel
theorem dM_covers_10 : decode cM_covers 10 = .ok ((.aload_n 0), 1) := by decide +kernel
theorem dM_covers_11 : decode cM_covers 11 = .ok ((.iload_n 1), 1) := by decide +kernel
theorem dM_covers_12 : decode cM_covers 12 = .ok ((.invokevirtual 93), 3) := by decide +kernel
theorem dM_covers_15 : decode cM_covers 15 = .ok ((.if_icmp .ge 7), 3) := by decide +kernel
theorem dM_covers_18 : decode cM_covers 18 = .ok ((.iconst 1), 1) := by decide +kernel
theorem dM_covers_19 : decode cM_covers 19 = .ok ((.goto 4), 3) := by decide +kernel
theorem dM_covers_22 : decode cM_covers 22 = .ok ((.iconst 0), 1) := by decide +kernel
theorem dM_covers_23 : decode cM_covers 23 = .ok (.ireturn, 1) := by decide +kernel
theorem dM_foldable_0 : decode cM_foldable 0 = .ok ((.aload_n 0), 1) := by decide +kernel
theorem dM_foldable_1 : decode cM_foldable 1 = .ok ((.iconst 0), 1) := by decide +kernel
theorem dM_foldable_2 : decode cM_foldable 2 = .ok ((.putfield 56), 3) := by decide +kernel
theorem dM_foldable_5 : decode cM_foldable 5 = .ok ((.aload_n 0), 1) := by decide +kernel
theorem dM_foldable_6 : decode cM_foldable 6 = .ok ((.invokevirtual 74), 3) := by decide +kernel
theorem dM_foldable_9 : decode cM_foldable 9 = .ok ((.ifCond .le 5), 3) := by decide +kernel
theorem dM_foldable_12 : decode cM_foldable 12 = .ok ((.iconst (-1)), 1) := by decide +kernel
theorem dM_foldable_13 : decode cM_foldable 13 = .ok (.ireturn, 1) := by decide +kernel
theorem dM_foldable_14 : decode cM_foldable 14 = .ok ((.aload_n 0), 1) := by decide +kernel
theorem dM_foldable_15 : decode cM_foldable 15 = .ok ((.invokevirtual 121), 3) := by decide +kernel
theorem dM_foldable_18 : decode cM_foldable 18 = .ok ((.aload_n 0), 1) := by decide +kernel
theorem dM_foldable_19 : decode cM_foldable 19 = .ok ((.getfield 104), 3) := by decide +kernel
theorem dM_foldable_22 : decode cM_foldable 22 = .ok ((.iconst 1), 1) := by decide +kernel
theorem dM_foldable_23 : decode cM_foldable 23 = .ok ((.if_icmp .ne 7), 3) := by decide +kernel
theorem dM_foldable_26 : decode cM_foldable 26 = .ok ((.iconst 1), 1) := by decide +kernel
theorem dM_foldable_27 : decode cM_foldable 27 = .ok ((.goto 4), 3) := by decide +kernel
theorem dM_foldable_30 : decode cM_foldable 30 = .ok ((.iconst 0), 1) := by decide +kernel
theorem dM_foldable_31 : decode cM_foldable 31 = .ok (.ireturn, 1) := by decide +kernel
theorem dM_reduce_0 : decode cM_reduce 0 = .ok ((.aload_n 0), 1) := by decide +kernel
theorem dM_reduce_1 : decode cM_reduce 1 = .ok ((.aload_n 0), 1) := by decide +kernel
theorem dM_reduce_2 : decode cM_reduce 2 = .ok ((.getfield 63), 3) := by decide +kernel
theorem dM_reduce_5 : decode cM_reduce 5 = .ok ((.iconst 1), 1) := by decide +kernel
theorem dM_reduce_6 : decode cM_reduce 6 = .ok (.iadd, 1) := by decide +kernel
theorem dM_reduce_7 : decode cM_reduce 7 = .ok ((.putfield 104), 3) := by decide +kernel
theorem dM_reduce_10 : decode cM_reduce 10 = .ok ((.aload_n 0), 1) := by decide +kernel
theorem dM_reduce_11 : decode cM_reduce 11 = .ok ((.iconst 0), 1) := by decide +kernel
theorem dM_reduce_12 : decode cM_reduce 12 = .ok ((.putfield 107), 3) := by decide +kernel
theorem dM_reduce_15 : decode cM_reduce 15 = .ok ((.iconst 0), 1) := by decide +kernel
theorem dM_reduce_16 : decode cM_reduce 16 = .ok ((.istore_n 1), 1) := by decide +kernel
theorem dM_reduce_17 : decode cM_reduce 17 = .ok ((.iload_n 1), 1) := by decide +kernel
theorem dM_reduce_18 : decode cM_reduce 18 = .ok ((.aload_n 0), 1) := by decide +kernel
theorem dM_reduce_19 : decode cM_reduce 19 = .ok ((.getfield 104), 3) := by decide +kernel
theorem dM_reduce_22 : decode cM_reduce 22 = .ok ((.if_icmp .ge 74), 3) := by decide +kernel
theorem dM_reduce_25 : decode cM_reduce 25 = .ok ((.aload_n 0), 1) := by decide +kernel
theorem dM_reduce_26 : decode cM_reduce 26 = .ok ((.getfield 41), 3) := by decide +kernel
theorem dM_reduce_29 : decode cM_reduce 29 = .ok ((.iload_n 1), 1) := by decide +kernel
theorem dM_reduce_30 : decode cM_reduce 30 = .ok ((.aload_n 0), 1) := by decide +kernel
theorem dM_reduce_31 : decode cM_reduce 31 = .ok ((.iload_n 1), 1) := by decide +kernel
theorem dM_reduce_32 : decode cM_reduce 32 = .ok ((.invokevirtual 87), 3) := by decide +kernel
theorem dM_reduce_35 : decode cM_reduce 35 = .ok ((.aload_n 0), 1) := by decide +kernel
theorem dM_reduce_36 : decode cM_reduce 36 = .ok ((.iload_n 1), 1) := by decide +kernel
theorem dM_reduce_37 : decode cM_reduce 37 = .ok ((.invokevirtual 81), 3) := by decide +kernel
theorem dM_reduce_40 : decode cM_reduce 40 = .ok (.isub, 1) := by decide +kernel
theorem dM_reduce_41 : decode cM_reduce 41 = .ok (.iastore, 1) := by decide +kernel
theorem dM_reduce_42 : decode cM_reduce 42 = .ok ((.aload_n 0), 1) := by decide +kernel
theorem dM_reduce_43 : decode cM_reduce 43 = .ok ((.getfield 44), 3) := by decide +kernel
theorem dM_reduce_46 : decode cM_reduce 46 = .ok ((.iload_n 1), 1) := by decide +kernel
theorem dM_reduce_47 : decode cM_reduce 47 = .ok ((.iload_n 1), 1) := by decide +kernel
theorem dM_reduce_48 : decode cM_reduce 48 = .ok ((.aload_n 0), 1) := by decide +kernel
theorem dM_reduce_49 : decode cM_reduce 49 = .ok ((.getfield 63), 3) := by decide +kernel
theorem dM_reduce_52 : decode cM_reduce 52 = .ok ((.if_icmp .ge 12), 3) := by decide +kernel
theorem dM_reduce_55 : decode cM_reduce 55 = .ok ((.aload_n 0), 1) := by decide +kernel
theorem dM_reduce_56 : decode cM_reduce 56 = .ok ((.getfield 17), 3) := by decide +kernel
theorem dM_reduce_59 : decode cM_reduce 59 = .ok ((.iload_n 1), 1) := by decide +kernel
theorem dM_reduce_60 : decode cM_reduce 60 = .ok (.iaload, 1) := by decide +kernel
theorem dM_reduce_61 : decode cM_reduce 61 = .ok ((.goto 4), 3) := by decide +kernel
theorem dM_reduce_64 : decode cM_reduce 64 = .ok ((.iconst 0), 1) := by decide +kernel
theorem dM_reduce_65 : decode cM_reduce 65 = .ok (.iastore, 1) := by decide +kernel
theorem dM_reduce_66 : decode cM_reduce 66 = .ok ((.aload_n 0), 1) := by decide +kernel
theorem dM_reduce_67 : decode cM_reduce 67 = .ok ((.getfield 47), 3) := by decide +kernel
theorem dM_reduce_70 : decode cM_reduce 70 = .ok ((.iload_n 1), 1) := by decide +kernel
theorem dM_reduce_71 : decode cM_reduce 71 = .ok ((.iload_n 1), 1) := by decide +kernel
theorem dM_reduce_72 : decode cM_reduce 72 = .ok ((.aload_n 0), 1) := by decide +kernel
theorem dM_reduce_73 : decode cM_reduce 73 = .ok ((.getfield 63), 3) := by decide +kernel
theorem dM_reduce_76 : decode cM_reduce 76 = .ok ((.if_icmp .ge 12), 3) := by decide +kernel
theorem dM_reduce_79 : decode cM_reduce 79 = .ok ((.aload_n 0), 1) := by decide +kernel
theorem dM_reduce_80 : decode cM_reduce 80 = .ok ((.getfield 13), 3) := by decide +kernel
theorem dM_reduce_83 : decode cM_reduce 83 = .ok ((.iload_n 1), 1) := by decide +kernel
theorem dM_reduce_84 : decode cM_reduce 84 = .ok (.iaload, 1) := by decide +kernel
theorem dM_reduce_85 : decode cM_reduce 85 = .ok ((.goto 4), 3) := by decide +kernel
theorem dM_reduce_88 : decode cM_reduce 88 = .ok ((.iconst 0), 1) := by decide +kernel
theorem dM_reduce_89 : decode cM_reduce 89 = .ok (.iastore, 1) := by decide +kernel
theorem dM_reduce_90 : decode cM_reduce 90 = .ok ((.iinc 1 1), 3) := by decide +kernel
theorem dM_reduce_93 : decode cM_reduce 93 = .ok ((.goto (-76)), 3) := by decide +kernel
theorem dM_reduce_96 : decode cM_reduce 96 = .ok ((.iconst 1), 1) := by decide +kernel
theorem dM_reduce_97 : decode cM_reduce 97 = .ok ((.istore_n 1), 1) := by decide +kernel
theorem dM_reduce_98 : decode cM_reduce 98 = .ok ((.iload_n 1), 1) := by decide +kernel
theorem dM_reduce_99 : decode cM_reduce 99 = .ok ((.ifCond .eq 175), 3) := by decide +kernel
theorem dM_reduce_102 : decode cM_reduce 102 = .ok ((.aload_n 0), 1) := by decide +kernel
theorem dM_reduce_103 : decode cM_reduce 103 = .ok ((.getfield 104), 3) := by decide +kernel
theorem dM_reduce_106 : decode cM_reduce 106 = .ok ((.iconst 1), 1) := by decide +kernel
theorem dM_reduce_107 : decode cM_reduce 107 = .ok ((.if_icmp .le 167), 3) := by decide +kernel
theorem dM_reduce_110 : decode cM_reduce 110 = .ok ((.aload_n 0), 1) := by decide +kernel
theorem dM_reduce_111 : decode cM_reduce 111 = .ok ((.invokevirtual 110), 3) := by decide +kernel
theorem dM_reduce_114 : decode cM_reduce 114 = .ok ((.istore_n 2), 1) := by decide +kernel
theorem dM_reduce_115 : decode cM_reduce 115 = .ok ((.aload_n 0), 1) := by decide +kernel
theorem dM_reduce_116 : decode cM_reduce 116 = .ok ((.getfield 41), 3) := by decide +kernel
theorem dM_reduce_119 : decode cM_reduce 119 = .ok ((.iconst 0), 1) := by decide +kernel
theorem dM_reduce_120 : decode cM_reduce 120 = .ok (.iaload, 1) := by decide +kernel
theorem dM_reduce_121 : decode cM_reduce 121 = .ok ((.aload_n 0), 1) := by decide +kernel
theorem dM_reduce_122 : decode cM_reduce 122 = .ok ((.getfield 41), 3) := by decide +kernel
theorem dM_reduce_125 : decode cM_reduce 125 = .ok ((.iconst 1), 1) := by decide +kernel
theorem dM_reduce_126 : decode cM_reduce 126 = .ok (.iaload, 1) := by decide +kernel
theorem dM_reduce_127 : decode cM_reduce 127 = .ok ((.if_icmp .gt 22), 3) := by decide +kernel
theorem dM_reduce_130 : decode cM_reduce 130 = .ok ((.aload_n 0), 1) := by decide +kernel
theorem dM_reduce_131 : decode cM_reduce 131 = .ok ((.iconst 1), 1) := by decide +kernel
theorem dM_reduce_132 : decode cM_reduce 132 = .ok ((.aload_n 0), 1) := by decide +kernel
theorem dM_reduce_133 : decode cM_reduce 133 = .ok ((.getfield 47), 3) := by decide +kernel
theorem dM_reduce_136 : decode cM_reduce 136 = .ok ((.iconst 0), 1) := by decide +kernel
theorem dM_reduce_137 : decode cM_reduce 137 = .ok (.iaload, 1) := by decide +kernel
theorem dM_reduce_138 : decode cM_reduce 138 = .ok ((.invokevirtual 113), 3) := by decide +kernel
theorem dM_reduce_141 : decode cM_reduce 141 = .ok ((.aload_n 0), 1) := by decide +kernel
theorem dM_reduce_142 : decode cM_reduce 142 = .ok ((.iconst 0), 1) := by decide +kernel
theorem dM_reduce_143 : decode cM_reduce 143 = .ok ((.invokevirtual 117), 3) := by decide +kernel
theorem dM_reduce_146 : decode cM_reduce 146 = .ok ((.goto 125), 3) := by decide +kernel
theorem dM_reduce_149 : decode cM_reduce 149 = .ok ((.aload_n 0), 1) := by decide +kernel
theorem dM_reduce_150 : decode cM_reduce 150 = .ok ((.getfield 41), 3) := by decide +kernel
theorem dM_reduce_153 : decode cM_reduce 153 = .ok ((.aload_n 0), 1) := by decide +kernel
theorem dM_reduce_154 : decode cM_reduce 154 = .ok ((.getfield 104), 3) := by decide +kernel
theorem dM_reduce_157 : decode cM_reduce 157 = .ok ((.iconst 1), 1) := by decide +kernel
theorem dM_reduce_158 : decode cM_reduce 158 = .ok (.isub, 1) := by decide +kernel
theorem dM_reduce_159 : decode cM_reduce 159 = .ok (.iaload, 1) := by decide +kernel
theorem dM_reduce_160 : decode cM_reduce 160 = .ok ((.aload_n 0), 1) := by decide +kernel
theorem dM_reduce_161 : decode cM_reduce 161 = .ok ((.getfield 41), 3) := by decide +kernel
theorem dM_reduce_164 : decode cM_reduce 164 = .ok ((.aload_n 0), 1) := by decide +kernel
theorem dM_reduce_165 : decode cM_reduce 165 = .ok ((.getfield 104), 3) := by decide +kernel
theorem dM_reduce_168 : decode cM_reduce 168 = .ok ((.iconst 2), 1) := by decide +kernel
theorem dM_reduce_169 : decode cM_reduce 169 = .ok (.isub, 1) := by decide +kernel
theorem dM_reduce_170 : decode cM_reduce 170 = .ok (.iaload, 1) := by decide +kernel
theorem dM_reduce_171 : decode cM_reduce 171 = .ok ((.if_icmp .gt 32), 3) := by decide +kernel
theorem dM_reduce_174 : decode cM_reduce 174 = .ok ((.aload_n 0), 1) := by decide +kernel
theorem dM_reduce_175 : decode cM_reduce 175 = .ok ((.iconst 2), 1) := by decide +kernel
theorem dM_reduce_176 : decode cM_reduce 176 = .ok ((.aload_n 0), 1) := by decide +kernel
theorem dM_reduce_177 : decode cM_reduce 177 = .ok ((.getfield 47), 3) := by decide +kernel
theorem dM_reduce_180 : decode cM_reduce 180 = .ok ((.aload_n 0), 1) := by decide +kernel
theorem dM_reduce_181 : decode cM_reduce 181 = .ok ((.getfield 104), 3) := by decide +kernel
theorem dM_reduce_184 : decode cM_reduce 184 = .ok ((.iconst 2), 1) := by decide +kernel
theorem dM_reduce_185 : decode cM_reduce 185 = .ok (.isub, 1) := by decide +kernel
theorem dM_reduce_186 : decode cM_reduce 186 = .ok (.iaload, 1) := by decide +kernel
theorem dM_reduce_187 : decode cM_reduce 187 = .ok ((.invokevirtual 113), 3) := by decide +kernel
theorem dM_reduce_190 : decode cM_reduce 190 = .ok ((.aload_n 0), 1) := by decide +kernel
theorem dM_reduce_191 : decode cM_reduce 191 = .ok (.dup, 1) := by decide +kernel
theorem dM_reduce_192 : decode cM_reduce 192 = .ok ((.getfield 104), 3) := by decide +kernel
theorem dM_reduce_195 : decode cM_reduce 195 = .ok ((.iconst 1), 1) := by decide +kernel
theorem dM_reduce_196 : decode cM_reduce 196 = .ok (.isub, 1) := by decide +kernel
theorem dM_reduce_197 : decode cM_reduce 197 = .ok ((.putfield 104), 3) := by decide +kernel
theorem dM_reduce_200 : decode cM_reduce 200 = .ok ((.goto 71), 3) := by decide +kernel
theorem dM_reduce_203 : decode cM_reduce 203 = .ok ((.iload_n 2), 1) := by decide +kernel
theorem dM_reduce_204 : decode cM_reduce 204 = .ok ((.ifCond .le 65), 3) := by decide +kernel
theorem dM_reduce_207 : decode cM_reduce 207 = .ok ((.aload_n 0), 1) := by decide +kernel
theorem dM_reduce_208 : decode cM_reduce 208 = .ok ((.iconst 3), 1) := by decide +kernel
theorem dM_reduce_209 : decode cM_reduce 209 = .ok ((.aload_n 0), 1) := by decide +kernel
theorem dM_reduce_210 : decode cM_reduce 210 = .ok ((.getfield 47), 3) := by decide +kernel
theorem dM_reduce_213 : decode cM_reduce 213 = .ok ((.iload_n 2), 1) := by decide +kernel
theorem dM_reduce_214 : decode cM_reduce 214 = .ok ((.iconst 1), 1) := by decide +kernel
theorem dM_reduce_215 : decode cM_reduce 215 = .ok (.isub, 1) := by decide +kernel
theorem dM_reduce_216 : decode cM_reduce 216 = .ok (.iaload, 1) := by decide +kernel
theorem dM_reduce_217 : decode cM_reduce 217 = .ok ((.invokevirtual 113), 3) := by decide +kernel
theorem dM_reduce_220 : decode cM_reduce 220 = .ok ((.aload_n 0), 1) := by decide +kernel
theorem dM_reduce_221 : decode cM_reduce 221 = .ok ((.getfield 41), 3) := by decide +kernel
theorem dM_reduce_224 : decode cM_reduce 224 = .ok ((.iload_n 2), 1) := by decide +kernel
theorem dM_reduce_225 : decode cM_reduce 225 = .ok ((.iconst 1), 1) := by decide +kernel
theorem dM_reduce_226 : decode cM_reduce 226 = .ok (.iadd, 1) := by decide +kernel
theorem dM_reduce_227 : decode cM_reduce 227 = .ok ((.aload_n 0), 1) := by decide +kernel
theorem dM_reduce_228 : decode cM_reduce 228 = .ok ((.getfield 41), 3) := by decide +kernel
theorem dM_reduce_231 : decode cM_reduce 231 = .ok ((.iload_n 2), 1) := by decide +kernel
theorem dM_reduce_232 : decode cM_reduce 232 = .ok ((.iconst 1), 1) := by decide +kernel
theorem dM_reduce_233 : decode cM_reduce 233 = .ok (.isub, 1) := by decide +kernel
theorem dM_reduce_234 : decode cM_reduce 234 = .ok (.iaload, 1) := by decide +kernel
theorem dM_reduce_235 : decode cM_reduce 235 = .ok ((.aload_n 0), 1) := by decide +kernel
theorem dM_reduce_236 : decode cM_reduce 236 = .ok ((.getfield 41), 3) := by decide +kernel
theorem dM_reduce_239 : decode cM_reduce 239 = .ok ((.iload_n 2), 1) := by decide +kernel
theorem dM_reduce_240 : decode cM_reduce 240 = .ok (.iaload, 1) := by decide +kernel
theorem dM_reduce_241 : decode cM_reduce 241 = .ok (.isub, 1) := by decide +kernel
theorem dM_reduce_242 : decode cM_reduce 242 = .ok ((.aload_n 0), 1) := by decide +kernel
theorem dM_reduce_243 : decode cM_reduce 243 = .ok ((.getfield 41), 3) := by decide +kernel
theorem dM_reduce_246 : decode cM_reduce 246 = .ok ((.iload_n 2), 1) := by decide +kernel
theorem dM_reduce_247 : decode cM_reduce 247 = .ok ((.iconst 1), 1) := by decide +kernel
theorem dM_reduce_248 : decode cM_reduce 248 = .ok (.iadd, 1) := by decide +kernel
theorem dM_reduce_249 : decode cM_reduce 249 = .ok (.iaload, 1) := by decide +kernel
theorem dM_reduce_250 : decode cM_reduce 250 = .ok (.iadd, 1) := by decide +kernel
theorem dM_reduce_251 : decode cM_reduce 251 = .ok (.iastore, 1) := by decide +kernel
theorem dM_reduce_252 : decode cM_reduce 252 = .ok ((.aload_n 0), 1) := by decide +kernel
theorem dM_reduce_253 : decode cM_reduce 253 = .ok ((.iload_n 2), 1) := by decide +kernel
theorem dM_reduce_254 : decode cM_reduce 254 = .ok ((.iconst 1), 1) := by decide +kernel
theorem dM_reduce_255 : decode cM_reduce 255 = .ok (.isub, 1) := by decide +kernel
theorem dM_reduce_256 : decode cM_reduce 256 = .ok ((.invokevirtual 117), 3) := by decide +kernel
theorem dM_reduce_259 : decode cM_reduce 259 = .ok ((.aload_n 0), 1) := by decide +kernel
theorem dM_reduce_260 : decode cM_reduce 260 = .ok ((.iload_n 2), 1) := by decide +kernel
theorem dM_reduce_261 : decode cM_reduce 261 = .ok ((.iconst 1), 1) := by decide +kernel
theorem dM_reduce_262 : decode cM_reduce 262 = .ok (.isub, 1) := by decide +kernel
theorem dM_reduce_263 : decode cM_reduce 263 = .ok ((.invokevirtual 117), 3) := by decide +kernel
theorem dM_reduce_266 : decode cM_reduce 266 = .ok ((.goto 5), 3) := by decide +kernel
theorem dM_reduce_269 : decode cM_reduce 269 = .ok ((.iconst 0), 1) := by decide +kernel
theorem dM_reduce_270 : decode cM_reduce 270 = .ok ((.istore_n 1), 1) := by decide +kernel
theorem dM_reduce_271 : decode cM_reduce 271 = .ok ((.goto (-173)), 3) := by decide +kernel
theorem dM_reduce_274 : decode cM_reduce 274 = .ok (.return_, 1) := by decide +kernel
theorem dM_middle_0 : decode cM_middle 0 = .ok ((.iconst 1), 1) := by decide +kernel
theorem dM_middle_1 : decode cM_middle 1 = .ok ((.istore_n 1), 1) := by decide +kernel
theorem dM_middle_2 : decode cM_middle 2 = .ok ((.iload_n 1), 1) := by decide +kernel
theorem dM_middle_3 : decode cM_middle 3 = .ok ((.aload_n 0), 1) := by decide +kernel
theorem dM_middle_4 : decode cM_middle 4 = .ok ((.getfield 104), 3) := by decide +kernel
theorem dM_middle_7 : decode cM_middle 7 = .ok ((.iconst 1), 1) := by decide +kernel
theorem dM_middle_8 : decode cM_middle 8 = .ok (.isub, 1) := by decide +kernel
theorem dM_middle_9 : decode cM_middle 9 = .ok ((.if_icmp .ge 62), 3) := by decide +kernel
theorem dM_middle_12 : decode cM_middle 12 = .ok ((.aload_n 0), 1) := by decide +kernel
theorem dM_middle_13 : decode cM_middle 13 = .ok ((.getfield 41), 3) := by decide +kernel
theorem dM_middle_16 : decode cM_middle 16 = .ok ((.iload_n 1), 1) := by decide +kernel
theorem dM_middle_17 : decode cM_middle 17 = .ok (.iaload, 1) := by decide +kernel
theorem dM_middle_18 : decode cM_middle 18 = .ok ((.aload_n 0), 1) := by decide +kernel
theorem dM_middle_19 : decode cM_middle 19 = .ok ((.getfield 41), 3) := by decide +kernel
theorem dM_middle_22 : decode cM_middle 22 = .ok ((.iload_n 1), 1) := by decide +kernel
theorem dM_middle_23 : decode cM_middle 23 = .ok ((.iconst 1), 1) := by decide +kernel
theorem dM_middle_24 : decode cM_middle 24 = .ok (.isub, 1) := by decide +kernel
theorem dM_middle_25 : decode cM_middle 25 = .ok (.iaload, 1) := by decide +kernel
theorem dM_middle_26 : decode cM_middle 26 = .ok ((.if_icmp .gt 39), 3) := by decide +kernel
theorem dM_middle_29 : decode cM_middle 29 = .ok ((.aload_n 0), 1) := by decide +kernel
theorem dM_middle_30 : decode cM_middle 30 = .ok ((.getfield 41), 3) := by decide +kernel
theorem dM_middle_33 : decode cM_middle 33 = .ok ((.iload_n 1), 1) := by decide +kernel
theorem dM_middle_34 : decode cM_middle 34 = .ok (.iaload, 1) := by decide +kernel
theorem dM_middle_35 : decode cM_middle 35 = .ok ((.aload_n 0), 1) := by decide +kernel
theorem dM_middle_36 : decode cM_middle 36 = .ok ((.getfield 41), 3) := by decide +kernel
theorem dM_middle_39 : decode cM_middle 39 = .ok ((.iload_n 1), 1) := by decide +kernel
theorem dM_middle_40 : decode cM_middle 40 = .ok ((.iconst 1), 1) := by decide +kernel
theorem dM_middle_41 : decode cM_middle 41 = .ok (.iadd, 1) := by decide +kernel
theorem dM_middle_42 : decode cM_middle 42 = .ok (.iaload, 1) := by decide +kernel
theorem dM_middle_43 : decode cM_middle 43 = .ok ((.if_icmp .gt 22), 3) := by decide +kernel
theorem dM_middle_46 : decode cM_middle 46 = .ok ((.aload_n 0), 1) := by decide +kernel
theorem dM_middle_47 : decode cM_middle 47 = .ok ((.getfield 44), 3) := by decide +kernel
theorem dM_middle_50 : decode cM_middle 50 = .ok ((.iload_n 1), 1) := by decide +kernel
theorem dM_middle_51 : decode cM_middle 51 = .ok ((.iconst 1), 1) := by decide +kernel
theorem dM_middle_52 : decode cM_middle 52 = .ok (.isub, 1) := by decide +kernel
theorem dM_middle_53 : decode cM_middle 53 = .ok (.iaload, 1) := by decide +kernel
theorem dM_middle_54 : decode cM_middle 54 = .ok ((.aload_n 0), 1) := by decide +kernel
theorem dM_middle_55 : decode cM_middle 55 = .ok ((.getfield 44), 3) := by decide +kernel
theorem dM_middle_58 : decode cM_middle 58 = .ok ((.iload_n 1), 1) := by decide +kernel
theorem dM_middle_59 : decode cM_middle 59 = .ok (.iaload, 1) := by decide +kernel
theorem dM_middle_60 : decode cM_middle 60 = .ok ((.if_icmp .eq 5), 3) := by decide +kernel
theorem dM_middle_63 : decode cM_middle 63 = .ok ((.iload_n 1), 1) := by decide +kernel
theorem dM_middle_64 : decode cM_middle 64 = .ok (.ireturn, 1) := by decide +kernel
theorem dM_middle_65 : decode cM_middle 65 = .ok ((.iinc 1 1), 3) := by decide +kernel
theorem dM_middle_68 : decode cM_middle 68 = .ok ((.goto (-66)), 3) := by decide +kernel
theorem dM_middle_71 : decode cM_middle 71 = .ok ((.iconst (-1)), 1) := by decide +kernel
theorem dM_middle_72 : decode cM_middle 72 = .ok (.ireturn, 1) := by decide +kernel
theorem dM_note_0 : decode cM_note 0 = .ok ((.aload_n 0), 1) := by decide +kernel
theorem dM_note_1 : decode cM_note 1 = .ok ((.getfield 50), 3) := by decide +kernel
theorem dM_note_4 : decode cM_note 4 = .ok ((.aload_n 0), 1) := by decide +kernel
theorem dM_note_5 : decode cM_note 5 = .ok ((.getfield 107), 3) := by decide +kernel
theorem dM_note_8 : decode cM_note 8 = .ok ((.iload_n 1), 1) := by decide +kernel
theorem dM_note_9 : decode cM_note 9 = .ok (.iastore, 1) := by decide +kernel
theorem dM_note_10 : decode cM_note 10 = .ok ((.aload_n 0), 1) := by decide +kernel
theorem dM_note_11 : decode cM_note 11 = .ok ((.getfield 53), 3) := by decide +kernel
theorem dM_note_14 : decode cM_note 14 = .ok ((.aload_n 0), 1) := by decide +kernel
theorem dM_note_15 : decode cM_note 15 = .ok ((.getfield 107), 3) := by decide +kernel
theorem dM_note_18 : decode cM_note 18 = .ok ((.iload_n 2), 1) := by decide +kernel
theorem dM_note_19 : decode cM_note 19 = .ok (.iastore, 1) := by decide +kernel
theorem dM_note_20 : decode cM_note 20 = .ok ((.aload_n 0), 1) := by decide +kernel
theorem dM_note_21 : decode cM_note 21 = .ok (.dup, 1) := by decide +kernel
theorem dM_note_22 : decode cM_note 22 = .ok ((.getfield 107), 3) := by decide +kernel
theorem dM_note_25 : decode cM_note 25 = .ok ((.iconst 1), 1) := by decide +kernel
theorem dM_note_26 : decode cM_note 26 = .ok (.iadd, 1) := by decide +kernel
theorem dM_note_27 : decode cM_note 27 = .ok ((.putfield 107), 3) := by decide +kernel
theorem dM_note_30 : decode cM_note 30 = .ok (.return_, 1) := by decide +kernel
theorem dM_drop_0 : decode cM_drop 0 = .ok ((.aload_n 0), 1) := by decide +kernel
theorem dM_drop_1 : decode cM_drop 1 = .ok (.dup, 1) := by decide +kernel
theorem dM_drop_2 : decode cM_drop 2 = .ok ((.getfield 104), 3) := by decide +kernel
theorem dM_drop_5 : decode cM_drop 5 = .ok ((.iconst 1), 1) := by decide +kernel
theorem dM_drop_6 : decode cM_drop 6 = .ok (.isub, 1) := by decide +kernel
theorem dM_drop_7 : decode cM_drop 7 = .ok ((.putfield 104), 3) := by decide +kernel
theorem dM_drop_10 : decode cM_drop 10 = .ok ((.iload_n 1), 1) := by decide +kernel
theorem dM_drop_11 : decode cM_drop 11 = .ok ((.istore_n 2), 1) := by decide +kernel
theorem dM_drop_12 : decode cM_drop 12 = .ok ((.iload_n 2), 1) := by decide +kernel
theorem dM_drop_13 : decode cM_drop 13 = .ok ((.aload_n 0), 1) := by decide +kernel
theorem dM_drop_14 : decode cM_drop 14 = .ok ((.getfield 104), 3) := by decide +kernel
theorem dM_drop_17 : decode cM_drop 17 = .ok ((.if_icmp .ge 51), 3) := by decide +kernel
theorem dM_drop_20 : decode cM_drop 20 = .ok ((.aload_n 0), 1) := by decide +kernel
theorem dM_drop_21 : decode cM_drop 21 = .ok ((.getfield 41), 3) := by decide +kernel
theorem dM_drop_24 : decode cM_drop 24 = .ok ((.iload_n 2), 1) := by decide +kernel
theorem dM_drop_25 : decode cM_drop 25 = .ok ((.aload_n 0), 1) := by decide +kernel
theorem dM_drop_26 : decode cM_drop 26 = .ok ((.getfield 41), 3) := by decide +kernel
theorem dM_drop_29 : decode cM_drop 29 = .ok ((.iload_n 2), 1) := by decide +kernel
theorem dM_drop_30 : decode cM_drop 30 = .ok ((.iconst 1), 1) := by decide +kernel
theorem dM_drop_31 : decode cM_drop 31 = .ok (.iadd, 1) := by decide +kernel
theorem dM_drop_32 : decode cM_drop 32 = .ok (.iaload, 1) := by decide +kernel
theorem dM_drop_33 : decode cM_drop 33 = .ok (.iastore, 1) := by decide +kernel
theorem dM_drop_34 : decode cM_drop 34 = .ok ((.aload_n 0), 1) := by decide +kernel
theorem dM_drop_35 : decode cM_drop 35 = .ok ((.getfield 44), 3) := by decide +kernel
theorem dM_drop_38 : decode cM_drop 38 = .ok ((.iload_n 2), 1) := by decide +kernel
theorem dM_drop_39 : decode cM_drop 39 = .ok ((.aload_n 0), 1) := by decide +kernel
theorem dM_drop_40 : decode cM_drop 40 = .ok ((.getfield 44), 3) := by decide +kernel
theorem dM_drop_43 : decode cM_drop 43 = .ok ((.iload_n 2), 1) := by decide +kernel
theorem dM_drop_44 : decode cM_drop 44 = .ok ((.iconst 1), 1) := by decide +kernel
theorem dM_drop_45 : decode cM_drop 45 = .ok (.iadd, 1) := by decide +kernel
theorem dM_drop_46 : decode cM_drop 46 = .ok (.iaload, 1) := by decide +kernel
theorem dM_drop_47 : decode cM_drop 47 = .ok (.iastore, 1) := by decide +kernel
theorem dM_drop_48 : decode cM_drop 48 = .ok ((.aload_n 0), 1) := by decide +kernel
theorem dM_drop_49 : decode cM_drop 49 = .ok ((.getfield 47), 3) := by decide +kernel
theorem dM_drop_52 : decode cM_drop 52 = .ok ((.iload_n 2), 1) := by decide +kernel
theorem dM_drop_53 : decode cM_drop 53 = .ok ((.aload_n 0), 1) := by decide +kernel
theorem dM_drop_54 : decode cM_drop 54 = .ok ((.getfield 47), 3) := by decide +kernel
theorem dM_drop_57 : decode cM_drop 57 = .ok ((.iload_n 2), 1) := by decide +kernel
theorem dM_drop_58 : decode cM_drop 58 = .ok ((.iconst 1), 1) := by decide +kernel
theorem dM_drop_59 : decode cM_drop 59 = .ok (.iadd, 1) := by decide +kernel
theorem dM_drop_60 : decode cM_drop 60 = .ok (.iaload, 1) := by decide +kernel
theorem dM_drop_61 : decode cM_drop 61 = .ok (.iastore, 1) := by decide +kernel
theorem dM_drop_62 : decode cM_drop 62 = .ok ((.iinc 2 1), 3) := by decide +kernel
theorem dM_drop_65 : decode cM_drop 65 = .ok ((.goto (-53)), 3) := by decide +kernel
theorem dM_drop_68 : decode cM_drop 68 = .ok (.return_, 1) := by decide +kernel
theorem dM_steps_0 : decode cM_steps 0 = .ok ((.aload_n 0), 1) := by decide +kernel
theorem dM_steps_1 : decode cM_steps 1 = .ok ((.iconst 0), 1) := by decide +kernel
theorem dM_steps_2 : decode cM_steps 2 = .ok ((.putfield 56), 3) := by decide +kernel
theorem dM_steps_5 : decode cM_steps 5 = .ok ((.aload_n 0), 1) := by decide +kernel
theorem dM_steps_6 : decode cM_steps 6 = .ok ((.invokevirtual 74), 3) := by decide +kernel
theorem dM_steps_9 : decode cM_steps 9 = .ok ((.ifCond .le 5), 3) := by decide +kernel
theorem dM_steps_12 : decode cM_steps 12 = .ok ((.iconst (-1)), 1) := by decide +kernel
theorem dM_steps_13 : decode cM_steps 13 = .ok (.ireturn, 1) := by decide +kernel
theorem dM_steps_14 : decode cM_steps 14 = .ok ((.aload_n 0), 1) := by decide +kernel
theorem dM_steps_15 : decode cM_steps 15 = .ok ((.invokevirtual 121), 3) := by decide +kernel
theorem dM_steps_18 : decode cM_steps 18 = .ok ((.aload_n 0), 1) := by decide +kernel
theorem dM_steps_19 : decode cM_steps 19 = .ok ((.getfield 107), 3) := by decide +kernel
theorem dM_steps_22 : decode cM_steps 22 = .ok (.ireturn, 1) := by decide +kernel
theorem dM_step_0 : decode cM_step 0 = .ok ((.aload_n 0), 1) := by decide +kernel
theorem dM_step_1 : decode cM_step 1 = .ok ((.invokevirtual 121), 3) := by decide +kernel
theorem dM_step_4 : decode cM_step 4 = .ok ((.aload_n 0), 1) := by decide +kernel
theorem dM_step_5 : decode cM_step 5 = .ok ((.aload_n 0), 1) := by decide +kernel
theorem dM_step_6 : decode cM_step 6 = .ok ((.invokevirtual 74), 3) := by decide +kernel
theorem dM_step_9 : decode cM_step 9 = .ok ((.ifCond .gt 15), 3) := by decide +kernel
theorem dM_step_12 : decode cM_step 12 = .ok ((.iload_n 1), 1) := by decide +kernel
theorem dM_step_13 : decode cM_step 13 = .ok ((.ifCond .lt 11), 3) := by decide +kernel
theorem dM_step_16 : decode cM_step 16 = .ok ((.iload_n 1), 1) := by decide +kernel
theorem dM_step_17 : decode cM_step 17 = .ok ((.aload_n 0), 1) := by decide +kernel
theorem dM_step_18 : decode cM_step 18 = .ok ((.getfield 107), 3) := by decide +kernel
theorem dM_step_21 : decode cM_step 21 = .ok ((.if_icmp .lt 7), 3) := by decide +kernel
theorem dM_step_24 : decode cM_step 24 = .ok ((.iconst 1), 1) := by decide +kernel
theorem dM_step_25 : decode cM_step 25 = .ok ((.goto 4), 3) := by decide +kernel
theorem dM_step_28 : decode cM_step 28 = .ok ((.iconst 0), 1) := by decide +kernel
theorem dM_step_29 : decode cM_step 29 = .ok ((.iload_n 2), 1) := by decide +kernel
theorem dM_step_30 : decode cM_step 30 = .ok ((.ifCond .lt 8), 3) := by decide +kernel
theorem dM_step_33 : decode cM_step 33 = .ok ((.iload_n 2), 1) := by decide +kernel
theorem dM_step_34 : decode cM_step 34 = .ok ((.iconst 1), 1) := by decide +kernel
theorem dM_step_35 : decode cM_step 35 = .ok ((.if_icmp .le 7), 3) := by decide +kernel
theorem dM_step_38 : decode cM_step 38 = .ok ((.iconst 1), 1) := by decide +kernel
theorem dM_step_39 : decode cM_step 39 = .ok ((.goto 4), 3) := by decide +kernel
theorem dM_step_42 : decode cM_step 42 = .ok ((.iconst 0), 1) := by decide +kernel
theorem dM_step_43 : decode cM_step 43 = .ok ((.invokevirtual 59), 3) := by decide +kernel
theorem dM_step_46 : decode cM_step 46 = .ok ((.ifCond .eq 5), 3) := by decide +kernel
theorem dM_step_49 : decode cM_step 49 = .ok ((.iconst 0), 1) := by decide +kernel
theorem dM_step_50 : decode cM_step 50 = .ok (.ireturn, 1) := by decide +kernel
theorem dM_step_51 : decode cM_step 51 = .ok ((.iload_n 2), 1) := by decide +kernel
theorem dM_step_52 : decode cM_step 52 = .ok ((.ifCond .ne 12), 3) := by decide +kernel
theorem dM_step_55 : decode cM_step 55 = .ok ((.aload_n 0), 1) := by decide +kernel
theorem dM_step_56 : decode cM_step 56 = .ok ((.getfield 50), 3) := by decide +kernel
theorem dM_step_59 : decode cM_step 59 = .ok ((.iload_n 1), 1) := by decide +kernel
theorem dM_step_60 : decode cM_step 60 = .ok (.iaload, 1) := by decide +kernel
theorem dM_step_61 : decode cM_step 61 = .ok ((.goto 9), 3) := by decide +kernel
theorem dM_step_64 : decode cM_step 64 = .ok ((.aload_n 0), 1) := by decide +kernel
theorem dM_step_65 : decode cM_step 65 = .ok ((.getfield 53), 3) := by decide +kernel
theorem dM_step_68 : decode cM_step 68 = .ok ((.iload_n 1), 1) := by decide +kernel
theorem dM_step_69 : decode cM_step 69 = .ok (.iaload, 1) := by decide +kernel
theorem dM_step_70 : decode cM_step 70 = .ok (.ireturn, 1) := by decide +kernel
theorem dM_orders_0 : decode cM_orders 0 = .ok ((.aload_n 0), 1) := by decide +kernel
theorem dM_orders_1 : decode cM_orders 1 = .ok ((.iconst 0), 1) := by decide +kernel
theorem dM_orders_2 : decode cM_orders 2 = .ok ((.putfield 56), 3) := by decide +kernel
theorem dM_orders_5 : decode cM_orders 5 = .ok ((.aload_n 0), 1) := by decide +kernel
theorem dM_orders_6 : decode cM_orders 6 = .ok ((.ldc 162), 2) := by decide +kernel
theorem dM_orders_8 : decode cM_orders 8 = .ok ((.invokevirtual 163), 3) := by decide +kernel
theorem dM_orders_11 : decode cM_orders 11 = .ok ((.istore_n 1), 1) := by decide +kernel
theorem dM_orders_12 : decode cM_orders 12 = .ok ((.aload_n 0), 1) := by decide +kernel
theorem dM_orders_13 : decode cM_orders 13 = .ok ((.getfield 155), 3) := by decide +kernel
theorem dM_orders_16 : decode cM_orders 16 = .ok (.ireturn, 1) := by decide +kernel
theorem dM_look_0 : decode cM_look 0 = .ok ((.aload_n 0), 1) := by decide +kernel
theorem dM_look_1 : decode cM_look 1 = .ok ((.invokevirtual 152), 3) := by decide +kernel
theorem dM_look_4 : decode cM_look 4 = .ok ((.istore_n 2), 1) := by decide +kernel
theorem dM_look_5 : decode cM_look 5 = .ok ((.aload_n 0), 1) := by decide +kernel
theorem dM_look_6 : decode cM_look 6 = .ok ((.iconst 0), 1) := by decide +kernel
theorem dM_look_7 : decode cM_look 7 = .ok ((.putfield 155), 3) := by decide +kernel
theorem dM_look_10 : decode cM_look 10 = .ok ((.iconst 0), 1) := by decide +kernel
theorem dM_look_11 : decode cM_look 11 = .ok ((.istore_n 3), 1) := by decide +kernel
theorem dM_look_12 : decode cM_look 12 = .ok ((.iconst 0), 1) := by decide +kernel
theorem dM_look_13 : decode cM_look 13 = .ok ((.istore 4), 2) := by decide +kernel
theorem dM_look_15 : decode cM_look 15 = .ok ((.iload_n 3), 1) := by decide +kernel
theorem dM_look_16 : decode cM_look 16 = .ok ((.ifCond .lt 166), 3) := by decide +kernel
theorem dM_look_19 : decode cM_look 19 = .ok ((.iload_n 1), 1) := by decide +kernel
theorem dM_look_20 : decode cM_look 20 = .ok ((.ifCond .lt 162), 3) := by decide +kernel
theorem dM_look_23 : decode cM_look 23 = .ok ((.iload 4), 2) := by decide +kernel
theorem dM_look_25 : decode cM_look 25 = .ok ((.ifCond .ne 37), 3) := by decide +kernel
theorem dM_look_28 : decode cM_look 28 = .ok ((.iload_n 3), 1) := by decide +kernel
theorem dM_look_29 : decode cM_look 29 = .ok ((.iload_n 2), 1) := by decide +kernel
theorem dM_look_30 : decode cM_look 30 = .ok ((.if_icmp .ne 32), 3) := by decide +kernel
theorem dM_look_33 : decode cM_look 33 = .ok ((.aload_n 0), 1) := by decide +kernel
theorem dM_look_34 : decode cM_look 34 = .ok (.dup, 1) := by decide +kernel
theorem dM_look_35 : decode cM_look 35 = .ok ((.getfield 155), 3) := by decide +kernel
theorem dM_look_38 : decode cM_look 38 = .ok ((.iconst 1), 1) := by decide +kernel
theorem dM_look_39 : decode cM_look 39 = .ok (.iadd, 1) := by decide +kernel
theorem dM_look_40 : decode cM_look 40 = .ok ((.putfield 155), 3) := by decide +kernel
theorem dM_look_43 : decode cM_look 43 = .ok ((.aload_n 0), 1) := by decide +kernel
theorem dM_look_44 : decode cM_look 44 = .ok ((.getfield 155), 3) := by decide +kernel
theorem dM_look_47 : decode cM_look 47 = .ok ((.iload_n 1), 1) := by decide +kernel
theorem dM_look_48 : decode cM_look 48 = .ok ((.if_icmp .le 5), 3) := by decide +kernel
theorem dM_look_51 : decode cM_look 51 = .ok ((.iconst 1), 1) := by decide +kernel
theorem dM_look_52 : decode cM_look 52 = .ok (.ireturn, 1) := by decide +kernel
theorem dM_look_53 : decode cM_look 53 = .ok ((.iconst 1), 1) := by decide +kernel
theorem dM_look_54 : decode cM_look 54 = .ok ((.istore 4), 2) := by decide +kernel
theorem dM_look_56 : decode cM_look 56 = .ok ((.iinc 3 (-1)), 3) := by decide +kernel
theorem dM_look_59 : decode cM_look 59 = .ok ((.goto (-44)), 3) := by decide +kernel
theorem dM_look_62 : decode cM_look 62 = .ok ((.aload_n 0), 1) := by decide +kernel
theorem dM_look_63 : decode cM_look 63 = .ok ((.aload_n 0), 1) := by decide +kernel
theorem dM_look_64 : decode cM_look 64 = .ok ((.getfield 26), 3) := by decide +kernel
theorem dM_look_67 : decode cM_look 67 = .ok ((.iload_n 3), 1) := by decide +kernel
theorem dM_look_68 : decode cM_look 68 = .ok (.iaload, 1) := by decide +kernel
theorem dM_look_69 : decode cM_look 69 = .ok ((.aload_n 0), 1) := by decide +kernel
theorem dM_look_70 : decode cM_look 70 = .ok ((.getfield 29), 3) := by decide +kernel
theorem dM_look_73 : decode cM_look 73 = .ok ((.iload_n 3), 1) := by decide +kernel
theorem dM_look_74 : decode cM_look 74 = .ok (.iaload, 1) := by decide +kernel
theorem dM_look_75 : decode cM_look 75 = .ok ((.invokevirtual 124), 3) := by decide +kernel
theorem dM_look_78 : decode cM_look 78 = .ok ((.iload 4), 2) := by decide +kernel
theorem dM_look_80 : decode cM_look 80 = .ok ((.ifCond .eq 7), 3) := by decide +kernel
theorem dM_look_83 : decode cM_look 83 = .ok ((.iconst 1), 1) := by decide +kernel
theorem dM_look_84 : decode cM_look 84 = .ok ((.goto 4), 3) := by decide +kernel
theorem dM_look_87 : decode cM_look 87 = .ok ((.iconst 0), 1) := by decide +kernel
theorem dM_look_88 : decode cM_look 88 = .ok (.iadd, 1) := by decide +kernel
theorem dM_look_89 : decode cM_look 89 = .ok ((.istore 5), 2) := by decide +kernel
theorem dM_look_91 : decode cM_look 91 = .ok ((.iload 4), 2) := by decide +kernel
theorem dM_look_93 : decode cM_look 93 = .ok ((.ifCond .eq 8), 3) := by decide +kernel
theorem dM_look_96 : decode cM_look 96 = .ok ((.iload 5), 2) := by decide +kernel
theorem dM_look_98 : decode cM_look 98 = .ok ((.goto 4), 3) := by decide +kernel
theorem dM_look_101 : decode cM_look 101 = .ok ((.iconst 0), 1) := by decide +kernel
theorem dM_look_102 : decode cM_look 102 = .ok ((.istore 5), 2) := by decide +kernel
theorem dM_look_104 : decode cM_look 104 = .ok ((.iload 5), 2) := by decide +kernel
theorem dM_look_106 : decode cM_look 106 = .ok ((.iconst 1), 1) := by decide +kernel
theorem dM_look_107 : decode cM_look 107 = .ok ((.if_icmp .le 27), 3) := by decide +kernel
theorem dM_look_110 : decode cM_look 110 = .ok ((.aload_n 0), 1) := by decide +kernel
theorem dM_look_111 : decode cM_look 111 = .ok ((.aload_n 0), 1) := by decide +kernel
theorem dM_look_112 : decode cM_look 112 = .ok ((.getfield 26), 3) := by decide +kernel
theorem dM_look_115 : decode cM_look 115 = .ok ((.iload_n 3), 1) := by decide +kernel
theorem dM_look_116 : decode cM_look 116 = .ok (.iaload, 1) := by decide +kernel
theorem dM_look_117 : decode cM_look 117 = .ok ((.aload_n 0), 1) := by decide +kernel
theorem dM_look_118 : decode cM_look 118 = .ok ((.getfield 29), 3) := by decide +kernel
theorem dM_look_121 : decode cM_look 121 = .ok ((.iload_n 3), 1) := by decide +kernel
theorem dM_look_122 : decode cM_look 122 = .ok (.iaload, 1) := by decide +kernel
theorem dM_look_123 : decode cM_look 123 = .ok ((.bipush (-2)), 2) := by decide +kernel
theorem dM_look_125 : decode cM_look 125 = .ok ((.invokevirtual 148), 3) := by decide +kernel
theorem dM_look_128 : decode cM_look 128 = .ok ((.iinc 3 (-1)), 3) := by decide +kernel
theorem dM_look_131 : decode cM_look 131 = .ok ((.goto 48), 3) := by decide +kernel
theorem dM_look_134 : decode cM_look 134 = .ok ((.aload_n 0), 1) := by decide +kernel
theorem dM_look_135 : decode cM_look 135 = .ok ((.aload_n 0), 1) := by decide +kernel
theorem dM_look_136 : decode cM_look 136 = .ok ((.getfield 26), 3) := by decide +kernel
theorem dM_look_139 : decode cM_look 139 = .ok ((.iload_n 3), 1) := by decide +kernel
theorem dM_look_140 : decode cM_look 140 = .ok (.iaload, 1) := by decide +kernel
theorem dM_look_141 : decode cM_look 141 = .ok ((.aload_n 0), 1) := by decide +kernel
theorem dM_look_142 : decode cM_look 142 = .ok ((.getfield 29), 3) := by decide +kernel
theorem dM_look_145 : decode cM_look 145 = .ok ((.iload_n 3), 1) := by decide +kernel
theorem dM_look_146 : decode cM_look 146 = .ok (.iaload, 1) := by decide +kernel
theorem dM_look_147 : decode cM_look 147 = .ok ((.iload 5), 2) := by decide +kernel
theorem dM_look_149 : decode cM_look 149 = .ok ((.invokevirtual 148), 3) := by decide +kernel
theorem dM_look_152 : decode cM_look 152 = .ok ((.aload_n 0), 1) := by decide +kernel
theorem dM_look_153 : decode cM_look 153 = .ok ((.invokevirtual 158), 3) := by decide +kernel
theorem dM_look_156 : decode cM_look 156 = .ok ((.ifCond .ne 7), 3) := by decide +kernel
theorem dM_look_159 : decode cM_look 159 = .ok ((.iconst 1), 1) := by decide +kernel
theorem dM_look_160 : decode cM_look 160 = .ok ((.goto 4), 3) := by decide +kernel
theorem dM_look_163 : decode cM_look 163 = .ok ((.iconst 0), 1) := by decide +kernel
theorem dM_look_164 : decode cM_look 164 = .ok ((.istore 4), 2) := by decide +kernel
theorem dM_look_166 : decode cM_look 166 = .ok ((.iload 4), 2) := by decide +kernel
theorem dM_look_168 : decode cM_look 168 = .ok ((.ifCond .eq 7), 3) := by decide +kernel
theorem dM_look_171 : decode cM_look 171 = .ok ((.iload_n 3), 1) := by decide +kernel
theorem dM_look_172 : decode cM_look 172 = .ok ((.goto 6), 3) := by decide +kernel
theorem dM_look_175 : decode cM_look 175 = .ok ((.iload_n 3), 1) := by decide +kernel
theorem dM_look_176 : decode cM_look 176 = .ok ((.iconst 1), 1) := by decide +kernel
theorem dM_look_177 : decode cM_look 177 = .ok (.iadd, 1) := by decide +kernel
theorem dM_look_178 : decode cM_look 178 = .ok ((.istore_n 3), 1) := by decide +kernel
theorem dM_look_179 : decode cM_look 179 = .ok ((.goto (-164)), 3) := by decide +kernel
theorem dM_look_182 : decode cM_look 182 = .ok ((.iconst 0), 1) := by decide +kernel
theorem dM_look_183 : decode cM_look 183 = .ok (.ireturn, 1) := by decide +kernel
theorem dM_begin_0 : decode cM_begin 0 = .ok ((.iconst 0), 1) := by decide +kernel
theorem dM_begin_1 : decode cM_begin 1 = .ok ((.istore_n 1), 1) := by decide +kernel
theorem dM_begin_2 : decode cM_begin 2 = .ok ((.iload_n 1), 1) := by decide +kernel
theorem dM_begin_3 : decode cM_begin 3 = .ok ((.aload_n 0), 1) := by decide +kernel
theorem dM_begin_4 : decode cM_begin 4 = .ok ((.getfield 63), 3) := by decide +kernel
theorem dM_begin_7 : decode cM_begin 7 = .ok ((.if_icmp .gt 31), 3) := by decide +kernel
theorem dM_begin_10 : decode cM_begin 10 = .ok ((.aload_n 0), 1) := by decide +kernel
theorem dM_begin_11 : decode cM_begin 11 = .ok ((.getfield 32), 3) := by decide +kernel
theorem dM_begin_14 : decode cM_begin 14 = .ok ((.iload_n 1), 1) := by decide +kernel
theorem dM_begin_15 : decode cM_begin 15 = .ok ((.aload_n 0), 1) := by decide +kernel
theorem dM_begin_16 : decode cM_begin 16 = .ok ((.iload_n 1), 1) := by decide +kernel
theorem dM_begin_17 : decode cM_begin 17 = .ok ((.invokevirtual 90), 3) := by decide +kernel
theorem dM_begin_20 : decode cM_begin 20 = .ok (.iastore, 1) := by decide +kernel
theorem dM_begin_21 : decode cM_begin 21 = .ok ((.aload_n 0), 1) := by decide +kernel
theorem dM_begin_22 : decode cM_begin 22 = .ok ((.getfield 35), 3) := by decide +kernel
theorem dM_begin_25 : decode cM_begin 25 = .ok ((.iload_n 1), 1) := by decide +kernel
theorem dM_begin_26 : decode cM_begin 26 = .ok ((.aload_n 0), 1) := by decide +kernel
theorem dM_begin_27 : decode cM_begin 27 = .ok ((.iload_n 1), 1) := by decide +kernel
theorem dM_begin_28 : decode cM_begin 28 = .ok ((.invokevirtual 93), 3) := by decide +kernel
theorem dM_begin_31 : decode cM_begin 31 = .ok (.iastore, 1) := by decide +kernel
theorem dM_begin_32 : decode cM_begin 32 = .ok ((.iinc 1 1), 3) := by decide +kernel
theorem dM_begin_35 : decode cM_begin 35 = .ok ((.goto (-33)), 3) := by decide +kernel
theorem dM_begin_38 : decode cM_begin 38 = .ok ((.iconst 0), 1) := by decide +kernel
theorem dM_begin_39 : decode cM_begin 39 = .ok ((.istore_n 1), 1) := by decide +kernel
theorem dM_begin_40 : decode cM_begin 40 = .ok ((.iload_n 1), 1) := by decide +kernel
theorem dM_begin_41 : decode cM_begin 41 = .ok ((.aload_n 0), 1) := by decide +kernel
theorem dM_begin_42 : decode cM_begin 42 = .ok ((.getfield 63), 3) := by decide +kernel
theorem dM_begin_45 : decode cM_begin 45 = .ok ((.if_icmp .ge 25), 3) := by decide +kernel
theorem dM_begin_48 : decode cM_begin 48 = .ok ((.aload_n 0), 1) := by decide +kernel
theorem dM_begin_49 : decode cM_begin 49 = .ok ((.getfield 38), 3) := by decide +kernel
theorem dM_begin_52 : decode cM_begin 52 = .ok ((.iload_n 1), 1) := by decide +kernel
theorem dM_begin_53 : decode cM_begin 53 = .ok ((.aload_n 0), 1) := by decide +kernel
theorem dM_begin_54 : decode cM_begin 54 = .ok ((.aload_n 0), 1) := by decide +kernel
theorem dM_begin_55 : decode cM_begin 55 = .ok ((.getfield 13), 3) := by decide +kernel
theorem dM_begin_58 : decode cM_begin 58 = .ok ((.iload_n 1), 1) := by decide +kernel
theorem dM_begin_59 : decode cM_begin 59 = .ok (.iaload, 1) := by decide +kernel
theorem dM_begin_60 : decode cM_begin 60 = .ok ((.invokevirtual 84), 3) := by decide +kernel
theorem dM_begin_63 : decode cM_begin 63 = .ok (.iastore, 1) := by decide +kernel
theorem dM_begin_64 : decode cM_begin 64 = .ok ((.iinc 1 1), 3) := by decide +kernel
theorem dM_begin_67 : decode cM_begin 67 = .ok ((.goto (-27)), 3) := by decide +kernel
theorem dM_begin_70 : decode cM_begin 70 = .ok ((.iconst 0), 1) := by decide +kernel
theorem dM_begin_71 : decode cM_begin 71 = .ok ((.istore_n 1), 1) := by decide +kernel
theorem dM_begin_72 : decode cM_begin 72 = .ok ((.iconst 0), 1) := by decide +kernel
theorem dM_begin_73 : decode cM_begin 73 = .ok ((.istore_n 2), 1) := by decide +kernel
theorem dM_begin_74 : decode cM_begin 74 = .ok ((.iload_n 2), 1) := by decide +kernel
theorem dM_begin_75 : decode cM_begin 75 = .ok ((.bipush 49), 2) := by decide +kernel
theorem dM_begin_77 : decode cM_begin 77 = .ok ((.if_icmp .ge 16), 3) := by decide +kernel
theorem dM_begin_80 : decode cM_begin 80 = .ok ((.aload_n 0), 1) := by decide +kernel
theorem dM_begin_81 : decode cM_begin 81 = .ok ((.getfield 23), 3) := by decide +kernel
theorem dM_begin_84 : decode cM_begin 84 = .ok ((.iload_n 2), 1) := by decide +kernel
theorem dM_begin_85 : decode cM_begin 85 = .ok ((.iconst (-1)), 1) := by decide +kernel
theorem dM_begin_86 : decode cM_begin 86 = .ok (.iastore, 1) := by decide +kernel
theorem dM_begin_87 : decode cM_begin 87 = .ok ((.iinc 2 1), 3) := by decide +kernel
theorem dM_begin_90 : decode cM_begin 90 = .ok ((.goto (-16)), 3) := by decide +kernel
theorem dM_begin_93 : decode cM_begin 93 = .ok ((.iconst 1), 1) := by decide +kernel
theorem dM_begin_94 : decode cM_begin 94 = .ok ((.istore_n 2), 1) := by decide +kernel
theorem dM_begin_95 : decode cM_begin 95 = .ok ((.iload_n 2), 1) := by decide +kernel
theorem dM_begin_96 : decode cM_begin 96 = .ok ((.aload_n 0), 1) := by decide +kernel
theorem dM_begin_97 : decode cM_begin 97 = .ok ((.getfield 63), 3) := by decide +kernel
theorem dM_begin_100 : decode cM_begin 100 = .ok ((.if_icmp .gt 56), 3) := by decide +kernel
theorem dM_begin_103 : decode cM_begin 103 = .ok ((.iconst 0), 1) := by decide +kernel
theorem dM_begin_104 : decode cM_begin 104 = .ok ((.istore_n 3), 1) := by decide +kernel
theorem dM_begin_105 : decode cM_begin 105 = .ok ((.iload_n 3), 1) := by decide +kernel
theorem dM_begin_106 : decode cM_begin 106 = .ok ((.iload_n 2), 1) := by decide +kernel
theorem dM_begin_107 : decode cM_begin 107 = .ok ((.if_icmp .ge 43), 3) := by decide +kernel
theorem dM_begin_110 : decode cM_begin 110 = .ok ((.aload_n 0), 1) := by decide +kernel
theorem dM_begin_111 : decode cM_begin 111 = .ok ((.iload_n 3), 1) := by decide +kernel
theorem dM_begin_112 : decode cM_begin 112 = .ok ((.iload_n 2), 1) := by decide +kernel
theorem dM_begin_113 : decode cM_begin 113 = .ok ((.invokevirtual 132), 3) := by decide +kernel
theorem dM_begin_116 : decode cM_begin 116 = .ok ((.ifCond .eq 28), 3) := by decide +kernel
theorem dM_begin_119 : decode cM_begin 119 = .ok ((.aload_n 0), 1) := by decide +kernel
theorem dM_begin_120 : decode cM_begin 120 = .ok ((.iload_n 3), 1) := by decide +kernel
theorem dM_begin_121 : decode cM_begin 121 = .ok ((.iload_n 2), 1) := by decide +kernel
theorem dM_begin_122 : decode cM_begin 122 = .ok ((.bipush (-2)), 2) := by decide +kernel
theorem dM_begin_124 : decode cM_begin 124 = .ok ((.invokevirtual 148), 3) := by decide +kernel
theorem dM_begin_127 : decode cM_begin 127 = .ok ((.aload_n 0), 1) := by decide +kernel
theorem dM_begin_128 : decode cM_begin 128 = .ok ((.getfield 26), 3) := by decide +kernel
theorem dM_begin_131 : decode cM_begin 131 = .ok ((.iload_n 1), 1) := by decide +kernel
theorem dM_begin_132 : decode cM_begin 132 = .ok ((.iload_n 3), 1) := by decide +kernel
theorem dM_begin_133 : decode cM_begin 133 = .ok (.iastore, 1) := by decide +kernel
theorem dM_begin_134 : decode cM_begin 134 = .ok ((.aload_n 0), 1) := by decide +kernel
theorem dM_begin_135 : decode cM_begin 135 = .ok ((.getfield 29), 3) := by decide +kernel
theorem dM_begin_138 : decode cM_begin 138 = .ok ((.iload_n 1), 1) := by decide +kernel
theorem dM_begin_139 : decode cM_begin 139 = .ok ((.iload_n 2), 1) := by decide +kernel
theorem dM_begin_140 : decode cM_begin 140 = .ok (.iastore, 1) := by decide +kernel
theorem dM_begin_141 : decode cM_begin 141 = .ok ((.iinc 1 1), 3) := by decide +kernel
theorem dM_begin_144 : decode cM_begin 144 = .ok ((.iinc 3 1), 3) := by decide +kernel
theorem dM_begin_147 : decode cM_begin 147 = .ok ((.goto (-42)), 3) := by decide +kernel
theorem dM_begin_150 : decode cM_begin 150 = .ok ((.iinc 2 1), 3) := by decide +kernel
theorem dM_begin_153 : decode cM_begin 153 = .ok ((.goto (-58)), 3) := by decide +kernel
theorem dM_begin_156 : decode cM_begin 156 = .ok ((.iload_n 1), 1) := by decide +kernel
theorem dM_begin_157 : decode cM_begin 157 = .ok (.ireturn, 1) := by decide +kernel
theorem dM_overlap_0 : decode cM_overlap 0 = .ok ((.aload_n 0), 1) := by decide +kernel
theorem dM_overlap_1 : decode cM_overlap 1 = .ok ((.getfield 32), 3) := by decide +kernel
theorem dM_overlap_4 : decode cM_overlap 4 = .ok ((.iload_n 1), 1) := by decide +kernel
theorem dM_overlap_5 : decode cM_overlap 5 = .ok (.iaload, 1) := by decide +kernel
theorem dM_overlap_6 : decode cM_overlap 6 = .ok ((.aload_n 0), 1) := by decide +kernel
theorem dM_overlap_7 : decode cM_overlap 7 = .ok ((.getfield 32), 3) := by decide +kernel
theorem dM_overlap_10 : decode cM_overlap 10 = .ok ((.iload_n 2), 1) := by decide +kernel
theorem dM_overlap_11 : decode cM_overlap 11 = .ok (.iaload, 1) := by decide +kernel
theorem dM_overlap_12 : decode cM_overlap 12 = .ok ((.if_icmp .le 12), 3) := by decide +kernel
theorem dM_overlap_15 : decode cM_overlap 15 = .ok ((.aload_n 0), 1) := by decide +kernel
theorem dM_overlap_16 : decode cM_overlap 16 = .ok ((.getfield 32), 3) := by decide +kernel
theorem dM_overlap_19 : decode cM_overlap 19 = .ok ((.iload_n 1), 1) := by decide +kernel
theorem dM_overlap_20 : decode cM_overlap 20 = .ok (.iaload, 1) := by decide +kernel
theorem dM_overlap_21 : decode cM_overlap 21 = .ok ((.goto 9), 3) := by decide +kernel
theorem dM_overlap_24 : decode cM_overlap 24 = .ok ((.aload_n 0), 1) := by decide +kernel
theorem dM_overlap_25 : decode cM_overlap 25 = .ok ((.getfield 32), 3) := by decide +kernel
theorem dM_overlap_28 : decode cM_overlap 28 = .ok ((.iload_n 2), 1) := by decide +kernel
theorem dM_overlap_29 : decode cM_overlap 29 = .ok (.iaload, 1) := by decide +kernel
theorem dM_overlap_30 : decode cM_overlap 30 = .ok ((.istore_n 3), 1) := by decide +kernel
theorem dM_overlap_31 : decode cM_overlap 31 = .ok ((.aload_n 0), 1) := by decide +kernel
theorem dM_overlap_32 : decode cM_overlap 32 = .ok ((.getfield 35), 3) := by decide +kernel
theorem dM_overlap_35 : decode cM_overlap 35 = .ok ((.iload_n 1), 1) := by decide +kernel
theorem dM_overlap_36 : decode cM_overlap 36 = .ok (.iaload, 1) := by decide +kernel
theorem dM_overlap_37 : decode cM_overlap 37 = .ok ((.aload_n 0), 1) := by decide +kernel
theorem dM_overlap_38 : decode cM_overlap 38 = .ok ((.getfield 35), 3) := by decide +kernel
theorem dM_overlap_41 : decode cM_overlap 41 = .ok ((.iload_n 2), 1) := by decide +kernel
theorem dM_overlap_42 : decode cM_overlap 42 = .ok (.iaload, 1) := by decide +kernel
theorem dM_overlap_43 : decode cM_overlap 43 = .ok ((.if_icmp .ge 12), 3) := by decide +kernel
theorem dM_overlap_46 : decode cM_overlap 46 = .ok ((.aload_n 0), 1) := by decide +kernel
theorem dM_overlap_47 : decode cM_overlap 47 = .ok ((.getfield 35), 3) := by decide +kernel
theorem dM_overlap_50 : decode cM_overlap 50 = .ok ((.iload_n 1), 1) := by decide +kernel
theorem dM_overlap_51 : decode cM_overlap 51 = .ok (.iaload, 1) := by decide +kernel
theorem dM_overlap_52 : decode cM_overlap 52 = .ok ((.goto 9), 3) := by decide +kernel
theorem dM_overlap_55 : decode cM_overlap 55 = .ok ((.aload_n 0), 1) := by decide +kernel
theorem dM_overlap_56 : decode cM_overlap 56 = .ok ((.getfield 35), 3) := by decide +kernel
theorem dM_overlap_59 : decode cM_overlap 59 = .ok ((.iload_n 2), 1) := by decide +kernel
theorem dM_overlap_60 : decode cM_overlap 60 = .ok (.iaload, 1) := by decide +kernel
theorem dM_overlap_61 : decode cM_overlap 61 = .ok ((.istore 4), 2) := by decide +kernel
theorem dM_overlap_63 : decode cM_overlap 63 = .ok ((.iload_n 1), 1) := by decide +kernel
theorem dM_overlap_64 : decode cM_overlap 64 = .ok ((.iload_n 2), 1) := by decide +kernel
theorem dM_overlap_65 : decode cM_overlap 65 = .ok ((.if_icmp .eq 13), 3) := by decide +kernel
theorem dM_overlap_68 : decode cM_overlap 68 = .ok ((.iload_n 3), 1) := by decide +kernel
theorem dM_overlap_69 : decode cM_overlap 69 = .ok ((.iload 4), 2) := by decide +kernel
theorem dM_overlap_71 : decode cM_overlap 71 = .ok ((.if_icmp .ge 7), 3) := by decide +kernel
theorem dM_overlap_74 : decode cM_overlap 74 = .ok ((.iconst 1), 1) := by decide +kernel
theorem dM_overlap_75 : decode cM_overlap 75 = .ok ((.goto 4), 3) := by decide +kernel
theorem dM_overlap_78 : decode cM_overlap 78 = .ok ((.iconst 0), 1) := by decide +kernel
theorem dM_overlap_79 : decode cM_overlap 79 = .ok (.ireturn, 1) := by decide +kernel
theorem dM_set_0 : decode cM_set 0 = .ok ((.aload_n 0), 1) := by decide +kernel
theorem dM_set_1 : decode cM_set 1 = .ok ((.getfield 23), 3) := by decide +kernel
theorem dM_set_4 : decode cM_set 4 = .ok ((.bipush 7), 2) := by decide +kernel
theorem dM_set_6 : decode cM_set 6 = .ok ((.iload_n 1), 1) := by decide +kernel
theorem dM_set_7 : decode cM_set 7 = .ok (.imul, 1) := by decide +kernel
theorem dM_set_8 : decode cM_set 8 = .ok ((.iload_n 2), 1) := by decide +kernel
theorem dM_set_9 : decode cM_set 9 = .ok (.iadd, 1) := by decide +kernel
theorem dM_set_10 : decode cM_set 10 = .ok ((.iload_n 3), 1) := by decide +kernel
theorem dM_set_11 : decode cM_set 11 = .ok (.iastore, 1) := by decide +kernel
theorem dM_set_12 : decode cM_set 12 = .ok ((.aload_n 0), 1) := by decide +kernel
theorem dM_set_13 : decode cM_set 13 = .ok ((.getfield 23), 3) := by decide +kernel
theorem dM_set_16 : decode cM_set 16 = .ok ((.bipush 7), 2) := by decide +kernel
theorem dM_set_18 : decode cM_set 18 = .ok ((.iload_n 2), 1) := by decide +kernel
theorem dM_set_19 : decode cM_set 19 = .ok (.imul, 1) := by decide +kernel
theorem dM_set_20 : decode cM_set 20 = .ok ((.iload_n 1), 1) := by decide +kernel
theorem dM_set_21 : decode cM_set 21 = .ok (.iadd, 1) := by decide +kernel
theorem dM_set_22 : decode cM_set 22 = .ok ((.iload_n 3), 1) := by decide +kernel
theorem dM_set_23 : decode cM_set 23 = .ok ((.ifCond .ge 7), 3) := by decide +kernel
theorem dM_set_26 : decode cM_set 26 = .ok ((.iload_n 3), 1) := by decide +kernel
theorem dM_set_27 : decode cM_set 27 = .ok ((.goto 6), 3) := by decide +kernel
theorem dM_set_30 : decode cM_set 30 = .ok ((.iconst 1), 1) := by decide +kernel
theorem dM_set_31 : decode cM_set 31 = .ok ((.iload_n 3), 1) := by decide +kernel
theorem dM_set_32 : decode cM_set 32 = .ok (.isub, 1) := by decide +kernel
theorem dM_set_33 : decode cM_set 33 = .ok (.iastore, 1) := by decide +kernel
theorem dM_set_34 : decode cM_set 34 = .ok (.return_, 1) := by decide +kernel
theorem dM_get_0 : decode cM_get 0 = .ok ((.aload_n 0), 1) := by decide +kernel
theorem dM_get_1 : decode cM_get 1 = .ok ((.getfield 23), 3) := by decide +kernel
theorem dM_get_4 : decode cM_get 4 = .ok ((.bipush 7), 2) := by decide +kernel
theorem dM_get_6 : decode cM_get 6 = .ok ((.iload_n 1), 1) := by decide +kernel
theorem dM_get_7 : decode cM_get 7 = .ok (.imul, 1) := by decide +kernel
theorem dM_get_8 : decode cM_get 8 = .ok ((.iload_n 2), 1) := by decide +kernel
theorem dM_get_9 : decode cM_get 9 = .ok (.iadd, 1) := by decide +kernel
theorem dM_get_10 : decode cM_get 10 = .ok (.iaload, 1) := by decide +kernel
theorem dM_get_11 : decode cM_get 11 = .ok (.ireturn, 1) := by decide +kernel
theorem dM_holds_0 : decode cM_holds 0 = .ok ((.iconst 1), 1) := by decide +kernel
theorem dM_holds_1 : decode cM_holds 1 = .ok ((.istore_n 1), 1) := by decide +kernel
theorem dM_holds_2 : decode cM_holds 2 = .ok ((.aload_n 0), 1) := by decide +kernel
theorem dM_holds_3 : decode cM_holds 3 = .ok ((.getfield 63), 3) := by decide +kernel
theorem dM_holds_6 : decode cM_holds 6 = .ok ((.iconst 1), 1) := by decide +kernel
theorem dM_holds_7 : decode cM_holds 7 = .ok (.iadd, 1) := by decide +kernel
theorem dM_holds_8 : decode cM_holds 8 = .ok ((.istore_n 2), 1) := by decide +kernel
theorem dM_holds_9 : decode cM_holds 9 = .ok ((.iconst 0), 1) := by decide +kernel
theorem dM_holds_10 : decode cM_holds 10 = .ok ((.istore_n 3), 1) := by decide +kernel
theorem dM_holds_11 : decode cM_holds 11 = .ok ((.iload_n 3), 1) := by decide +kernel
theorem dM_holds_12 : decode cM_holds 12 = .ok ((.iload_n 2), 1) := by decide +kernel
theorem dM_holds_13 : decode cM_holds 13 = .ok ((.if_icmp .ge 97), 3) := by decide +kernel
theorem dM_holds_16 : decode cM_holds 16 = .ok ((.iload_n 3), 1) := by decide +kernel
theorem dM_holds_17 : decode cM_holds 17 = .ok ((.iconst 1), 1) := by decide +kernel
theorem dM_holds_18 : decode cM_holds 18 = .ok (.iadd, 1) := by decide +kernel
theorem dM_holds_19 : decode cM_holds 19 = .ok ((.istore 4), 2) := by decide +kernel
theorem dM_holds_21 : decode cM_holds 21 = .ok ((.iload 4), 2) := by decide +kernel
theorem dM_holds_23 : decode cM_holds 23 = .ok ((.iload_n 2), 1) := by decide +kernel
theorem dM_holds_24 : decode cM_holds 24 = .ok ((.if_icmp .ge 80), 3) := by decide +kernel
theorem dM_holds_27 : decode cM_holds 27 = .ok ((.iload 4), 2) := by decide +kernel
theorem dM_holds_29 : decode cM_holds 29 = .ok ((.iconst 1), 1) := by decide +kernel
theorem dM_holds_30 : decode cM_holds 30 = .ok (.iadd, 1) := by decide +kernel
theorem dM_holds_31 : decode cM_holds 31 = .ok ((.istore 5), 2) := by decide +kernel
theorem dM_holds_33 : decode cM_holds 33 = .ok ((.iload 5), 2) := by decide +kernel
theorem dM_holds_35 : decode cM_holds 35 = .ok ((.iload_n 2), 1) := by decide +kernel
theorem dM_holds_36 : decode cM_holds 36 = .ok ((.if_icmp .ge 62), 3) := by decide +kernel
theorem dM_holds_39 : decode cM_holds 39 = .ok ((.iload_n 1), 1) := by decide +kernel
theorem dM_holds_40 : decode cM_holds 40 = .ok ((.ifCond .eq 50), 3) := by decide +kernel
theorem dM_holds_43 : decode cM_holds 43 = .ok ((.aload_n 0), 1) := by decide +kernel
theorem dM_holds_44 : decode cM_holds 44 = .ok ((.iload_n 3), 1) := by decide +kernel
theorem dM_holds_45 : decode cM_holds 45 = .ok ((.iload 4), 2) := by decide +kernel
theorem dM_holds_47 : decode cM_holds 47 = .ok ((.invokevirtual 132), 3) := by decide +kernel
theorem dM_holds_50 : decode cM_holds 50 = .ok ((.ifCond .eq 36), 3) := by decide +kernel
theorem dM_holds_53 : decode cM_holds 53 = .ok ((.aload_n 0), 1) := by decide +kernel
theorem dM_holds_54 : decode cM_holds 54 = .ok ((.iload 4), 2) := by decide +kernel
theorem dM_holds_56 : decode cM_holds 56 = .ok ((.iload 5), 2) := by decide +kernel
theorem dM_holds_58 : decode cM_holds 58 = .ok ((.invokevirtual 132), 3) := by decide +kernel
theorem dM_holds_61 : decode cM_holds 61 = .ok ((.ifCond .eq 25), 3) := by decide +kernel
theorem dM_holds_64 : decode cM_holds 64 = .ok ((.aload_n 0), 1) := by decide +kernel
theorem dM_holds_65 : decode cM_holds 65 = .ok ((.iload_n 3), 1) := by decide +kernel
theorem dM_holds_66 : decode cM_holds 66 = .ok ((.iload 5), 2) := by decide +kernel
theorem dM_holds_68 : decode cM_holds 68 = .ok ((.invokevirtual 132), 3) := by decide +kernel
theorem dM_holds_71 : decode cM_holds 71 = .ok ((.ifCond .eq 15), 3) := by decide +kernel
theorem dM_holds_74 : decode cM_holds 74 = .ok ((.aload_n 0), 1) := by decide +kernel
theorem dM_holds_75 : decode cM_holds 75 = .ok ((.iload_n 3), 1) := by decide +kernel
theorem dM_holds_76 : decode cM_holds 76 = .ok ((.iload 4), 2) := by decide +kernel
theorem dM_holds_78 : decode cM_holds 78 = .ok ((.iload 5), 2) := by decide +kernel
theorem dM_holds_80 : decode cM_holds 80 = .ok ((.invokevirtual 135), 3) := by decide +kernel
theorem dM_holds_83 : decode cM_holds 83 = .ok ((.ifCond .ne 7), 3) := by decide +kernel
theorem dM_holds_86 : decode cM_holds 86 = .ok ((.iconst 1), 1) := by decide +kernel
theorem dM_holds_87 : decode cM_holds 87 = .ok ((.goto 4), 3) := by decide +kernel
theorem dM_holds_90 : decode cM_holds 90 = .ok ((.iconst 0), 1) := by decide +kernel
theorem dM_holds_91 : decode cM_holds 91 = .ok ((.istore_n 1), 1) := by decide +kernel
theorem dM_holds_92 : decode cM_holds 92 = .ok ((.iinc 5 1), 3) := by decide +kernel
theorem dM_holds_95 : decode cM_holds 95 = .ok ((.goto (-62)), 3) := by decide +kernel
theorem dM_holds_98 : decode cM_holds 98 = .ok ((.iinc 4 1), 3) := by decide +kernel
theorem dM_holds_101 : decode cM_holds 101 = .ok ((.goto (-80)), 3) := by decide +kernel
theorem dM_holds_104 : decode cM_holds 104 = .ok ((.iinc 3 1), 3) := by decide +kernel
theorem dM_holds_107 : decode cM_holds 107 = .ok ((.goto (-96)), 3) := by decide +kernel
theorem dM_holds_110 : decode cM_holds 110 = .ok ((.iconst 0), 1) := by decide +kernel
theorem dM_holds_111 : decode cM_holds 111 = .ok ((.istore_n 3), 1) := by decide +kernel
theorem dM_holds_112 : decode cM_holds 112 = .ok ((.iload_n 3), 1) := by decide +kernel
theorem dM_holds_113 : decode cM_holds 113 = .ok ((.aload_n 0), 1) := by decide +kernel
theorem dM_holds_114 : decode cM_holds 114 = .ok ((.getfield 63), 3) := by decide +kernel
theorem dM_holds_117 : decode cM_holds 117 = .ok ((.if_icmp .ge 79), 3) := by decide +kernel
theorem dM_holds_120 : decode cM_holds 120 = .ok ((.iload_n 1), 1) := by decide +kernel
theorem dM_holds_121 : decode cM_holds 121 = .ok ((.ifCond .eq 75), 3) := by decide +kernel
theorem dM_holds_124 : decode cM_holds 124 = .ok ((.aload_n 0), 1) := by decide +kernel
theorem dM_holds_125 : decode cM_holds 125 = .ok ((.iload_n 3), 1) := by decide +kernel
theorem dM_holds_126 : decode cM_holds 126 = .ok ((.invokevirtual 139), 3) := by decide +kernel
theorem dM_holds_129 : decode cM_holds 129 = .ok ((.ifCond .eq 15), 3) := by decide +kernel
theorem dM_holds_132 : decode cM_holds 132 = .ok ((.aload_n 0), 1) := by decide +kernel
theorem dM_holds_133 : decode cM_holds 133 = .ok ((.iload_n 3), 1) := by decide +kernel
theorem dM_holds_134 : decode cM_holds 134 = .ok ((.invokevirtual 142), 3) := by decide +kernel
theorem dM_holds_137 : decode cM_holds 137 = .ok ((.ifCond .eq 7), 3) := by decide +kernel
theorem dM_holds_140 : decode cM_holds 140 = .ok ((.iconst 1), 1) := by decide +kernel
theorem dM_holds_141 : decode cM_holds 141 = .ok ((.goto 4), 3) := by decide +kernel
theorem dM_holds_144 : decode cM_holds 144 = .ok ((.iconst 0), 1) := by decide +kernel
theorem dM_holds_145 : decode cM_holds 145 = .ok ((.istore_n 1), 1) := by decide +kernel
theorem dM_holds_146 : decode cM_holds 146 = .ok ((.iconst 0), 1) := by decide +kernel
theorem dM_holds_147 : decode cM_holds 147 = .ok ((.istore 4), 2) := by decide +kernel
theorem dM_holds_149 : decode cM_holds 149 = .ok ((.iload 4), 2) := by decide +kernel
theorem dM_holds_151 : decode cM_holds 151 = .ok ((.aload_n 0), 1) := by decide +kernel
theorem dM_holds_152 : decode cM_holds 152 = .ok ((.getfield 63), 3) := by decide +kernel
theorem dM_holds_155 : decode cM_holds 155 = .ok ((.if_icmp .ge 35), 3) := by decide +kernel
theorem dM_holds_158 : decode cM_holds 158 = .ok ((.iload_n 1), 1) := by decide +kernel
theorem dM_holds_159 : decode cM_holds 159 = .ok ((.ifCond .eq 31), 3) := by decide +kernel
theorem dM_holds_162 : decode cM_holds 162 = .ok ((.iload 4), 2) := by decide +kernel
theorem dM_holds_164 : decode cM_holds 164 = .ok ((.iload_n 3), 1) := by decide +kernel
theorem dM_holds_165 : decode cM_holds 165 = .ok ((.if_icmp .eq 13), 3) := by decide +kernel
theorem dM_holds_168 : decode cM_holds 168 = .ok ((.aload_n 0), 1) := by decide +kernel
theorem dM_holds_169 : decode cM_holds 169 = .ok ((.iload_n 3), 1) := by decide +kernel
theorem dM_holds_170 : decode cM_holds 170 = .ok ((.iload 4), 2) := by decide +kernel
theorem dM_holds_172 : decode cM_holds 172 = .ok ((.invokevirtual 145), 3) := by decide +kernel
theorem dM_holds_175 : decode cM_holds 175 = .ok ((.ifCond .eq 7), 3) := by decide +kernel
theorem dM_holds_178 : decode cM_holds 178 = .ok ((.iconst 1), 1) := by decide +kernel
theorem dM_holds_179 : decode cM_holds 179 = .ok ((.goto 4), 3) := by decide +kernel
theorem dM_holds_182 : decode cM_holds 182 = .ok ((.iconst 0), 1) := by decide +kernel
theorem dM_holds_183 : decode cM_holds 183 = .ok ((.istore_n 1), 1) := by decide +kernel
theorem dM_holds_184 : decode cM_holds 184 = .ok ((.iinc 4 1), 3) := by decide +kernel
theorem dM_holds_187 : decode cM_holds 187 = .ok ((.goto (-38)), 3) := by decide +kernel
theorem dM_holds_190 : decode cM_holds 190 = .ok ((.iinc 3 1), 3) := by decide +kernel
theorem dM_holds_193 : decode cM_holds 193 = .ok ((.goto (-81)), 3) := by decide +kernel
theorem dM_holds_196 : decode cM_holds 196 = .ok ((.iload_n 1), 1) := by decide +kernel
theorem dM_holds_197 : decode cM_holds 197 = .ok (.ireturn, 1) := by decide +kernel
theorem dM_turnsRound_0 : decode cM_turnsRound 0 = .ok ((.aload_n 0), 1) := by decide +kernel
theorem dM_turnsRound_1 : decode cM_turnsRound 1 = .ok ((.iload_n 1), 1) := by decide +kernel
theorem dM_turnsRound_2 : decode cM_turnsRound 2 = .ok ((.iload_n 2), 1) := by decide +kernel
theorem dM_turnsRound_3 : decode cM_turnsRound 3 = .ok ((.invokevirtual 124), 3) := by decide +kernel
theorem dM_turnsRound_6 : decode cM_turnsRound 6 = .ok ((.iconst 1), 1) := by decide +kernel
theorem dM_turnsRound_7 : decode cM_turnsRound 7 = .ok ((.if_icmp .ne 23), 3) := by decide +kernel
theorem dM_turnsRound_10 : decode cM_turnsRound 10 = .ok ((.aload_n 0), 1) := by decide +kernel
theorem dM_turnsRound_11 : decode cM_turnsRound 11 = .ok ((.iload_n 2), 1) := by decide +kernel
theorem dM_turnsRound_12 : decode cM_turnsRound 12 = .ok ((.iload_n 3), 1) := by decide +kernel
theorem dM_turnsRound_13 : decode cM_turnsRound 13 = .ok ((.invokevirtual 124), 3) := by decide +kernel
theorem dM_turnsRound_16 : decode cM_turnsRound 16 = .ok ((.iconst 1), 1) := by decide +kernel
theorem dM_turnsRound_17 : decode cM_turnsRound 17 = .ok ((.if_icmp .ne 13), 3) := by decide +kernel
theorem dM_turnsRound_20 : decode cM_turnsRound 20 = .ok ((.aload_n 0), 1) := by decide +kernel
theorem dM_turnsRound_21 : decode cM_turnsRound 21 = .ok ((.iload_n 3), 1) := by decide +kernel
theorem dM_turnsRound_22 : decode cM_turnsRound 22 = .ok ((.iload_n 1), 1) := by decide +kernel
theorem dM_turnsRound_23 : decode cM_turnsRound 23 = .ok ((.invokevirtual 124), 3) := by decide +kernel
theorem dM_turnsRound_26 : decode cM_turnsRound 26 = .ok ((.iconst 1), 1) := by decide +kernel
theorem dM_turnsRound_27 : decode cM_turnsRound 27 = .ok ((.if_icmp .eq 30), 3) := by decide +kernel
theorem dM_turnsRound_30 : decode cM_turnsRound 30 = .ok ((.aload_n 0), 1) := by decide +kernel
theorem dM_turnsRound_31 : decode cM_turnsRound 31 = .ok ((.iload_n 1), 1) := by decide +kernel
theorem dM_turnsRound_32 : decode cM_turnsRound 32 = .ok ((.iload_n 2), 1) := by decide +kernel
theorem dM_turnsRound_33 : decode cM_turnsRound 33 = .ok ((.invokevirtual 124), 3) := by decide +kernel
theorem dM_turnsRound_36 : decode cM_turnsRound 36 = .ok ((.ifCond .ne 25), 3) := by decide +kernel
theorem dM_turnsRound_39 : decode cM_turnsRound 39 = .ok ((.aload_n 0), 1) := by decide +kernel
theorem dM_turnsRound_40 : decode cM_turnsRound 40 = .ok ((.iload_n 2), 1) := by decide +kernel
theorem dM_turnsRound_41 : decode cM_turnsRound 41 = .ok ((.iload_n 3), 1) := by decide +kernel
theorem dM_turnsRound_42 : decode cM_turnsRound 42 = .ok ((.invokevirtual 124), 3) := by decide +kernel
theorem dM_turnsRound_45 : decode cM_turnsRound 45 = .ok ((.ifCond .ne 16), 3) := by decide +kernel
theorem dM_turnsRound_48 : decode cM_turnsRound 48 = .ok ((.aload_n 0), 1) := by decide +kernel
theorem dM_turnsRound_49 : decode cM_turnsRound 49 = .ok ((.iload_n 3), 1) := by decide +kernel
theorem dM_turnsRound_50 : decode cM_turnsRound 50 = .ok ((.iload_n 1), 1) := by decide +kernel
theorem dM_turnsRound_51 : decode cM_turnsRound 51 = .ok ((.invokevirtual 124), 3) := by decide +kernel
theorem dM_turnsRound_54 : decode cM_turnsRound 54 = .ok ((.ifCond .ne 7), 3) := by decide +kernel
theorem dM_turnsRound_57 : decode cM_turnsRound 57 = .ok ((.iconst 1), 1) := by decide +kernel
theorem dM_turnsRound_58 : decode cM_turnsRound 58 = .ok ((.goto 4), 3) := by decide +kernel
theorem dM_turnsRound_61 : decode cM_turnsRound 61 = .ok ((.iconst 0), 1) := by decide +kernel
theorem dM_turnsRound_62 : decode cM_turnsRound 62 = .ok (.ireturn, 1) := by decide +kernel
theorem dM_isMarked_0 : decode cM_isMarked 0 = .ok ((.aload_n 0), 1) := by decide +kernel
theorem dM_isMarked_1 : decode cM_isMarked 1 = .ok ((.iload_n 1), 1) := by decide +kernel
theorem dM_isMarked_2 : decode cM_isMarked 2 = .ok ((.iconst 1), 1) := by decide +kernel
theorem dM_isMarked_3 : decode cM_isMarked 3 = .ok (.iadd, 1) := by decide +kernel
theorem dM_isMarked_4 : decode cM_isMarked 4 = .ok ((.iload_n 1), 1) := by decide +kernel
theorem dM_isMarked_5 : decode cM_isMarked 5 = .ok ((.invokevirtual 124), 3) := by decide +kernel
theorem dM_isMarked_8 : decode cM_isMarked 8 = .ok ((.istore_n 2), 1) := by decide +kernel
theorem dM_isMarked_9 : decode cM_isMarked 9 = .ok ((.aload_n 0), 1) := by decide +kernel
theorem dM_isMarked_10 : decode cM_isMarked 10 = .ok ((.getfield 17), 3) := by decide +kernel
theorem dM_isMarked_13 : decode cM_isMarked 13 = .ok ((.iload_n 1), 1) := by decide +kernel
theorem dM_isMarked_14 : decode cM_isMarked 14 = .ok (.iaload, 1) := by decide +kernel
theorem dM_isMarked_15 : decode cM_isMarked 15 = .ok ((.iconst 2), 1) := by decide +kernel
theorem dM_isMarked_16 : decode cM_isMarked 16 = .ok ((.if_icmp .ne 7), 3) := by decide +kernel
theorem dM_isMarked_19 : decode cM_isMarked 19 = .ok ((.iconst 1), 1) := by decide +kernel
theorem dM_isMarked_20 : decode cM_isMarked 20 = .ok ((.goto 4), 3) := by decide +kernel
theorem dM_isMarked_23 : decode cM_isMarked 23 = .ok ((.iconst 0), 1) := by decide +kernel
theorem dM_isMarked_24 : decode cM_isMarked 24 = .ok ((.istore_n 3), 1) := by decide +kernel
theorem dM_isMarked_25 : decode cM_isMarked 25 = .ok ((.iload_n 2), 1) := by decide +kernel
theorem dM_isMarked_26 : decode cM_isMarked 26 = .ok ((.bipush (-2)), 2) := by decide +kernel
theorem dM_isMarked_28 : decode cM_isMarked 28 = .ok ((.if_icmp .eq 30), 3) := by decide +kernel
theorem dM_isMarked_31 : decode cM_isMarked 31 = .ok ((.aload_n 0), 1) := by decide +kernel
theorem dM_isMarked_32 : decode cM_isMarked 32 = .ok ((.getfield 17), 3) := by decide +kernel
theorem dM_isMarked_35 : decode cM_isMarked 35 = .ok ((.iload_n 1), 1) := by decide +kernel
theorem dM_isMarked_36 : decode cM_isMarked 36 = .ok (.iaload, 1) := by decide +kernel
theorem dM_isMarked_37 : decode cM_isMarked 37 = .ok ((.ifCond .eq 21), 3) := by decide +kernel
theorem dM_isMarked_40 : decode cM_isMarked 40 = .ok ((.iload_n 2), 1) := by decide +kernel
theorem dM_isMarked_41 : decode cM_isMarked 41 = .ok ((.iload_n 3), 1) := by decide +kernel
theorem dM_isMarked_42 : decode cM_isMarked 42 = .ok ((.aload_n 0), 1) := by decide +kernel
theorem dM_isMarked_43 : decode cM_isMarked 43 = .ok ((.iload_n 1), 1) := by decide +kernel
theorem dM_isMarked_44 : decode cM_isMarked 44 = .ok ((.invokevirtual 96), 3) := by decide +kernel
theorem dM_isMarked_47 : decode cM_isMarked 47 = .ok ((.if_icmp .ne 7), 3) := by decide +kernel
theorem dM_isMarked_50 : decode cM_isMarked 50 = .ok ((.iconst 1), 1) := by decide +kernel
theorem dM_isMarked_51 : decode cM_isMarked 51 = .ok ((.goto 4), 3) := by decide +kernel
theorem dM_isMarked_54 : decode cM_isMarked 54 = .ok ((.iconst 0), 1) := by decide +kernel
theorem dM_isMarked_55 : decode cM_isMarked 55 = .ok ((.if_icmp .ne 7), 3) := by decide +kernel
theorem dM_isMarked_58 : decode cM_isMarked 58 = .ok ((.iconst 1), 1) := by decide +kernel
theorem dM_isMarked_59 : decode cM_isMarked 59 = .ok ((.goto 4), 3) := by decide +kernel
theorem dM_isMarked_62 : decode cM_isMarked 62 = .ok ((.iconst 0), 1) := by decide +kernel
theorem dM_isMarked_63 : decode cM_isMarked 63 = .ok (.ireturn, 1) := by decide +kernel
theorem dM_isClear_0 : decode cM_isClear 0 = .ok ((.aload_n 0), 1) := by decide +kernel
theorem dM_isClear_1 : decode cM_isClear 1 = .ok ((.getfield 38), 3) := by decide +kernel
theorem dM_isClear_4 : decode cM_isClear 4 = .ok ((.iload_n 1), 1) := by decide +kernel
theorem dM_isClear_5 : decode cM_isClear 5 = .ok (.iaload, 1) := by decide +kernel
theorem dM_isClear_6 : decode cM_isClear 6 = .ok ((.istore_n 2), 1) := by decide +kernel
theorem dM_isClear_7 : decode cM_isClear 7 = .ok ((.iconst 1), 1) := by decide +kernel
theorem dM_isClear_8 : decode cM_isClear 8 = .ok ((.istore_n 3), 1) := by decide +kernel
theorem dM_isClear_9 : decode cM_isClear 9 = .ok ((.iconst 0), 1) := by decide +kernel
theorem dM_isClear_10 : decode cM_isClear 10 = .ok ((.istore 4), 2) := by decide +kernel
theorem dM_isClear_12 : decode cM_isClear 12 = .ok ((.iload 4), 2) := by decide +kernel
theorem dM_isClear_14 : decode cM_isClear 14 = .ok ((.aload_n 0), 1) := by decide +kernel
theorem dM_isClear_15 : decode cM_isClear 15 = .ok ((.getfield 63), 3) := by decide +kernel
theorem dM_isClear_18 : decode cM_isClear 18 = .ok ((.if_icmp .gt 81), 3) := by decide +kernel
theorem dM_isClear_21 : decode cM_isClear 21 = .ok ((.iload 4), 2) := by decide +kernel
theorem dM_isClear_23 : decode cM_isClear 23 = .ok ((.iload_n 1), 1) := by decide +kernel
theorem dM_isClear_24 : decode cM_isClear 24 = .ok ((.if_icmp .eq 37), 3) := by decide +kernel
theorem dM_isClear_27 : decode cM_isClear 27 = .ok ((.iload 4), 2) := by decide +kernel
theorem dM_isClear_29 : decode cM_isClear 29 = .ok ((.iload_n 1), 1) := by decide +kernel
theorem dM_isClear_30 : decode cM_isClear 30 = .ok ((.iconst 1), 1) := by decide +kernel
theorem dM_isClear_31 : decode cM_isClear 31 = .ok (.iadd, 1) := by decide +kernel
theorem dM_isClear_32 : decode cM_isClear 32 = .ok ((.if_icmp .eq 29), 3) := by decide +kernel
theorem dM_isClear_35 : decode cM_isClear 35 = .ok ((.aload_n 0), 1) := by decide +kernel
theorem dM_isClear_36 : decode cM_isClear 36 = .ok ((.getfield 32), 3) := by decide +kernel
theorem dM_isClear_39 : decode cM_isClear 39 = .ok ((.iload 4), 2) := by decide +kernel
theorem dM_isClear_41 : decode cM_isClear 41 = .ok (.iaload, 1) := by decide +kernel
theorem dM_isClear_42 : decode cM_isClear 42 = .ok ((.iload_n 2), 1) := by decide +kernel
theorem dM_isClear_43 : decode cM_isClear 43 = .ok ((.if_icmp .ge 18), 3) := by decide +kernel
theorem dM_isClear_46 : decode cM_isClear 46 = .ok ((.iload_n 2), 1) := by decide +kernel
theorem dM_isClear_47 : decode cM_isClear 47 = .ok ((.aload_n 0), 1) := by decide +kernel
theorem dM_isClear_48 : decode cM_isClear 48 = .ok ((.getfield 35), 3) := by decide +kernel
theorem dM_isClear_51 : decode cM_isClear 51 = .ok ((.iload 4), 2) := by decide +kernel
theorem dM_isClear_53 : decode cM_isClear 53 = .ok (.iaload, 1) := by decide +kernel
theorem dM_isClear_54 : decode cM_isClear 54 = .ok ((.if_icmp .ge 7), 3) := by decide +kernel
theorem dM_isClear_57 : decode cM_isClear 57 = .ok ((.iconst 1), 1) := by decide +kernel
theorem dM_isClear_58 : decode cM_isClear 58 = .ok ((.goto 4), 3) := by decide +kernel
theorem dM_isClear_61 : decode cM_isClear 61 = .ok ((.iconst 0), 1) := by decide +kernel
theorem dM_isClear_62 : decode cM_isClear 62 = .ok ((.istore 5), 2) := by decide +kernel
theorem dM_isClear_64 : decode cM_isClear 64 = .ok ((.iload_n 3), 1) := by decide +kernel
theorem dM_isClear_65 : decode cM_isClear 65 = .ok ((.ifCond .eq 26), 3) := by decide +kernel
theorem dM_isClear_68 : decode cM_isClear 68 = .ok ((.iload 5), 2) := by decide +kernel
theorem dM_isClear_70 : decode cM_isClear 70 = .ok ((.ifCond .eq 17), 3) := by decide +kernel
theorem dM_isClear_73 : decode cM_isClear 73 = .ok ((.aload_n 0), 1) := by decide +kernel
theorem dM_isClear_74 : decode cM_isClear 74 = .ok ((.iload 4), 2) := by decide +kernel
theorem dM_isClear_76 : decode cM_isClear 76 = .ok ((.iload_n 1), 1) := by decide +kernel
theorem dM_isClear_77 : decode cM_isClear 77 = .ok ((.iload_n 1), 1) := by decide +kernel
theorem dM_isClear_78 : decode cM_isClear 78 = .ok ((.iconst 1), 1) := by decide +kernel
theorem dM_isClear_79 : decode cM_isClear 79 = .ok (.iadd, 1) := by decide +kernel
theorem dM_isClear_80 : decode cM_isClear 80 = .ok ((.invokevirtual 128), 3) := by decide +kernel
theorem dM_isClear_83 : decode cM_isClear 83 = .ok ((.iconst 1), 1) := by decide +kernel
theorem dM_isClear_84 : decode cM_isClear 84 = .ok ((.if_icmp .eq 7), 3) := by decide +kernel
theorem dM_isClear_87 : decode cM_isClear 87 = .ok ((.iconst 1), 1) := by decide +kernel
theorem dM_isClear_88 : decode cM_isClear 88 = .ok ((.goto 4), 3) := by decide +kernel
theorem dM_isClear_91 : decode cM_isClear 91 = .ok ((.iconst 0), 1) := by decide +kernel
theorem dM_isClear_92 : decode cM_isClear 92 = .ok ((.istore_n 3), 1) := by decide +kernel
theorem dM_isClear_93 : decode cM_isClear 93 = .ok ((.iinc 4 1), 3) := by decide +kernel
theorem dM_isClear_96 : decode cM_isClear 96 = .ok ((.goto (-84)), 3) := by decide +kernel
theorem dM_isClear_99 : decode cM_isClear 99 = .ok ((.iload_n 3), 1) := by decide +kernel
theorem dM_isClear_100 : decode cM_isClear 100 = .ok (.ireturn, 1) := by decide +kernel
theorem dM_between_0 : decode cM_between 0 = .ok ((.aload_n 0), 1) := by decide +kernel
theorem dM_between_1 : decode cM_between 1 = .ok ((.iload_n 1), 1) := by decide +kernel
theorem dM_between_2 : decode cM_between 2 = .ok ((.iload_n 2), 1) := by decide +kernel
theorem dM_between_3 : decode cM_between 3 = .ok ((.invokevirtual 124), 3) := by decide +kernel
theorem dM_between_6 : decode cM_between 6 = .ok ((.istore 4), 2) := by decide +kernel
theorem dM_between_8 : decode cM_between 8 = .ok ((.aload_n 0), 1) := by decide +kernel
theorem dM_between_9 : decode cM_between 9 = .ok ((.iload_n 1), 1) := by decide +kernel
theorem dM_between_10 : decode cM_between 10 = .ok ((.iload_n 3), 1) := by decide +kernel
theorem dM_between_11 : decode cM_between 11 = .ok ((.invokevirtual 124), 3) := by decide +kernel
theorem dM_between_14 : decode cM_between 14 = .ok ((.istore 5), 2) := by decide +kernel
theorem dM_between_16 : decode cM_between 16 = .ok ((.iload 4), 2) := by decide +kernel
theorem dM_between_18 : decode cM_between 18 = .ok ((.bipush (-2)), 2) := by decide +kernel
theorem dM_between_20 : decode cM_between 20 = .ok ((.if_icmp .eq 10), 3) := by decide +kernel
theorem dM_between_23 : decode cM_between 23 = .ok ((.iload 5), 2) := by decide +kernel
theorem dM_between_25 : decode cM_between 25 = .ok ((.bipush (-2)), 2) := by decide +kernel
theorem dM_between_27 : decode cM_between 27 = .ok ((.if_icmp .ne 8), 3) := by decide +kernel
theorem dM_between_30 : decode cM_between 30 = .ok ((.bipush (-2)), 2) := by decide +kernel
theorem dM_between_32 : decode cM_between 32 = .ok ((.goto 15), 3) := by decide +kernel
theorem dM_between_35 : decode cM_between 35 = .ok ((.iload 4), 2) := by decide +kernel
theorem dM_between_37 : decode cM_between 37 = .ok ((.iload 5), 2) := by decide +kernel
theorem dM_between_39 : decode cM_between 39 = .ok ((.if_icmp .eq 7), 3) := by decide +kernel
theorem dM_between_42 : decode cM_between 42 = .ok ((.iconst 1), 1) := by decide +kernel
theorem dM_between_43 : decode cM_between 43 = .ok ((.goto 4), 3) := by decide +kernel
theorem dM_between_46 : decode cM_between 46 = .ok ((.iconst 0), 1) := by decide +kernel
theorem dM_between_47 : decode cM_between 47 = .ok (.ireturn, 1) := by decide +kernel
theorem dM_arePeaceful_0 : decode cM_arePeaceful 0 = .ok ((.aload_n 0), 1) := by decide +kernel
theorem dM_arePeaceful_1 : decode cM_arePeaceful 1 = .ok ((.getfield 38), 3) := by decide +kernel
theorem dM_arePeaceful_4 : decode cM_arePeaceful 4 = .ok ((.iload_n 1), 1) := by decide +kernel
theorem dM_arePeaceful_5 : decode cM_arePeaceful 5 = .ok (.iaload, 1) := by decide +kernel
theorem dM_arePeaceful_6 : decode cM_arePeaceful 6 = .ok ((.aload_n 0), 1) := by decide +kernel
theorem dM_arePeaceful_7 : decode cM_arePeaceful 7 = .ok ((.getfield 38), 3) := by decide +kernel
theorem dM_arePeaceful_10 : decode cM_arePeaceful 10 = .ok ((.iload_n 2), 1) := by decide +kernel
theorem dM_arePeaceful_11 : decode cM_arePeaceful 11 = .ok (.iaload, 1) := by decide +kernel
theorem dM_arePeaceful_12 : decode cM_arePeaceful 12 = .ok ((.if_icmp .ne 7), 3) := by decide +kernel
theorem dM_arePeaceful_15 : decode cM_arePeaceful 15 = .ok ((.iconst 1), 1) := by decide +kernel
theorem dM_arePeaceful_16 : decode cM_arePeaceful 16 = .ok ((.goto 4), 3) := by decide +kernel
theorem dM_arePeaceful_19 : decode cM_arePeaceful 19 = .ok ((.iconst 0), 1) := by decide +kernel
theorem dM_arePeaceful_20 : decode cM_arePeaceful 20 = .ok ((.istore_n 3), 1) := by decide +kernel
theorem dM_arePeaceful_21 : decode cM_arePeaceful 21 = .ok ((.iload_n 3), 1) := by decide +kernel
theorem dM_arePeaceful_22 : decode cM_arePeaceful 22 = .ok ((.ifCond .eq 51), 3) := by decide +kernel
theorem dM_arePeaceful_25 : decode cM_arePeaceful 25 = .ok ((.aload_n 0), 1) := by decide +kernel
theorem dM_arePeaceful_26 : decode cM_arePeaceful 26 = .ok ((.iload_n 1), 1) := by decide +kernel
theorem dM_arePeaceful_27 : decode cM_arePeaceful 27 = .ok ((.iload_n 2), 1) := by decide +kernel
theorem dM_arePeaceful_28 : decode cM_arePeaceful 28 = .ok ((.invokevirtual 132), 3) := by decide +kernel
theorem dM_arePeaceful_31 : decode cM_arePeaceful 31 = .ok ((.ifCond .eq 42), 3) := by decide +kernel
theorem dM_arePeaceful_34 : decode cM_arePeaceful 34 = .ok ((.aload_n 0), 1) := by decide +kernel
theorem dM_arePeaceful_35 : decode cM_arePeaceful 35 = .ok ((.iload_n 1), 1) := by decide +kernel
theorem dM_arePeaceful_36 : decode cM_arePeaceful 36 = .ok ((.iload_n 2), 1) := by decide +kernel
theorem dM_arePeaceful_37 : decode cM_arePeaceful 37 = .ok ((.iconst 1), 1) := by decide +kernel
theorem dM_arePeaceful_38 : decode cM_arePeaceful 38 = .ok (.iadd, 1) := by decide +kernel
theorem dM_arePeaceful_39 : decode cM_arePeaceful 39 = .ok ((.invokevirtual 132), 3) := by decide +kernel
theorem dM_arePeaceful_42 : decode cM_arePeaceful 42 = .ok ((.ifCond .eq 31), 3) := by decide +kernel
theorem dM_arePeaceful_45 : decode cM_arePeaceful 45 = .ok ((.aload_n 0), 1) := by decide +kernel
theorem dM_arePeaceful_46 : decode cM_arePeaceful 46 = .ok ((.iload_n 1), 1) := by decide +kernel
theorem dM_arePeaceful_47 : decode cM_arePeaceful 47 = .ok ((.iconst 1), 1) := by decide +kernel
theorem dM_arePeaceful_48 : decode cM_arePeaceful 48 = .ok (.iadd, 1) := by decide +kernel
theorem dM_arePeaceful_49 : decode cM_arePeaceful 49 = .ok ((.iload_n 2), 1) := by decide +kernel
theorem dM_arePeaceful_50 : decode cM_arePeaceful 50 = .ok ((.invokevirtual 132), 3) := by decide +kernel
theorem dM_arePeaceful_53 : decode cM_arePeaceful 53 = .ok ((.ifCond .eq 20), 3) := by decide +kernel
theorem dM_arePeaceful_56 : decode cM_arePeaceful 56 = .ok ((.aload_n 0), 1) := by decide +kernel
theorem dM_arePeaceful_57 : decode cM_arePeaceful 57 = .ok ((.iload_n 1), 1) := by decide +kernel
theorem dM_arePeaceful_58 : decode cM_arePeaceful 58 = .ok ((.iconst 1), 1) := by decide +kernel
theorem dM_arePeaceful_59 : decode cM_arePeaceful 59 = .ok (.iadd, 1) := by decide +kernel
theorem dM_arePeaceful_60 : decode cM_arePeaceful 60 = .ok ((.iload_n 2), 1) := by decide +kernel
theorem dM_arePeaceful_61 : decode cM_arePeaceful 61 = .ok ((.iconst 1), 1) := by decide +kernel
theorem dM_arePeaceful_62 : decode cM_arePeaceful 62 = .ok (.iadd, 1) := by decide +kernel
theorem dM_arePeaceful_63 : decode cM_arePeaceful 63 = .ok ((.invokevirtual 132), 3) := by decide +kernel
theorem dM_arePeaceful_66 : decode cM_arePeaceful 66 = .ok ((.ifCond .eq 7), 3) := by decide +kernel
theorem dM_arePeaceful_69 : decode cM_arePeaceful 69 = .ok ((.iconst 1), 1) := by decide +kernel
theorem dM_arePeaceful_70 : decode cM_arePeaceful 70 = .ok ((.goto 4), 3) := by decide +kernel
theorem dM_arePeaceful_73 : decode cM_arePeaceful 73 = .ok ((.iconst 0), 1) := by decide +kernel
theorem dM_arePeaceful_74 : decode cM_arePeaceful 74 = .ok ((.istore_n 3), 1) := by decide +kernel
theorem dM_arePeaceful_75 : decode cM_arePeaceful 75 = .ok ((.aload_n 0), 1) := by decide +kernel
theorem dM_arePeaceful_76 : decode cM_arePeaceful 76 = .ok ((.iload_n 2), 1) := by decide +kernel
theorem dM_arePeaceful_77 : decode cM_arePeaceful 77 = .ok ((.iload_n 1), 1) := by decide +kernel
theorem dM_arePeaceful_78 : decode cM_arePeaceful 78 = .ok ((.iload_n 1), 1) := by decide +kernel
theorem dM_arePeaceful_79 : decode cM_arePeaceful 79 = .ok ((.iconst 1), 1) := by decide +kernel
theorem dM_arePeaceful_80 : decode cM_arePeaceful 80 = .ok (.iadd, 1) := by decide +kernel
theorem dM_arePeaceful_81 : decode cM_arePeaceful 81 = .ok ((.invokevirtual 128), 3) := by decide +kernel
theorem dM_arePeaceful_84 : decode cM_arePeaceful 84 = .ok ((.istore 4), 2) := by decide +kernel
theorem dM_arePeaceful_86 : decode cM_arePeaceful 86 = .ok ((.aload_n 0), 1) := by decide +kernel
theorem dM_arePeaceful_87 : decode cM_arePeaceful 87 = .ok ((.iload_n 2), 1) := by decide +kernel
theorem dM_arePeaceful_88 : decode cM_arePeaceful 88 = .ok ((.iconst 1), 1) := by decide +kernel
theorem dM_arePeaceful_89 : decode cM_arePeaceful 89 = .ok (.iadd, 1) := by decide +kernel
theorem dM_arePeaceful_90 : decode cM_arePeaceful 90 = .ok ((.iload_n 1), 1) := by decide +kernel
theorem dM_arePeaceful_91 : decode cM_arePeaceful 91 = .ok ((.iload_n 1), 1) := by decide +kernel
theorem dM_arePeaceful_92 : decode cM_arePeaceful 92 = .ok ((.iconst 1), 1) := by decide +kernel
theorem dM_arePeaceful_93 : decode cM_arePeaceful 93 = .ok (.iadd, 1) := by decide +kernel
theorem dM_arePeaceful_94 : decode cM_arePeaceful 94 = .ok ((.invokevirtual 128), 3) := by decide +kernel
theorem dM_arePeaceful_97 : decode cM_arePeaceful 97 = .ok ((.istore 5), 2) := by decide +kernel
theorem dM_arePeaceful_99 : decode cM_arePeaceful 99 = .ok ((.iload_n 3), 1) := by decide +kernel
theorem dM_arePeaceful_100 : decode cM_arePeaceful 100 = .ok ((.ifCond .eq 24), 3) := by decide +kernel
theorem dM_arePeaceful_103 : decode cM_arePeaceful 103 = .ok ((.iload 4), 2) := by decide +kernel
theorem dM_arePeaceful_105 : decode cM_arePeaceful 105 = .ok ((.bipush (-2)), 2) := by decide +kernel
theorem dM_arePeaceful_107 : decode cM_arePeaceful 107 = .ok ((.if_icmp .eq 17), 3) := by decide +kernel
theorem dM_arePeaceful_110 : decode cM_arePeaceful 110 = .ok ((.iload 5), 2) := by decide +kernel
theorem dM_arePeaceful_112 : decode cM_arePeaceful 112 = .ok ((.bipush (-2)), 2) := by decide +kernel
theorem dM_arePeaceful_114 : decode cM_arePeaceful 114 = .ok ((.if_icmp .eq 10), 3) := by decide +kernel
theorem dM_arePeaceful_117 : decode cM_arePeaceful 117 = .ok ((.iload 4), 2) := by decide +kernel
theorem dM_arePeaceful_119 : decode cM_arePeaceful 119 = .ok ((.iload 5), 2) := by decide +kernel
theorem dM_arePeaceful_121 : decode cM_arePeaceful 121 = .ok ((.if_icmp .ne 7), 3) := by decide +kernel
theorem dM_arePeaceful_124 : decode cM_arePeaceful 124 = .ok ((.iconst 1), 1) := by decide +kernel
theorem dM_arePeaceful_125 : decode cM_arePeaceful 125 = .ok ((.goto 4), 3) := by decide +kernel
theorem dM_arePeaceful_128 : decode cM_arePeaceful 128 = .ok ((.iconst 0), 1) := by decide +kernel
theorem dM_arePeaceful_129 : decode cM_arePeaceful 129 = .ok (.ireturn, 1) := by decide +kernel
theorem dM_above_0 : decode cM_above 0 = .ok ((.iload_n 2), 1) := by decide +kernel
theorem dM_above_1 : decode cM_above 1 = .ok ((.ifCond .lt 27), 3) := by decide +kernel
theorem dM_above_4 : decode cM_above 4 = .ok ((.iload_n 2), 1) := by decide +kernel
theorem dM_above_5 : decode cM_above 5 = .ok ((.aload_n 0), 1) := by decide +kernel
theorem dM_above_6 : decode cM_above 6 = .ok ((.getfield 63), 3) := by decide +kernel
theorem dM_above_9 : decode cM_above 9 = .ok ((.if_icmp .gt 19), 3) := by decide +kernel
theorem dM_above_12 : decode cM_above 12 = .ok ((.iload_n 3), 1) := by decide +kernel
theorem dM_above_13 : decode cM_above 13 = .ok ((.ifCond .lt 15), 3) := by decide +kernel
theorem dM_above_16 : decode cM_above 16 = .ok ((.iload_n 3), 1) := by decide +kernel
theorem dM_above_17 : decode cM_above 17 = .ok ((.aload_n 0), 1) := by decide +kernel
theorem dM_above_18 : decode cM_above 18 = .ok ((.getfield 63), 3) := by decide +kernel
theorem dM_above_21 : decode cM_above 21 = .ok ((.if_icmp .gt 7), 3) := by decide +kernel
theorem dM_above_24 : decode cM_above 24 = .ok ((.iconst 1), 1) := by decide +kernel
theorem dM_above_25 : decode cM_above 25 = .ok ((.goto 4), 3) := by decide +kernel
theorem dM_above_28 : decode cM_above 28 = .ok ((.iconst 0), 1) := by decide +kernel
theorem dM_above_29 : decode cM_above 29 = .ok ((.istore 4), 2) := by decide +kernel
theorem dM_above_31 : decode cM_above 31 = .ok ((.aload_n 0), 1) := by decide +kernel
theorem dM_above_32 : decode cM_above 32 = .ok ((.iload 4), 2) := by decide +kernel
theorem dM_above_34 : decode cM_above 34 = .ok ((.ifCond .eq 11), 3) := by decide +kernel
theorem dM_above_37 : decode cM_above 37 = .ok ((.aload_n 0), 1) := by decide +kernel
theorem dM_above_38 : decode cM_above 38 = .ok ((.iload_n 1), 1) := by decide +kernel
theorem dM_above_39 : decode cM_above 39 = .ok ((.invokevirtual 163), 3) := by decide +kernel
theorem dM_above_42 : decode cM_above 42 = .ok ((.ifCond .ne 7), 3) := by decide +kernel
theorem dM_above_45 : decode cM_above 45 = .ok ((.iconst 1), 1) := by decide +kernel
theorem dM_above_46 : decode cM_above 46 = .ok ((.goto 4), 3) := by decide +kernel
theorem dM_above_49 : decode cM_above 49 = .ok ((.iconst 0), 1) := by decide +kernel
theorem dM_above_50 : decode cM_above 50 = .ok ((.iconst 0), 1) := by decide +kernel
theorem dM_above_51 : decode cM_above 51 = .ok ((.invokevirtual 59), 3) := by decide +kernel
theorem dM_above_54 : decode cM_above 54 = .ok ((.ifCond .eq 5), 3) := by decide +kernel
theorem dM_above_57 : decode cM_above 57 = .ok ((.iconst 0), 1) := by decide +kernel
theorem dM_above_58 : decode cM_above 58 = .ok (.ireturn, 1) := by decide +kernel
theorem dM_above_59 : decode cM_above 59 = .ok ((.aload_n 0), 1) := by decide +kernel
theorem dM_above_60 : decode cM_above 60 = .ok ((.iload_n 2), 1) := by decide +kernel
theorem dM_above_61 : decode cM_above 61 = .ok ((.iload_n 3), 1) := by decide +kernel
theorem dM_above_62 : decode cM_above 62 = .ok ((.invokevirtual 124), 3) := by decide +kernel
theorem dM_above_65 : decode cM_above 65 = .ok (.ireturn, 1) := by decide +kernel
theorem dM_layer_0 : decode cM_layer 0 = .ok ((.aload_n 0), 1) := by decide +kernel
theorem dM_layer_1 : decode cM_layer 1 = .ok ((.aload_n 0), 1) := by decide +kernel
theorem dM_layer_2 : decode cM_layer 2 = .ok ((.iload_n 1), 1) := by decide +kernel
theorem dM_layer_3 : decode cM_layer 3 = .ok ((.invokevirtual 163), 3) := by decide +kernel
theorem dM_layer_6 : decode cM_layer 6 = .ok ((.ifCond .ne 7), 3) := by decide +kernel
theorem dM_layer_9 : decode cM_layer 9 = .ok ((.iconst 1), 1) := by decide +kernel
theorem dM_layer_10 : decode cM_layer 10 = .ok ((.goto 4), 3) := by decide +kernel
theorem dM_layer_13 : decode cM_layer 13 = .ok ((.iconst 0), 1) := by decide +kernel
theorem dM_layer_14 : decode cM_layer 14 = .ok ((.iconst 0), 1) := by decide +kernel
theorem dM_layer_15 : decode cM_layer 15 = .ok ((.invokevirtual 59), 3) := by decide +kernel
theorem dM_layer_18 : decode cM_layer 18 = .ok ((.ifCond .eq 5), 3) := by decide +kernel
theorem dM_layer_21 : decode cM_layer 21 = .ok ((.iconst 0), 1) := by decide +kernel
theorem dM_layer_22 : decode cM_layer 22 = .ok (.ireturn, 1) := by decide +kernel
theorem dM_layer_23 : decode cM_layer 23 = .ok ((.iconst 0), 1) := by decide +kernel
theorem dM_layer_24 : decode cM_layer 24 = .ok ((.istore 4), 2) := by decide +kernel
theorem dM_layer_26 : decode cM_layer 26 = .ok ((.iload 4), 2) := by decide +kernel
theorem dM_layer_28 : decode cM_layer 28 = .ok ((.aload_n 0), 1) := by decide +kernel
theorem dM_layer_29 : decode cM_layer 29 = .ok ((.getfield 63), 3) := by decide +kernel
theorem dM_layer_32 : decode cM_layer 32 = .ok ((.if_icmp .gt 91), 3) := by decide +kernel
theorem dM_layer_35 : decode cM_layer 35 = .ok ((.iconst 0), 1) := by decide +kernel
theorem dM_layer_36 : decode cM_layer 36 = .ok ((.istore 5), 2) := by decide +kernel
theorem dM_layer_38 : decode cM_layer 38 = .ok ((.iconst 0), 1) := by decide +kernel
theorem dM_layer_39 : decode cM_layer 39 = .ok ((.istore 6), 2) := by decide +kernel
theorem dM_layer_41 : decode cM_layer 41 = .ok ((.iload 6), 2) := by decide +kernel
theorem dM_layer_43 : decode cM_layer 43 = .ok ((.aload_n 0), 1) := by decide +kernel
theorem dM_layer_44 : decode cM_layer 44 = .ok ((.getfield 63), 3) := by decide +kernel
theorem dM_layer_47 : decode cM_layer 47 = .ok ((.if_icmp .gt 51), 3) := by decide +kernel
theorem dM_layer_50 : decode cM_layer 50 = .ok ((.iload 5), 2) := by decide +kernel
theorem dM_layer_52 : decode cM_layer 52 = .ok ((.aload_n 0), 1) := by decide +kernel
theorem dM_layer_53 : decode cM_layer 53 = .ok ((.iload 4), 2) := by decide +kernel
theorem dM_layer_55 : decode cM_layer 55 = .ok ((.iload_n 2), 1) := by decide +kernel
theorem dM_layer_56 : decode cM_layer 56 = .ok ((.invokevirtual 100), 3) := by decide +kernel
theorem dM_layer_59 : decode cM_layer 59 = .ok ((.ifCond .eq 29), 3) := by decide +kernel
theorem dM_layer_62 : decode cM_layer 62 = .ok ((.aload_n 0), 1) := by decide +kernel
theorem dM_layer_63 : decode cM_layer 63 = .ok ((.iload 6), 2) := by decide +kernel
theorem dM_layer_65 : decode cM_layer 65 = .ok ((.iload_n 2), 1) := by decide +kernel
theorem dM_layer_66 : decode cM_layer 66 = .ok ((.invokevirtual 100), 3) := by decide +kernel
theorem dM_layer_69 : decode cM_layer 69 = .ok ((.ifCond .eq 19), 3) := by decide +kernel
theorem dM_layer_72 : decode cM_layer 72 = .ok ((.aload_n 0), 1) := by decide +kernel
theorem dM_layer_73 : decode cM_layer 73 = .ok ((.iload 4), 2) := by decide +kernel
theorem dM_layer_75 : decode cM_layer 75 = .ok ((.iload 6), 2) := by decide +kernel
theorem dM_layer_77 : decode cM_layer 77 = .ok ((.invokevirtual 124), 3) := by decide +kernel
theorem dM_layer_80 : decode cM_layer 80 = .ok ((.iconst 1), 1) := by decide +kernel
theorem dM_layer_81 : decode cM_layer 81 = .ok ((.if_icmp .ne 7), 3) := by decide +kernel
theorem dM_layer_84 : decode cM_layer 84 = .ok ((.iconst 1), 1) := by decide +kernel
theorem dM_layer_85 : decode cM_layer 85 = .ok ((.goto 4), 3) := by decide +kernel
theorem dM_layer_88 : decode cM_layer 88 = .ok ((.iconst 0), 1) := by decide +kernel
theorem dM_layer_89 : decode cM_layer 89 = .ok (.iadd, 1) := by decide +kernel
theorem dM_layer_90 : decode cM_layer 90 = .ok ((.istore 5), 2) := by decide +kernel
theorem dM_layer_92 : decode cM_layer 92 = .ok ((.iinc 6 1), 3) := by decide +kernel
theorem dM_layer_95 : decode cM_layer 95 = .ok ((.goto (-54)), 3) := by decide +kernel
theorem dM_layer_98 : decode cM_layer 98 = .ok ((.aload_n 0), 1) := by decide +kernel
theorem dM_layer_99 : decode cM_layer 99 = .ok ((.iload 4), 2) := by decide +kernel
theorem dM_layer_101 : decode cM_layer 101 = .ok ((.iload_n 2), 1) := by decide +kernel
theorem dM_layer_102 : decode cM_layer 102 = .ok ((.invokevirtual 100), 3) := by decide +kernel
theorem dM_layer_105 : decode cM_layer 105 = .ok ((.ifCond .eq 12), 3) := by decide +kernel
theorem dM_layer_108 : decode cM_layer 108 = .ok ((.iload 5), 2) := by decide +kernel
theorem dM_layer_110 : decode cM_layer 110 = .ok ((.iload_n 3), 1) := by decide +kernel
theorem dM_layer_111 : decode cM_layer 111 = .ok ((.if_icmp .ne 6), 3) := by decide +kernel
theorem dM_layer_114 : decode cM_layer 114 = .ok ((.iload 4), 2) := by decide +kernel
theorem dM_layer_116 : decode cM_layer 116 = .ok (.ireturn, 1) := by decide +kernel
theorem dM_layer_117 : decode cM_layer 117 = .ok ((.iinc 4 1), 3) := by decide +kernel
theorem dM_layer_120 : decode cM_layer 120 = .ok ((.goto (-94)), 3) := by decide +kernel
theorem dM_layer_123 : decode cM_layer 123 = .ok ((.iconst (-1)), 1) := by decide +kernel
theorem dM_layer_124 : decode cM_layer 124 = .ok (.ireturn, 1) := by decide +kernel
theorem dM_marks_0 : decode cM_marks 0 = .ok ((.aload_n 0), 1) := by decide +kernel
theorem dM_marks_1 : decode cM_marks 1 = .ok ((.iconst 0), 1) := by decide +kernel
theorem dM_marks_2 : decode cM_marks 2 = .ok ((.putfield 56), 3) := by decide +kernel
theorem dM_marks_5 : decode cM_marks 5 = .ok ((.iconst 1), 1) := by decide +kernel
theorem dM_marks_6 : decode cM_marks 6 = .ok ((.aload_n 0), 1) := by decide +kernel
theorem dM_marks_7 : decode cM_marks 7 = .ok ((.invokevirtual 74), 3) := by decide +kernel
theorem dM_marks_10 : decode cM_marks 10 = .ok (.ishl, 1) := by decide +kernel
theorem dM_marks_11 : decode cM_marks 11 = .ok ((.istore_n 1), 1) := by decide +kernel
theorem dM_marks_12 : decode cM_marks 12 = .ok ((.iconst 0), 1) := by decide +kernel
theorem dM_marks_13 : decode cM_marks 13 = .ok ((.istore_n 2), 1) := by decide +kernel
theorem dM_marks_14 : decode cM_marks 14 = .ok ((.iconst 0), 1) := by decide +kernel
theorem dM_marks_15 : decode cM_marks 15 = .ok ((.istore_n 3), 1) := by decide +kernel
theorem dM_marks_16 : decode cM_marks 16 = .ok ((.iload_n 3), 1) := by decide +kernel
theorem dM_marks_17 : decode cM_marks 17 = .ok ((.iload_n 1), 1) := by decide +kernel
theorem dM_marks_18 : decode cM_marks 18 = .ok ((.if_icmp .ge 134), 3) := by decide +kernel
theorem dM_marks_21 : decode cM_marks 21 = .ok ((.iload_n 3), 1) := by decide +kernel
theorem dM_marks_22 : decode cM_marks 22 = .ok ((.istore 4), 2) := by decide +kernel
theorem dM_marks_24 : decode cM_marks 24 = .ok ((.iconst 0), 1) := by decide +kernel
theorem dM_marks_25 : decode cM_marks 25 = .ok ((.istore 5), 2) := by decide +kernel
theorem dM_marks_27 : decode cM_marks 27 = .ok ((.iconst 0), 1) := by decide +kernel
theorem dM_marks_28 : decode cM_marks 28 = .ok ((.istore 6), 2) := by decide +kernel
theorem dM_marks_30 : decode cM_marks 30 = .ok ((.iload 6), 2) := by decide +kernel
theorem dM_marks_32 : decode cM_marks 32 = .ok ((.aload_n 0), 1) := by decide +kernel
theorem dM_marks_33 : decode cM_marks 33 = .ok ((.getfield 63), 3) := by decide +kernel
theorem dM_marks_36 : decode cM_marks 36 = .ok ((.if_icmp .ge 47), 3) := by decide +kernel
theorem dM_marks_39 : decode cM_marks 39 = .ok ((.aload_n 0), 1) := by decide +kernel
theorem dM_marks_40 : decode cM_marks 40 = .ok ((.getfield 17), 3) := by decide +kernel
theorem dM_marks_43 : decode cM_marks 43 = .ok ((.iload 6), 2) := by decide +kernel
theorem dM_marks_45 : decode cM_marks 45 = .ok (.iaload, 1) := by decide +kernel
theorem dM_marks_46 : decode cM_marks 46 = .ok ((.ifCond .ne 31), 3) := by decide +kernel
theorem dM_marks_49 : decode cM_marks 49 = .ok ((.iload 5), 2) := by decide +kernel
theorem dM_marks_51 : decode cM_marks 51 = .ok ((.iconst 1), 1) := by decide +kernel
theorem dM_marks_52 : decode cM_marks 52 = .ok ((.iload 6), 2) := by decide +kernel
theorem dM_marks_54 : decode cM_marks 54 = .ok (.ishl, 1) := by decide +kernel
theorem dM_marks_55 : decode cM_marks 55 = .ok (.ior, 1) := by decide +kernel
theorem dM_marks_56 : decode cM_marks 56 = .ok ((.istore 5), 2) := by decide +kernel
theorem dM_marks_58 : decode cM_marks 58 = .ok ((.aload_n 0), 1) := by decide +kernel
theorem dM_marks_59 : decode cM_marks 59 = .ok ((.getfield 17), 3) := by decide +kernel
theorem dM_marks_62 : decode cM_marks 62 = .ok ((.iload 6), 2) := by decide +kernel
theorem dM_marks_64 : decode cM_marks 64 = .ok ((.iconst 1), 1) := by decide +kernel
theorem dM_marks_65 : decode cM_marks 65 = .ok ((.iload 4), 2) := by decide +kernel
theorem dM_marks_67 : decode cM_marks 67 = .ok ((.iconst 2), 1) := by decide +kernel
theorem dM_marks_68 : decode cM_marks 68 = .ok (.irem, 1) := by decide +kernel
theorem dM_marks_69 : decode cM_marks 69 = .ok (.iadd, 1) := by decide +kernel
theorem dM_marks_70 : decode cM_marks 70 = .ok (.iastore, 1) := by decide +kernel
theorem dM_marks_71 : decode cM_marks 71 = .ok ((.iload 4), 2) := by decide +kernel
theorem dM_marks_73 : decode cM_marks 73 = .ok ((.iconst 2), 1) := by decide +kernel
theorem dM_marks_74 : decode cM_marks 74 = .ok (.idiv, 1) := by decide +kernel
theorem dM_marks_75 : decode cM_marks 75 = .ok ((.istore 4), 2) := by decide +kernel
theorem dM_marks_77 : decode cM_marks 77 = .ok ((.iinc 6 1), 3) := by decide +kernel
theorem dM_marks_80 : decode cM_marks 80 = .ok ((.goto (-50)), 3) := by decide +kernel
theorem dM_marks_83 : decode cM_marks 83 = .ok ((.iload_n 2), 1) := by decide +kernel
theorem dM_marks_84 : decode cM_marks 84 = .ok ((.aload_n 0), 1) := by decide +kernel
theorem dM_marks_85 : decode cM_marks 85 = .ok ((.iconst 0), 1) := by decide +kernel
theorem dM_marks_86 : decode cM_marks 86 = .ok ((.invokevirtual 163), 3) := by decide +kernel
theorem dM_marks_89 : decode cM_marks 89 = .ok ((.ifCond .eq 7), 3) := by decide +kernel
theorem dM_marks_92 : decode cM_marks 92 = .ok ((.iconst 1), 1) := by decide +kernel
theorem dM_marks_93 : decode cM_marks 93 = .ok ((.goto 4), 3) := by decide +kernel
theorem dM_marks_96 : decode cM_marks 96 = .ok ((.iconst 0), 1) := by decide +kernel
theorem dM_marks_97 : decode cM_marks 97 = .ok (.iadd, 1) := by decide +kernel
theorem dM_marks_98 : decode cM_marks 98 = .ok ((.istore_n 2), 1) := by decide +kernel
theorem dM_marks_99 : decode cM_marks 99 = .ok ((.iconst 0), 1) := by decide +kernel
theorem dM_marks_100 : decode cM_marks 100 = .ok ((.istore 6), 2) := by decide +kernel
theorem dM_marks_102 : decode cM_marks 102 = .ok ((.iload 6), 2) := by decide +kernel
theorem dM_marks_104 : decode cM_marks 104 = .ok ((.aload_n 0), 1) := by decide +kernel
theorem dM_marks_105 : decode cM_marks 105 = .ok ((.getfield 63), 3) := by decide +kernel
theorem dM_marks_108 : decode cM_marks 108 = .ok ((.if_icmp .ge 38), 3) := by decide +kernel
theorem dM_marks_111 : decode cM_marks 111 = .ok ((.aload_n 0), 1) := by decide +kernel
theorem dM_marks_112 : decode cM_marks 112 = .ok ((.getfield 17), 3) := by decide +kernel
theorem dM_marks_115 : decode cM_marks 115 = .ok ((.iload 6), 2) := by decide +kernel
theorem dM_marks_117 : decode cM_marks 117 = .ok ((.iload 5), 2) := by decide +kernel
theorem dM_marks_119 : decode cM_marks 119 = .ok ((.iload 6), 2) := by decide +kernel
theorem dM_marks_121 : decode cM_marks 121 = .ok (.ishr, 1) := by decide +kernel
theorem dM_marks_122 : decode cM_marks 122 = .ok ((.iconst 1), 1) := by decide +kernel
theorem dM_marks_123 : decode cM_marks 123 = .ok (.iand, 1) := by decide +kernel
theorem dM_marks_124 : decode cM_marks 124 = .ok ((.iconst 1), 1) := by decide +kernel
theorem dM_marks_125 : decode cM_marks 125 = .ok ((.if_icmp .ne 7), 3) := by decide +kernel
theorem dM_marks_128 : decode cM_marks 128 = .ok ((.iconst 0), 1) := by decide +kernel
theorem dM_marks_129 : decode cM_marks 129 = .ok ((.goto 10), 3) := by decide +kernel
theorem dM_marks_132 : decode cM_marks 132 = .ok ((.aload_n 0), 1) := by decide +kernel
theorem dM_marks_133 : decode cM_marks 133 = .ok ((.getfield 17), 3) := by decide +kernel
theorem dM_marks_136 : decode cM_marks 136 = .ok ((.iload 6), 2) := by decide +kernel
theorem dM_marks_138 : decode cM_marks 138 = .ok (.iaload, 1) := by decide +kernel
theorem dM_marks_139 : decode cM_marks 139 = .ok (.iastore, 1) := by decide +kernel
theorem dM_marks_140 : decode cM_marks 140 = .ok ((.iinc 6 1), 3) := by decide +kernel
theorem dM_marks_143 : decode cM_marks 143 = .ok ((.goto (-41)), 3) := by decide +kernel
theorem dM_marks_146 : decode cM_marks 146 = .ok ((.iinc 3 1), 3) := by decide +kernel
theorem dM_marks_149 : decode cM_marks 149 = .ok ((.goto (-133)), 3) := by decide +kernel
theorem dM_marks_152 : decode cM_marks 152 = .ok ((.iload_n 2), 1) := by decide +kernel
theorem dM_marks_153 : decode cM_marks 153 = .ok (.ireturn, 1) := by decide +kernel
theorem dM_type_0 : decode cM_type 0 = .ok ((.aload_n 0), 1) := by decide +kernel
theorem dM_type_1 : decode cM_type 1 = .ok ((.iload_n 1), 1) := by decide +kernel
theorem dM_type_2 : decode cM_type 2 = .ok ((.bipush 32), 2) := by decide +kernel
theorem dM_type_4 : decode cM_type 4 = .ok ((.if_icmp .lt 9), 3) := by decide +kernel
theorem dM_type_7 : decode cM_type 7 = .ok ((.iload_n 1), 1) := by decide +kernel
theorem dM_type_8 : decode cM_type 8 = .ok ((.bipush 126), 2) := by decide +kernel
theorem dM_type_10 : decode cM_type 10 = .ok ((.if_icmp .le 7), 3) := by decide +kernel
theorem dM_type_13 : decode cM_type 13 = .ok ((.iconst 1), 1) := by decide +kernel
theorem dM_type_14 : decode cM_type 14 = .ok ((.goto 4), 3) := by decide +kernel
theorem dM_type_17 : decode cM_type 17 = .ok ((.iconst 0), 1) := by decide +kernel
theorem dM_type_18 : decode cM_type 18 = .ok ((.aload_n 0), 1) := by decide +kernel
theorem dM_type_19 : decode cM_type 19 = .ok ((.getfield 78), 3) := by decide +kernel
theorem dM_type_22 : decode cM_type 22 = .ok ((.bipush 60), 2) := by decide +kernel
theorem dM_type_24 : decode cM_type 24 = .ok ((.if_icmp .ne 7), 3) := by decide +kernel
theorem dM_type_27 : decode cM_type 27 = .ok ((.iconst 1), 1) := by decide +kernel
theorem dM_type_28 : decode cM_type 28 = .ok ((.goto 4), 3) := by decide +kernel
theorem dM_type_31 : decode cM_type 31 = .ok ((.iconst 0), 1) := by decide +kernel
theorem dM_type_32 : decode cM_type 32 = .ok ((.invokevirtual 59), 3) := by decide +kernel
theorem dM_type_35 : decode cM_type 35 = .ok ((.ifCond .eq 5), 3) := by decide +kernel
theorem dM_type_38 : decode cM_type 38 = .ok ((.iconst 0), 1) := by decide +kernel
theorem dM_type_39 : decode cM_type 39 = .ok (.ireturn, 1) := by decide +kernel
theorem dM_type_40 : decode cM_type 40 = .ok ((.aload_n 0), 1) := by decide +kernel
theorem dM_type_41 : decode cM_type 41 = .ok ((.getfield 20), 3) := by decide +kernel
theorem dM_type_44 : decode cM_type 44 = .ok ((.aload_n 0), 1) := by decide +kernel
theorem dM_type_45 : decode cM_type 45 = .ok ((.getfield 78), 3) := by decide +kernel
theorem dM_type_48 : decode cM_type 48 = .ok ((.iload_n 1), 1) := by decide +kernel
theorem dM_type_49 : decode cM_type 49 = .ok (.iastore, 1) := by decide +kernel
theorem dM_type_50 : decode cM_type 50 = .ok ((.aload_n 0), 1) := by decide +kernel
theorem dM_type_51 : decode cM_type 51 = .ok (.dup, 1) := by decide +kernel
theorem dM_type_52 : decode cM_type 52 = .ok ((.getfield 78), 3) := by decide +kernel
theorem dM_type_55 : decode cM_type 55 = .ok ((.iconst 1), 1) := by decide +kernel
theorem dM_type_56 : decode cM_type 56 = .ok (.iadd, 1) := by decide +kernel
theorem dM_type_57 : decode cM_type 57 = .ok ((.putfield 78), 3) := by decide +kernel
theorem dM_type_60 : decode cM_type 60 = .ok ((.aload_n 0), 1) := by decide +kernel
theorem dM_type_61 : decode cM_type 61 = .ok ((.getfield 78), 3) := by decide +kernel
theorem dM_type_64 : decode cM_type 64 = .ok (.ireturn, 1) := by decide +kernel
theorem dM_run_0 : decode cM_run 0 = .ok ((.aload_n 0), 1) := by decide +kernel
theorem dM_run_1 : decode cM_run 1 = .ok ((.getfield 78), 3) := by decide +kernel
theorem dM_run_4 : decode cM_run 4 = .ok ((.istore_n 1), 1) := by decide +kernel
theorem dM_run_5 : decode cM_run 5 = .ok ((.aload_n 0), 1) := by decide +kernel
theorem dM_run_6 : decode cM_run 6 = .ok ((.iconst 0), 1) := by decide +kernel
theorem dM_run_7 : decode cM_run 7 = .ok ((.putfield 78), 3) := by decide +kernel
theorem dM_run_10 : decode cM_run 10 = .ok ((.iconst 0), 1) := by decide +kernel
theorem dM_run_11 : decode cM_run 11 = .ok ((.istore_n 2), 1) := by decide +kernel
theorem dM_run_12 : decode cM_run 12 = .ok ((.iconst 0), 1) := by decide +kernel
theorem dM_run_13 : decode cM_run 13 = .ok ((.istore_n 3), 1) := by decide +kernel
theorem dM_run_14 : decode cM_run 14 = .ok ((.iconst 0), 1) := by decide +kernel
theorem dM_run_15 : decode cM_run 15 = .ok ((.istore 4), 2) := by decide +kernel
theorem dM_run_17 : decode cM_run 17 = .ok ((.iconst 1), 1) := by decide +kernel
theorem dM_run_18 : decode cM_run 18 = .ok ((.istore 5), 2) := by decide +kernel
theorem dM_run_20 : decode cM_run 20 = .ok ((.iload_n 3), 1) := by decide +kernel
theorem dM_run_21 : decode cM_run 21 = .ok ((.iload_n 1), 1) := by decide +kernel
theorem dM_run_22 : decode cM_run 22 = .ok ((.if_icmp .ge 194), 3) := by decide +kernel
theorem dM_run_25 : decode cM_run 25 = .ok ((.iload 5), 2) := by decide +kernel
theorem dM_run_27 : decode cM_run 27 = .ok ((.ifCond .eq 189), 3) := by decide +kernel
theorem dM_run_30 : decode cM_run 30 = .ok ((.aload_n 0), 1) := by decide +kernel
theorem dM_run_31 : decode cM_run 31 = .ok ((.getfield 20), 3) := by decide +kernel
theorem dM_run_34 : decode cM_run 34 = .ok ((.iload_n 3), 1) := by decide +kernel
theorem dM_run_35 : decode cM_run 35 = .ok (.iaload, 1) := by decide +kernel
theorem dM_run_36 : decode cM_run 36 = .ok ((.istore 6), 2) := by decide +kernel
theorem dM_run_38 : decode cM_run 38 = .ok ((.iconst 0), 1) := by decide +kernel
theorem dM_run_39 : decode cM_run 39 = .ok ((.istore 7), 2) := by decide +kernel
theorem dM_run_41 : decode cM_run 41 = .ok ((.iconst 0), 1) := by decide +kernel
theorem dM_run_42 : decode cM_run 42 = .ok ((.istore 8), 2) := by decide +kernel
theorem dM_run_44 : decode cM_run 44 = .ok ((.iload 7), 2) := by decide +kernel
theorem dM_run_46 : decode cM_run 46 = .ok ((.iconst 4), 1) := by decide +kernel
theorem dM_run_47 : decode cM_run 47 = .ok ((.if_icmp .ge 48), 3) := by decide +kernel
theorem dM_run_50 : decode cM_run 50 = .ok ((.aload_n 0), 1) := by decide +kernel
theorem dM_run_51 : decode cM_run 51 = .ok ((.iload_n 3), 1) := by decide +kernel
theorem dM_run_52 : decode cM_run 52 = .ok ((.iconst 1), 1) := by decide +kernel
theorem dM_run_53 : decode cM_run 53 = .ok (.iadd, 1) := by decide +kernel
theorem dM_run_54 : decode cM_run 54 = .ok ((.iload 7), 2) := by decide +kernel
theorem dM_run_56 : decode cM_run 56 = .ok (.iadd, 1) := by decide +kernel
theorem dM_run_57 : decode cM_run 57 = .ok ((.iload_n 1), 1) := by decide +kernel
theorem dM_run_58 : decode cM_run 58 = .ok ((.invokevirtual 172), 3) := by decide +kernel
theorem dM_run_61 : decode cM_run 61 = .ok ((.invokestatic 175), 3) := by decide +kernel
theorem dM_run_64 : decode cM_run 64 = .ok ((.ifCond .eq 31), 3) := by decide +kernel
theorem dM_run_67 : decode cM_run 67 = .ok ((.bipush 10), 2) := by decide +kernel
theorem dM_run_69 : decode cM_run 69 = .ok ((.iload 8), 2) := by decide +kernel
theorem dM_run_71 : decode cM_run 71 = .ok (.imul, 1) := by decide +kernel
theorem dM_run_72 : decode cM_run 72 = .ok ((.aload_n 0), 1) := by decide +kernel
theorem dM_run_73 : decode cM_run 73 = .ok ((.iload_n 3), 1) := by decide +kernel
theorem dM_run_74 : decode cM_run 74 = .ok ((.iconst 1), 1) := by decide +kernel
theorem dM_run_75 : decode cM_run 75 = .ok (.iadd, 1) := by decide +kernel
theorem dM_run_76 : decode cM_run 76 = .ok ((.iload 7), 2) := by decide +kernel
theorem dM_run_78 : decode cM_run 78 = .ok (.iadd, 1) := by decide +kernel
theorem dM_run_79 : decode cM_run 79 = .ok ((.iload_n 1), 1) := by decide +kernel
theorem dM_run_80 : decode cM_run 80 = .ok ((.invokevirtual 172), 3) := by decide +kernel
theorem dM_run_83 : decode cM_run 83 = .ok (.iadd, 1) := by decide +kernel
theorem dM_run_84 : decode cM_run 84 = .ok ((.bipush 48), 2) := by decide +kernel
theorem dM_run_86 : decode cM_run 86 = .ok (.isub, 1) := by decide +kernel
theorem dM_run_87 : decode cM_run 87 = .ok ((.istore 8), 2) := by decide +kernel
theorem dM_run_89 : decode cM_run 89 = .ok ((.iinc 7 1), 3) := by decide +kernel
theorem dM_run_92 : decode cM_run 92 = .ok ((.goto (-48)), 3) := by decide +kernel
theorem dM_run_95 : decode cM_run 95 = .ok ((.iload 6), 2) := by decide +kernel
theorem dM_run_97 : decode cM_run 97 = .ok ((.bipush 32), 2) := by decide +kernel
theorem dM_run_99 : decode cM_run 99 = .ok ((.if_icmp .ne 9), 3) := by decide +kernel
theorem dM_run_102 : decode cM_run 102 = .ok ((.iinc 3 1), 3) := by decide +kernel
theorem dM_run_105 : decode cM_run 105 = .ok ((.goto 108), 3) := by decide +kernel
theorem dM_run_108 : decode cM_run 108 = .ok ((.iload 6), 2) := by decide +kernel
theorem dM_run_110 : decode cM_run 110 = .ok ((.bipush 116), 2) := by decide +kernel
theorem dM_run_112 : decode cM_run 112 = .ok ((.if_icmp .ne 28), 3) := by decide +kernel
theorem dM_run_115 : decode cM_run 115 = .ok ((.aload_n 0), 1) := by decide +kernel
theorem dM_run_116 : decode cM_run 116 = .ok ((.aload_n 0), 1) := by decide +kernel
theorem dM_run_117 : decode cM_run 117 = .ok ((.getfield 66), 3) := by decide +kernel
theorem dM_run_120 : decode cM_run 120 = .ok ((.ifCond .ne 7), 3) := by decide +kernel
theorem dM_run_123 : decode cM_run 123 = .ok ((.iconst 1), 1) := by decide +kernel
theorem dM_run_124 : decode cM_run 124 = .ok ((.goto 4), 3) := by decide +kernel
theorem dM_run_127 : decode cM_run 127 = .ok ((.iconst 0), 1) := by decide +kernel
theorem dM_run_128 : decode cM_run 128 = .ok ((.putfield 66), 3) := by decide +kernel
theorem dM_run_131 : decode cM_run 131 = .ok ((.iinc 2 1), 3) := by decide +kernel
theorem dM_run_134 : decode cM_run 134 = .ok ((.iinc 3 1), 3) := by decide +kernel
theorem dM_run_137 : decode cM_run 137 = .ok ((.goto 76), 3) := by decide +kernel
theorem dM_run_140 : decode cM_run 140 = .ok ((.iload 6), 2) := by decide +kernel
theorem dM_run_142 : decode cM_run 142 = .ok ((.bipush 115), 2) := by decide +kernel
theorem dM_run_144 : decode cM_run 144 = .ok ((.if_icmp .eq 31), 3) := by decide +kernel
theorem dM_run_147 : decode cM_run 147 = .ok ((.iload 6), 2) := by decide +kernel
theorem dM_run_149 : decode cM_run 149 = .ok ((.bipush 102), 2) := by decide +kernel
theorem dM_run_151 : decode cM_run 151 = .ok ((.if_icmp .eq 24), 3) := by decide +kernel
theorem dM_run_154 : decode cM_run 154 = .ok ((.iload 6), 2) := by decide +kernel
theorem dM_run_156 : decode cM_run 156 = .ok ((.bipush 109), 2) := by decide +kernel
theorem dM_run_158 : decode cM_run 158 = .ok ((.if_icmp .eq 17), 3) := by decide +kernel
theorem dM_run_161 : decode cM_run 161 = .ok ((.iload 6), 2) := by decide +kernel
theorem dM_run_163 : decode cM_run 163 = .ok ((.bipush 118), 2) := by decide +kernel
theorem dM_run_165 : decode cM_run 165 = .ok ((.if_icmp .eq 10), 3) := by decide +kernel
theorem dM_run_168 : decode cM_run 168 = .ok ((.iload 6), 2) := by decide +kernel
theorem dM_run_170 : decode cM_run 170 = .ok ((.bipush 120), 2) := by decide +kernel
theorem dM_run_172 : decode cM_run 172 = .ok ((.if_icmp .ne 23), 3) := by decide +kernel
theorem dM_run_175 : decode cM_run 175 = .ok ((.iload 7), 2) := by decide +kernel
theorem dM_run_177 : decode cM_run 177 = .ok ((.ifCond .le 18), 3) := by decide +kernel
theorem dM_run_180 : decode cM_run 180 = .ok ((.aload_n 0), 1) := by decide +kernel
theorem dM_run_181 : decode cM_run 181 = .ok ((.iload 6), 2) := by decide +kernel
theorem dM_run_183 : decode cM_run 183 = .ok ((.iload 8), 2) := by decide +kernel
theorem dM_run_185 : decode cM_run 185 = .ok ((.invokevirtual 178), 3) := by decide +kernel
theorem dM_run_188 : decode cM_run 188 = .ok ((.ifCond .eq 7), 3) := by decide +kernel
theorem dM_run_191 : decode cM_run 191 = .ok ((.iconst 1), 1) := by decide +kernel
theorem dM_run_192 : decode cM_run 192 = .ok ((.goto 4), 3) := by decide +kernel
theorem dM_run_195 : decode cM_run 195 = .ok ((.iconst 0), 1) := by decide +kernel
theorem dM_run_196 : decode cM_run 196 = .ok ((.istore 5), 2) := by decide +kernel
theorem dM_run_198 : decode cM_run 198 = .ok ((.iconst (-1)), 1) := by decide +kernel
theorem dM_run_199 : decode cM_run 199 = .ok ((.iload_n 3), 1) := by decide +kernel
theorem dM_run_200 : decode cM_run 200 = .ok (.isub, 1) := by decide +kernel
theorem dM_run_201 : decode cM_run 201 = .ok ((.istore 4), 2) := by decide +kernel
theorem dM_run_203 : decode cM_run 203 = .ok ((.iinc 2 1), 3) := by decide +kernel
theorem dM_run_206 : decode cM_run 206 = .ok ((.iload_n 3), 1) := by decide +kernel
theorem dM_run_207 : decode cM_run 207 = .ok ((.iconst 1), 1) := by decide +kernel
theorem dM_run_208 : decode cM_run 208 = .ok (.iadd, 1) := by decide +kernel
theorem dM_run_209 : decode cM_run 209 = .ok ((.iload 7), 2) := by decide +kernel
theorem dM_run_211 : decode cM_run 211 = .ok (.iadd, 1) := by decide +kernel
theorem dM_run_212 : decode cM_run 212 = .ok ((.istore_n 3), 1) := by decide +kernel
theorem dM_run_213 : decode cM_run 213 = .ok ((.goto (-193)), 3) := by decide +kernel
theorem dM_run_216 : decode cM_run 216 = .ok ((.aload_n 0), 1) := by decide +kernel
theorem dM_run_217 : decode cM_run 217 = .ok ((.iconst 0), 1) := by decide +kernel
theorem dM_run_218 : decode cM_run 218 = .ok ((.putfield 56), 3) := by decide +kernel
theorem dM_run_221 : decode cM_run 221 = .ok ((.iload 5), 2) := by decide +kernel
theorem dM_run_223 : decode cM_run 223 = .ok ((.ifCond .eq 7), 3) := by decide +kernel
theorem dM_run_226 : decode cM_run 226 = .ok ((.iload_n 2), 1) := by decide +kernel
theorem dM_run_227 : decode cM_run 227 = .ok ((.goto 5), 3) := by decide +kernel
theorem dM_run_230 : decode cM_run 230 = .ok ((.iload 4), 2) := by decide +kernel
theorem dM_run_232 : decode cM_run 232 = .ok (.ireturn, 1) := by decide +kernel
theorem dM_sign_0 : decode cM_sign 0 = .ok ((.iload_n 1), 1) := by decide +kernel
theorem dM_sign_1 : decode cM_sign 1 = .ok ((.iload_n 2), 1) := by decide +kernel
theorem dM_sign_2 : decode cM_sign 2 = .ok ((.if_icmp .ge 12), 3) := by decide +kernel
theorem dM_sign_5 : decode cM_sign 5 = .ok ((.aload_n 0), 1) := by decide +kernel
theorem dM_sign_6 : decode cM_sign 6 = .ok ((.getfield 20), 3) := by decide +kernel
theorem dM_sign_9 : decode cM_sign 9 = .ok ((.iload_n 1), 1) := by decide +kernel
theorem dM_sign_10 : decode cM_sign 10 = .ok (.iaload, 1) := by decide +kernel
theorem dM_sign_11 : decode cM_sign 11 = .ok ((.goto 4), 3) := by decide +kernel
theorem dM_sign_14 : decode cM_sign 14 = .ok ((.iconst 0), 1) := by decide +kernel
theorem dM_sign_15 : decode cM_sign 15 = .ok (.ireturn, 1) := by decide +kernel
theorem dM_isDigit_0 : decode cM_isDigit 0 = .ok ((.iload_n 0), 1) := by decide +kernel
theorem dM_isDigit_1 : decode cM_isDigit 1 = .ok ((.bipush 48), 2) := by decide +kernel
theorem dM_isDigit_3 : decode cM_isDigit 3 = .ok ((.if_icmp .lt 13), 3) := by decide +kernel
theorem dM_isDigit_6 : decode cM_isDigit 6 = .ok ((.iload_n 0), 1) := by decide +kernel
theorem dM_isDigit_7 : decode cM_isDigit 7 = .ok ((.bipush 57), 2) := by decide +kernel
theorem dM_isDigit_9 : decode cM_isDigit 9 = .ok ((.if_icmp .gt 7), 3) := by decide +kernel
theorem dM_isDigit_12 : decode cM_isDigit 12 = .ok ((.iconst 1), 1) := by decide +kernel
theorem dM_isDigit_13 : decode cM_isDigit 13 = .ok ((.goto 4), 3) := by decide +kernel
theorem dM_isDigit_16 : decode cM_isDigit 16 = .ok ((.iconst 0), 1) := by decide +kernel
theorem dM_isDigit_17 : decode cM_isDigit 17 = .ok (.ireturn, 1) := by decide +kernel
theorem dM_does_0 : decode cM_does 0 = .ok ((.iload_n 1), 1) := by decide +kernel
theorem dM_does_1 : decode cM_does 1 = .ok ((.lookupswitch 127 #[(102, 61), (109, 83), (115, 43), (118, 105)]), 43) := by decide +kernel
theorem dM_does_44 : decode cM_does 44 = .ok ((.aload_n 0), 1) := by decide +kernel
theorem dM_does_45 : decode cM_does 45 = .ok ((.iload_n 2), 1) := by decide +kernel
theorem dM_does_46 : decode cM_does 46 = .ok ((.invokevirtual 166), 3) := by decide +kernel
theorem dM_does_49 : decode cM_does 49 = .ok ((.aload_n 0), 1) := by decide +kernel
theorem dM_does_50 : decode cM_does 50 = .ok ((.getfield 56), 3) := by decide +kernel
theorem dM_does_53 : decode cM_does 53 = .ok ((.ifCond .ne 7), 3) := by decide +kernel
theorem dM_does_56 : decode cM_does 56 = .ok ((.iconst 1), 1) := by decide +kernel
theorem dM_does_57 : decode cM_does 57 = .ok ((.goto 4), 3) := by decide +kernel
theorem dM_does_60 : decode cM_does 60 = .ok ((.iconst 0), 1) := by decide +kernel
theorem dM_does_61 : decode cM_does 61 = .ok (.ireturn, 1) := by decide +kernel
theorem dM_does_62 : decode cM_does 62 = .ok ((.aload_n 0), 1) := by decide +kernel
theorem dM_does_63 : decode cM_does 63 = .ok ((.iload_n 2), 1) := by decide +kernel
theorem dM_does_64 : decode cM_does 64 = .ok ((.iconst 0), 1) := by decide +kernel
theorem dM_does_65 : decode cM_does 65 = .ok ((.invokevirtual 169), 3) := by decide +kernel
theorem dM_does_68 : decode cM_does 68 = .ok ((.ifCond .gt 10), 3) := by decide +kernel
theorem dM_does_71 : decode cM_does 71 = .ok ((.aload_n 0), 1) := by decide +kernel
theorem dM_does_72 : decode cM_does 72 = .ok ((.getfield 56), 3) := by decide +kernel
theorem dM_does_75 : decode cM_does 75 = .ok ((.ifCond .ne 7), 3) := by decide +kernel
theorem dM_does_78 : decode cM_does 78 = .ok ((.iconst 1), 1) := by decide +kernel
theorem dM_does_79 : decode cM_does 79 = .ok ((.goto 4), 3) := by decide +kernel
theorem dM_does_82 : decode cM_does 82 = .ok ((.iconst 0), 1) := by decide +kernel
theorem dM_does_83 : decode cM_does 83 = .ok (.ireturn, 1) := by decide +kernel
theorem dM_does_84 : decode cM_does 84 = .ok ((.aload_n 0), 1) := by decide +kernel
theorem dM_does_85 : decode cM_does 85 = .ok ((.iload_n 2), 1) := by decide +kernel
theorem dM_does_86 : decode cM_does 86 = .ok ((.iconst 1), 1) := by decide +kernel
theorem dM_does_87 : decode cM_does 87 = .ok ((.invokevirtual 169), 3) := by decide +kernel
theorem dM_does_90 : decode cM_does 90 = .ok ((.ifCond .gt 10), 3) := by decide +kernel
theorem dM_does_93 : decode cM_does 93 = .ok ((.aload_n 0), 1) := by decide +kernel
theorem dM_does_94 : decode cM_does 94 = .ok ((.getfield 56), 3) := by decide +kernel
theorem dM_does_97 : decode cM_does 97 = .ok ((.ifCond .ne 7), 3) := by decide +kernel
theorem dM_does_100 : decode cM_does 100 = .ok ((.iconst 1), 1) := by decide +kernel
theorem dM_does_101 : decode cM_does 101 = .ok ((.goto 4), 3) := by decide +kernel
theorem dM_does_104 : decode cM_does 104 = .ok ((.iconst 0), 1) := by decide +kernel
theorem dM_does_105 : decode cM_does 105 = .ok (.ireturn, 1) := by decide +kernel
theorem dM_does_106 : decode cM_does 106 = .ok ((.aload_n 0), 1) := by decide +kernel
theorem dM_does_107 : decode cM_does 107 = .ok ((.iload_n 2), 1) := by decide +kernel
theorem dM_does_108 : decode cM_does 108 = .ok ((.iconst 2), 1) := by decide +kernel
theorem dM_does_109 : decode cM_does 109 = .ok ((.invokevirtual 169), 3) := by decide +kernel
theorem dM_does_112 : decode cM_does 112 = .ok ((.ifCond .gt 10), 3) := by decide +kernel
theorem dM_does_115 : decode cM_does 115 = .ok ((.aload_n 0), 1) := by decide +kernel
theorem dM_does_116 : decode cM_does 116 = .ok ((.getfield 56), 3) := by decide +kernel
theorem dM_does_119 : decode cM_does 119 = .ok ((.ifCond .ne 7), 3) := by decide +kernel
theorem dM_does_122 : decode cM_does 122 = .ok ((.iconst 1), 1) := by decide +kernel
theorem dM_does_123 : decode cM_does 123 = .ok ((.goto 4), 3) := by decide +kernel
theorem dM_does_126 : decode cM_does 126 = .ok ((.iconst 0), 1) := by decide +kernel
theorem dM_does_127 : decode cM_does 127 = .ok (.ireturn, 1) := by decide +kernel
theorem dM_does_128 : decode cM_does 128 = .ok ((.aload_n 0), 1) := by decide +kernel
theorem dM_does_129 : decode cM_does 129 = .ok ((.iload_n 2), 1) := by decide +kernel
theorem dM_does_130 : decode cM_does 130 = .ok ((.iconst 3), 1) := by decide +kernel
theorem dM_does_131 : decode cM_does 131 = .ok ((.invokevirtual 169), 3) := by decide +kernel
theorem dM_does_134 : decode cM_does 134 = .ok ((.ifCond .gt 10), 3) := by decide +kernel
theorem dM_does_137 : decode cM_does 137 = .ok ((.aload_n 0), 1) := by decide +kernel
theorem dM_does_138 : decode cM_does 138 = .ok ((.getfield 56), 3) := by decide +kernel
theorem dM_does_141 : decode cM_does 141 = .ok ((.ifCond .ne 7), 3) := by decide +kernel
theorem dM_does_144 : decode cM_does 144 = .ok ((.iconst 1), 1) := by decide +kernel
theorem dM_does_145 : decode cM_does 145 = .ok ((.goto 4), 3) := by decide +kernel
theorem dM_does_148 : decode cM_does 148 = .ok ((.iconst 0), 1) := by decide +kernel
theorem dM_does_149 : decode cM_does 149 = .ok (.ireturn, 1) := by decide +kernel
