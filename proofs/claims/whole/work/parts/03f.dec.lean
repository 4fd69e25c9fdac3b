theorem dL_strip_0 : decode cL_strip 0 = .ok ((.aload_n 0), 1) := by decide +kernel
theorem dL_strip_1 : decode cL_strip 1 = .ok ((.iload_n 1), 1) := by decide +kernel
theorem dL_strip_2 : decode cL_strip 2 = .ok ((.invokevirtual 7), 3) := by decide +kernel
theorem dL_strip_5 : decode cL_strip 5 = .ok ((.goto 6), 3) := by decide +kernel
theorem dL_strip_8 : decode cL_strip 8 = .ok ((.astore_n 2), 1) := by decide +kernel
theorem dL_strip_9 : decode cL_strip 9 = .ok ((.iconst 1), 1) := by decide +kernel
theorem dL_strip_10 : decode cL_strip 10 = .ok (.ireturn, 1) := by decide +kernel
theorem dL_strip_11 : decode cL_strip 11 = .ok ((.iconst 0), 1) := by decide +kernel
theorem dL_strip_12 : decode cL_strip 12 = .ok (.ireturn, 1) := by decide +kernel
theorem dL_crease_0 : decode cL_crease 0 = .ok ((.aload_n 3), 1) := by decide +kernel
theorem dL_crease_1 : decode cL_crease 1 = .ok ((.iconst 0), 1) := by decide +kernel
theorem dL_crease_2 : decode cL_crease 2 = .ok ((.aload_n 0), 1) := by decide +kernel
theorem dL_crease_3 : decode cL_crease 3 = .ok ((.iload_n 1), 1) := by decide +kernel
theorem dL_crease_4 : decode cL_crease 4 = .ok ((.iload_n 2), 1) := by decide +kernel
theorem dL_crease_5 : decode cL_crease 5 = .ok ((.invokevirtual 15), 3) := by decide +kernel
theorem dL_crease_8 : decode cL_crease 8 = .ok (.i2l, 1) := by decide +kernel
theorem dL_crease_9 : decode cL_crease 9 = .ok (.lastore, 1) := by decide +kernel
theorem dL_crease_10 : decode cL_crease 10 = .ok ((.goto 11), 3) := by decide +kernel
theorem dL_crease_13 : decode cL_crease 13 = .ok ((.astore 4), 2) := by decide +kernel
theorem dL_crease_15 : decode cL_crease 15 = .ok ((.iconst 1), 1) := by decide +kernel
theorem dL_crease_16 : decode cL_crease 16 = .ok (.ireturn, 1) := by decide +kernel
theorem dL_crease_17 : decode cL_crease 17 = .ok ((.astore 4), 2) := by decide +kernel
theorem dL_crease_19 : decode cL_crease 19 = .ok ((.iconst 2), 1) := by decide +kernel
theorem dL_crease_20 : decode cL_crease 20 = .ok (.ireturn, 1) := by decide +kernel
theorem dL_crease_21 : decode cL_crease 21 = .ok ((.iconst 0), 1) := by decide +kernel
theorem dL_crease_22 : decode cL_crease 22 = .ok (.ireturn, 1) := by decide +kernel
theorem dL_segment_0 : decode cL_segment 0 = .ok ((.aload_n 3), 1) := by decide +kernel
theorem dL_segment_1 : decode cL_segment 1 = .ok ((.iconst 0), 1) := by decide +kernel
theorem dL_segment_2 : decode cL_segment 2 = .ok ((.aload_n 0), 1) := by decide +kernel
theorem dL_segment_3 : decode cL_segment 3 = .ok ((.iload_n 1), 1) := by decide +kernel
theorem dL_segment_4 : decode cL_segment 4 = .ok ((.iload_n 2), 1) := by decide +kernel
theorem dL_segment_5 : decode cL_segment 5 = .ok ((.invokevirtual 21), 3) := by decide +kernel
theorem dL_segment_8 : decode cL_segment 8 = .ok (.i2l, 1) := by decide +kernel
theorem dL_segment_9 : decode cL_segment 9 = .ok (.lastore, 1) := by decide +kernel
theorem dL_segment_10 : decode cL_segment 10 = .ok ((.goto 11), 3) := by decide +kernel
theorem dL_segment_13 : decode cL_segment 13 = .ok ((.astore 4), 2) := by decide +kernel
theorem dL_segment_15 : decode cL_segment 15 = .ok ((.iconst 1), 1) := by decide +kernel
theorem dL_segment_16 : decode cL_segment 16 = .ok (.ireturn, 1) := by decide +kernel
theorem dL_segment_17 : decode cL_segment 17 = .ok ((.astore 4), 2) := by decide +kernel
theorem dL_segment_19 : decode cL_segment 19 = .ok ((.iconst 2), 1) := by decide +kernel
theorem dL_segment_20 : decode cL_segment 20 = .ok (.ireturn, 1) := by decide +kernel
theorem dL_segment_21 : decode cL_segment 21 = .ok ((.iconst 0), 1) := by decide +kernel
theorem dL_segment_22 : decode cL_segment 22 = .ok (.ireturn, 1) := by decide +kernel
theorem dL_whereIs_0 : decode cL_whereIs 0 = .ok ((.aload_n 2), 1) := by decide +kernel
theorem dL_whereIs_1 : decode cL_whereIs 1 = .ok ((.iconst 0), 1) := by decide +kernel
theorem dL_whereIs_2 : decode cL_whereIs 2 = .ok ((.aload_n 0), 1) := by decide +kernel
theorem dL_whereIs_3 : decode cL_whereIs 3 = .ok ((.iload_n 1), 1) := by decide +kernel
theorem dL_whereIs_4 : decode cL_whereIs 4 = .ok ((.invokevirtual 26), 3) := by decide +kernel
theorem dL_whereIs_7 : decode cL_whereIs 7 = .ok (.i2l, 1) := by decide +kernel
theorem dL_whereIs_8 : decode cL_whereIs 8 = .ok (.lastore, 1) := by decide +kernel
theorem dL_whereIs_9 : decode cL_whereIs 9 = .ok ((.goto 6), 3) := by decide +kernel
theorem dL_whereIs_12 : decode cL_whereIs 12 = .ok ((.astore_n 3), 1) := by decide +kernel
theorem dL_whereIs_13 : decode cL_whereIs 13 = .ok ((.iconst 1), 1) := by decide +kernel
theorem dL_whereIs_14 : decode cL_whereIs 14 = .ok (.ireturn, 1) := by decide +kernel
theorem dL_whereIs_15 : decode cL_whereIs 15 = .ok ((.iconst 0), 1) := by decide +kernel
theorem dL_whereIs_16 : decode cL_whereIs 16 = .ok (.ireturn, 1) := by decide +kernel
theorem dL_step_0 : decode cL_step 0 = .ok ((.aload_n 3), 1) := by decide +kernel
theorem dL_step_1 : decode cL_step 1 = .ok ((.iconst 0), 1) := by decide +kernel
theorem dL_step_2 : decode cL_step 2 = .ok ((.aload_n 0), 1) := by decide +kernel
theorem dL_step_3 : decode cL_step 3 = .ok ((.iload_n 1), 1) := by decide +kernel
theorem dL_step_4 : decode cL_step 4 = .ok ((.iload_n 2), 1) := by decide +kernel
theorem dL_step_5 : decode cL_step 5 = .ok ((.invokevirtual 30), 3) := by decide +kernel
theorem dL_step_8 : decode cL_step 8 = .ok (.i2l, 1) := by decide +kernel
theorem dL_step_9 : decode cL_step 9 = .ok (.lastore, 1) := by decide +kernel
theorem dL_step_10 : decode cL_step 10 = .ok ((.goto 11), 3) := by decide +kernel
theorem dL_step_13 : decode cL_step 13 = .ok ((.astore 4), 2) := by decide +kernel
theorem dL_step_15 : decode cL_step 15 = .ok ((.iconst 1), 1) := by decide +kernel
theorem dL_step_16 : decode cL_step 16 = .ok (.ireturn, 1) := by decide +kernel
theorem dL_step_17 : decode cL_step 17 = .ok ((.astore 4), 2) := by decide +kernel
theorem dL_step_19 : decode cL_step 19 = .ok ((.iconst 2), 1) := by decide +kernel
theorem dL_step_20 : decode cL_step 20 = .ok (.ireturn, 1) := by decide +kernel
theorem dL_step_21 : decode cL_step 21 = .ok ((.iconst 0), 1) := by decide +kernel
theorem dL_step_22 : decode cL_step 22 = .ok (.ireturn, 1) := by decide +kernel
theorem dL_above_0 : decode cL_above 0 = .ok ((.aload 4), 2) := by decide +kernel
theorem dL_above_2 : decode cL_above 2 = .ok ((.iconst 0), 1) := by decide +kernel
theorem dL_above_3 : decode cL_above 3 = .ok ((.aload_n 0), 1) := by decide +kernel
theorem dL_above_4 : decode cL_above 4 = .ok ((.iload_n 1), 1) := by decide +kernel
theorem dL_above_5 : decode cL_above 5 = .ok ((.iload_n 2), 1) := by decide +kernel
theorem dL_above_6 : decode cL_above 6 = .ok ((.iload_n 3), 1) := by decide +kernel
theorem dL_above_7 : decode cL_above 7 = .ok ((.invokevirtual 33), 3) := by decide +kernel
theorem dL_above_10 : decode cL_above 10 = .ok (.i2l, 1) := by decide +kernel
theorem dL_above_11 : decode cL_above 11 = .ok (.lastore, 1) := by decide +kernel
theorem dL_above_12 : decode cL_above 12 = .ok ((.goto 7), 3) := by decide +kernel
theorem dL_above_15 : decode cL_above 15 = .ok ((.astore 5), 2) := by decide +kernel
theorem dL_above_17 : decode cL_above 17 = .ok ((.iconst 1), 1) := by decide +kernel
theorem dL_above_18 : decode cL_above 18 = .ok (.ireturn, 1) := by decide +kernel
theorem dL_above_19 : decode cL_above 19 = .ok ((.iconst 0), 1) := by decide +kernel
theorem dL_above_20 : decode cL_above 20 = .ok (.ireturn, 1) := by decide +kernel
theorem dL_layer_0 : decode cL_layer 0 = .ok ((.aload 4), 2) := by decide +kernel
theorem dL_layer_2 : decode cL_layer 2 = .ok ((.iconst 0), 1) := by decide +kernel
theorem dL_layer_3 : decode cL_layer 3 = .ok ((.aload_n 0), 1) := by decide +kernel
theorem dL_layer_4 : decode cL_layer 4 = .ok ((.iload_n 1), 1) := by decide +kernel
theorem dL_layer_5 : decode cL_layer 5 = .ok ((.iload_n 2), 1) := by decide +kernel
theorem dL_layer_6 : decode cL_layer 6 = .ok ((.iload_n 3), 1) := by decide +kernel
theorem dL_layer_7 : decode cL_layer 7 = .ok ((.invokevirtual 37), 3) := by decide +kernel
theorem dL_layer_10 : decode cL_layer 10 = .ok (.i2l, 1) := by decide +kernel
theorem dL_layer_11 : decode cL_layer 11 = .ok (.lastore, 1) := by decide +kernel
theorem dL_layer_12 : decode cL_layer 12 = .ok ((.goto 7), 3) := by decide +kernel
theorem dL_layer_15 : decode cL_layer 15 = .ok ((.astore 5), 2) := by decide +kernel
theorem dL_layer_17 : decode cL_layer 17 = .ok ((.iconst 1), 1) := by decide +kernel
theorem dL_layer_18 : decode cL_layer 18 = .ok (.ireturn, 1) := by decide +kernel
theorem dL_layer_19 : decode cL_layer 19 = .ok ((.iconst 0), 1) := by decide +kernel
theorem dL_layer_20 : decode cL_layer 20 = .ok (.ireturn, 1) := by decide +kernel
theorem dL_type_0 : decode cL_type 0 = .ok ((.aload_n 2), 1) := by decide +kernel
theorem dL_type_1 : decode cL_type 1 = .ok ((.iconst 0), 1) := by decide +kernel
theorem dL_type_2 : decode cL_type 2 = .ok ((.aload_n 0), 1) := by decide +kernel
theorem dL_type_3 : decode cL_type 3 = .ok ((.iload_n 1), 1) := by decide +kernel
theorem dL_type_4 : decode cL_type 4 = .ok ((.invokevirtual 40), 3) := by decide +kernel
theorem dL_type_7 : decode cL_type 7 = .ok (.i2l, 1) := by decide +kernel
theorem dL_type_8 : decode cL_type 8 = .ok (.lastore, 1) := by decide +kernel
theorem dL_type_9 : decode cL_type 9 = .ok ((.goto 9), 3) := by decide +kernel
theorem dL_type_12 : decode cL_type 12 = .ok ((.astore_n 3), 1) := by decide +kernel
theorem dL_type_13 : decode cL_type 13 = .ok ((.iconst 1), 1) := by decide +kernel
theorem dL_type_14 : decode cL_type 14 = .ok (.ireturn, 1) := by decide +kernel
theorem dL_type_15 : decode cL_type 15 = .ok ((.astore_n 3), 1) := by decide +kernel
theorem dL_type_16 : decode cL_type 16 = .ok ((.iconst 2), 1) := by decide +kernel
theorem dL_type_17 : decode cL_type 17 = .ok (.ireturn, 1) := by decide +kernel
theorem dL_type_18 : decode cL_type 18 = .ok ((.iconst 0), 1) := by decide +kernel
theorem dL_type_19 : decode cL_type 19 = .ok (.ireturn, 1) := by decide +kernel
theorem dL_law_0 : decode cL_law 0 = .ok ((.new 8), 3) := by decide +kernel
theorem dL_law_3 : decode cL_law 3 = .ok (.dup, 1) := by decide +kernel
theorem dL_law_4 : decode cL_law 4 = .ok ((.invokespecial 43), 3) := by decide +kernel
theorem dL_law_7 : decode cL_law 7 = .ok ((.astore_n 1), 1) := by decide +kernel
theorem dL_law_8 : decode cL_law 8 = .ok ((.new 44), 3) := by decide +kernel
theorem dL_law_11 : decode cL_law 11 = .ok (.dup, 1) := by decide +kernel
theorem dL_law_12 : decode cL_law 12 = .ok ((.invokespecial 46), 3) := by decide +kernel
theorem dL_law_15 : decode cL_law 15 = .ok ((.astore_n 2), 1) := by decide +kernel
theorem dL_law_16 : decode cL_law 16 = .ok ((.iconst 1), 1) := by decide +kernel
theorem dL_law_17 : decode cL_law 17 = .ok ((.newarray .long), 2) := by decide +kernel
theorem dL_law_19 : decode cL_law 19 = .ok ((.astore_n 3), 1) := by decide +kernel
theorem dL_law_20 : decode cL_law 20 = .ok ((.iconst 0), 1) := by decide +kernel
theorem dL_law_21 : decode cL_law 21 = .ok ((.istore 4), 2) := by decide +kernel
theorem dL_law_23 : decode cL_law 23 = .ok ((.iload 4), 2) := by decide +kernel
theorem dL_law_25 : decode cL_law 25 = .ok ((.aload_n 0), 1) := by decide +kernel
theorem dL_law_26 : decode cL_law 26 = .ok (.arraylength, 1) := by decide +kernel
theorem dL_law_27 : decode cL_law 27 = .ok ((.iconst 4), 1) := by decide +kernel
theorem dL_law_28 : decode cL_law 28 = .ok (.isub, 1) := by decide +kernel
theorem dL_law_29 : decode cL_law 29 = .ok ((.if_icmp .gt 738), 3) := by decide +kernel
theorem dL_law_32 : decode cL_law 32 = .ok ((.aload_n 0), 1) := by decide +kernel
theorem dL_law_33 : decode cL_law 33 = .ok ((.iload 4), 2) := by decide +kernel
theorem dL_law_35 : decode cL_law 35 = .ok (.iaload, 1) := by decide +kernel
theorem dL_law_36 : decode cL_law 36 = .ok ((.bipush 31), 2) := by decide +kernel
theorem dL_law_38 : decode cL_law 38 = .ok (.iand, 1) := by decide +kernel
theorem dL_law_39 : decode cL_law 39 = .ok ((.tableswitch 722 0 16 #[81, 117, 185, 198, 223, 291, 347, 360, 373, 386, 399, 467, 480, 560, 640, 653, 709]), 81) := by decide +kernel
theorem dL_law_120 : decode cL_law 120 = .ok ((.aload_n 1), 1) := by decide +kernel
theorem dL_law_121 : decode cL_law 121 = .ok ((.aload_n 0), 1) := by decide +kernel
theorem dL_law_122 : decode cL_law 122 = .ok ((.iload 4), 2) := by decide +kernel
theorem dL_law_124 : decode cL_law 124 = .ok ((.iconst 1), 1) := by decide +kernel
theorem dL_law_125 : decode cL_law 125 = .ok (.iadd, 1) := by decide +kernel
theorem dL_law_126 : decode cL_law 126 = .ok (.iaload, 1) := by decide +kernel
theorem dL_law_127 : decode cL_law 127 = .ok ((.invokestatic 47), 3) := by decide +kernel
theorem dL_law_130 : decode cL_law 130 = .ok ((.istore 5), 2) := by decide +kernel
theorem dL_law_132 : decode cL_law 132 = .ok ((.aload_n 2), 1) := by decide +kernel
theorem dL_law_133 : decode cL_law 133 = .ok ((.aload_n 0), 1) := by decide +kernel
theorem dL_law_134 : decode cL_law 134 = .ok ((.iload 4), 2) := by decide +kernel
theorem dL_law_136 : decode cL_law 136 = .ok ((.iconst 1), 1) := by decide +kernel
theorem dL_law_137 : decode cL_law 137 = .ok (.iadd, 1) := by decide +kernel
theorem dL_law_138 : decode cL_law 138 = .ok (.iaload, 1) := by decide +kernel
theorem dL_law_139 : decode cL_law 139 = .ok ((.invokevirtual 52), 3) := by decide +kernel
theorem dL_law_142 : decode cL_law 142 = .ok ((.aload_n 2), 1) := by decide +kernel
theorem dL_law_143 : decode cL_law 143 = .ok ((.invokevirtual 53), 3) := by decide +kernel
theorem dL_law_146 : decode cL_law 146 = .ok ((.iload 5), 2) := by decide +kernel
theorem dL_law_148 : decode cL_law 148 = .ok ((.if_icmp .eq 5), 3) := by decide +kernel
theorem dL_law_151 : decode cL_law 151 = .ok ((.iconst 0), 1) := by decide +kernel
theorem dL_law_152 : decode cL_law 152 = .ok (.ireturn, 1) := by decide +kernel
theorem dL_law_153 : decode cL_law 153 = .ok ((.goto 608), 3) := by decide +kernel
theorem dL_law_156 : decode cL_law 156 = .ok ((.aload_n 1), 1) := by decide +kernel
theorem dL_law_157 : decode cL_law 157 = .ok ((.aload_n 0), 1) := by decide +kernel
theorem dL_law_158 : decode cL_law 158 = .ok ((.iload 4), 2) := by decide +kernel
theorem dL_law_160 : decode cL_law 160 = .ok ((.iconst 1), 1) := by decide +kernel
theorem dL_law_161 : decode cL_law 161 = .ok (.iadd, 1) := by decide +kernel
theorem dL_law_162 : decode cL_law 162 = .ok (.iaload, 1) := by decide +kernel
theorem dL_law_163 : decode cL_law 163 = .ok ((.aload_n 0), 1) := by decide +kernel
theorem dL_law_164 : decode cL_law 164 = .ok ((.iload 4), 2) := by decide +kernel
theorem dL_law_166 : decode cL_law 166 = .ok ((.iconst 2), 1) := by decide +kernel
theorem dL_law_167 : decode cL_law 167 = .ok (.iadd, 1) := by decide +kernel
theorem dL_law_168 : decode cL_law 168 = .ok (.iaload, 1) := by decide +kernel
theorem dL_law_169 : decode cL_law 169 = .ok ((.aload_n 3), 1) := by decide +kernel
theorem dL_law_170 : decode cL_law 170 = .ok ((.invokestatic 57), 3) := by decide +kernel
theorem dL_law_173 : decode cL_law 173 = .ok ((.istore 5), 2) := by decide +kernel
theorem dL_law_175 : decode cL_law 175 = .ok ((.aload_n 2), 1) := by decide +kernel
theorem dL_law_176 : decode cL_law 176 = .ok ((.aload_n 0), 1) := by decide +kernel
theorem dL_law_177 : decode cL_law 177 = .ok ((.iload 4), 2) := by decide +kernel
theorem dL_law_179 : decode cL_law 179 = .ok ((.iconst 1), 1) := by decide +kernel
theorem dL_law_180 : decode cL_law 180 = .ok (.iadd, 1) := by decide +kernel
theorem dL_law_181 : decode cL_law 181 = .ok (.iaload, 1) := by decide +kernel
theorem dL_law_182 : decode cL_law 182 = .ok ((.aload_n 0), 1) := by decide +kernel
theorem dL_law_183 : decode cL_law 183 = .ok ((.iload 4), 2) := by decide +kernel
theorem dL_law_185 : decode cL_law 185 = .ok ((.iconst 2), 1) := by decide +kernel
theorem dL_law_186 : decode cL_law 186 = .ok (.iadd, 1) := by decide +kernel
theorem dL_law_187 : decode cL_law 187 = .ok (.iaload, 1) := by decide +kernel
theorem dL_law_188 : decode cL_law 188 = .ok ((.invokevirtual 60), 3) := by decide +kernel
theorem dL_law_191 : decode cL_law 191 = .ok ((.istore 6), 2) := by decide +kernel
theorem dL_law_193 : decode cL_law 193 = .ok ((.aload_n 2), 1) := by decide +kernel
theorem dL_law_194 : decode cL_law 194 = .ok ((.invokevirtual 53), 3) := by decide +kernel
theorem dL_law_197 : decode cL_law 197 = .ok ((.iload 5), 2) := by decide +kernel
theorem dL_law_199 : decode cL_law 199 = .ok ((.if_icmp .eq 5), 3) := by decide +kernel
theorem dL_law_202 : decode cL_law 202 = .ok ((.iconst 0), 1) := by decide +kernel
theorem dL_law_203 : decode cL_law 203 = .ok (.ireturn, 1) := by decide +kernel
theorem dL_law_204 : decode cL_law 204 = .ok ((.iload 5), 2) := by decide +kernel
theorem dL_law_206 : decode cL_law 206 = .ok ((.ifCond .ne 15), 3) := by decide +kernel
theorem dL_law_209 : decode cL_law 209 = .ok ((.aload_n 3), 1) := by decide +kernel
theorem dL_law_210 : decode cL_law 210 = .ok ((.iconst 0), 1) := by decide +kernel
theorem dL_law_211 : decode cL_law 211 = .ok (.laload, 1) := by decide +kernel
theorem dL_law_212 : decode cL_law 212 = .ok ((.iload 6), 2) := by decide +kernel
theorem dL_law_214 : decode cL_law 214 = .ok (.i2l, 1) := by decide +kernel
theorem dL_law_215 : decode cL_law 215 = .ok (.lcmp, 1) := by decide +kernel
theorem dL_law_216 : decode cL_law 216 = .ok ((.ifCond .eq 5), 3) := by decide +kernel
theorem dL_law_219 : decode cL_law 219 = .ok ((.iconst 0), 1) := by decide +kernel
theorem dL_law_220 : decode cL_law 220 = .ok (.ireturn, 1) := by decide +kernel
theorem dL_law_221 : decode cL_law 221 = .ok ((.goto 540), 3) := by decide +kernel
theorem dL_law_224 : decode cL_law 224 = .ok ((.aload_n 1), 1) := by decide +kernel
theorem dL_law_225 : decode cL_law 225 = .ok ((.invokevirtual 61), 3) := by decide +kernel
theorem dL_law_228 : decode cL_law 228 = .ok ((.aload_n 2), 1) := by decide +kernel
theorem dL_law_229 : decode cL_law 229 = .ok ((.invokevirtual 65), 3) := by decide +kernel
theorem dL_law_232 : decode cL_law 232 = .ok ((.if_icmp .eq 529), 3) := by decide +kernel
theorem dL_law_235 : decode cL_law 235 = .ok ((.iconst 0), 1) := by decide +kernel
theorem dL_law_236 : decode cL_law 236 = .ok (.ireturn, 1) := by decide +kernel
theorem dL_law_237 : decode cL_law 237 = .ok ((.aload_n 1), 1) := by decide +kernel
theorem dL_law_238 : decode cL_law 238 = .ok ((.aload_n 0), 1) := by decide +kernel
theorem dL_law_239 : decode cL_law 239 = .ok ((.iload 4), 2) := by decide +kernel
theorem dL_law_241 : decode cL_law 241 = .ok ((.iconst 1), 1) := by decide +kernel
theorem dL_law_242 : decode cL_law 242 = .ok (.iadd, 1) := by decide +kernel
theorem dL_law_243 : decode cL_law 243 = .ok (.iaload, 1) := by decide +kernel
theorem dL_law_244 : decode cL_law 244 = .ok ((.invokevirtual 66), 3) := by decide +kernel
theorem dL_law_247 : decode cL_law 247 = .ok ((.aload_n 2), 1) := by decide +kernel
theorem dL_law_248 : decode cL_law 248 = .ok ((.aload_n 0), 1) := by decide +kernel
theorem dL_law_249 : decode cL_law 249 = .ok ((.iload 4), 2) := by decide +kernel
theorem dL_law_251 : decode cL_law 251 = .ok ((.iconst 1), 1) := by decide +kernel
theorem dL_law_252 : decode cL_law 252 = .ok (.iadd, 1) := by decide +kernel
theorem dL_law_253 : decode cL_law 253 = .ok (.iaload, 1) := by decide +kernel
theorem dL_law_254 : decode cL_law 254 = .ok ((.invokevirtual 69), 3) := by decide +kernel
theorem dL_law_257 : decode cL_law 257 = .ok ((.if_icmp .eq 504), 3) := by decide +kernel
theorem dL_law_260 : decode cL_law 260 = .ok ((.iconst 0), 1) := by decide +kernel
theorem dL_law_261 : decode cL_law 261 = .ok (.ireturn, 1) := by decide +kernel
theorem dL_law_262 : decode cL_law 262 = .ok ((.aload_n 1), 1) := by decide +kernel
theorem dL_law_263 : decode cL_law 263 = .ok ((.aload_n 0), 1) := by decide +kernel
theorem dL_law_264 : decode cL_law 264 = .ok ((.iload 4), 2) := by decide +kernel
theorem dL_law_266 : decode cL_law 266 = .ok ((.iconst 1), 1) := by decide +kernel
theorem dL_law_267 : decode cL_law 267 = .ok (.iadd, 1) := by decide +kernel
theorem dL_law_268 : decode cL_law 268 = .ok (.iaload, 1) := by decide +kernel
theorem dL_law_269 : decode cL_law 269 = .ok ((.aload_n 0), 1) := by decide +kernel
theorem dL_law_270 : decode cL_law 270 = .ok ((.iload 4), 2) := by decide +kernel
theorem dL_law_272 : decode cL_law 272 = .ok ((.iconst 2), 1) := by decide +kernel
theorem dL_law_273 : decode cL_law 273 = .ok (.iadd, 1) := by decide +kernel
theorem dL_law_274 : decode cL_law 274 = .ok (.iaload, 1) := by decide +kernel
theorem dL_law_275 : decode cL_law 275 = .ok ((.aload_n 3), 1) := by decide +kernel
theorem dL_law_276 : decode cL_law 276 = .ok ((.invokestatic 70), 3) := by decide +kernel
theorem dL_law_279 : decode cL_law 279 = .ok ((.istore 5), 2) := by decide +kernel
theorem dL_law_281 : decode cL_law 281 = .ok ((.aload_n 2), 1) := by decide +kernel
theorem dL_law_282 : decode cL_law 282 = .ok ((.aload_n 0), 1) := by decide +kernel
theorem dL_law_283 : decode cL_law 283 = .ok ((.iload 4), 2) := by decide +kernel
theorem dL_law_285 : decode cL_law 285 = .ok ((.iconst 1), 1) := by decide +kernel
theorem dL_law_286 : decode cL_law 286 = .ok (.iadd, 1) := by decide +kernel
theorem dL_law_287 : decode cL_law 287 = .ok (.iaload, 1) := by decide +kernel
theorem dL_law_288 : decode cL_law 288 = .ok ((.aload_n 0), 1) := by decide +kernel
theorem dL_law_289 : decode cL_law 289 = .ok ((.iload 4), 2) := by decide +kernel
theorem dL_law_291 : decode cL_law 291 = .ok ((.iconst 2), 1) := by decide +kernel
theorem dL_law_292 : decode cL_law 292 = .ok (.iadd, 1) := by decide +kernel
theorem dL_law_293 : decode cL_law 293 = .ok (.iaload, 1) := by decide +kernel
theorem dL_law_294 : decode cL_law 294 = .ok ((.invokevirtual 72), 3) := by decide +kernel
theorem dL_law_297 : decode cL_law 297 = .ok ((.istore 6), 2) := by decide +kernel
theorem dL_law_299 : decode cL_law 299 = .ok ((.aload_n 2), 1) := by decide +kernel
theorem dL_law_300 : decode cL_law 300 = .ok ((.invokevirtual 53), 3) := by decide +kernel
theorem dL_law_303 : decode cL_law 303 = .ok ((.iload 5), 2) := by decide +kernel
theorem dL_law_305 : decode cL_law 305 = .ok ((.if_icmp .eq 5), 3) := by decide +kernel
theorem dL_law_308 : decode cL_law 308 = .ok ((.iconst 0), 1) := by decide +kernel
theorem dL_law_309 : decode cL_law 309 = .ok (.ireturn, 1) := by decide +kernel
theorem dL_law_310 : decode cL_law 310 = .ok ((.iload 5), 2) := by decide +kernel
theorem dL_law_312 : decode cL_law 312 = .ok ((.ifCond .ne 15), 3) := by decide +kernel
theorem dL_law_315 : decode cL_law 315 = .ok ((.aload_n 3), 1) := by decide +kernel
theorem dL_law_316 : decode cL_law 316 = .ok ((.iconst 0), 1) := by decide +kernel
theorem dL_law_317 : decode cL_law 317 = .ok (.laload, 1) := by decide +kernel
theorem dL_law_318 : decode cL_law 318 = .ok ((.iload 6), 2) := by decide +kernel
theorem dL_law_320 : decode cL_law 320 = .ok (.i2l, 1) := by decide +kernel
theorem dL_law_321 : decode cL_law 321 = .ok (.lcmp, 1) := by decide +kernel
theorem dL_law_322 : decode cL_law 322 = .ok ((.ifCond .eq 5), 3) := by decide +kernel
theorem dL_law_325 : decode cL_law 325 = .ok ((.iconst 0), 1) := by decide +kernel
theorem dL_law_326 : decode cL_law 326 = .ok (.ireturn, 1) := by decide +kernel
theorem dL_law_327 : decode cL_law 327 = .ok ((.goto 434), 3) := by decide +kernel
theorem dL_law_330 : decode cL_law 330 = .ok ((.aload_n 1), 1) := by decide +kernel
theorem dL_law_331 : decode cL_law 331 = .ok ((.aload_n 0), 1) := by decide +kernel
theorem dL_law_332 : decode cL_law 332 = .ok ((.iload 4), 2) := by decide +kernel
theorem dL_law_334 : decode cL_law 334 = .ok ((.iconst 1), 1) := by decide +kernel
theorem dL_law_335 : decode cL_law 335 = .ok (.iadd, 1) := by decide +kernel
theorem dL_law_336 : decode cL_law 336 = .ok (.iaload, 1) := by decide +kernel
theorem dL_law_337 : decode cL_law 337 = .ok ((.aload_n 3), 1) := by decide +kernel
theorem dL_law_338 : decode cL_law 338 = .ok ((.invokestatic 73), 3) := by decide +kernel
theorem dL_law_341 : decode cL_law 341 = .ok ((.istore 5), 2) := by decide +kernel
theorem dL_law_343 : decode cL_law 343 = .ok ((.aload_n 2), 1) := by decide +kernel
theorem dL_law_344 : decode cL_law 344 = .ok ((.aload_n 0), 1) := by decide +kernel
theorem dL_law_345 : decode cL_law 345 = .ok ((.iload 4), 2) := by decide +kernel
theorem dL_law_347 : decode cL_law 347 = .ok ((.iconst 1), 1) := by decide +kernel
theorem dL_law_348 : decode cL_law 348 = .ok (.iadd, 1) := by decide +kernel
theorem dL_law_349 : decode cL_law 349 = .ok (.iaload, 1) := by decide +kernel
theorem dL_law_350 : decode cL_law 350 = .ok ((.invokevirtual 76), 3) := by decide +kernel
theorem dL_law_353 : decode cL_law 353 = .ok ((.istore 6), 2) := by decide +kernel
theorem dL_law_355 : decode cL_law 355 = .ok ((.aload_n 2), 1) := by decide +kernel
theorem dL_law_356 : decode cL_law 356 = .ok ((.invokevirtual 53), 3) := by decide +kernel
theorem dL_law_359 : decode cL_law 359 = .ok ((.iload 5), 2) := by decide +kernel
theorem dL_law_361 : decode cL_law 361 = .ok ((.if_icmp .eq 5), 3) := by decide +kernel
theorem dL_law_364 : decode cL_law 364 = .ok ((.iconst 0), 1) := by decide +kernel
theorem dL_law_365 : decode cL_law 365 = .ok (.ireturn, 1) := by decide +kernel
theorem dL_law_366 : decode cL_law 366 = .ok ((.iload 5), 2) := by decide +kernel
theorem dL_law_368 : decode cL_law 368 = .ok ((.ifCond .ne 15), 3) := by decide +kernel
theorem dL_law_371 : decode cL_law 371 = .ok ((.aload_n 3), 1) := by decide +kernel
theorem dL_law_372 : decode cL_law 372 = .ok ((.iconst 0), 1) := by decide +kernel
theorem dL_law_373 : decode cL_law 373 = .ok (.laload, 1) := by decide +kernel
theorem dL_law_374 : decode cL_law 374 = .ok ((.iload 6), 2) := by decide +kernel
theorem dL_law_376 : decode cL_law 376 = .ok (.i2l, 1) := by decide +kernel
theorem dL_law_377 : decode cL_law 377 = .ok (.lcmp, 1) := by decide +kernel
theorem dL_law_378 : decode cL_law 378 = .ok ((.ifCond .eq 5), 3) := by decide +kernel
theorem dL_law_381 : decode cL_law 381 = .ok ((.iconst 0), 1) := by decide +kernel
theorem dL_law_382 : decode cL_law 382 = .ok (.ireturn, 1) := by decide +kernel
theorem dL_law_383 : decode cL_law 383 = .ok ((.goto 378), 3) := by decide +kernel
theorem dL_law_386 : decode cL_law 386 = .ok ((.aload_n 1), 1) := by decide +kernel
theorem dL_law_387 : decode cL_law 387 = .ok ((.invokevirtual 77), 3) := by decide +kernel
theorem dL_law_390 : decode cL_law 390 = .ok ((.aload_n 2), 1) := by decide +kernel
theorem dL_law_391 : decode cL_law 391 = .ok ((.invokevirtual 80), 3) := by decide +kernel
theorem dL_law_394 : decode cL_law 394 = .ok ((.if_icmp .eq 367), 3) := by decide +kernel
theorem dL_law_397 : decode cL_law 397 = .ok ((.iconst 0), 1) := by decide +kernel
theorem dL_law_398 : decode cL_law 398 = .ok (.ireturn, 1) := by decide +kernel
theorem dL_law_399 : decode cL_law 399 = .ok ((.aload_n 1), 1) := by decide +kernel
theorem dL_law_400 : decode cL_law 400 = .ok ((.invokevirtual 81), 3) := by decide +kernel
theorem dL_law_403 : decode cL_law 403 = .ok ((.aload_n 2), 1) := by decide +kernel
theorem dL_law_404 : decode cL_law 404 = .ok ((.invokevirtual 84), 3) := by decide +kernel
theorem dL_law_407 : decode cL_law 407 = .ok ((.if_icmp .eq 354), 3) := by decide +kernel
theorem dL_law_410 : decode cL_law 410 = .ok ((.iconst 0), 1) := by decide +kernel
theorem dL_law_411 : decode cL_law 411 = .ok (.ireturn, 1) := by decide +kernel
theorem dL_law_412 : decode cL_law 412 = .ok ((.aload_n 1), 1) := by decide +kernel
theorem dL_law_413 : decode cL_law 413 = .ok ((.invokevirtual 85), 3) := by decide +kernel
theorem dL_law_416 : decode cL_law 416 = .ok ((.aload_n 2), 1) := by decide +kernel
theorem dL_law_417 : decode cL_law 417 = .ok ((.invokevirtual 88), 3) := by decide +kernel
theorem dL_law_420 : decode cL_law 420 = .ok ((.if_icmp .eq 341), 3) := by decide +kernel
theorem dL_law_423 : decode cL_law 423 = .ok ((.iconst 0), 1) := by decide +kernel
theorem dL_law_424 : decode cL_law 424 = .ok (.ireturn, 1) := by decide +kernel
theorem dL_law_425 : decode cL_law 425 = .ok ((.aload_n 1), 1) := by decide +kernel
theorem dL_law_426 : decode cL_law 426 = .ok ((.invokevirtual 89), 3) := by decide +kernel
theorem dL_law_429 : decode cL_law 429 = .ok ((.aload_n 2), 1) := by decide +kernel
theorem dL_law_430 : decode cL_law 430 = .ok ((.invokevirtual 92), 3) := by decide +kernel
theorem dL_law_433 : decode cL_law 433 = .ok ((.if_icmp .eq 328), 3) := by decide +kernel
theorem dL_law_436 : decode cL_law 436 = .ok ((.iconst 0), 1) := by decide +kernel
theorem dL_law_437 : decode cL_law 437 = .ok (.ireturn, 1) := by decide +kernel
theorem dL_law_438 : decode cL_law 438 = .ok ((.aload_n 1), 1) := by decide +kernel
theorem dL_law_439 : decode cL_law 439 = .ok ((.aload_n 0), 1) := by decide +kernel
theorem dL_law_440 : decode cL_law 440 = .ok ((.iload 4), 2) := by decide +kernel
theorem dL_law_442 : decode cL_law 442 = .ok ((.iconst 1), 1) := by decide +kernel
theorem dL_law_443 : decode cL_law 443 = .ok (.iadd, 1) := by decide +kernel
theorem dL_law_444 : decode cL_law 444 = .ok (.iaload, 1) := by decide +kernel
theorem dL_law_445 : decode cL_law 445 = .ok ((.aload_n 0), 1) := by decide +kernel
theorem dL_law_446 : decode cL_law 446 = .ok ((.iload 4), 2) := by decide +kernel
theorem dL_law_448 : decode cL_law 448 = .ok ((.iconst 2), 1) := by decide +kernel
theorem dL_law_449 : decode cL_law 449 = .ok (.iadd, 1) := by decide +kernel
theorem dL_law_450 : decode cL_law 450 = .ok (.iaload, 1) := by decide +kernel
theorem dL_law_451 : decode cL_law 451 = .ok ((.aload_n 3), 1) := by decide +kernel
theorem dL_law_452 : decode cL_law 452 = .ok ((.invokestatic 93), 3) := by decide +kernel
theorem dL_law_455 : decode cL_law 455 = .ok ((.istore 5), 2) := by decide +kernel
theorem dL_law_457 : decode cL_law 457 = .ok ((.aload_n 2), 1) := by decide +kernel
theorem dL_law_458 : decode cL_law 458 = .ok ((.aload_n 0), 1) := by decide +kernel
theorem dL_law_459 : decode cL_law 459 = .ok ((.iload 4), 2) := by decide +kernel
theorem dL_law_461 : decode cL_law 461 = .ok ((.iconst 1), 1) := by decide +kernel
theorem dL_law_462 : decode cL_law 462 = .ok (.iadd, 1) := by decide +kernel
theorem dL_law_463 : decode cL_law 463 = .ok (.iaload, 1) := by decide +kernel
theorem dL_law_464 : decode cL_law 464 = .ok ((.aload_n 0), 1) := by decide +kernel
theorem dL_law_465 : decode cL_law 465 = .ok ((.iload 4), 2) := by decide +kernel
theorem dL_law_467 : decode cL_law 467 = .ok ((.iconst 2), 1) := by decide +kernel
theorem dL_law_468 : decode cL_law 468 = .ok (.iadd, 1) := by decide +kernel
theorem dL_law_469 : decode cL_law 469 = .ok (.iaload, 1) := by decide +kernel
theorem dL_law_470 : decode cL_law 470 = .ok ((.invokevirtual 95), 3) := by decide +kernel
theorem dL_law_473 : decode cL_law 473 = .ok ((.istore 6), 2) := by decide +kernel
theorem dL_law_475 : decode cL_law 475 = .ok ((.aload_n 2), 1) := by decide +kernel
theorem dL_law_476 : decode cL_law 476 = .ok ((.invokevirtual 53), 3) := by decide +kernel
theorem dL_law_479 : decode cL_law 479 = .ok ((.iload 5), 2) := by decide +kernel
theorem dL_law_481 : decode cL_law 481 = .ok ((.if_icmp .eq 5), 3) := by decide +kernel
theorem dL_law_484 : decode cL_law 484 = .ok ((.iconst 0), 1) := by decide +kernel
theorem dL_law_485 : decode cL_law 485 = .ok (.ireturn, 1) := by decide +kernel
theorem dL_law_486 : decode cL_law 486 = .ok ((.iload 5), 2) := by decide +kernel
theorem dL_law_488 : decode cL_law 488 = .ok ((.ifCond .ne 15), 3) := by decide +kernel
theorem dL_law_491 : decode cL_law 491 = .ok ((.aload_n 3), 1) := by decide +kernel
theorem dL_law_492 : decode cL_law 492 = .ok ((.iconst 0), 1) := by decide +kernel
theorem dL_law_493 : decode cL_law 493 = .ok (.laload, 1) := by decide +kernel
theorem dL_law_494 : decode cL_law 494 = .ok ((.iload 6), 2) := by decide +kernel
theorem dL_law_496 : decode cL_law 496 = .ok (.i2l, 1) := by decide +kernel
theorem dL_law_497 : decode cL_law 497 = .ok (.lcmp, 1) := by decide +kernel
theorem dL_law_498 : decode cL_law 498 = .ok ((.ifCond .eq 5), 3) := by decide +kernel
theorem dL_law_501 : decode cL_law 501 = .ok ((.iconst 0), 1) := by decide +kernel
theorem dL_law_502 : decode cL_law 502 = .ok (.ireturn, 1) := by decide +kernel
theorem dL_law_503 : decode cL_law 503 = .ok ((.goto 258), 3) := by decide +kernel
theorem dL_law_506 : decode cL_law 506 = .ok ((.aload_n 1), 1) := by decide +kernel
theorem dL_law_507 : decode cL_law 507 = .ok ((.invokevirtual 96), 3) := by decide +kernel
theorem dL_law_510 : decode cL_law 510 = .ok ((.aload_n 2), 1) := by decide +kernel
theorem dL_law_511 : decode cL_law 511 = .ok ((.invokevirtual 99), 3) := by decide +kernel
theorem dL_law_514 : decode cL_law 514 = .ok ((.if_icmp .eq 247), 3) := by decide +kernel
theorem dL_law_517 : decode cL_law 517 = .ok ((.iconst 0), 1) := by decide +kernel
theorem dL_law_518 : decode cL_law 518 = .ok (.ireturn, 1) := by decide +kernel
theorem dL_law_519 : decode cL_law 519 = .ok ((.aload_n 1), 1) := by decide +kernel
theorem dL_law_520 : decode cL_law 520 = .ok ((.aload_n 0), 1) := by decide +kernel
theorem dL_law_521 : decode cL_law 521 = .ok ((.iload 4), 2) := by decide +kernel
theorem dL_law_523 : decode cL_law 523 = .ok ((.iconst 1), 1) := by decide +kernel
theorem dL_law_524 : decode cL_law 524 = .ok (.iadd, 1) := by decide +kernel
theorem dL_law_525 : decode cL_law 525 = .ok (.iaload, 1) := by decide +kernel
theorem dL_law_526 : decode cL_law 526 = .ok ((.aload_n 0), 1) := by decide +kernel
theorem dL_law_527 : decode cL_law 527 = .ok ((.iload 4), 2) := by decide +kernel
theorem dL_law_529 : decode cL_law 529 = .ok ((.iconst 2), 1) := by decide +kernel
theorem dL_law_530 : decode cL_law 530 = .ok (.iadd, 1) := by decide +kernel
theorem dL_law_531 : decode cL_law 531 = .ok (.iaload, 1) := by decide +kernel
theorem dL_law_532 : decode cL_law 532 = .ok ((.aload_n 0), 1) := by decide +kernel
theorem dL_law_533 : decode cL_law 533 = .ok ((.iload 4), 2) := by decide +kernel
theorem dL_law_535 : decode cL_law 535 = .ok ((.iconst 3), 1) := by decide +kernel
theorem dL_law_536 : decode cL_law 536 = .ok (.iadd, 1) := by decide +kernel
theorem dL_law_537 : decode cL_law 537 = .ok (.iaload, 1) := by decide +kernel
theorem dL_law_538 : decode cL_law 538 = .ok ((.aload_n 3), 1) := by decide +kernel
theorem dL_law_539 : decode cL_law 539 = .ok ((.invokestatic 100), 3) := by decide +kernel
theorem dL_law_542 : decode cL_law 542 = .ok ((.istore 5), 2) := by decide +kernel
theorem dL_law_544 : decode cL_law 544 = .ok ((.aload_n 2), 1) := by decide +kernel
theorem dL_law_545 : decode cL_law 545 = .ok ((.aload_n 0), 1) := by decide +kernel
theorem dL_law_546 : decode cL_law 546 = .ok ((.iload 4), 2) := by decide +kernel
theorem dL_law_548 : decode cL_law 548 = .ok ((.iconst 1), 1) := by decide +kernel
theorem dL_law_549 : decode cL_law 549 = .ok (.iadd, 1) := by decide +kernel
theorem dL_law_550 : decode cL_law 550 = .ok (.iaload, 1) := by decide +kernel
theorem dL_law_551 : decode cL_law 551 = .ok ((.aload_n 0), 1) := by decide +kernel
theorem dL_law_552 : decode cL_law 552 = .ok ((.iload 4), 2) := by decide +kernel
theorem dL_law_554 : decode cL_law 554 = .ok ((.iconst 2), 1) := by decide +kernel
theorem dL_law_555 : decode cL_law 555 = .ok (.iadd, 1) := by decide +kernel
theorem dL_law_556 : decode cL_law 556 = .ok (.iaload, 1) := by decide +kernel
theorem dL_law_557 : decode cL_law 557 = .ok ((.aload_n 0), 1) := by decide +kernel
theorem dL_law_558 : decode cL_law 558 = .ok ((.iload 4), 2) := by decide +kernel
theorem dL_law_560 : decode cL_law 560 = .ok ((.iconst 3), 1) := by decide +kernel
theorem dL_law_561 : decode cL_law 561 = .ok (.iadd, 1) := by decide +kernel
theorem dL_law_562 : decode cL_law 562 = .ok (.iaload, 1) := by decide +kernel
theorem dL_law_563 : decode cL_law 563 = .ok ((.invokevirtual 103), 3) := by decide +kernel
theorem dL_law_566 : decode cL_law 566 = .ok ((.istore 6), 2) := by decide +kernel
theorem dL_law_568 : decode cL_law 568 = .ok ((.aload_n 2), 1) := by decide +kernel
theorem dL_law_569 : decode cL_law 569 = .ok ((.invokevirtual 53), 3) := by decide +kernel
theorem dL_law_572 : decode cL_law 572 = .ok ((.iload 5), 2) := by decide +kernel
theorem dL_law_574 : decode cL_law 574 = .ok ((.if_icmp .eq 5), 3) := by decide +kernel
theorem dL_law_577 : decode cL_law 577 = .ok ((.iconst 0), 1) := by decide +kernel
theorem dL_law_578 : decode cL_law 578 = .ok (.ireturn, 1) := by decide +kernel
theorem dL_law_579 : decode cL_law 579 = .ok ((.iload 5), 2) := by decide +kernel
theorem dL_law_581 : decode cL_law 581 = .ok ((.ifCond .ne 15), 3) := by decide +kernel
theorem dL_law_584 : decode cL_law 584 = .ok ((.aload_n 3), 1) := by decide +kernel
theorem dL_law_585 : decode cL_law 585 = .ok ((.iconst 0), 1) := by decide +kernel
theorem dL_law_586 : decode cL_law 586 = .ok (.laload, 1) := by decide +kernel
theorem dL_law_587 : decode cL_law 587 = .ok ((.iload 6), 2) := by decide +kernel
theorem dL_law_589 : decode cL_law 589 = .ok (.i2l, 1) := by decide +kernel
theorem dL_law_590 : decode cL_law 590 = .ok (.lcmp, 1) := by decide +kernel
theorem dL_law_591 : decode cL_law 591 = .ok ((.ifCond .eq 5), 3) := by decide +kernel
theorem dL_law_594 : decode cL_law 594 = .ok ((.iconst 0), 1) := by decide +kernel
theorem dL_law_595 : decode cL_law 595 = .ok (.ireturn, 1) := by decide +kernel
theorem dL_law_596 : decode cL_law 596 = .ok ((.goto 165), 3) := by decide +kernel
theorem dL_law_599 : decode cL_law 599 = .ok ((.aload_n 1), 1) := by decide +kernel
theorem dL_law_600 : decode cL_law 600 = .ok ((.aload_n 0), 1) := by decide +kernel
theorem dL_law_601 : decode cL_law 601 = .ok ((.iload 4), 2) := by decide +kernel
theorem dL_law_603 : decode cL_law 603 = .ok ((.iconst 1), 1) := by decide +kernel
theorem dL_law_604 : decode cL_law 604 = .ok (.iadd, 1) := by decide +kernel
theorem dL_law_605 : decode cL_law 605 = .ok (.iaload, 1) := by decide +kernel
theorem dL_law_606 : decode cL_law 606 = .ok ((.aload_n 0), 1) := by decide +kernel
theorem dL_law_607 : decode cL_law 607 = .ok ((.iload 4), 2) := by decide +kernel
theorem dL_law_609 : decode cL_law 609 = .ok ((.iconst 2), 1) := by decide +kernel
theorem dL_law_610 : decode cL_law 610 = .ok (.iadd, 1) := by decide +kernel
theorem dL_law_611 : decode cL_law 611 = .ok (.iaload, 1) := by decide +kernel
theorem dL_law_612 : decode cL_law 612 = .ok ((.aload_n 0), 1) := by decide +kernel
theorem dL_law_613 : decode cL_law 613 = .ok ((.iload 4), 2) := by decide +kernel
theorem dL_law_615 : decode cL_law 615 = .ok ((.iconst 3), 1) := by decide +kernel
theorem dL_law_616 : decode cL_law 616 = .ok (.iadd, 1) := by decide +kernel
theorem dL_law_617 : decode cL_law 617 = .ok (.iaload, 1) := by decide +kernel
theorem dL_law_618 : decode cL_law 618 = .ok ((.aload_n 3), 1) := by decide +kernel
theorem dL_law_619 : decode cL_law 619 = .ok ((.invokestatic 104), 3) := by decide +kernel
theorem dL_law_622 : decode cL_law 622 = .ok ((.istore 5), 2) := by decide +kernel
theorem dL_law_624 : decode cL_law 624 = .ok ((.aload_n 2), 1) := by decide +kernel
theorem dL_law_625 : decode cL_law 625 = .ok ((.aload_n 0), 1) := by decide +kernel
theorem dL_law_626 : decode cL_law 626 = .ok ((.iload 4), 2) := by decide +kernel
theorem dL_law_628 : decode cL_law 628 = .ok ((.iconst 1), 1) := by decide +kernel
theorem dL_law_629 : decode cL_law 629 = .ok (.iadd, 1) := by decide +kernel
theorem dL_law_630 : decode cL_law 630 = .ok (.iaload, 1) := by decide +kernel
theorem dL_law_631 : decode cL_law 631 = .ok ((.aload_n 0), 1) := by decide +kernel
theorem dL_law_632 : decode cL_law 632 = .ok ((.iload 4), 2) := by decide +kernel
theorem dL_law_634 : decode cL_law 634 = .ok ((.iconst 2), 1) := by decide +kernel
theorem dL_law_635 : decode cL_law 635 = .ok (.iadd, 1) := by decide +kernel
theorem dL_law_636 : decode cL_law 636 = .ok (.iaload, 1) := by decide +kernel
theorem dL_law_637 : decode cL_law 637 = .ok ((.aload_n 0), 1) := by decide +kernel
theorem dL_law_638 : decode cL_law 638 = .ok ((.iload 4), 2) := by decide +kernel
theorem dL_law_640 : decode cL_law 640 = .ok ((.iconst 3), 1) := by decide +kernel
theorem dL_law_641 : decode cL_law 641 = .ok (.iadd, 1) := by decide +kernel
theorem dL_law_642 : decode cL_law 642 = .ok (.iaload, 1) := by decide +kernel
theorem dL_law_643 : decode cL_law 643 = .ok ((.invokevirtual 106), 3) := by decide +kernel
theorem dL_law_646 : decode cL_law 646 = .ok ((.istore 6), 2) := by decide +kernel
theorem dL_law_648 : decode cL_law 648 = .ok ((.aload_n 2), 1) := by decide +kernel
theorem dL_law_649 : decode cL_law 649 = .ok ((.invokevirtual 53), 3) := by decide +kernel
theorem dL_law_652 : decode cL_law 652 = .ok ((.iload 5), 2) := by decide +kernel
theorem dL_law_654 : decode cL_law 654 = .ok ((.if_icmp .eq 5), 3) := by decide +kernel
theorem dL_law_657 : decode cL_law 657 = .ok ((.iconst 0), 1) := by decide +kernel
theorem dL_law_658 : decode cL_law 658 = .ok (.ireturn, 1) := by decide +kernel
theorem dL_law_659 : decode cL_law 659 = .ok ((.iload 5), 2) := by decide +kernel
theorem dL_law_661 : decode cL_law 661 = .ok ((.ifCond .ne 15), 3) := by decide +kernel
theorem dL_law_664 : decode cL_law 664 = .ok ((.aload_n 3), 1) := by decide +kernel
theorem dL_law_665 : decode cL_law 665 = .ok ((.iconst 0), 1) := by decide +kernel
theorem dL_law_666 : decode cL_law 666 = .ok (.laload, 1) := by decide +kernel
theorem dL_law_667 : decode cL_law 667 = .ok ((.iload 6), 2) := by decide +kernel
theorem dL_law_669 : decode cL_law 669 = .ok (.i2l, 1) := by decide +kernel
theorem dL_law_670 : decode cL_law 670 = .ok (.lcmp, 1) := by decide +kernel
theorem dL_law_671 : decode cL_law 671 = .ok ((.ifCond .eq 5), 3) := by decide +kernel
theorem dL_law_674 : decode cL_law 674 = .ok ((.iconst 0), 1) := by decide +kernel
theorem dL_law_675 : decode cL_law 675 = .ok (.ireturn, 1) := by decide +kernel
theorem dL_law_676 : decode cL_law 676 = .ok ((.goto 85), 3) := by decide +kernel
theorem dL_law_679 : decode cL_law 679 = .ok ((.aload_n 1), 1) := by decide +kernel
theorem dL_law_680 : decode cL_law 680 = .ok ((.invokevirtual 107), 3) := by decide +kernel
theorem dL_law_683 : decode cL_law 683 = .ok ((.aload_n 2), 1) := by decide +kernel
theorem dL_law_684 : decode cL_law 684 = .ok ((.invokevirtual 110), 3) := by decide +kernel
theorem dL_law_687 : decode cL_law 687 = .ok ((.if_icmp .eq 74), 3) := by decide +kernel
theorem dL_law_690 : decode cL_law 690 = .ok ((.iconst 0), 1) := by decide +kernel
theorem dL_law_691 : decode cL_law 691 = .ok (.ireturn, 1) := by decide +kernel
theorem dL_law_692 : decode cL_law 692 = .ok ((.aload_n 1), 1) := by decide +kernel
theorem dL_law_693 : decode cL_law 693 = .ok ((.aload_n 0), 1) := by decide +kernel
theorem dL_law_694 : decode cL_law 694 = .ok ((.iload 4), 2) := by decide +kernel
theorem dL_law_696 : decode cL_law 696 = .ok ((.iconst 1), 1) := by decide +kernel
theorem dL_law_697 : decode cL_law 697 = .ok (.iadd, 1) := by decide +kernel
theorem dL_law_698 : decode cL_law 698 = .ok (.iaload, 1) := by decide +kernel
theorem dL_law_699 : decode cL_law 699 = .ok ((.aload_n 3), 1) := by decide +kernel
theorem dL_law_700 : decode cL_law 700 = .ok ((.invokestatic 111), 3) := by decide +kernel
theorem dL_law_703 : decode cL_law 703 = .ok ((.istore 5), 2) := by decide +kernel
theorem dL_law_705 : decode cL_law 705 = .ok ((.aload_n 2), 1) := by decide +kernel
theorem dL_law_706 : decode cL_law 706 = .ok ((.aload_n 0), 1) := by decide +kernel
theorem dL_law_707 : decode cL_law 707 = .ok ((.iload 4), 2) := by decide +kernel
theorem dL_law_709 : decode cL_law 709 = .ok ((.iconst 1), 1) := by decide +kernel
theorem dL_law_710 : decode cL_law 710 = .ok (.iadd, 1) := by decide +kernel
theorem dL_law_711 : decode cL_law 711 = .ok (.iaload, 1) := by decide +kernel
theorem dL_law_712 : decode cL_law 712 = .ok ((.invokevirtual 113), 3) := by decide +kernel
theorem dL_law_715 : decode cL_law 715 = .ok ((.istore 6), 2) := by decide +kernel
theorem dL_law_717 : decode cL_law 717 = .ok ((.aload_n 2), 1) := by decide +kernel
theorem dL_law_718 : decode cL_law 718 = .ok ((.invokevirtual 53), 3) := by decide +kernel
theorem dL_law_721 : decode cL_law 721 = .ok ((.iload 5), 2) := by decide +kernel
theorem dL_law_723 : decode cL_law 723 = .ok ((.if_icmp .eq 5), 3) := by decide +kernel
theorem dL_law_726 : decode cL_law 726 = .ok ((.iconst 0), 1) := by decide +kernel
theorem dL_law_727 : decode cL_law 727 = .ok (.ireturn, 1) := by decide +kernel
theorem dL_law_728 : decode cL_law 728 = .ok ((.iload 5), 2) := by decide +kernel
theorem dL_law_730 : decode cL_law 730 = .ok ((.ifCond .ne 15), 3) := by decide +kernel
theorem dL_law_733 : decode cL_law 733 = .ok ((.aload_n 3), 1) := by decide +kernel
theorem dL_law_734 : decode cL_law 734 = .ok ((.iconst 0), 1) := by decide +kernel
theorem dL_law_735 : decode cL_law 735 = .ok (.laload, 1) := by decide +kernel
theorem dL_law_736 : decode cL_law 736 = .ok ((.iload 6), 2) := by decide +kernel
theorem dL_law_738 : decode cL_law 738 = .ok (.i2l, 1) := by decide +kernel
theorem dL_law_739 : decode cL_law 739 = .ok (.lcmp, 1) := by decide +kernel
theorem dL_law_740 : decode cL_law 740 = .ok ((.ifCond .eq 5), 3) := by decide +kernel
theorem dL_law_743 : decode cL_law 743 = .ok ((.iconst 0), 1) := by decide +kernel
theorem dL_law_744 : decode cL_law 744 = .ok (.ireturn, 1) := by decide +kernel
theorem dL_law_745 : decode cL_law 745 = .ok ((.goto 16), 3) := by decide +kernel
theorem dL_law_748 : decode cL_law 748 = .ok ((.aload_n 1), 1) := by decide +kernel
theorem dL_law_749 : decode cL_law 749 = .ok ((.invokevirtual 114), 3) := by decide +kernel
theorem dL_law_752 : decode cL_law 752 = .ok ((.aload_n 2), 1) := by decide +kernel
theorem dL_law_753 : decode cL_law 753 = .ok ((.invokevirtual 117), 3) := by decide +kernel
theorem dL_law_756 : decode cL_law 756 = .ok ((.if_icmp .eq 5), 3) := by decide +kernel
theorem dL_law_759 : decode cL_law 759 = .ok ((.iconst 0), 1) := by decide +kernel
theorem dL_law_760 : decode cL_law 760 = .ok (.ireturn, 1) := by decide +kernel
theorem dL_law_761 : decode cL_law 761 = .ok ((.iinc 4 4), 3) := by decide +kernel
theorem dL_law_764 : decode cL_law 764 = .ok ((.goto (-741)), 3) := by decide +kernel
theorem dL_law_767 : decode cL_law 767 = .ok ((.iconst 1), 1) := by decide +kernel
theorem dL_law_768 : decode cL_law 768 = .ok (.ireturn, 1) := by decide +kernel
