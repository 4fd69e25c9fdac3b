theorem dJA_copyOf_0 : decode cJA_copyOf 0 = .ok ((.iload_n 1), 1) := by decide +kernel
theorem dJA_copyOf_1 : decode cJA_copyOf 1 = .ok ((.aload_n 0), 1) := by decide +kernel
theorem dJA_copyOf_2 : decode cJA_copyOf 2 = .ok (.arraylength, 1) := by decide +kernel
theorem dJA_copyOf_3 : decode cJA_copyOf 3 = .ok ((.if_icmp .ne 11), 3) := by decide +kernel
theorem dJA_copyOf_6 : decode cJA_copyOf 6 = .ok ((.aload_n 0), 1) := by decide +kernel
theorem dJA_copyOf_7 : decode cJA_copyOf 7 = .ok ((.invokevirtual 316), 3) := by decide +kernel
theorem dJA_copyOf_10 : decode cJA_copyOf 10 = .ok ((.checkcast 317), 3) := by decide +kernel
theorem dJA_copyOf_13 : decode cJA_copyOf 13 = .ok (.areturn, 1) := by decide +kernel
theorem dJA_copyOf_14 : decode cJA_copyOf 14 = .ok ((.iload_n 1), 1) := by decide +kernel
theorem dJA_copyOf_15 : decode cJA_copyOf 15 = .ok ((.newarray .int), 2) := by decide +kernel
theorem dJA_copyOf_17 : decode cJA_copyOf 17 = .ok ((.astore_n 2), 1) := by decide +kernel
theorem dJA_copyOf_18 : decode cJA_copyOf 18 = .ok ((.aload_n 0), 1) := by decide +kernel
theorem dJA_copyOf_19 : decode cJA_copyOf 19 = .ok ((.iconst 0), 1) := by decide +kernel
theorem dJA_copyOf_20 : decode cJA_copyOf 20 = .ok ((.aload_n 2), 1) := by decide +kernel
theorem dJA_copyOf_21 : decode cJA_copyOf 21 = .ok ((.iconst 0), 1) := by decide +kernel
theorem dJA_copyOf_22 : decode cJA_copyOf 22 = .ok ((.aload_n 0), 1) := by decide +kernel
theorem dJA_copyOf_23 : decode cJA_copyOf 23 = .ok (.arraylength, 1) := by decide +kernel
theorem dJA_copyOf_24 : decode cJA_copyOf 24 = .ok ((.iload_n 1), 1) := by decide +kernel
theorem dJA_copyOf_25 : decode cJA_copyOf 25 = .ok ((.invokestatic 304), 3) := by decide +kernel
theorem dJA_copyOf_28 : decode cJA_copyOf 28 = .ok ((.invokestatic 150), 3) := by decide +kernel
theorem dJA_copyOf_31 : decode cJA_copyOf 31 = .ok ((.aload_n 2), 1) := by decide +kernel
theorem dJA_copyOf_32 : decode cJA_copyOf 32 = .ok (.areturn, 1) := by decide +kernel
theorem dJL_bitCount_0 : decode cJL_bitCount 0 = .ok ((.lload_n 0), 1) := by decide +kernel
theorem dJL_bitCount_1 : decode cJL_bitCount 1 = .ok ((.lload_n 0), 1) := by decide +kernel
theorem dJL_bitCount_2 : decode cJL_bitCount 2 = .ok ((.iconst 1), 1) := by decide +kernel
theorem dJL_bitCount_3 : decode cJL_bitCount 3 = .ok (.lushr, 1) := by decide +kernel
theorem dJL_bitCount_4 : decode cJL_bitCount 4 = .ok ((.ldc2_w 314), 3) := by decide +kernel
theorem dJL_bitCount_7 : decode cJL_bitCount 7 = .ok (.land, 1) := by decide +kernel
theorem dJL_bitCount_8 : decode cJL_bitCount 8 = .ok (.lsub, 1) := by decide +kernel
theorem dJL_bitCount_9 : decode cJL_bitCount 9 = .ok ((.lstore_n 0), 1) := by decide +kernel
theorem dJL_bitCount_10 : decode cJL_bitCount 10 = .ok ((.lload_n 0), 1) := by decide +kernel
theorem dJL_bitCount_11 : decode cJL_bitCount 11 = .ok ((.ldc2_w 316), 3) := by decide +kernel
theorem dJL_bitCount_14 : decode cJL_bitCount 14 = .ok (.land, 1) := by decide +kernel
theorem dJL_bitCount_15 : decode cJL_bitCount 15 = .ok ((.lload_n 0), 1) := by decide +kernel
theorem dJL_bitCount_16 : decode cJL_bitCount 16 = .ok ((.iconst 2), 1) := by decide +kernel
theorem dJL_bitCount_17 : decode cJL_bitCount 17 = .ok (.lushr, 1) := by decide +kernel
theorem dJL_bitCount_18 : decode cJL_bitCount 18 = .ok ((.ldc2_w 316), 3) := by decide +kernel
theorem dJL_bitCount_21 : decode cJL_bitCount 21 = .ok (.land, 1) := by decide +kernel
theorem dJL_bitCount_22 : decode cJL_bitCount 22 = .ok (.ladd, 1) := by decide +kernel
theorem dJL_bitCount_23 : decode cJL_bitCount 23 = .ok ((.lstore_n 0), 1) := by decide +kernel
theorem dJL_bitCount_24 : decode cJL_bitCount 24 = .ok ((.lload_n 0), 1) := by decide +kernel
theorem dJL_bitCount_25 : decode cJL_bitCount 25 = .ok ((.lload_n 0), 1) := by decide +kernel
theorem dJL_bitCount_26 : decode cJL_bitCount 26 = .ok ((.iconst 4), 1) := by decide +kernel
theorem dJL_bitCount_27 : decode cJL_bitCount 27 = .ok (.lushr, 1) := by decide +kernel
theorem dJL_bitCount_28 : decode cJL_bitCount 28 = .ok (.ladd, 1) := by decide +kernel
theorem dJL_bitCount_29 : decode cJL_bitCount 29 = .ok ((.ldc2_w 318), 3) := by decide +kernel
theorem dJL_bitCount_32 : decode cJL_bitCount 32 = .ok (.land, 1) := by decide +kernel
theorem dJL_bitCount_33 : decode cJL_bitCount 33 = .ok ((.lstore_n 0), 1) := by decide +kernel
theorem dJL_bitCount_34 : decode cJL_bitCount 34 = .ok ((.lload_n 0), 1) := by decide +kernel
theorem dJL_bitCount_35 : decode cJL_bitCount 35 = .ok ((.lload_n 0), 1) := by decide +kernel
theorem dJL_bitCount_36 : decode cJL_bitCount 36 = .ok ((.bipush 8), 2) := by decide +kernel
theorem dJL_bitCount_38 : decode cJL_bitCount 38 = .ok (.lushr, 1) := by decide +kernel
theorem dJL_bitCount_39 : decode cJL_bitCount 39 = .ok (.ladd, 1) := by decide +kernel
theorem dJL_bitCount_40 : decode cJL_bitCount 40 = .ok ((.lstore_n 0), 1) := by decide +kernel
theorem dJL_bitCount_41 : decode cJL_bitCount 41 = .ok ((.lload_n 0), 1) := by decide +kernel
theorem dJL_bitCount_42 : decode cJL_bitCount 42 = .ok ((.lload_n 0), 1) := by decide +kernel
theorem dJL_bitCount_43 : decode cJL_bitCount 43 = .ok ((.bipush 16), 2) := by decide +kernel
theorem dJL_bitCount_45 : decode cJL_bitCount 45 = .ok (.lushr, 1) := by decide +kernel
theorem dJL_bitCount_46 : decode cJL_bitCount 46 = .ok (.ladd, 1) := by decide +kernel
theorem dJL_bitCount_47 : decode cJL_bitCount 47 = .ok ((.lstore_n 0), 1) := by decide +kernel
theorem dJL_bitCount_48 : decode cJL_bitCount 48 = .ok ((.lload_n 0), 1) := by decide +kernel
theorem dJL_bitCount_49 : decode cJL_bitCount 49 = .ok ((.lload_n 0), 1) := by decide +kernel
theorem dJL_bitCount_50 : decode cJL_bitCount 50 = .ok ((.bipush 32), 2) := by decide +kernel
theorem dJL_bitCount_52 : decode cJL_bitCount 52 = .ok (.lushr, 1) := by decide +kernel
theorem dJL_bitCount_53 : decode cJL_bitCount 53 = .ok (.ladd, 1) := by decide +kernel
theorem dJL_bitCount_54 : decode cJL_bitCount 54 = .ok ((.lstore_n 0), 1) := by decide +kernel
theorem dJL_bitCount_55 : decode cJL_bitCount 55 = .ok ((.lload_n 0), 1) := by decide +kernel
theorem dJL_bitCount_56 : decode cJL_bitCount 56 = .ok (.l2i, 1) := by decide +kernel
theorem dJL_bitCount_57 : decode cJL_bitCount 57 = .ok ((.bipush 127), 2) := by decide +kernel
theorem dJL_bitCount_59 : decode cJL_bitCount 59 = .ok (.iand, 1) := by decide +kernel
theorem dJL_bitCount_60 : decode cJL_bitCount 60 = .ok (.ireturn, 1) := by decide +kernel
