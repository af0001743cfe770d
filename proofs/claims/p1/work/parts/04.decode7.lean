theorem d_Mo_hash_118 : decode prog_14_method_27_code 118 = .ok (.iload_n 2, 1) := by decide +kernel
theorem d_Mo_hash_119 : decode prog_14_method_27_code 119 = .ok (.if_icmp .ge (15), 3) := by decide +kernel
theorem d_Mo_hash_122 : decode prog_14_method_27_code 122 = .ok (.aload_n 0, 1) := by decide +kernel
theorem d_Mo_hash_123 : decode prog_14_method_27_code 123 = .ok (.iload 4, 2) := by decide +kernel
theorem d_Mo_hash_125 : decode prog_14_method_27_code 125 = .ok (.invokevirtual 247, 3) := by decide +kernel
theorem d_Mo_hash_128 : decode prog_14_method_27_code 128 = .ok (.iinc 4 (64), 3) := by decide +kernel
theorem d_Mo_hash_131 : decode prog_14_method_27_code 131 = .ok (.goto (-15), 3) := by decide +kernel
theorem d_Mo_hash_134 : decode prog_14_method_27_code 134 = .ok (.iconst 0, 1) := by decide +kernel
theorem d_Mo_hash_135 : decode prog_14_method_27_code 135 = .ok (.istore 4, 2) := by decide +kernel
theorem d_Mo_hash_137 : decode prog_14_method_27_code 137 = .ok (.iload 4, 2) := by decide +kernel
theorem d_Mo_hash_139 : decode prog_14_method_27_code 139 = .ok (.bipush (32), 2) := by decide +kernel
theorem d_Mo_hash_141 : decode prog_14_method_27_code 141 = .ok (.if_icmp .ge (34), 3) := by decide +kernel
theorem d_Mo_hash_144 : decode prog_14_method_27_code 144 = .ok (.aload_n 0, 1) := by decide +kernel
theorem d_Mo_hash_145 : decode prog_14_method_27_code 145 = .ok (.getfield 155, 3) := by decide +kernel
theorem d_Mo_hash_148 : decode prog_14_method_27_code 148 = .ok (.iload 4, 2) := by decide +kernel
theorem d_Mo_hash_150 : decode prog_14_method_27_code 150 = .ok (.aload_n 3, 1) := by decide +kernel
theorem d_Mo_hash_151 : decode prog_14_method_27_code 151 = .ok (.iload 4, 2) := by decide +kernel
theorem d_Mo_hash_153 : decode prog_14_method_27_code 153 = .ok (.iconst 4, 1) := by decide +kernel
theorem d_Mo_hash_154 : decode prog_14_method_27_code 154 = .ok (.idiv, 1) := by decide +kernel
theorem d_Mo_hash_155 : decode prog_14_method_27_code 155 = .ok (.iaload, 1) := by decide +kernel
theorem d_Mo_hash_156 : decode prog_14_method_27_code 156 = .ok (.bipush (24), 2) := by decide +kernel
theorem d_Mo_hash_158 : decode prog_14_method_27_code 158 = .ok (.bipush (8), 2) := by decide +kernel
theorem d_Mo_hash_160 : decode prog_14_method_27_code 160 = .ok (.iload 4, 2) := by decide +kernel
theorem d_Mo_hash_162 : decode prog_14_method_27_code 162 = .ok (.iconst 4, 1) := by decide +kernel
theorem d_Mo_hash_163 : decode prog_14_method_27_code 163 = .ok (.irem, 1) := by decide +kernel
theorem d_Mo_hash_164 : decode prog_14_method_27_code 164 = .ok (.imul, 1) := by decide +kernel
theorem d_Mo_hash_165 : decode prog_14_method_27_code 165 = .ok (.isub, 1) := by decide +kernel
theorem d_Mo_hash_166 : decode prog_14_method_27_code 166 = .ok (.ishr, 1) := by decide +kernel
theorem d_Mo_hash_167 : decode prog_14_method_27_code 167 = .ok (.i2b, 1) := by decide +kernel
theorem d_Mo_hash_168 : decode prog_14_method_27_code 168 = .ok (.bastore, 1) := by decide +kernel
theorem d_Mo_hash_169 : decode prog_14_method_27_code 169 = .ok (.iinc 4 (1), 3) := by decide +kernel
theorem d_Mo_hash_172 : decode prog_14_method_27_code 172 = .ok (.goto (-35), 3) := by decide +kernel
theorem d_Mo_hash_175 : decode prog_14_method_27_code 175 = .ok (.return_, 1) := by decide +kernel
theorem d_Mo_holds_0 : decode prog_14_method_63_code 0 = .ok (.aload_n 0, 1) := by decide +kernel
theorem d_Mo_holds_1 : decode prog_14_method_63_code 1 = .ok (.invokevirtual 283, 3) := by decide +kernel
theorem d_Mo_holds_4 : decode prog_14_method_63_code 4 = .ok (.istore_n 1, 1) := by decide +kernel
theorem d_Mo_holds_5 : decode prog_14_method_63_code 5 = .ok (.aload_n 0, 1) := by decide +kernel
theorem d_Mo_holds_6 : decode prog_14_method_63_code 6 = .ok (.aload_n 0, 1) := by decide +kernel
theorem d_Mo_holds_7 : decode prog_14_method_63_code 7 = .ok (.getfield 307, 3) := by decide +kernel
theorem d_Mo_holds_10 : decode prog_14_method_63_code 10 = .ok (.ifCond .ne (7), 3) := by decide +kernel
theorem d_Mo_holds_13 : decode prog_14_method_63_code 13 = .ok (.iconst 1, 1) := by decide +kernel
theorem d_Mo_holds_14 : decode prog_14_method_63_code 14 = .ok (.goto (4), 3) := by decide +kernel
theorem d_Mo_holds_18 : decode prog_14_method_63_code 18 = .ok (.iconst 1, 1) := by decide +kernel
theorem d_Mo_holds_19 : decode prog_14_method_63_code 19 = .ok (.invokevirtual 287, 3) := by decide +kernel
theorem d_Mo_holds_22 : decode prog_14_method_63_code 22 = .ok (.ifCond .ne (9), 3) := by decide +kernel
theorem d_Mo_holds_31 : decode prog_14_method_63_code 31 = .ok (.iconst 0, 1) := by decide +kernel
theorem d_Mo_holds_32 : decode prog_14_method_63_code 32 = .ok (.ireturn, 1) := by decide +kernel
theorem d_Mo_isAbove_0 : decode prog_14_method_6_code 0 = .ok (.bipush (15), 2) := by decide +kernel
theorem d_Mo_isAbove_2 : decode prog_14_method_6_code 2 = .ok (.istore_n 2, 1) := by decide +kernel
theorem d_Mo_isAbove_3 : decode prog_14_method_6_code 3 = .ok (.iload_n 2, 1) := by decide +kernel
theorem d_Mo_isAbove_4 : decode prog_14_method_6_code 4 = .ok (.ifCond .lt (57), 3) := by decide +kernel
theorem d_Mo_isAbove_7 : decode prog_14_method_6_code 7 = .ok (.aload_n 0, 1) := by decide +kernel
theorem d_Mo_isAbove_8 : decode prog_14_method_6_code 8 = .ok (.getfield 126, 3) := by decide +kernel
theorem d_Mo_isAbove_11 : decode prog_14_method_6_code 11 = .ok (.iload_n 2, 1) := by decide +kernel
theorem d_Mo_isAbove_12 : decode prog_14_method_6_code 12 = .ok (.laload, 1) := by decide +kernel
theorem d_Mo_isAbove_13 : decode prog_14_method_6_code 13 = .ok (.aload_n 0, 1) := by decide +kernel
theorem d_Mo_isAbove_14 : decode prog_14_method_6_code 14 = .ok (.getfield 122, 3) := by decide +kernel
theorem d_Mo_isAbove_17 : decode prog_14_method_6_code 17 = .ok (.bipush (16), 2) := by decide +kernel
theorem d_Mo_isAbove_19 : decode prog_14_method_6_code 19 = .ok (.iload_n 1, 1) := by decide +kernel
theorem d_Mo_isAbove_20 : decode prog_14_method_6_code 20 = .ok (.imul, 1) := by decide +kernel
theorem d_Mo_isAbove_21 : decode prog_14_method_6_code 21 = .ok (.iload_n 2, 1) := by decide +kernel
theorem d_Mo_isAbove_22 : decode prog_14_method_6_code 22 = .ok (.iadd, 1) := by decide +kernel
theorem d_Mo_isAbove_23 : decode prog_14_method_6_code 23 = .ok (.laload, 1) := by decide +kernel
theorem d_Mo_isAbove_24 : decode prog_14_method_6_code 24 = .ok (.lcmp, 1) := by decide +kernel
theorem d_Mo_isAbove_25 : decode prog_14_method_6_code 25 = .ok (.ifCond .eq (30), 3) := by decide +kernel
theorem d_Mo_isAbove_28 : decode prog_14_method_6_code 28 = .ok (.aload_n 0, 1) := by decide +kernel
theorem d_Mo_isAbove_29 : decode prog_14_method_6_code 29 = .ok (.getfield 126, 3) := by decide +kernel
theorem d_Mo_isAbove_32 : decode prog_14_method_6_code 32 = .ok (.iload_n 2, 1) := by decide +kernel
theorem d_Mo_isAbove_33 : decode prog_14_method_6_code 33 = .ok (.laload, 1) := by decide +kernel
theorem d_Mo_isAbove_34 : decode prog_14_method_6_code 34 = .ok (.aload_n 0, 1) := by decide +kernel
theorem d_Mo_isAbove_35 : decode prog_14_method_6_code 35 = .ok (.getfield 122, 3) := by decide +kernel
theorem d_Mo_isAbove_38 : decode prog_14_method_6_code 38 = .ok (.bipush (16), 2) := by decide +kernel
theorem d_Mo_isAbove_40 : decode prog_14_method_6_code 40 = .ok (.iload_n 1, 1) := by decide +kernel
theorem d_Mo_isAbove_41 : decode prog_14_method_6_code 41 = .ok (.imul, 1) := by decide +kernel
theorem d_Mo_isAbove_42 : decode prog_14_method_6_code 42 = .ok (.iload_n 2, 1) := by decide +kernel
theorem d_Mo_isAbove_43 : decode prog_14_method_6_code 43 = .ok (.iadd, 1) := by decide +kernel
theorem d_Mo_isAbove_44 : decode prog_14_method_6_code 44 = .ok (.laload, 1) := by decide +kernel
theorem d_Mo_isAbove_45 : decode prog_14_method_6_code 45 = .ok (.lcmp, 1) := by decide +kernel
theorem d_Mo_isAbove_46 : decode prog_14_method_6_code 46 = .ok (.ifCond .le (7), 3) := by decide +kernel
theorem d_Mo_isAbove_49 : decode prog_14_method_6_code 49 = .ok (.iconst 1, 1) := by decide +kernel
theorem d_Mo_isAbove_50 : decode prog_14_method_6_code 50 = .ok (.goto (4), 3) := by decide +kernel
theorem d_Mo_isAbove_53 : decode prog_14_method_6_code 53 = .ok (.iconst 0, 1) := by decide +kernel
theorem d_Mo_isAbove_54 : decode prog_14_method_6_code 54 = .ok (.ireturn, 1) := by decide +kernel
theorem d_Mo_isAbove_55 : decode prog_14_method_6_code 55 = .ok (.iinc 2 (-1), 3) := by decide +kernel
theorem d_Mo_isAbove_58 : decode prog_14_method_6_code 58 = .ok (.goto (-55), 3) := by decide +kernel
theorem d_Mo_isAbove_61 : decode prog_14_method_6_code 61 = .ok (.iconst 1, 1) := by decide +kernel
theorem d_Mo_isAbove_62 : decode prog_14_method_6_code 62 = .ok (.ireturn, 1) := by decide +kernel
theorem d_Mo_isOf_0 : decode prog_14_method_64_code 0 = .ok (.iload_n 1, 1) := by decide +kernel
theorem d_Mo_isOf_1 : decode prog_14_method_64_code 1 = .ok (.iconst 1, 1) := by decide +kernel
theorem d_Mo_isOf_2 : decode prog_14_method_64_code 2 = .ok (.if_icmp .lt (15), 3) := by decide +kernel
theorem d_Mo_isOf_5 : decode prog_14_method_64_code 5 = .ok (.iload_n 1, 1) := by decide +kernel
theorem d_Mo_isOf_6 : decode prog_14_method_64_code 6 = .ok (.aload_n 0, 1) := by decide +kernel
theorem d_Mo_isOf_7 : decode prog_14_method_64_code 7 = .ok (.getfield 307, 3) := by decide +kernel
theorem d_Mo_isOf_10 : decode prog_14_method_64_code 10 = .ok (.if_icmp .gt (7), 3) := by decide +kernel
theorem d_Mo_isOf_17 : decode prog_14_method_64_code 17 = .ok (.iconst 0, 1) := by decide +kernel
theorem d_Mo_isOf_18 : decode prog_14_method_64_code 18 = .ok (.ireturn, 1) := by decide +kernel
theorem d_Mo_message_0 : decode prog_14_method_39_code 0 = .ok (.aload_n 0, 1) := by decide +kernel
theorem d_Mo_message_1 : decode prog_14_method_39_code 1 = .ok (.invokevirtual 283, 3) := by decide +kernel
theorem d_Mo_message_4 : decode prog_14_method_39_code 4 = .ok (.istore_n 1, 1) := by decide +kernel
theorem d_Mo_message_5 : decode prog_14_method_39_code 5 = .ok (.aload_n 0, 1) := by decide +kernel
theorem d_Mo_message_6 : decode prog_14_method_39_code 6 = .ok (.iload_n 1, 1) := by decide +kernel
theorem d_Mo_message_7 : decode prog_14_method_39_code 7 = .ok (.bipush (100), 2) := by decide +kernel
theorem d_Mo_message_9 : decode prog_14_method_39_code 9 = .ok (.if_icmp .le (7), 3) := by decide +kernel
theorem d_Mo_message_16 : decode prog_14_method_39_code 16 = .ok (.iconst 0, 1) := by decide +kernel
theorem d_Mo_message_17 : decode prog_14_method_39_code 17 = .ok (.iconst 1, 1) := by decide +kernel
theorem d_Mo_message_18 : decode prog_14_method_39_code 18 = .ok (.invokevirtual 287, 3) := by decide +kernel
theorem d_Mo_message_21 : decode prog_14_method_39_code 21 = .ok (.ifCond .eq (5), 3) := by decide +kernel
theorem d_Mo_message_26 : decode prog_14_method_39_code 26 = .ok (.iconst 0, 1) := by decide +kernel
theorem d_Mo_message_27 : decode prog_14_method_39_code 27 = .ok (.istore_n 2, 1) := by decide +kernel
theorem d_Mo_message_28 : decode prog_14_method_39_code 28 = .ok (.iload_n 2, 1) := by decide +kernel
theorem d_Mo_message_29 : decode prog_14_method_39_code 29 = .ok (.iload_n 1, 1) := by decide +kernel
theorem d_Mo_message_30 : decode prog_14_method_39_code 30 = .ok (.if_icmp .ge (21), 3) := by decide +kernel
theorem d_Mo_message_51 : decode prog_14_method_39_code 51 = .ok (.aload_n 0, 1) := by decide +kernel
theorem d_Mo_message_52 : decode prog_14_method_39_code 52 = .ok (.iload_n 1, 1) := by decide +kernel
theorem d_Mo_message_53 : decode prog_14_method_39_code 53 = .ok (.putfield 262, 3) := by decide +kernel
theorem d_Mo_message_56 : decode prog_14_method_39_code 56 = .ok (.aload_n 0, 1) := by decide +kernel
theorem d_Mo_message_57 : decode prog_14_method_39_code 57 = .ok (.invokevirtual 291, 3) := by decide +kernel
theorem d_Mo_message_60 : decode prog_14_method_39_code 60 = .ok (.iload_n 1, 1) := by decide +kernel
theorem d_Mo_message_61 : decode prog_14_method_39_code 61 = .ok (.ireturn, 1) := by decide +kernel
theorem d_Mo_mix_0 : decode prog_14_method_28_code 0 = .ok (.iconst 0, 1) := by decide +kernel
theorem d_Mo_mix_1 : decode prog_14_method_28_code 1 = .ok (.istore_n 2, 1) := by decide +kernel
theorem d_Mo_mix_2 : decode prog_14_method_28_code 2 = .ok (.iload_n 2, 1) := by decide +kernel
theorem d_Mo_mix_3 : decode prog_14_method_28_code 3 = .ok (.bipush (64), 2) := by decide +kernel
theorem d_Mo_mix_5 : decode prog_14_method_28_code 5 = .ok (.if_icmp .ge (179), 3) := by decide +kernel
theorem d_Mo_mix_8 : decode prog_14_method_28_code 8 = .ok (.iload_n 2, 1) := by decide +kernel
theorem d_Mo_mix_9 : decode prog_14_method_28_code 9 = .ok (.bipush (16), 2) := by decide +kernel
theorem d_Mo_mix_11 : decode prog_14_method_28_code 11 = .ok (.if_icmp .ge (82), 3) := by decide +kernel
theorem d_Mo_mix_14 : decode prog_14_method_28_code 14 = .ok (.aload_n 0, 1) := by decide +kernel
theorem d_Mo_mix_15 : decode prog_14_method_28_code 15 = .ok (.getfield 167, 3) := by decide +kernel
theorem d_Mo_mix_18 : decode prog_14_method_28_code 18 = .ok (.iload_n 2, 1) := by decide +kernel
theorem d_Mo_mix_19 : decode prog_14_method_28_code 19 = .ok (.aload_n 0, 1) := by decide +kernel
theorem d_Mo_mix_20 : decode prog_14_method_28_code 20 = .ok (.getfield 152, 3) := by decide +kernel
theorem d_Mo_mix_23 : decode prog_14_method_28_code 23 = .ok (.iload_n 1, 1) := by decide +kernel
theorem d_Mo_mix_24 : decode prog_14_method_28_code 24 = .ok (.iconst 4, 1) := by decide +kernel
theorem d_Mo_mix_25 : decode prog_14_method_28_code 25 = .ok (.iload_n 2, 1) := by decide +kernel
theorem d_Mo_mix_26 : decode prog_14_method_28_code 26 = .ok (.imul, 1) := by decide +kernel
theorem d_Mo_mix_27 : decode prog_14_method_28_code 27 = .ok (.iadd, 1) := by decide +kernel
theorem d_Mo_mix_28 : decode prog_14_method_28_code 28 = .ok (.baload, 1) := by decide +kernel
theorem d_Mo_mix_29 : decode prog_14_method_28_code 29 = .ok (.bipush (24), 2) := by decide +kernel
theorem d_Mo_mix_31 : decode prog_14_method_28_code 31 = .ok (.ishl, 1) := by decide +kernel
theorem d_Mo_mix_32 : decode prog_14_method_28_code 32 = .ok (.aload_n 0, 1) := by decide +kernel
theorem d_Mo_mix_33 : decode prog_14_method_28_code 33 = .ok (.getfield 152, 3) := by decide +kernel
theorem d_Mo_mix_36 : decode prog_14_method_28_code 36 = .ok (.iload_n 1, 1) := by decide +kernel
theorem d_Mo_mix_37 : decode prog_14_method_28_code 37 = .ok (.iconst 4, 1) := by decide +kernel
theorem d_Mo_mix_38 : decode prog_14_method_28_code 38 = .ok (.iload_n 2, 1) := by decide +kernel
theorem d_Mo_mix_39 : decode prog_14_method_28_code 39 = .ok (.imul, 1) := by decide +kernel
theorem d_Mo_mix_40 : decode prog_14_method_28_code 40 = .ok (.iadd, 1) := by decide +kernel
theorem d_Mo_mix_41 : decode prog_14_method_28_code 41 = .ok (.iconst 1, 1) := by decide +kernel
theorem d_Mo_mix_42 : decode prog_14_method_28_code 42 = .ok (.iadd, 1) := by decide +kernel
theorem d_Mo_mix_43 : decode prog_14_method_28_code 43 = .ok (.baload, 1) := by decide +kernel
theorem d_Mo_mix_44 : decode prog_14_method_28_code 44 = .ok (.sipush (255), 3) := by decide +kernel
theorem d_Mo_mix_47 : decode prog_14_method_28_code 47 = .ok (.iand, 1) := by decide +kernel
theorem d_Mo_mix_48 : decode prog_14_method_28_code 48 = .ok (.bipush (16), 2) := by decide +kernel
theorem d_Mo_mix_50 : decode prog_14_method_28_code 50 = .ok (.ishl, 1) := by decide +kernel
theorem d_Mo_mix_51 : decode prog_14_method_28_code 51 = .ok (.ior, 1) := by decide +kernel
theorem d_Mo_mix_52 : decode prog_14_method_28_code 52 = .ok (.aload_n 0, 1) := by decide +kernel
theorem d_Mo_mix_53 : decode prog_14_method_28_code 53 = .ok (.getfield 152, 3) := by decide +kernel
theorem d_Mo_mix_56 : decode prog_14_method_28_code 56 = .ok (.iload_n 1, 1) := by decide +kernel
theorem d_Mo_mix_57 : decode prog_14_method_28_code 57 = .ok (.iconst 4, 1) := by decide +kernel
theorem d_Mo_mix_58 : decode prog_14_method_28_code 58 = .ok (.iload_n 2, 1) := by decide +kernel
theorem d_Mo_mix_59 : decode prog_14_method_28_code 59 = .ok (.imul, 1) := by decide +kernel
theorem d_Mo_mix_60 : decode prog_14_method_28_code 60 = .ok (.iadd, 1) := by decide +kernel
theorem d_Mo_mix_61 : decode prog_14_method_28_code 61 = .ok (.iconst 2, 1) := by decide +kernel
theorem d_Mo_mix_62 : decode prog_14_method_28_code 62 = .ok (.iadd, 1) := by decide +kernel
theorem d_Mo_mix_63 : decode prog_14_method_28_code 63 = .ok (.baload, 1) := by decide +kernel
theorem d_Mo_mix_64 : decode prog_14_method_28_code 64 = .ok (.sipush (255), 3) := by decide +kernel
theorem d_Mo_mix_67 : decode prog_14_method_28_code 67 = .ok (.iand, 1) := by decide +kernel
theorem d_Mo_mix_68 : decode prog_14_method_28_code 68 = .ok (.bipush (8), 2) := by decide +kernel
theorem d_Mo_mix_70 : decode prog_14_method_28_code 70 = .ok (.ishl, 1) := by decide +kernel
theorem d_Mo_mix_71 : decode prog_14_method_28_code 71 = .ok (.ior, 1) := by decide +kernel
theorem d_Mo_mix_72 : decode prog_14_method_28_code 72 = .ok (.aload_n 0, 1) := by decide +kernel
theorem d_Mo_mix_73 : decode prog_14_method_28_code 73 = .ok (.getfield 152, 3) := by decide +kernel
theorem d_Mo_mix_76 : decode prog_14_method_28_code 76 = .ok (.iload_n 1, 1) := by decide +kernel
theorem d_Mo_mix_77 : decode prog_14_method_28_code 77 = .ok (.iconst 4, 1) := by decide +kernel
theorem d_Mo_mix_78 : decode prog_14_method_28_code 78 = .ok (.iload_n 2, 1) := by decide +kernel
theorem d_Mo_mix_79 : decode prog_14_method_28_code 79 = .ok (.imul, 1) := by decide +kernel
theorem d_Mo_mix_80 : decode prog_14_method_28_code 80 = .ok (.iadd, 1) := by decide +kernel
theorem d_Mo_mix_81 : decode prog_14_method_28_code 81 = .ok (.iconst 3, 1) := by decide +kernel
theorem d_Mo_mix_82 : decode prog_14_method_28_code 82 = .ok (.iadd, 1) := by decide +kernel
theorem d_Mo_mix_83 : decode prog_14_method_28_code 83 = .ok (.baload, 1) := by decide +kernel
theorem d_Mo_mix_84 : decode prog_14_method_28_code 84 = .ok (.sipush (255), 3) := by decide +kernel
theorem d_Mo_mix_87 : decode prog_14_method_28_code 87 = .ok (.iand, 1) := by decide +kernel
theorem d_Mo_mix_88 : decode prog_14_method_28_code 88 = .ok (.ior, 1) := by decide +kernel
theorem d_Mo_mix_89 : decode prog_14_method_28_code 89 = .ok (.iastore, 1) := by decide +kernel
theorem d_Mo_mix_90 : decode prog_14_method_28_code 90 = .ok (.goto (88), 3) := by decide +kernel
theorem d_Mo_mix_93 : decode prog_14_method_28_code 93 = .ok (.aload_n 0, 1) := by decide +kernel
theorem d_Mo_mix_94 : decode prog_14_method_28_code 94 = .ok (.getfield 167, 3) := by decide +kernel
theorem d_Mo_mix_97 : decode prog_14_method_28_code 97 = .ok (.iload_n 2, 1) := by decide +kernel
theorem d_Mo_mix_98 : decode prog_14_method_28_code 98 = .ok (.bipush (15), 2) := by decide +kernel
theorem d_Mo_mix_100 : decode prog_14_method_28_code 100 = .ok (.isub, 1) := by decide +kernel
theorem d_Mo_mix_101 : decode prog_14_method_28_code 101 = .ok (.iaload, 1) := by decide +kernel
theorem d_Mo_mix_102 : decode prog_14_method_28_code 102 = .ok (.istore_n 3, 1) := by decide +kernel
theorem d_Mo_mix_103 : decode prog_14_method_28_code 103 = .ok (.aload_n 0, 1) := by decide +kernel
theorem d_Mo_mix_104 : decode prog_14_method_28_code 104 = .ok (.getfield 167, 3) := by decide +kernel
theorem d_Mo_mix_107 : decode prog_14_method_28_code 107 = .ok (.iload_n 2, 1) := by decide +kernel
theorem d_Mo_mix_108 : decode prog_14_method_28_code 108 = .ok (.iconst 2, 1) := by decide +kernel
theorem d_Mo_mix_109 : decode prog_14_method_28_code 109 = .ok (.isub, 1) := by decide +kernel
theorem d_Mo_mix_110 : decode prog_14_method_28_code 110 = .ok (.iaload, 1) := by decide +kernel
theorem d_Mo_mix_111 : decode prog_14_method_28_code 111 = .ok (.istore 4, 2) := by decide +kernel
theorem d_Mo_mix_113 : decode prog_14_method_28_code 113 = .ok (.aload_n 0, 1) := by decide +kernel
theorem d_Mo_mix_114 : decode prog_14_method_28_code 114 = .ok (.getfield 167, 3) := by decide +kernel
theorem d_Mo_mix_117 : decode prog_14_method_28_code 117 = .ok (.iload_n 2, 1) := by decide +kernel
theorem d_Mo_mix_118 : decode prog_14_method_28_code 118 = .ok (.aload_n 0, 1) := by decide +kernel
theorem d_Mo_mix_119 : decode prog_14_method_28_code 119 = .ok (.getfield 167, 3) := by decide +kernel
theorem d_Mo_mix_122 : decode prog_14_method_28_code 122 = .ok (.iload_n 2, 1) := by decide +kernel
theorem d_Mo_mix_123 : decode prog_14_method_28_code 123 = .ok (.bipush (16), 2) := by decide +kernel
theorem d_Mo_mix_125 : decode prog_14_method_28_code 125 = .ok (.isub, 1) := by decide +kernel
theorem d_Mo_mix_126 : decode prog_14_method_28_code 126 = .ok (.iaload, 1) := by decide +kernel
theorem d_Mo_mix_127 : decode prog_14_method_28_code 127 = .ok (.aload_n 0, 1) := by decide +kernel
theorem d_Mo_mix_128 : decode prog_14_method_28_code 128 = .ok (.getfield 167, 3) := by decide +kernel
theorem d_Mo_mix_131 : decode prog_14_method_28_code 131 = .ok (.iload_n 2, 1) := by decide +kernel
theorem d_Mo_mix_132 : decode prog_14_method_28_code 132 = .ok (.bipush (7), 2) := by decide +kernel
theorem d_Mo_mix_134 : decode prog_14_method_28_code 134 = .ok (.isub, 1) := by decide +kernel
theorem d_Mo_mix_135 : decode prog_14_method_28_code 135 = .ok (.iaload, 1) := by decide +kernel
theorem d_Mo_mix_136 : decode prog_14_method_28_code 136 = .ok (.iadd, 1) := by decide +kernel
theorem d_Mo_mix_137 : decode prog_14_method_28_code 137 = .ok (.iload_n 3, 1) := by decide +kernel
theorem d_Mo_mix_138 : decode prog_14_method_28_code 138 = .ok (.bipush (7), 2) := by decide +kernel
theorem d_Mo_mix_140 : decode prog_14_method_28_code 140 = .ok (.invokestatic 250, 3) := by decide +kernel
theorem d_Mo_mix_143 : decode prog_14_method_28_code 143 = .ok (.iload_n 3, 1) := by decide +kernel
theorem d_Mo_mix_144 : decode prog_14_method_28_code 144 = .ok (.bipush (18), 2) := by decide +kernel
theorem d_Mo_mix_146 : decode prog_14_method_28_code 146 = .ok (.invokestatic 250, 3) := by decide +kernel
theorem d_Mo_mix_149 : decode prog_14_method_28_code 149 = .ok (.ixor, 1) := by decide +kernel
theorem d_Mo_mix_150 : decode prog_14_method_28_code 150 = .ok (.iload_n 3, 1) := by decide +kernel
theorem d_Mo_mix_151 : decode prog_14_method_28_code 151 = .ok (.iconst 3, 1) := by decide +kernel
theorem d_Mo_mix_152 : decode prog_14_method_28_code 152 = .ok (.iushr, 1) := by decide +kernel
theorem d_Mo_mix_153 : decode prog_14_method_28_code 153 = .ok (.ixor, 1) := by decide +kernel
theorem d_Mo_mix_154 : decode prog_14_method_28_code 154 = .ok (.iadd, 1) := by decide +kernel
theorem d_Mo_mix_155 : decode prog_14_method_28_code 155 = .ok (.iload 4, 2) := by decide +kernel
theorem d_Mo_mix_157 : decode prog_14_method_28_code 157 = .ok (.bipush (17), 2) := by decide +kernel
theorem d_Mo_mix_159 : decode prog_14_method_28_code 159 = .ok (.invokestatic 250, 3) := by decide +kernel
theorem d_Mo_mix_162 : decode prog_14_method_28_code 162 = .ok (.iload 4, 2) := by decide +kernel
theorem d_Mo_mix_164 : decode prog_14_method_28_code 164 = .ok (.bipush (19), 2) := by decide +kernel
theorem d_Mo_mix_166 : decode prog_14_method_28_code 166 = .ok (.invokestatic 250, 3) := by decide +kernel
theorem d_Mo_mix_169 : decode prog_14_method_28_code 169 = .ok (.ixor, 1) := by decide +kernel
theorem d_Mo_mix_170 : decode prog_14_method_28_code 170 = .ok (.iload 4, 2) := by decide +kernel
theorem d_Mo_mix_172 : decode prog_14_method_28_code 172 = .ok (.bipush (10), 2) := by decide +kernel
theorem d_Mo_mix_174 : decode prog_14_method_28_code 174 = .ok (.iushr, 1) := by decide +kernel
theorem d_Mo_mix_175 : decode prog_14_method_28_code 175 = .ok (.ixor, 1) := by decide +kernel
theorem d_Mo_mix_176 : decode prog_14_method_28_code 176 = .ok (.iadd, 1) := by decide +kernel
theorem d_Mo_mix_177 : decode prog_14_method_28_code 177 = .ok (.iastore, 1) := by decide +kernel
theorem d_Mo_mix_178 : decode prog_14_method_28_code 178 = .ok (.iinc 2 (1), 3) := by decide +kernel
theorem d_Mo_mix_181 : decode prog_14_method_28_code 181 = .ok (.goto (-179), 3) := by decide +kernel
theorem d_Mo_mix_184 : decode prog_14_method_28_code 184 = .ok (.aload_n 0, 1) := by decide +kernel
theorem d_Mo_mix_185 : decode prog_14_method_28_code 185 = .ok (.getfield 164, 3) := by decide +kernel
theorem d_Mo_mix_188 : decode prog_14_method_28_code 188 = .ok (.iconst 0, 1) := by decide +kernel
theorem d_Mo_mix_189 : decode prog_14_method_28_code 189 = .ok (.iaload, 1) := by decide +kernel
theorem d_Mo_mix_190 : decode prog_14_method_28_code 190 = .ok (.istore_n 2, 1) := by decide +kernel
theorem d_Mo_mix_191 : decode prog_14_method_28_code 191 = .ok (.aload_n 0, 1) := by decide +kernel
theorem d_Mo_mix_192 : decode prog_14_method_28_code 192 = .ok (.getfield 164, 3) := by decide +kernel
theorem d_Mo_mix_195 : decode prog_14_method_28_code 195 = .ok (.iconst 1, 1) := by decide +kernel
theorem d_Mo_mix_196 : decode prog_14_method_28_code 196 = .ok (.iaload, 1) := by decide +kernel
theorem d_Mo_mix_197 : decode prog_14_method_28_code 197 = .ok (.istore_n 3, 1) := by decide +kernel
theorem d_Mo_mix_198 : decode prog_14_method_28_code 198 = .ok (.aload_n 0, 1) := by decide +kernel
theorem d_Mo_mix_199 : decode prog_14_method_28_code 199 = .ok (.getfield 164, 3) := by decide +kernel
theorem d_Mo_mix_202 : decode prog_14_method_28_code 202 = .ok (.iconst 2, 1) := by decide +kernel
theorem d_Mo_mix_203 : decode prog_14_method_28_code 203 = .ok (.iaload, 1) := by decide +kernel
theorem d_Mo_mix_204 : decode prog_14_method_28_code 204 = .ok (.istore 4, 2) := by decide +kernel
theorem d_Mo_mix_206 : decode prog_14_method_28_code 206 = .ok (.aload_n 0, 1) := by decide +kernel
theorem d_Mo_mix_207 : decode prog_14_method_28_code 207 = .ok (.getfield 164, 3) := by decide +kernel
theorem d_Mo_mix_210 : decode prog_14_method_28_code 210 = .ok (.iconst 3, 1) := by decide +kernel
theorem d_Mo_mix_211 : decode prog_14_method_28_code 211 = .ok (.iaload, 1) := by decide +kernel
theorem d_Mo_mix_212 : decode prog_14_method_28_code 212 = .ok (.istore 5, 2) := by decide +kernel
theorem d_Mo_mix_214 : decode prog_14_method_28_code 214 = .ok (.aload_n 0, 1) := by decide +kernel
theorem d_Mo_mix_215 : decode prog_14_method_28_code 215 = .ok (.getfield 164, 3) := by decide +kernel
theorem d_Mo_mix_218 : decode prog_14_method_28_code 218 = .ok (.iconst 4, 1) := by decide +kernel
theorem d_Mo_mix_219 : decode prog_14_method_28_code 219 = .ok (.iaload, 1) := by decide +kernel
theorem d_Mo_mix_220 : decode prog_14_method_28_code 220 = .ok (.istore 6, 2) := by decide +kernel
theorem d_Mo_mix_222 : decode prog_14_method_28_code 222 = .ok (.aload_n 0, 1) := by decide +kernel
theorem d_Mo_mix_223 : decode prog_14_method_28_code 223 = .ok (.getfield 164, 3) := by decide +kernel
theorem d_Mo_mix_226 : decode prog_14_method_28_code 226 = .ok (.iconst 5, 1) := by decide +kernel
theorem d_Mo_mix_227 : decode prog_14_method_28_code 227 = .ok (.iaload, 1) := by decide +kernel
theorem d_Mo_mix_228 : decode prog_14_method_28_code 228 = .ok (.istore 7, 2) := by decide +kernel
theorem d_Mo_mix_230 : decode prog_14_method_28_code 230 = .ok (.aload_n 0, 1) := by decide +kernel
theorem d_Mo_mix_231 : decode prog_14_method_28_code 231 = .ok (.getfield 164, 3) := by decide +kernel
theorem d_Mo_mix_234 : decode prog_14_method_28_code 234 = .ok (.bipush (6), 2) := by decide +kernel
theorem d_Mo_mix_236 : decode prog_14_method_28_code 236 = .ok (.iaload, 1) := by decide +kernel
theorem d_Mo_mix_237 : decode prog_14_method_28_code 237 = .ok (.istore 8, 2) := by decide +kernel
theorem d_Mo_mix_239 : decode prog_14_method_28_code 239 = .ok (.aload_n 0, 1) := by decide +kernel
theorem d_Mo_mix_240 : decode prog_14_method_28_code 240 = .ok (.getfield 164, 3) := by decide +kernel
theorem d_Mo_mix_243 : decode prog_14_method_28_code 243 = .ok (.bipush (7), 2) := by decide +kernel
theorem d_Mo_mix_245 : decode prog_14_method_28_code 245 = .ok (.iaload, 1) := by decide +kernel
theorem d_Mo_mix_246 : decode prog_14_method_28_code 246 = .ok (.istore 9, 2) := by decide +kernel
theorem d_Mo_mix_248 : decode prog_14_method_28_code 248 = .ok (.iconst 0, 1) := by decide +kernel
theorem d_Mo_mix_249 : decode prog_14_method_28_code 249 = .ok (.istore 10, 2) := by decide +kernel
theorem d_Mo_mix_251 : decode prog_14_method_28_code 251 = .ok (.iload 10, 2) := by decide +kernel
theorem d_Mo_mix_253 : decode prog_14_method_28_code 253 = .ok (.bipush (64), 2) := by decide +kernel
theorem d_Mo_mix_255 : decode prog_14_method_28_code 255 = .ok (.if_icmp .ge (136), 3) := by decide +kernel
theorem d_Mo_mix_258 : decode prog_14_method_28_code 258 = .ok (.iload 9, 2) := by decide +kernel
theorem d_Mo_mix_260 : decode prog_14_method_28_code 260 = .ok (.iload 6, 2) := by decide +kernel
theorem d_Mo_mix_262 : decode prog_14_method_28_code 262 = .ok (.bipush (6), 2) := by decide +kernel
theorem d_Mo_mix_264 : decode prog_14_method_28_code 264 = .ok (.invokestatic 250, 3) := by decide +kernel
theorem d_Mo_mix_267 : decode prog_14_method_28_code 267 = .ok (.iload 6, 2) := by decide +kernel
theorem d_Mo_mix_269 : decode prog_14_method_28_code 269 = .ok (.bipush (11), 2) := by decide +kernel
theorem d_Mo_mix_271 : decode prog_14_method_28_code 271 = .ok (.invokestatic 250, 3) := by decide +kernel
theorem d_Mo_mix_274 : decode prog_14_method_28_code 274 = .ok (.ixor, 1) := by decide +kernel
theorem d_Mo_mix_275 : decode prog_14_method_28_code 275 = .ok (.iload 6, 2) := by decide +kernel
theorem d_Mo_mix_277 : decode prog_14_method_28_code 277 = .ok (.bipush (25), 2) := by decide +kernel
theorem d_Mo_mix_279 : decode prog_14_method_28_code 279 = .ok (.invokestatic 250, 3) := by decide +kernel
theorem d_Mo_mix_282 : decode prog_14_method_28_code 282 = .ok (.ixor, 1) := by decide +kernel
theorem d_Mo_mix_283 : decode prog_14_method_28_code 283 = .ok (.iadd, 1) := by decide +kernel
theorem d_Mo_mix_284 : decode prog_14_method_28_code 284 = .ok (.iload 6, 2) := by decide +kernel
theorem d_Mo_mix_286 : decode prog_14_method_28_code 286 = .ok (.iload 7, 2) := by decide +kernel
theorem d_Mo_mix_288 : decode prog_14_method_28_code 288 = .ok (.iand, 1) := by decide +kernel
theorem d_Mo_mix_289 : decode prog_14_method_28_code 289 = .ok (.iload 6, 2) := by decide +kernel
theorem d_Mo_mix_291 : decode prog_14_method_28_code 291 = .ok (.iconst (-1), 1) := by decide +kernel
theorem d_Mo_mix_292 : decode prog_14_method_28_code 292 = .ok (.ixor, 1) := by decide +kernel
theorem d_Mo_mix_293 : decode prog_14_method_28_code 293 = .ok (.iload 8, 2) := by decide +kernel
theorem d_Mo_mix_295 : decode prog_14_method_28_code 295 = .ok (.iand, 1) := by decide +kernel
theorem d_Mo_mix_296 : decode prog_14_method_28_code 296 = .ok (.ixor, 1) := by decide +kernel
theorem d_Mo_mix_297 : decode prog_14_method_28_code 297 = .ok (.iadd, 1) := by decide +kernel
theorem d_Mo_mix_298 : decode prog_14_method_28_code 298 = .ok (.aload_n 0, 1) := by decide +kernel
theorem d_Mo_mix_299 : decode prog_14_method_28_code 299 = .ok (.getfield 71, 3) := by decide +kernel
theorem d_Mo_mix_302 : decode prog_14_method_28_code 302 = .ok (.iload 10, 2) := by decide +kernel
theorem d_Mo_mix_304 : decode prog_14_method_28_code 304 = .ok (.iaload, 1) := by decide +kernel
theorem d_Mo_mix_305 : decode prog_14_method_28_code 305 = .ok (.iadd, 1) := by decide +kernel
theorem d_Mo_mix_306 : decode prog_14_method_28_code 306 = .ok (.aload_n 0, 1) := by decide +kernel
theorem d_Mo_mix_307 : decode prog_14_method_28_code 307 = .ok (.getfield 167, 3) := by decide +kernel
theorem d_Mo_mix_310 : decode prog_14_method_28_code 310 = .ok (.iload 10, 2) := by decide +kernel
theorem d_Mo_mix_312 : decode prog_14_method_28_code 312 = .ok (.iaload, 1) := by decide +kernel
theorem d_Mo_mix_313 : decode prog_14_method_28_code 313 = .ok (.iadd, 1) := by decide +kernel
theorem d_Mo_mix_314 : decode prog_14_method_28_code 314 = .ok (.istore 11, 2) := by decide +kernel
theorem d_Mo_mix_316 : decode prog_14_method_28_code 316 = .ok (.iload_n 2, 1) := by decide +kernel
theorem d_Mo_mix_317 : decode prog_14_method_28_code 317 = .ok (.iconst 2, 1) := by decide +kernel
theorem d_Mo_mix_318 : decode prog_14_method_28_code 318 = .ok (.invokestatic 250, 3) := by decide +kernel
theorem d_Mo_mix_321 : decode prog_14_method_28_code 321 = .ok (.iload_n 2, 1) := by decide +kernel
theorem d_Mo_mix_322 : decode prog_14_method_28_code 322 = .ok (.bipush (13), 2) := by decide +kernel
theorem d_Mo_mix_324 : decode prog_14_method_28_code 324 = .ok (.invokestatic 250, 3) := by decide +kernel
theorem d_Mo_mix_327 : decode prog_14_method_28_code 327 = .ok (.ixor, 1) := by decide +kernel
theorem d_Mo_mix_328 : decode prog_14_method_28_code 328 = .ok (.iload_n 2, 1) := by decide +kernel
theorem d_Mo_mix_329 : decode prog_14_method_28_code 329 = .ok (.bipush (22), 2) := by decide +kernel
theorem d_Mo_mix_331 : decode prog_14_method_28_code 331 = .ok (.invokestatic 250, 3) := by decide +kernel
theorem d_Mo_mix_334 : decode prog_14_method_28_code 334 = .ok (.ixor, 1) := by decide +kernel
theorem d_Mo_mix_335 : decode prog_14_method_28_code 335 = .ok (.iload_n 2, 1) := by decide +kernel
theorem d_Mo_mix_336 : decode prog_14_method_28_code 336 = .ok (.iload_n 3, 1) := by decide +kernel
theorem d_Mo_mix_337 : decode prog_14_method_28_code 337 = .ok (.iand, 1) := by decide +kernel
theorem d_Mo_mix_338 : decode prog_14_method_28_code 338 = .ok (.iload_n 2, 1) := by decide +kernel
theorem d_Mo_mix_339 : decode prog_14_method_28_code 339 = .ok (.iload 4, 2) := by decide +kernel
theorem d_Mo_mix_341 : decode prog_14_method_28_code 341 = .ok (.iand, 1) := by decide +kernel
theorem d_Mo_mix_342 : decode prog_14_method_28_code 342 = .ok (.ixor, 1) := by decide +kernel
theorem d_Mo_mix_343 : decode prog_14_method_28_code 343 = .ok (.iload_n 3, 1) := by decide +kernel
theorem d_Mo_mix_344 : decode prog_14_method_28_code 344 = .ok (.iload 4, 2) := by decide +kernel
theorem d_Mo_mix_346 : decode prog_14_method_28_code 346 = .ok (.iand, 1) := by decide +kernel
theorem d_Mo_mix_347 : decode prog_14_method_28_code 347 = .ok (.ixor, 1) := by decide +kernel
theorem d_Mo_mix_348 : decode prog_14_method_28_code 348 = .ok (.iadd, 1) := by decide +kernel
theorem d_Mo_mix_349 : decode prog_14_method_28_code 349 = .ok (.istore 12, 2) := by decide +kernel
theorem d_Mo_mix_351 : decode prog_14_method_28_code 351 = .ok (.iload 8, 2) := by decide +kernel
theorem d_Mo_mix_353 : decode prog_14_method_28_code 353 = .ok (.istore 9, 2) := by decide +kernel
theorem d_Mo_mix_355 : decode prog_14_method_28_code 355 = .ok (.iload 7, 2) := by decide +kernel
theorem d_Mo_mix_357 : decode prog_14_method_28_code 357 = .ok (.istore 8, 2) := by decide +kernel
theorem d_Mo_mix_359 : decode prog_14_method_28_code 359 = .ok (.iload 6, 2) := by decide +kernel
theorem d_Mo_mix_361 : decode prog_14_method_28_code 361 = .ok (.istore 7, 2) := by decide +kernel
theorem d_Mo_mix_363 : decode prog_14_method_28_code 363 = .ok (.iload 5, 2) := by decide +kernel
theorem d_Mo_mix_365 : decode prog_14_method_28_code 365 = .ok (.iload 11, 2) := by decide +kernel
theorem d_Mo_mix_367 : decode prog_14_method_28_code 367 = .ok (.iadd, 1) := by decide +kernel
theorem d_Mo_mix_368 : decode prog_14_method_28_code 368 = .ok (.istore 6, 2) := by decide +kernel
theorem d_Mo_mix_370 : decode prog_14_method_28_code 370 = .ok (.iload 4, 2) := by decide +kernel
theorem d_Mo_mix_372 : decode prog_14_method_28_code 372 = .ok (.istore 5, 2) := by decide +kernel
theorem d_Mo_mix_374 : decode prog_14_method_28_code 374 = .ok (.iload_n 3, 1) := by decide +kernel
theorem d_Mo_mix_375 : decode prog_14_method_28_code 375 = .ok (.istore 4, 2) := by decide +kernel
theorem d_Mo_mix_377 : decode prog_14_method_28_code 377 = .ok (.iload_n 2, 1) := by decide +kernel
theorem d_Mo_mix_378 : decode prog_14_method_28_code 378 = .ok (.istore_n 3, 1) := by decide +kernel
theorem d_Mo_mix_379 : decode prog_14_method_28_code 379 = .ok (.iload 11, 2) := by decide +kernel
theorem d_Mo_mix_381 : decode prog_14_method_28_code 381 = .ok (.iload 12, 2) := by decide +kernel
theorem d_Mo_mix_383 : decode prog_14_method_28_code 383 = .ok (.iadd, 1) := by decide +kernel
theorem d_Mo_mix_384 : decode prog_14_method_28_code 384 = .ok (.istore_n 2, 1) := by decide +kernel
theorem d_Mo_mix_385 : decode prog_14_method_28_code 385 = .ok (.iinc 10 (1), 3) := by decide +kernel
theorem d_Mo_mix_388 : decode prog_14_method_28_code 388 = .ok (.goto (-137), 3) := by decide +kernel
theorem d_Mo_mix_391 : decode prog_14_method_28_code 391 = .ok (.aload_n 0, 1) := by decide +kernel
theorem d_Mo_mix_392 : decode prog_14_method_28_code 392 = .ok (.getfield 164, 3) := by decide +kernel
theorem d_Mo_mix_395 : decode prog_14_method_28_code 395 = .ok (.iconst 0, 1) := by decide +kernel
theorem d_Mo_mix_396 : decode prog_14_method_28_code 396 = .ok (.dup2, 1) := by decide +kernel
theorem d_Mo_mix_397 : decode prog_14_method_28_code 397 = .ok (.iaload, 1) := by decide +kernel
theorem d_Mo_mix_398 : decode prog_14_method_28_code 398 = .ok (.iload_n 2, 1) := by decide +kernel
theorem d_Mo_mix_399 : decode prog_14_method_28_code 399 = .ok (.iadd, 1) := by decide +kernel
theorem d_Mo_mix_400 : decode prog_14_method_28_code 400 = .ok (.iastore, 1) := by decide +kernel
theorem d_Mo_mix_401 : decode prog_14_method_28_code 401 = .ok (.aload_n 0, 1) := by decide +kernel
theorem d_Mo_mix_402 : decode prog_14_method_28_code 402 = .ok (.getfield 164, 3) := by decide +kernel
theorem d_Mo_mix_405 : decode prog_14_method_28_code 405 = .ok (.iconst 1, 1) := by decide +kernel
theorem d_Mo_mix_406 : decode prog_14_method_28_code 406 = .ok (.dup2, 1) := by decide +kernel
theorem d_Mo_mix_407 : decode prog_14_method_28_code 407 = .ok (.iaload, 1) := by decide +kernel
theorem d_Mo_mix_408 : decode prog_14_method_28_code 408 = .ok (.iload_n 3, 1) := by decide +kernel
theorem d_Mo_mix_409 : decode prog_14_method_28_code 409 = .ok (.iadd, 1) := by decide +kernel
theorem d_Mo_mix_410 : decode prog_14_method_28_code 410 = .ok (.iastore, 1) := by decide +kernel
theorem d_Mo_mix_411 : decode prog_14_method_28_code 411 = .ok (.aload_n 0, 1) := by decide +kernel
theorem d_Mo_mix_412 : decode prog_14_method_28_code 412 = .ok (.getfield 164, 3) := by decide +kernel
theorem d_Mo_mix_415 : decode prog_14_method_28_code 415 = .ok (.iconst 2, 1) := by decide +kernel
theorem d_Mo_mix_416 : decode prog_14_method_28_code 416 = .ok (.dup2, 1) := by decide +kernel
theorem d_Mo_mix_417 : decode prog_14_method_28_code 417 = .ok (.iaload, 1) := by decide +kernel
theorem d_Mo_mix_418 : decode prog_14_method_28_code 418 = .ok (.iload 4, 2) := by decide +kernel
theorem d_Mo_mix_420 : decode prog_14_method_28_code 420 = .ok (.iadd, 1) := by decide +kernel
theorem d_Mo_mix_421 : decode prog_14_method_28_code 421 = .ok (.iastore, 1) := by decide +kernel
theorem d_Mo_mix_422 : decode prog_14_method_28_code 422 = .ok (.aload_n 0, 1) := by decide +kernel
theorem d_Mo_mix_423 : decode prog_14_method_28_code 423 = .ok (.getfield 164, 3) := by decide +kernel
theorem d_Mo_mix_426 : decode prog_14_method_28_code 426 = .ok (.iconst 3, 1) := by decide +kernel
theorem d_Mo_mix_427 : decode prog_14_method_28_code 427 = .ok (.dup2, 1) := by decide +kernel
theorem d_Mo_mix_428 : decode prog_14_method_28_code 428 = .ok (.iaload, 1) := by decide +kernel
theorem d_Mo_mix_429 : decode prog_14_method_28_code 429 = .ok (.iload 5, 2) := by decide +kernel
theorem d_Mo_mix_431 : decode prog_14_method_28_code 431 = .ok (.iadd, 1) := by decide +kernel
theorem d_Mo_mix_432 : decode prog_14_method_28_code 432 = .ok (.iastore, 1) := by decide +kernel
theorem d_Mo_mix_433 : decode prog_14_method_28_code 433 = .ok (.aload_n 0, 1) := by decide +kernel
