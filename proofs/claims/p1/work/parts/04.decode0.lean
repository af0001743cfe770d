theorem d_TB_init_0 : decode prog_1_method_1_code 0 = .ok (.aload_n 0, 1) := by decide +kernel
theorem d_TB_init_1 : decode prog_1_method_1_code 1 = .ok (.invokespecial 3, 3) := by decide +kernel
theorem d_TB_init_4 : decode prog_1_method_1_code 4 = .ok (.aload_n 0, 1) := by decide +kernel
theorem d_TB_init_5 : decode prog_1_method_1_code 5 = .ok (.new 9, 3) := by decide +kernel
theorem d_TB_init_8 : decode prog_1_method_1_code 8 = .ok (.dup, 1) := by decide +kernel
theorem d_TB_init_9 : decode prog_1_method_1_code 9 = .ok (.sipush (300), 3) := by decide +kernel
theorem d_TB_init_12 : decode prog_1_method_1_code 12 = .ok (.invokespecial 11, 3) := by decide +kernel
theorem d_TB_init_15 : decode prog_1_method_1_code 15 = .ok (.putfield 14, 3) := by decide +kernel
theorem d_TB_init_18 : decode prog_1_method_1_code 18 = .ok (.aload_n 0, 1) := by decide +kernel
theorem d_TB_init_19 : decode prog_1_method_1_code 19 = .ok (.new 9, 3) := by decide +kernel
theorem d_TB_init_22 : decode prog_1_method_1_code 22 = .ok (.dup, 1) := by decide +kernel
theorem d_TB_init_23 : decode prog_1_method_1_code 23 = .ok (.sipush (300), 3) := by decide +kernel
theorem d_TB_init_26 : decode prog_1_method_1_code 26 = .ok (.invokespecial 11, 3) := by decide +kernel
theorem d_TB_init_29 : decode prog_1_method_1_code 29 = .ok (.putfield 18, 3) := by decide +kernel
theorem d_TB_init_32 : decode prog_1_method_1_code 32 = .ok (.aload_n 0, 1) := by decide +kernel
theorem d_TB_init_33 : decode prog_1_method_1_code 33 = .ok (.new 9, 3) := by decide +kernel
theorem d_TB_init_36 : decode prog_1_method_1_code 36 = .ok (.dup, 1) := by decide +kernel
theorem d_TB_init_37 : decode prog_1_method_1_code 37 = .ok (.bipush (100), 2) := by decide +kernel
theorem d_TB_init_39 : decode prog_1_method_1_code 39 = .ok (.invokespecial 11, 3) := by decide +kernel
theorem d_TB_init_42 : decode prog_1_method_1_code 42 = .ok (.putfield 21, 3) := by decide +kernel
theorem d_TB_init_45 : decode prog_1_method_1_code 45 = .ok (.aload_n 0, 1) := by decide +kernel
theorem d_TB_init_46 : decode prog_1_method_1_code 46 = .ok (.new 9, 3) := by decide +kernel
theorem d_TB_init_49 : decode prog_1_method_1_code 49 = .ok (.dup, 1) := by decide +kernel
theorem d_TB_init_50 : decode prog_1_method_1_code 50 = .ok (.bipush (66), 2) := by decide +kernel
theorem d_TB_init_52 : decode prog_1_method_1_code 52 = .ok (.invokespecial 11, 3) := by decide +kernel
theorem d_TB_init_55 : decode prog_1_method_1_code 55 = .ok (.putfield 24, 3) := by decide +kernel
theorem d_TB_init_58 : decode prog_1_method_1_code 58 = .ok (.aload_n 0, 1) := by decide +kernel
theorem d_TB_init_59 : decode prog_1_method_1_code 59 = .ok (.bipush (8), 2) := by decide +kernel
theorem d_TB_init_61 : decode prog_1_method_1_code 61 = .ok (.anewarray 27, 3) := by decide +kernel
theorem d_TB_init_64 : decode prog_1_method_1_code 64 = .ok (.putfield 29, 3) := by decide +kernel
theorem d_TB_init_67 : decode prog_1_method_1_code 67 = .ok (.aload_n 0, 1) := by decide +kernel
theorem d_TB_init_68 : decode prog_1_method_1_code 68 = .ok (.bipush (8), 2) := by decide +kernel
theorem d_TB_init_70 : decode prog_1_method_1_code 70 = .ok (.anewarray 33, 3) := by decide +kernel
theorem d_TB_init_73 : decode prog_1_method_1_code 73 = .ok (.putfield 35, 3) := by decide +kernel
theorem d_TB_init_76 : decode prog_1_method_1_code 76 = .ok (.aload_n 0, 1) := by decide +kernel
theorem d_TB_init_77 : decode prog_1_method_1_code 77 = .ok (.new 39, 3) := by decide +kernel
theorem d_TB_init_80 : decode prog_1_method_1_code 80 = .ok (.dup, 1) := by decide +kernel
theorem d_TB_init_81 : decode prog_1_method_1_code 81 = .ok (.invokespecial 41, 3) := by decide +kernel
theorem d_TB_init_84 : decode prog_1_method_1_code 84 = .ok (.putfield 42, 3) := by decide +kernel
theorem d_TB_init_87 : decode prog_1_method_1_code 87 = .ok (.aload_n 0, 1) := by decide +kernel
theorem d_TB_init_88 : decode prog_1_method_1_code 88 = .ok (.new 39, 3) := by decide +kernel
theorem d_TB_init_91 : decode prog_1_method_1_code 91 = .ok (.dup, 1) := by decide +kernel
theorem d_TB_init_92 : decode prog_1_method_1_code 92 = .ok (.invokespecial 41, 3) := by decide +kernel
theorem d_TB_init_95 : decode prog_1_method_1_code 95 = .ok (.putfield 46, 3) := by decide +kernel
theorem d_TB_init_98 : decode prog_1_method_1_code 98 = .ok (.aload_n 0, 1) := by decide +kernel
theorem d_TB_init_99 : decode prog_1_method_1_code 99 = .ok (.new 49, 3) := by decide +kernel
theorem d_TB_init_102 : decode prog_1_method_1_code 102 = .ok (.dup, 1) := by decide +kernel
theorem d_TB_init_103 : decode prog_1_method_1_code 103 = .ok (.invokespecial 51, 3) := by decide +kernel
theorem d_TB_init_106 : decode prog_1_method_1_code 106 = .ok (.putfield 52, 3) := by decide +kernel
theorem d_TB_init_109 : decode prog_1_method_1_code 109 = .ok (.aload_n 0, 1) := by decide +kernel
theorem d_TB_init_110 : decode prog_1_method_1_code 110 = .ok (.new 56, 3) := by decide +kernel
theorem d_TB_init_113 : decode prog_1_method_1_code 113 = .ok (.dup, 1) := by decide +kernel
theorem d_TB_init_114 : decode prog_1_method_1_code 114 = .ok (.invokespecial 58, 3) := by decide +kernel
theorem d_TB_init_117 : decode prog_1_method_1_code 117 = .ok (.putfield 59, 3) := by decide +kernel
theorem d_TB_init_120 : decode prog_1_method_1_code 120 = .ok (.aload_n 0, 1) := by decide +kernel
theorem d_TB_init_121 : decode prog_1_method_1_code 121 = .ok (.new 63, 3) := by decide +kernel
theorem d_TB_init_124 : decode prog_1_method_1_code 124 = .ok (.dup, 1) := by decide +kernel
theorem d_TB_init_125 : decode prog_1_method_1_code 125 = .ok (.invokespecial 65, 3) := by decide +kernel
theorem d_TB_init_128 : decode prog_1_method_1_code 128 = .ok (.putfield 66, 3) := by decide +kernel
theorem d_TB_init_131 : decode prog_1_method_1_code 131 = .ok (.aload_n 0, 1) := by decide +kernel
theorem d_TB_init_132 : decode prog_1_method_1_code 132 = .ok (.bipush (8), 2) := by decide +kernel
theorem d_TB_init_134 : decode prog_1_method_1_code 134 = .ok (.bipush (8), 2) := by decide +kernel
theorem d_TB_init_136 : decode prog_1_method_1_code 136 = .ok (.multianewarray 70 2, 4) := by decide +kernel
theorem d_TB_init_140 : decode prog_1_method_1_code 140 = .ok (.putfield 72, 3) := by decide +kernel
theorem d_TB_init_143 : decode prog_1_method_1_code 143 = .ok (.aload_n 0, 1) := by decide +kernel
theorem d_TB_init_144 : decode prog_1_method_1_code 144 = .ok (.bipush (8), 2) := by decide +kernel
theorem d_TB_init_146 : decode prog_1_method_1_code 146 = .ok (.newarray .int, 2) := by decide +kernel
theorem d_TB_init_148 : decode prog_1_method_1_code 148 = .ok (.putfield 75, 3) := by decide +kernel
theorem d_TB_init_151 : decode prog_1_method_1_code 151 = .ok (.aload_n 0, 1) := by decide +kernel
theorem d_TB_init_152 : decode prog_1_method_1_code 152 = .ok (.bipush (8), 2) := by decide +kernel
theorem d_TB_init_154 : decode prog_1_method_1_code 154 = .ok (.newarray .int, 2) := by decide +kernel
theorem d_TB_init_156 : decode prog_1_method_1_code 156 = .ok (.putfield 79, 3) := by decide +kernel
theorem d_TB_init_159 : decode prog_1_method_1_code 159 = .ok (.aload_n 0, 1) := by decide +kernel
theorem d_TB_init_160 : decode prog_1_method_1_code 160 = .ok (.new 33, 3) := by decide +kernel
theorem d_TB_init_163 : decode prog_1_method_1_code 163 = .ok (.dup, 1) := by decide +kernel
theorem d_TB_init_164 : decode prog_1_method_1_code 164 = .ok (.invokespecial 82, 3) := by decide +kernel
theorem d_TB_init_167 : decode prog_1_method_1_code 167 = .ok (.putfield 83, 3) := by decide +kernel
theorem d_TB_init_170 : decode prog_1_method_1_code 170 = .ok (.aload_n 0, 1) := by decide +kernel
theorem d_TB_init_171 : decode prog_1_method_1_code 171 = .ok (.new 33, 3) := by decide +kernel
theorem d_TB_init_174 : decode prog_1_method_1_code 174 = .ok (.dup, 1) := by decide +kernel
theorem d_TB_init_175 : decode prog_1_method_1_code 175 = .ok (.invokespecial 82, 3) := by decide +kernel
theorem d_TB_init_178 : decode prog_1_method_1_code 178 = .ok (.putfield 87, 3) := by decide +kernel
theorem d_TB_init_181 : decode prog_1_method_1_code 181 = .ok (.iconst 0, 1) := by decide +kernel
theorem d_TB_init_182 : decode prog_1_method_1_code 182 = .ok (.istore_n 1, 1) := by decide +kernel
theorem d_TB_init_183 : decode prog_1_method_1_code 183 = .ok (.iload_n 1, 1) := by decide +kernel
theorem d_TB_init_184 : decode prog_1_method_1_code 184 = .ok (.bipush (8), 2) := by decide +kernel
theorem d_TB_init_186 : decode prog_1_method_1_code 186 = .ok (.if_icmp .ge (35), 3) := by decide +kernel
theorem d_TB_init_189 : decode prog_1_method_1_code 189 = .ok (.aload_n 0, 1) := by decide +kernel
theorem d_TB_init_190 : decode prog_1_method_1_code 190 = .ok (.getfield 29, 3) := by decide +kernel
theorem d_TB_init_193 : decode prog_1_method_1_code 193 = .ok (.iload_n 1, 1) := by decide +kernel
theorem d_TB_init_194 : decode prog_1_method_1_code 194 = .ok (.new 27, 3) := by decide +kernel
theorem d_TB_init_197 : decode prog_1_method_1_code 197 = .ok (.dup, 1) := by decide +kernel
theorem d_TB_init_198 : decode prog_1_method_1_code 198 = .ok (.invokespecial 90, 3) := by decide +kernel
theorem d_TB_init_201 : decode prog_1_method_1_code 201 = .ok (.aastore, 1) := by decide +kernel
theorem d_TB_init_202 : decode prog_1_method_1_code 202 = .ok (.aload_n 0, 1) := by decide +kernel
theorem d_TB_init_203 : decode prog_1_method_1_code 203 = .ok (.getfield 35, 3) := by decide +kernel
theorem d_TB_init_206 : decode prog_1_method_1_code 206 = .ok (.iload_n 1, 1) := by decide +kernel
theorem d_TB_init_207 : decode prog_1_method_1_code 207 = .ok (.new 33, 3) := by decide +kernel
theorem d_TB_init_210 : decode prog_1_method_1_code 210 = .ok (.dup, 1) := by decide +kernel
theorem d_TB_init_211 : decode prog_1_method_1_code 211 = .ok (.invokespecial 82, 3) := by decide +kernel
theorem d_TB_init_214 : decode prog_1_method_1_code 214 = .ok (.aastore, 1) := by decide +kernel
theorem d_TB_init_215 : decode prog_1_method_1_code 215 = .ok (.iinc 1 (1), 3) := by decide +kernel
theorem d_TB_init_218 : decode prog_1_method_1_code 218 = .ok (.goto (-35), 3) := by decide +kernel
theorem d_TB_init_221 : decode prog_1_method_1_code 221 = .ok (.return_, 1) := by decide +kernel
theorem d_TB_about_0 : decode prog_1_method_15_code 0 = .ok (.iload_n 1, 1) := by decide +kernel
theorem d_TB_about_1 : decode prog_1_method_15_code 1 = .ok (.tableswitch (102) (0) (7) #[47, 52, 57, 62, 70, 78, 86, 94], 47) := by decide +kernel
theorem d_TB_about_48 : decode prog_1_method_15_code 48 = .ok (.aload_n 0, 1) := by decide +kernel
theorem d_TB_about_49 : decode prog_1_method_15_code 49 = .ok (.getfield 123, 3) := by decide +kernel
theorem d_TB_about_52 : decode prog_1_method_15_code 52 = .ok (.ireturn, 1) := by decide +kernel
theorem d_TB_about_53 : decode prog_1_method_15_code 53 = .ok (.aload_n 0, 1) := by decide +kernel
theorem d_TB_about_54 : decode prog_1_method_15_code 54 = .ok (.getfield 126, 3) := by decide +kernel
theorem d_TB_about_57 : decode prog_1_method_15_code 57 = .ok (.ireturn, 1) := by decide +kernel
theorem d_TB_about_58 : decode prog_1_method_15_code 58 = .ok (.aload_n 0, 1) := by decide +kernel
theorem d_TB_about_59 : decode prog_1_method_15_code 59 = .ok (.getfield 129, 3) := by decide +kernel
theorem d_TB_about_62 : decode prog_1_method_15_code 62 = .ok (.ireturn, 1) := by decide +kernel
theorem d_TB_about_63 : decode prog_1_method_15_code 63 = .ok (.aload_n 0, 1) := by decide +kernel
theorem d_TB_about_64 : decode prog_1_method_15_code 64 = .ok (.getfield 42, 3) := by decide +kernel
theorem d_TB_about_67 : decode prog_1_method_15_code 67 = .ok (.getfield 225, 3) := by decide +kernel
theorem d_TB_about_70 : decode prog_1_method_15_code 70 = .ok (.ireturn, 1) := by decide +kernel
theorem d_TB_about_71 : decode prog_1_method_15_code 71 = .ok (.aload_n 0, 1) := by decide +kernel
theorem d_TB_about_72 : decode prog_1_method_15_code 72 = .ok (.getfield 42, 3) := by decide +kernel
theorem d_TB_about_75 : decode prog_1_method_15_code 75 = .ok (.getfield 228, 3) := by decide +kernel
theorem d_TB_about_78 : decode prog_1_method_15_code 78 = .ok (.ireturn, 1) := by decide +kernel
theorem d_TB_about_79 : decode prog_1_method_15_code 79 = .ok (.aload_n 0, 1) := by decide +kernel
theorem d_TB_about_80 : decode prog_1_method_15_code 80 = .ok (.getfield 14, 3) := by decide +kernel
theorem d_TB_about_83 : decode prog_1_method_15_code 83 = .ok (.getfield 91, 3) := by decide +kernel
theorem d_TB_about_86 : decode prog_1_method_15_code 86 = .ok (.ireturn, 1) := by decide +kernel
theorem d_TB_about_87 : decode prog_1_method_15_code 87 = .ok (.aload_n 0, 1) := by decide +kernel
theorem d_TB_about_88 : decode prog_1_method_15_code 88 = .ok (.getfield 21, 3) := by decide +kernel
theorem d_TB_about_91 : decode prog_1_method_15_code 91 = .ok (.getfield 91, 3) := by decide +kernel
theorem d_TB_about_94 : decode prog_1_method_15_code 94 = .ok (.ireturn, 1) := by decide +kernel
theorem d_TB_about_95 : decode prog_1_method_15_code 95 = .ok (.aload_n 0, 1) := by decide +kernel
theorem d_TB_about_96 : decode prog_1_method_15_code 96 = .ok (.getfield 24, 3) := by decide +kernel
theorem d_TB_about_99 : decode prog_1_method_15_code 99 = .ok (.getfield 91, 3) := by decide +kernel
theorem d_TB_about_102 : decode prog_1_method_15_code 102 = .ok (.ireturn, 1) := by decide +kernel
theorem d_TB_about_103 : decode prog_1_method_15_code 103 = .ok (.iconst 0, 1) := by decide +kernel
theorem d_TB_about_104 : decode prog_1_method_15_code 104 = .ok (.ireturn, 1) := by decide +kernel
theorem d_TB_change_0 : decode prog_1_method_5_code 0 = .ok (.aload_n 0, 1) := by decide +kernel
theorem d_TB_change_1 : decode prog_1_method_5_code 1 = .ok (.invokevirtual 102, 3) := by decide +kernel
theorem d_TB_change_4 : decode prog_1_method_5_code 4 = .ok (.aload_n 0, 1) := by decide +kernel
theorem d_TB_change_5 : decode prog_1_method_5_code 5 = .ok (.invokevirtual 159, 3) := by decide +kernel
theorem d_TB_choose_0 : decode prog_1_method_7_code 0 = .ok (.aload_n 0, 1) := by decide +kernel
theorem d_TB_choose_1 : decode prog_1_method_7_code 1 = .ok (.invokevirtual 159, 3) := by decide +kernel
theorem d_TB_commit_0 : decode prog_1_method_6_code 0 = .ok (.aload_n 0, 1) := by decide +kernel
theorem d_TB_commit_1 : decode prog_1_method_6_code 1 = .ok (.invokevirtual 102, 3) := by decide +kernel
theorem d_TB_commit_4 : decode prog_1_method_6_code 4 = .ok (.aload_n 0, 1) := by decide +kernel
theorem d_TB_commit_5 : decode prog_1_method_6_code 5 = .ok (.invokevirtual 159, 3) := by decide +kernel
theorem d_TB_deal_0 : decode prog_1_method_4_code 0 = .ok (.aload_n 0, 1) := by decide +kernel
theorem d_TB_deal_1 : decode prog_1_method_4_code 1 = .ok (.invokevirtual 102, 3) := by decide +kernel
theorem d_TB_deal_4 : decode prog_1_method_4_code 4 = .ok (.iload_n 1, 1) := by decide +kernel
theorem d_TB_deal_5 : decode prog_1_method_4_code 5 = .ok (.iconst 2, 1) := by decide +kernel
theorem d_TB_deal_6 : decode prog_1_method_4_code 6 = .ok (.if_icmp .lt (31), 3) := by decide +kernel
theorem d_TB_deal_9 : decode prog_1_method_4_code 9 = .ok (.iload_n 2, 1) := by decide +kernel
theorem d_TB_deal_10 : decode prog_1_method_4_code 10 = .ok (.iload_n 1, 1) := by decide +kernel
theorem d_TB_deal_11 : decode prog_1_method_4_code 11 = .ok (.if_icmp .lt (26), 3) := by decide +kernel
theorem d_TB_deal_14 : decode prog_1_method_4_code 14 = .ok (.iload_n 2, 1) := by decide +kernel
theorem d_TB_deal_15 : decode prog_1_method_4_code 15 = .ok (.bipush (8), 2) := by decide +kernel
theorem d_TB_deal_17 : decode prog_1_method_4_code 17 = .ok (.if_icmp .gt (20), 3) := by decide +kernel
theorem d_TB_deal_20 : decode prog_1_method_4_code 20 = .ok (.aload_n 0, 1) := by decide +kernel
theorem d_TB_deal_21 : decode prog_1_method_4_code 21 = .ok (.iload_n 1, 1) := by decide +kernel
theorem d_TB_deal_22 : decode prog_1_method_4_code 22 = .ok (.invokevirtual 115, 3) := by decide +kernel
theorem d_TB_deal_25 : decode prog_1_method_4_code 25 = .ok (.ifCond .eq (12), 3) := by decide +kernel
theorem d_TB_deal_37 : decode prog_1_method_4_code 37 = .ok (.new 99, 3) := by decide +kernel
theorem d_TB_deal_40 : decode prog_1_method_4_code 40 = .ok (.dup, 1) := by decide +kernel
theorem d_TB_deal_41 : decode prog_1_method_4_code 41 = .ok (.invokespecial 101, 3) := by decide +kernel
theorem d_TB_deal_44 : decode prog_1_method_4_code 44 = .ok (.athrow, 1) := by decide +kernel
theorem d_TB_drawCoefficients_0 : decode prog_1_method_27_code 0 = .ok (.aload_n 0, 1) := by decide +kernel
theorem d_TB_drawCoefficients_1 : decode prog_1_method_27_code 1 = .ok (.getfield 18, 3) := by decide +kernel
theorem d_TB_drawCoefficients_4 : decode prog_1_method_27_code 4 = .ok (.getfield 91, 3) := by decide +kernel
theorem d_TB_drawCoefficients_7 : decode prog_1_method_27_code 7 = .ok (.iload_n 1, 1) := by decide +kernel
theorem d_TB_drawCoefficients_8 : decode prog_1_method_27_code 8 = .ok (.bipush (32), 2) := by decide +kernel
theorem d_TB_drawCoefficients_10 : decode prog_1_method_27_code 10 = .ok (.imul, 1) := by decide +kernel
theorem d_TB_drawCoefficients_11 : decode prog_1_method_27_code 11 = .ok (.if_icmp .eq (5), 3) := by decide +kernel
theorem d_TB_drawCoefficients_14 : decode prog_1_method_27_code 14 = .ok (.iconst 0, 1) := by decide +kernel
theorem d_TB_drawCoefficients_15 : decode prog_1_method_27_code 15 = .ok (.ireturn, 1) := by decide +kernel
theorem d_TB_endSet_0 : decode prog_1_method_18_code 0 = .ok (.aload_n 0, 1) := by decide +kernel
theorem d_TB_endSet_1 : decode prog_1_method_18_code 1 = .ok (.getfield 42, 3) := by decide +kernel
theorem d_TB_endSet_4 : decode prog_1_method_18_code 4 = .ok (.iconst 0, 1) := by decide +kernel
theorem d_TB_endSet_5 : decode prog_1_method_18_code 5 = .ok (.putfield 225, 3) := by decide +kernel
theorem d_TB_endSet_8 : decode prog_1_method_18_code 8 = .ok (.aload_n 0, 1) := by decide +kernel
theorem d_TB_endSet_9 : decode prog_1_method_18_code 9 = .ok (.getfield 42, 3) := by decide +kernel
theorem d_TB_endSet_12 : decode prog_1_method_18_code 12 = .ok (.iconst 0, 1) := by decide +kernel
theorem d_TB_endSet_13 : decode prog_1_method_18_code 13 = .ok (.putfield 228, 3) := by decide +kernel
theorem d_TB_endSet_16 : decode prog_1_method_18_code 16 = .ok (.return_, 1) := by decide +kernel
theorem d_TB_feed_0 : decode prog_1_method_2_code 0 = .ok (.iload_n 1, 1) := by decide +kernel
theorem d_TB_feed_1 : decode prog_1_method_2_code 1 = .ok (.ifCond .lt (24), 3) := by decide +kernel
theorem d_TB_feed_4 : decode prog_1_method_2_code 4 = .ok (.iload_n 1, 1) := by decide +kernel
theorem d_TB_feed_5 : decode prog_1_method_2_code 5 = .ok (.bipush (20), 2) := by decide +kernel
theorem d_TB_feed_7 : decode prog_1_method_2_code 7 = .ok (.if_icmp .gt (18), 3) := by decide +kernel
theorem d_TB_feed_10 : decode prog_1_method_2_code 10 = .ok (.aload_n 0, 1) := by decide +kernel
theorem d_TB_feed_11 : decode prog_1_method_2_code 11 = .ok (.getfield 14, 3) := by decide +kernel
theorem d_TB_feed_14 : decode prog_1_method_2_code 14 = .ok (.getfield 91, 3) := by decide +kernel
theorem d_TB_feed_17 : decode prog_1_method_2_code 17 = .ok (.iload_n 1, 1) := by decide +kernel
theorem d_TB_feed_18 : decode prog_1_method_2_code 18 = .ok (.iadd, 1) := by decide +kernel
theorem d_TB_feed_19 : decode prog_1_method_2_code 19 = .ok (.sipush (300), 3) := by decide +kernel
theorem d_TB_feed_22 : decode prog_1_method_2_code 22 = .ok (.if_icmp .le (5), 3) := by decide +kernel
theorem d_TB_feed_25 : decode prog_1_method_2_code 25 = .ok (.iconst (-1), 1) := by decide +kernel
theorem d_TB_feed_26 : decode prog_1_method_2_code 26 = .ok (.ireturn, 1) := by decide +kernel
theorem d_TB_feed_27 : decode prog_1_method_2_code 27 = .ok (.aload_n 0, 1) := by decide +kernel
theorem d_TB_feed_28 : decode prog_1_method_2_code 28 = .ok (.iload_n 1, 1) := by decide +kernel
theorem d_TB_feed_29 : decode prog_1_method_2_code 29 = .ok (.iload_n 2, 1) := by decide +kernel
theorem d_TB_feed_30 : decode prog_1_method_2_code 30 = .ok (.invokevirtual 95, 3) := by decide +kernel
theorem d_TB_feed_33 : decode prog_1_method_2_code 33 = .ok (.aload_n 0, 1) := by decide +kernel
theorem d_TB_feed_34 : decode prog_1_method_2_code 34 = .ok (.iload_n 1, 1) := by decide +kernel
theorem d_TB_feed_35 : decode prog_1_method_2_code 35 = .ok (.iconst 4, 1) := by decide +kernel
theorem d_TB_feed_36 : decode prog_1_method_2_code 36 = .ok (.isub, 1) := by decide +kernel
theorem d_TB_feed_37 : decode prog_1_method_2_code 37 = .ok (.iload_n 3, 1) := by decide +kernel
theorem d_TB_feed_38 : decode prog_1_method_2_code 38 = .ok (.invokevirtual 95, 3) := by decide +kernel
theorem d_TB_feed_41 : decode prog_1_method_2_code 41 = .ok (.aload_n 0, 1) := by decide +kernel
theorem d_TB_feed_42 : decode prog_1_method_2_code 42 = .ok (.iload_n 1, 1) := by decide +kernel
theorem d_TB_feed_43 : decode prog_1_method_2_code 43 = .ok (.bipush (8), 2) := by decide +kernel
theorem d_TB_feed_45 : decode prog_1_method_2_code 45 = .ok (.isub, 1) := by decide +kernel
theorem d_TB_feed_46 : decode prog_1_method_2_code 46 = .ok (.iload 4, 2) := by decide +kernel
theorem d_TB_feed_48 : decode prog_1_method_2_code 48 = .ok (.invokevirtual 95, 3) := by decide +kernel
theorem d_TB_feed_51 : decode prog_1_method_2_code 51 = .ok (.aload_n 0, 1) := by decide +kernel
theorem d_TB_feed_52 : decode prog_1_method_2_code 52 = .ok (.iload_n 1, 1) := by decide +kernel
theorem d_TB_feed_53 : decode prog_1_method_2_code 53 = .ok (.bipush (12), 2) := by decide +kernel
theorem d_TB_feed_55 : decode prog_1_method_2_code 55 = .ok (.isub, 1) := by decide +kernel
theorem d_TB_feed_56 : decode prog_1_method_2_code 56 = .ok (.iload 5, 2) := by decide +kernel
theorem d_TB_feed_58 : decode prog_1_method_2_code 58 = .ok (.invokevirtual 95, 3) := by decide +kernel
theorem d_TB_feed_61 : decode prog_1_method_2_code 61 = .ok (.aload_n 0, 1) := by decide +kernel
theorem d_TB_feed_62 : decode prog_1_method_2_code 62 = .ok (.iload_n 1, 1) := by decide +kernel
theorem d_TB_feed_63 : decode prog_1_method_2_code 63 = .ok (.bipush (16), 2) := by decide +kernel
theorem d_TB_feed_65 : decode prog_1_method_2_code 65 = .ok (.isub, 1) := by decide +kernel
theorem d_TB_feed_66 : decode prog_1_method_2_code 66 = .ok (.iload 6, 2) := by decide +kernel
theorem d_TB_feed_68 : decode prog_1_method_2_code 68 = .ok (.invokevirtual 95, 3) := by decide +kernel
theorem d_TB_feed_71 : decode prog_1_method_2_code 71 = .ok (.aload_n 0, 1) := by decide +kernel
theorem d_TB_feed_72 : decode prog_1_method_2_code 72 = .ok (.getfield 14, 3) := by decide +kernel
theorem d_TB_feed_75 : decode prog_1_method_2_code 75 = .ok (.getfield 91, 3) := by decide +kernel
theorem d_TB_feed_78 : decode prog_1_method_2_code 78 = .ok (.ireturn, 1) := by decide +kernel
theorem d_TB_feedWord_0 : decode prog_1_method_16_code 0 = .ok (.iconst 0, 1) := by decide +kernel
theorem d_TB_feedWord_1 : decode prog_1_method_16_code 1 = .ok (.istore_n 3, 1) := by decide +kernel
theorem d_TB_feedWord_2 : decode prog_1_method_16_code 2 = .ok (.iload_n 3, 1) := by decide +kernel
theorem d_TB_feedWord_3 : decode prog_1_method_16_code 3 = .ok (.iconst 4, 1) := by decide +kernel
theorem d_TB_feedWord_4 : decode prog_1_method_16_code 4 = .ok (.if_icmp .ge (30), 3) := by decide +kernel
theorem d_TB_feedWord_7 : decode prog_1_method_16_code 7 = .ok (.iload_n 3, 1) := by decide +kernel
theorem d_TB_feedWord_8 : decode prog_1_method_16_code 8 = .ok (.iload_n 1, 1) := by decide +kernel
theorem d_TB_feedWord_9 : decode prog_1_method_16_code 9 = .ok (.if_icmp .ge (25), 3) := by decide +kernel
theorem d_TB_feedWord_12 : decode prog_1_method_16_code 12 = .ok (.aload_n 0, 1) := by decide +kernel
theorem d_TB_feedWord_13 : decode prog_1_method_16_code 13 = .ok (.getfield 14, 3) := by decide +kernel
theorem d_TB_feedWord_16 : decode prog_1_method_16_code 16 = .ok (.iload_n 2, 1) := by decide +kernel
theorem d_TB_feedWord_17 : decode prog_1_method_16_code 17 = .ok (.bipush (24), 2) := by decide +kernel
theorem d_TB_feedWord_19 : decode prog_1_method_16_code 19 = .ok (.bipush (8), 2) := by decide +kernel
theorem d_TB_feedWord_21 : decode prog_1_method_16_code 21 = .ok (.iload_n 3, 1) := by decide +kernel
theorem d_TB_feedWord_22 : decode prog_1_method_16_code 22 = .ok (.imul, 1) := by decide +kernel
theorem d_TB_feedWord_23 : decode prog_1_method_16_code 23 = .ok (.isub, 1) := by decide +kernel
theorem d_TB_feedWord_24 : decode prog_1_method_16_code 24 = .ok (.iushr, 1) := by decide +kernel
theorem d_TB_feedWord_25 : decode prog_1_method_16_code 25 = .ok (.invokevirtual 301, 3) := by decide +kernel
theorem d_TB_feedWord_28 : decode prog_1_method_16_code 28 = .ok (.iinc 3 (1), 3) := by decide +kernel
theorem d_TB_feedWord_31 : decode prog_1_method_16_code 31 = .ok (.goto (-29), 3) := by decide +kernel
theorem d_TB_feedWord_34 : decode prog_1_method_16_code 34 = .ok (.return_, 1) := by decide +kernel
theorem d_TB_gather_0 : decode prog_1_method_11_code 0 = .ok (.aload_n 0, 1) := by decide +kernel
theorem d_TB_gather_1 : decode prog_1_method_11_code 1 = .ok (.invokevirtual 235, 3) := by decide +kernel
theorem d_TB_holds_0 : decode prog_1_method_12_code 0 = .ok (.aload_n 0, 1) := by decide +kernel
theorem d_TB_holds_1 : decode prog_1_method_12_code 1 = .ok (.invokevirtual 102, 3) := by decide +kernel
theorem d_TB_holds_4 : decode prog_1_method_12_code 4 = .ok (.aload_n 0, 1) := by decide +kernel
theorem d_TB_holds_5 : decode prog_1_method_12_code 5 = .ok (.invokevirtual 159, 3) := by decide +kernel
theorem d_TB_isIn_0 : decode prog_1_method_24_code 0 = .ok (.aload_n 0, 1) := by decide +kernel
theorem d_TB_isIn_1 : decode prog_1_method_24_code 1 = .ok (.iload_n 2, 1) := by decide +kernel
theorem d_TB_isIn_2 : decode prog_1_method_24_code 2 = .ok (.invokevirtual 307, 3) := by decide +kernel
theorem d_TB_isIn_5 : decode prog_1_method_24_code 5 = .ok (.ifCond .eq (16), 3) := by decide +kernel
theorem d_TB_isIn_21 : decode prog_1_method_24_code 21 = .ok (.iconst 0, 1) := by decide +kernel
theorem d_TB_isIn_22 : decode prog_1_method_24_code 22 = .ok (.ireturn, 1) := by decide +kernel
theorem d_TB_isParticipant_0 : decode prog_1_method_23_code 0 = .ok (.iload_n 1, 1) := by decide +kernel
theorem d_TB_isParticipant_1 : decode prog_1_method_23_code 1 = .ok (.iconst 1, 1) := by decide +kernel
theorem d_TB_isParticipant_2 : decode prog_1_method_23_code 2 = .ok (.if_icmp .lt (15), 3) := by decide +kernel
theorem d_TB_isParticipant_5 : decode prog_1_method_23_code 5 = .ok (.iload_n 1, 1) := by decide +kernel
theorem d_TB_isParticipant_6 : decode prog_1_method_23_code 6 = .ok (.aload_n 0, 1) := by decide +kernel
theorem d_TB_isParticipant_7 : decode prog_1_method_23_code 7 = .ok (.getfield 126, 3) := by decide +kernel
theorem d_TB_isParticipant_10 : decode prog_1_method_23_code 10 = .ok (.if_icmp .gt (7), 3) := by decide +kernel
theorem d_TB_isParticipant_17 : decode prog_1_method_23_code 17 = .ok (.iconst 0, 1) := by decide +kernel
theorem d_TB_isParticipant_18 : decode prog_1_method_23_code 18 = .ok (.ireturn, 1) := by decide +kernel
theorem d_TB_isThere_0 : decode prog_1_method_26_code 0 = .ok (.iload_n 1, 1) := by decide +kernel
theorem d_TB_isThere_1 : decode prog_1_method_26_code 1 = .ok (.tableswitch (123) (0) (7) #[47, 60, 60, 66, 84, 94, 107, 94], 47) := by decide +kernel
theorem d_TB_isThere_48 : decode prog_1_method_26_code 48 = .ok (.aload_n 0, 1) := by decide +kernel
theorem d_TB_isThere_49 : decode prog_1_method_26_code 49 = .ok (.getfield 126, 3) := by decide +kernel
theorem d_TB_isThere_52 : decode prog_1_method_26_code 52 = .ok (.ifCond .eq (7), 3) := by decide +kernel
theorem d_TB_isThere_59 : decode prog_1_method_26_code 59 = .ok (.iconst 0, 1) := by decide +kernel
theorem d_TB_isThere_60 : decode prog_1_method_26_code 60 = .ok (.ireturn, 1) := by decide +kernel
theorem d_TB_isThere_61 : decode prog_1_method_26_code 61 = .ok (.aload_n 0, 1) := by decide +kernel
theorem d_TB_isThere_62 : decode prog_1_method_26_code 62 = .ok (.iload_n 2, 1) := by decide +kernel
theorem d_TB_isThere_63 : decode prog_1_method_26_code 63 = .ok (.invokevirtual 307, 3) := by decide +kernel
theorem d_TB_isThere_66 : decode prog_1_method_26_code 66 = .ok (.ireturn, 1) := by decide +kernel
theorem d_TB_isThere_67 : decode prog_1_method_26_code 67 = .ok (.iload_n 2, 1) := by decide +kernel
theorem d_TB_isThere_68 : decode prog_1_method_26_code 68 = .ok (.ifCond .lt (15), 3) := by decide +kernel
theorem d_TB_isThere_71 : decode prog_1_method_26_code 71 = .ok (.iload_n 2, 1) := by decide +kernel
theorem d_TB_isThere_72 : decode prog_1_method_26_code 72 = .ok (.aload_n 0, 1) := by decide +kernel
theorem d_TB_isThere_73 : decode prog_1_method_26_code 73 = .ok (.getfield 123, 3) := by decide +kernel
theorem d_TB_isThere_76 : decode prog_1_method_26_code 76 = .ok (.if_icmp .ge (7), 3) := by decide +kernel
theorem d_TB_isThere_83 : decode prog_1_method_26_code 83 = .ok (.iconst 0, 1) := by decide +kernel
theorem d_TB_isThere_84 : decode prog_1_method_26_code 84 = .ok (.ireturn, 1) := by decide +kernel
theorem d_TB_isThere_85 : decode prog_1_method_26_code 85 = .ok (.aload_n 0, 1) := by decide +kernel
theorem d_TB_isThere_86 : decode prog_1_method_26_code 86 = .ok (.aload_n 0, 1) := by decide +kernel
theorem d_TB_isThere_87 : decode prog_1_method_26_code 87 = .ok (.getfield 129, 3) := by decide +kernel
theorem d_TB_isThere_90 : decode prog_1_method_26_code 90 = .ok (.iload_n 2, 1) := by decide +kernel
theorem d_TB_isThere_91 : decode prog_1_method_26_code 91 = .ok (.invokevirtual 270, 3) := by decide +kernel
theorem d_TB_isThere_94 : decode prog_1_method_26_code 94 = .ok (.ireturn, 1) := by decide +kernel
theorem d_TB_isThere_95 : decode prog_1_method_26_code 95 = .ok (.aload_n 0, 1) := by decide +kernel
theorem d_TB_isThere_96 : decode prog_1_method_26_code 96 = .ok (.aload_n 0, 1) := by decide +kernel
theorem d_TB_isThere_97 : decode prog_1_method_26_code 97 = .ok (.getfield 42, 3) := by decide +kernel
theorem d_TB_isThere_100 : decode prog_1_method_26_code 100 = .ok (.getfield 225, 3) := by decide +kernel
theorem d_TB_isThere_103 : decode prog_1_method_26_code 103 = .ok (.iload_n 2, 1) := by decide +kernel
theorem d_TB_isThere_104 : decode prog_1_method_26_code 104 = .ok (.invokevirtual 270, 3) := by decide +kernel
theorem d_TB_isThere_107 : decode prog_1_method_26_code 107 = .ok (.ireturn, 1) := by decide +kernel
theorem d_TB_isThere_108 : decode prog_1_method_26_code 108 = .ok (.aload_n 0, 1) := by decide +kernel
theorem d_TB_isThere_109 : decode prog_1_method_26_code 109 = .ok (.getfield 42, 3) := by decide +kernel
theorem d_TB_isThere_112 : decode prog_1_method_26_code 112 = .ok (.getfield 225, 3) := by decide +kernel
theorem d_TB_isThere_115 : decode prog_1_method_26_code 115 = .ok (.ifCond .eq (7), 3) := by decide +kernel
theorem d_TB_isThere_122 : decode prog_1_method_26_code 122 = .ok (.iconst 0, 1) := by decide +kernel
theorem d_TB_isThere_123 : decode prog_1_method_26_code 123 = .ok (.ireturn, 1) := by decide +kernel
theorem d_TB_isThere_124 : decode prog_1_method_26_code 124 = .ok (.iload_n 1, 1) := by decide +kernel
theorem d_TB_isThere_125 : decode prog_1_method_26_code 125 = .ok (.bipush (8), 2) := by decide +kernel
theorem d_TB_isThere_127 : decode prog_1_method_26_code 127 = .ok (.if_icmp .ne (7), 3) := by decide +kernel
theorem d_TB_isThere_130 : decode prog_1_method_26_code 130 = .ok (.iconst 1, 1) := by decide +kernel
theorem d_TB_isThere_131 : decode prog_1_method_26_code 131 = .ok (.goto (4), 3) := by decide +kernel
theorem d_TB_isThere_134 : decode prog_1_method_26_code 134 = .ok (.iconst 0, 1) := by decide +kernel
theorem d_TB_isThere_135 : decode prog_1_method_26_code 135 = .ok (.ireturn, 1) := by decide +kernel
theorem d_TB_message_0 : decode prog_1_method_3_code 0 = .ok (.aload_n 0, 1) := by decide +kernel
theorem d_TB_message_1 : decode prog_1_method_3_code 1 = .ok (.getfield 14, 3) := by decide +kernel
theorem d_TB_message_4 : decode prog_1_method_3_code 4 = .ok (.getfield 91, 3) := by decide +kernel
theorem d_TB_message_7 : decode prog_1_method_3_code 7 = .ok (.bipush (100), 2) := by decide +kernel
theorem d_TB_message_9 : decode prog_1_method_3_code 9 = .ok (.if_icmp .le (11), 3) := by decide +kernel
theorem d_TB_message_20 : decode prog_1_method_3_code 20 = .ok (.aload_n 0, 1) := by decide +kernel
theorem d_TB_message_21 : decode prog_1_method_3_code 21 = .ok (.invokevirtual 102, 3) := by decide +kernel
theorem d_TB_message_24 : decode prog_1_method_3_code 24 = .ok (.aload_n 0, 1) := by decide +kernel
theorem d_TB_message_25 : decode prog_1_method_3_code 25 = .ok (.getfield 21, 3) := by decide +kernel
theorem d_TB_message_28 : decode prog_1_method_3_code 28 = .ok (.invokevirtual 105, 3) := by decide +kernel
theorem d_TB_message_31 : decode prog_1_method_3_code 31 = .ok (.aload_n 0, 1) := by decide +kernel
theorem d_TB_message_32 : decode prog_1_method_3_code 32 = .ok (.getfield 21, 3) := by decide +kernel
theorem d_TB_message_35 : decode prog_1_method_3_code 35 = .ok (.aload_n 0, 1) := by decide +kernel
theorem d_TB_message_36 : decode prog_1_method_3_code 36 = .ok (.getfield 18, 3) := by decide +kernel
theorem d_TB_message_39 : decode prog_1_method_3_code 39 = .ok (.invokevirtual 108, 3) := by decide +kernel
theorem d_TB_message_42 : decode prog_1_method_3_code 42 = .ok (.aload_n 0, 1) := by decide +kernel
theorem d_TB_message_43 : decode prog_1_method_3_code 43 = .ok (.invokevirtual 112, 3) := by decide +kernel
theorem d_TB_message_46 : decode prog_1_method_3_code 46 = .ok (.aload_n 0, 1) := by decide +kernel
theorem d_TB_message_47 : decode prog_1_method_3_code 47 = .ok (.getfield 21, 3) := by decide +kernel
theorem d_TB_message_50 : decode prog_1_method_3_code 50 = .ok (.getfield 91, 3) := by decide +kernel
theorem d_TB_message_53 : decode prog_1_method_3_code 53 = .ok (.ireturn, 1) := by decide +kernel
theorem d_TB_other_0 : decode prog_1_method_9_code 0 = .ok (.aload_n 0, 1) := by decide +kernel
theorem d_TB_other_1 : decode prog_1_method_9_code 1 = .ok (.invokevirtual 102, 3) := by decide +kernel
theorem d_TB_other_4 : decode prog_1_method_9_code 4 = .ok (.aload_n 0, 1) := by decide +kernel
theorem d_TB_other_5 : decode prog_1_method_9_code 5 = .ok (.invokevirtual 235, 3) := by decide +kernel
theorem d_TB_output_0 : decode prog_1_method_14_code 0 = .ok (.iload_n 1, 1) := by decide +kernel
theorem d_TB_output_1 : decode prog_1_method_14_code 1 = .ok (.ifCond .lt (30), 3) := by decide +kernel
theorem d_TB_output_4 : decode prog_1_method_14_code 4 = .ok (.iload_n 1, 1) := by decide +kernel
theorem d_TB_output_5 : decode prog_1_method_14_code 5 = .ok (.aload_n 0, 1) := by decide +kernel
theorem d_TB_output_6 : decode prog_1_method_14_code 6 = .ok (.getfield 24, 3) := by decide +kernel
theorem d_TB_output_9 : decode prog_1_method_14_code 9 = .ok (.getfield 91, 3) := by decide +kernel
theorem d_TB_output_12 : decode prog_1_method_14_code 12 = .ok (.if_icmp .ge (19), 3) := by decide +kernel
theorem d_TB_output_31 : decode prog_1_method_14_code 31 = .ok (.iconst (-1), 1) := by decide +kernel
theorem d_TB_output_32 : decode prog_1_method_14_code 32 = .ok (.ireturn, 1) := by decide +kernel
theorem d_TB_requireDealt_0 : decode prog_1_method_19_code 0 = .ok (.aload_n 0, 1) := by decide +kernel
theorem d_TB_requireDealt_1 : decode prog_1_method_19_code 1 = .ok (.getfield 126, 3) := by decide +kernel
theorem d_TB_requireDealt_4 : decode prog_1_method_19_code 4 = .ok (.ifCond .ne (11), 3) := by decide +kernel
theorem d_TB_requireDealt_7 : decode prog_1_method_19_code 7 = .ok (.new 304, 3) := by decide +kernel
theorem d_TB_requireDealt_10 : decode prog_1_method_19_code 10 = .ok (.dup, 1) := by decide +kernel
theorem d_TB_requireDealt_11 : decode prog_1_method_19_code 11 = .ok (.invokespecial 306, 3) := by decide +kernel
theorem d_TB_requireDealt_14 : decode prog_1_method_19_code 14 = .ok (.athrow, 1) := by decide +kernel
theorem d_TB_requireSet_0 : decode prog_1_method_20_code 0 = .ok (.aload_n 0, 1) := by decide +kernel
theorem d_TB_requireSet_1 : decode prog_1_method_20_code 1 = .ok (.getfield 42, 3) := by decide +kernel
theorem d_TB_requireSet_4 : decode prog_1_method_20_code 4 = .ok (.getfield 225, 3) := by decide +kernel
theorem d_TB_requireSet_7 : decode prog_1_method_20_code 7 = .ok (.ifCond .ne (11), 3) := by decide +kernel
theorem d_TB_requireSet_10 : decode prog_1_method_20_code 10 = .ok (.new 304, 3) := by decide +kernel
theorem d_TB_requireSet_13 : decode prog_1_method_20_code 13 = .ok (.dup, 1) := by decide +kernel
theorem d_TB_requireSet_14 : decode prog_1_method_20_code 14 = .ok (.invokespecial 306, 3) := by decide +kernel
theorem d_TB_requireSet_17 : decode prog_1_method_20_code 17 = .ok (.athrow, 1) := by decide +kernel
theorem d_TB_right_0 : decode prog_1_method_10_code 0 = .ok (.aload_n 0, 1) := by decide +kernel
theorem d_TB_right_1 : decode prog_1_method_10_code 1 = .ok (.invokevirtual 235, 3) := by decide +kernel
theorem d_TB_share_0 : decode prog_1_method_8_code 0 = .ok (.aload_n 0, 1) := by decide +kernel
theorem d_TB_share_1 : decode prog_1_method_8_code 1 = .ok (.invokevirtual 235, 3) := by decide +kernel
theorem d_TB_show_0 : decode prog_1_method_13_code 0 = .ok (.aload_n 0, 1) := by decide +kernel
theorem d_TB_show_1 : decode prog_1_method_13_code 1 = .ok (.iload_n 1, 1) := by decide +kernel
theorem d_TB_show_2 : decode prog_1_method_13_code 2 = .ok (.iload_n 2, 1) := by decide +kernel
theorem d_TB_show_3 : decode prog_1_method_13_code 3 = .ok (.invokevirtual 286, 3) := by decide +kernel
theorem d_TB_show_6 : decode prog_1_method_13_code 6 = .ok (.ifCond .ne (5), 3) := by decide +kernel
theorem d_TB_show_9 : decode prog_1_method_13_code 9 = .ok (.iconst 0, 1) := by decide +kernel
theorem d_TB_show_10 : decode prog_1_method_13_code 10 = .ok (.ireturn, 1) := by decide +kernel
theorem d_TB_show_11 : decode prog_1_method_13_code 11 = .ok (.aload_n 0, 1) := by decide +kernel
theorem d_TB_show_12 : decode prog_1_method_13_code 12 = .ok (.getfield 24, 3) := by decide +kernel
theorem d_TB_show_15 : decode prog_1_method_13_code 15 = .ok (.invokevirtual 105, 3) := by decide +kernel
theorem d_TB_show_18 : decode prog_1_method_13_code 18 = .ok (.iload_n 1, 1) := by decide +kernel
theorem d_TB_show_19 : decode prog_1_method_13_code 19 = .ok (.tableswitch (196) (0) (7) #[45, 61, 82, 103, 119, 137, 158, 175], 45) := by decide +kernel
theorem d_TB_show_215 : decode prog_1_method_13_code 215 = .ok (.aload_n 0, 1) := by decide +kernel
theorem d_TB_show_216 : decode prog_1_method_13_code 216 = .ok (.getfield 66, 3) := by decide +kernel
theorem d_TB_show_219 : decode prog_1_method_13_code 219 = .ok (.aload_n 0, 1) := by decide +kernel
theorem d_TB_show_220 : decode prog_1_method_13_code 220 = .ok (.getfield 24, 3) := by decide +kernel
theorem d_TB_show_223 : decode prog_1_method_13_code 223 = .ok (.aload_n 0, 1) := by decide +kernel
theorem d_TB_show_224 : decode prog_1_method_13_code 224 = .ok (.getfield 21, 3) := by decide +kernel
theorem d_TB_show_227 : decode prog_1_method_13_code 227 = .ok (.invokevirtual 293, 3) := by decide +kernel
theorem d_TB_show_230 : decode prog_1_method_13_code 230 = .ok (.aload_n 0, 1) := by decide +kernel
theorem d_TB_show_231 : decode prog_1_method_13_code 231 = .ok (.getfield 24, 3) := by decide +kernel
theorem d_TB_show_234 : decode prog_1_method_13_code 234 = .ok (.getfield 91, 3) := by decide +kernel
theorem d_TB_show_237 : decode prog_1_method_13_code 237 = .ok (.ireturn, 1) := by decide +kernel
theorem d_TB_takeTape_0 : decode prog_1_method_17_code 0 = .ok (.aload_n 0, 1) := by decide +kernel
theorem d_TB_takeTape_1 : decode prog_1_method_17_code 1 = .ok (.getfield 14, 3) := by decide +kernel
theorem d_TB_takeTape_4 : decode prog_1_method_17_code 4 = .ok (.astore_n 1, 1) := by decide +kernel
theorem d_TB_takeTape_5 : decode prog_1_method_17_code 5 = .ok (.aload_n 0, 1) := by decide +kernel
theorem d_TB_takeTape_6 : decode prog_1_method_17_code 6 = .ok (.aload_n 0, 1) := by decide +kernel
theorem d_TB_takeTape_7 : decode prog_1_method_17_code 7 = .ok (.getfield 18, 3) := by decide +kernel
theorem d_TB_takeTape_10 : decode prog_1_method_17_code 10 = .ok (.putfield 14, 3) := by decide +kernel
