theorem d_Mo_mix_434 : decode prog_14_method_28_code 434 = .ok (.getfield 164, 3) := by decide +kernel
theorem d_Mo_mix_437 : decode prog_14_method_28_code 437 = .ok (.iconst 4, 1) := by decide +kernel
theorem d_Mo_mix_438 : decode prog_14_method_28_code 438 = .ok (.dup2, 1) := by decide +kernel
theorem d_Mo_mix_439 : decode prog_14_method_28_code 439 = .ok (.iaload, 1) := by decide +kernel
theorem d_Mo_mix_440 : decode prog_14_method_28_code 440 = .ok (.iload 6, 2) := by decide +kernel
theorem d_Mo_mix_442 : decode prog_14_method_28_code 442 = .ok (.iadd, 1) := by decide +kernel
theorem d_Mo_mix_443 : decode prog_14_method_28_code 443 = .ok (.iastore, 1) := by decide +kernel
theorem d_Mo_mix_444 : decode prog_14_method_28_code 444 = .ok (.aload_n 0, 1) := by decide +kernel
theorem d_Mo_mix_445 : decode prog_14_method_28_code 445 = .ok (.getfield 164, 3) := by decide +kernel
theorem d_Mo_mix_448 : decode prog_14_method_28_code 448 = .ok (.iconst 5, 1) := by decide +kernel
theorem d_Mo_mix_449 : decode prog_14_method_28_code 449 = .ok (.dup2, 1) := by decide +kernel
theorem d_Mo_mix_450 : decode prog_14_method_28_code 450 = .ok (.iaload, 1) := by decide +kernel
theorem d_Mo_mix_451 : decode prog_14_method_28_code 451 = .ok (.iload 7, 2) := by decide +kernel
theorem d_Mo_mix_453 : decode prog_14_method_28_code 453 = .ok (.iadd, 1) := by decide +kernel
theorem d_Mo_mix_454 : decode prog_14_method_28_code 454 = .ok (.iastore, 1) := by decide +kernel
theorem d_Mo_mix_455 : decode prog_14_method_28_code 455 = .ok (.aload_n 0, 1) := by decide +kernel
theorem d_Mo_mix_456 : decode prog_14_method_28_code 456 = .ok (.getfield 164, 3) := by decide +kernel
theorem d_Mo_mix_459 : decode prog_14_method_28_code 459 = .ok (.bipush (6), 2) := by decide +kernel
theorem d_Mo_mix_461 : decode prog_14_method_28_code 461 = .ok (.dup2, 1) := by decide +kernel
theorem d_Mo_mix_462 : decode prog_14_method_28_code 462 = .ok (.iaload, 1) := by decide +kernel
theorem d_Mo_mix_463 : decode prog_14_method_28_code 463 = .ok (.iload 8, 2) := by decide +kernel
theorem d_Mo_mix_465 : decode prog_14_method_28_code 465 = .ok (.iadd, 1) := by decide +kernel
theorem d_Mo_mix_466 : decode prog_14_method_28_code 466 = .ok (.iastore, 1) := by decide +kernel
theorem d_Mo_mix_467 : decode prog_14_method_28_code 467 = .ok (.aload_n 0, 1) := by decide +kernel
theorem d_Mo_mix_468 : decode prog_14_method_28_code 468 = .ok (.getfield 164, 3) := by decide +kernel
theorem d_Mo_mix_471 : decode prog_14_method_28_code 471 = .ok (.bipush (7), 2) := by decide +kernel
theorem d_Mo_mix_473 : decode prog_14_method_28_code 473 = .ok (.dup2, 1) := by decide +kernel
theorem d_Mo_mix_474 : decode prog_14_method_28_code 474 = .ok (.iaload, 1) := by decide +kernel
theorem d_Mo_mix_475 : decode prog_14_method_28_code 475 = .ok (.iload 9, 2) := by decide +kernel
theorem d_Mo_mix_477 : decode prog_14_method_28_code 477 = .ok (.iadd, 1) := by decide +kernel
theorem d_Mo_mix_478 : decode prog_14_method_28_code 478 = .ok (.iastore, 1) := by decide +kernel
theorem d_Mo_mix_479 : decode prog_14_method_28_code 479 = .ok (.return_, 1) := by decide +kernel
theorem d_Mo_noGiver_0 : decode prog_14_method_55_code 0 = .ok (.aload_n 0, 1) := by decide +kernel
theorem d_Mo_noGiver_1 : decode prog_14_method_55_code 1 = .ok (.aload_n 0, 1) := by decide +kernel
theorem d_Mo_noGiver_2 : decode prog_14_method_55_code 2 = .ok (.getfield 277, 3) := by decide +kernel
theorem d_Mo_noGiver_5 : decode prog_14_method_55_code 5 = .ok (.ifCond .ne (7), 3) := by decide +kernel
theorem d_Mo_noGiver_8 : decode prog_14_method_55_code 8 = .ok (.iconst 1, 1) := by decide +kernel
theorem d_Mo_noGiver_9 : decode prog_14_method_55_code 9 = .ok (.goto (4), 3) := by decide +kernel
theorem d_Mo_noGiver_13 : decode prog_14_method_55_code 13 = .ok (.iconst 1, 1) := by decide +kernel
theorem d_Mo_noGiver_14 : decode prog_14_method_55_code 14 = .ok (.invokevirtual 287, 3) := by decide +kernel
theorem d_Mo_noGiver_17 : decode prog_14_method_55_code 17 = .ok (.ifCond .ne (66), 3) := by decide +kernel
theorem d_Mo_noGiver_83 : decode prog_14_method_55_code 83 = .ok (.iconst 1, 1) := by decide +kernel
theorem d_Mo_noGiver_84 : decode prog_14_method_55_code 84 = .ok (.goto (4), 3) := by decide +kernel
theorem d_Mo_noGiver_88 : decode prog_14_method_55_code 88 = .ok (.ireturn, 1) := by decide +kernel
theorem d_Mo_noSet_0 : decode prog_14_method_38_code 0 = .ok (.aload_n 0, 1) := by decide +kernel
theorem d_Mo_noSet_1 : decode prog_14_method_38_code 1 = .ok (.iconst 0, 1) := by decide +kernel
theorem d_Mo_noSet_2 : decode prog_14_method_38_code 2 = .ok (.putfield 277, 3) := by decide +kernel
theorem d_Mo_noSet_5 : decode prog_14_method_38_code 5 = .ok (.aload_n 0, 1) := by decide +kernel
theorem d_Mo_noSet_6 : decode prog_14_method_38_code 6 = .ok (.iconst 0, 1) := by decide +kernel
theorem d_Mo_noSet_7 : decode prog_14_method_38_code 7 = .ok (.putfield 280, 3) := by decide +kernel
theorem d_Mo_noSet_10 : decode prog_14_method_38_code 10 = .ok (.return_, 1) := by decide +kernel
theorem d_Mo_none_0 : decode prog_14_method_42_code 0 = .ok (.aload_n 0, 1) := by decide +kernel
theorem d_Mo_none_1 : decode prog_14_method_42_code 1 = .ok (.aload_n 0, 1) := by decide +kernel
theorem d_Mo_none_2 : decode prog_14_method_42_code 2 = .ok (.getfield 307, 3) := by decide +kernel
theorem d_Mo_none_5 : decode prog_14_method_42_code 5 = .ok (.ifCond .ne (7), 3) := by decide +kernel
theorem d_Mo_none_8 : decode prog_14_method_42_code 8 = .ok (.iconst 1, 1) := by decide +kernel
theorem d_Mo_none_9 : decode prog_14_method_42_code 9 = .ok (.goto (4), 3) := by decide +kernel
theorem d_Mo_none_13 : decode prog_14_method_42_code 13 = .ok (.iconst 1, 1) := by decide +kernel
theorem d_Mo_none_14 : decode prog_14_method_42_code 14 = .ok (.invokevirtual 287, 3) := by decide +kernel
theorem d_Mo_none_17 : decode prog_14_method_42_code 17 = .ok (.ifCond .ne (29), 3) := by decide +kernel
theorem d_Mo_none_46 : decode prog_14_method_42_code 46 = .ok (.iconst 1, 1) := by decide +kernel
theorem d_Mo_none_47 : decode prog_14_method_42_code 47 = .ok (.goto (4), 3) := by decide +kernel
theorem d_Mo_none_51 : decode prog_14_method_42_code 51 = .ok (.ireturn, 1) := by decide +kernel
theorem d_Mo_other_0 : decode prog_14_method_57_code 0 = .ok (.aload_n 0, 1) := by decide +kernel
theorem d_Mo_other_1 : decode prog_14_method_57_code 1 = .ok (.invokevirtual 283, 3) := by decide +kernel
theorem d_Mo_other_4 : decode prog_14_method_57_code 4 = .ok (.istore_n 2, 1) := by decide +kernel
theorem d_Mo_other_5 : decode prog_14_method_57_code 5 = .ok (.aload_n 0, 1) := by decide +kernel
theorem d_Mo_other_6 : decode prog_14_method_57_code 6 = .ok (.iload_n 1, 1) := by decide +kernel
theorem d_Mo_other_7 : decode prog_14_method_57_code 7 = .ok (.invokevirtual 362, 3) := by decide +kernel
theorem d_Mo_other_10 : decode prog_14_method_57_code 10 = .ok (.ifCond .ne (22), 3) := by decide +kernel
theorem d_Mo_other_32 : decode prog_14_method_57_code 32 = .ok (.return_, 1) := by decide +kernel
theorem d_Mo_output_0 : decode prog_14_method_66_code 0 = .ok (.aload_n 0, 1) := by decide +kernel
theorem d_Mo_output_1 : decode prog_14_method_66_code 1 = .ok (.iconst 0, 1) := by decide +kernel
theorem d_Mo_output_2 : decode prog_14_method_66_code 2 = .ok (.putfield 176, 3) := by decide +kernel
theorem d_Mo_output_5 : decode prog_14_method_66_code 5 = .ok (.iload_n 1, 1) := by decide +kernel
theorem d_Mo_output_6 : decode prog_14_method_66_code 6 = .ok (.ifCond .lt (11), 3) := by decide +kernel
theorem d_Mo_output_9 : decode prog_14_method_66_code 9 = .ok (.iload_n 1, 1) := by decide +kernel
theorem d_Mo_output_10 : decode prog_14_method_66_code 10 = .ok (.aload_n 0, 1) := by decide +kernel
theorem d_Mo_output_11 : decode prog_14_method_66_code 11 = .ok (.getfield 268, 3) := by decide +kernel
theorem d_Mo_output_14 : decode prog_14_method_66_code 14 = .ok (.if_icmp .lt (7), 3) := by decide +kernel
theorem d_Mo_output_17 : decode prog_14_method_66_code 17 = .ok (.iconst (-1), 1) := by decide +kernel
theorem d_Mo_output_18 : decode prog_14_method_66_code 18 = .ok (.goto (13), 3) := by decide +kernel
theorem d_Mo_output_31 : decode prog_14_method_66_code 31 = .ok (.ireturn, 1) := by decide +kernel
theorem d_Mo_reduce_0 : decode prog_14_method_5_code 0 = .ok (.aload_n 0, 1) := by decide +kernel
theorem d_Mo_reduce_1 : decode prog_14_method_5_code 1 = .ok (.invokevirtual 180, 3) := by decide +kernel
theorem d_Mo_reduce_4 : decode prog_14_method_5_code 4 = .ok (.iconst 1, 1) := by decide +kernel
theorem d_Mo_reduce_5 : decode prog_14_method_5_code 5 = .ok (.istore_n 2, 1) := by decide +kernel
theorem d_Mo_reduce_6 : decode prog_14_method_5_code 6 = .ok (.iload_n 2, 1) := by decide +kernel
theorem d_Mo_reduce_7 : decode prog_14_method_5_code 7 = .ok (.ifCond .eq (116), 3) := by decide +kernel
theorem d_Mo_reduce_10 : decode prog_14_method_5_code 10 = .ok (.iconst 0, 1) := by decide +kernel
theorem d_Mo_reduce_11 : decode prog_14_method_5_code 11 = .ok (.istore_n 2, 1) := by decide +kernel
theorem d_Mo_reduce_12 : decode prog_14_method_5_code 12 = .ok (.bipush (16), 2) := by decide +kernel
theorem d_Mo_reduce_14 : decode prog_14_method_5_code 14 = .ok (.istore_n 3, 1) := by decide +kernel
theorem d_Mo_reduce_15 : decode prog_14_method_5_code 15 = .ok (.iload_n 3, 1) := by decide +kernel
theorem d_Mo_reduce_16 : decode prog_14_method_5_code 16 = .ok (.bipush (34), 2) := by decide +kernel
theorem d_Mo_reduce_18 : decode prog_14_method_5_code 18 = .ok (.if_icmp .ge (98), 3) := by decide +kernel
theorem d_Mo_reduce_21 : decode prog_14_method_5_code 21 = .ok (.aload_n 0, 1) := by decide +kernel
theorem d_Mo_reduce_22 : decode prog_14_method_5_code 22 = .ok (.getfield 126, 3) := by decide +kernel
theorem d_Mo_reduce_25 : decode prog_14_method_5_code 25 = .ok (.iload_n 3, 1) := by decide +kernel
theorem d_Mo_reduce_26 : decode prog_14_method_5_code 26 = .ok (.laload, 1) := by decide +kernel
theorem d_Mo_reduce_27 : decode prog_14_method_5_code 27 = .ok (.lstore 4, 2) := by decide +kernel
theorem d_Mo_reduce_29 : decode prog_14_method_5_code 29 = .ok (.aload_n 0, 1) := by decide +kernel
theorem d_Mo_reduce_30 : decode prog_14_method_5_code 30 = .ok (.getfield 126, 3) := by decide +kernel
theorem d_Mo_reduce_33 : decode prog_14_method_5_code 33 = .ok (.iload_n 3, 1) := by decide +kernel
theorem d_Mo_reduce_34 : decode prog_14_method_5_code 34 = .ok (.lconst 0, 1) := by decide +kernel
theorem d_Mo_reduce_35 : decode prog_14_method_5_code 35 = .ok (.lastore, 1) := by decide +kernel
theorem d_Mo_reduce_36 : decode prog_14_method_5_code 36 = .ok (.iload_n 2, 1) := by decide +kernel
theorem d_Mo_reduce_37 : decode prog_14_method_5_code 37 = .ok (.ifCond .ne (10), 3) := by decide +kernel
theorem d_Mo_reduce_40 : decode prog_14_method_5_code 40 = .ok (.lload 4, 2) := by decide +kernel
theorem d_Mo_reduce_42 : decode prog_14_method_5_code 42 = .ok (.lconst 0, 1) := by decide +kernel
theorem d_Mo_reduce_43 : decode prog_14_method_5_code 43 = .ok (.lcmp, 1) := by decide +kernel
theorem d_Mo_reduce_44 : decode prog_14_method_5_code 44 = .ok (.ifCond .eq (7), 3) := by decide +kernel
theorem d_Mo_reduce_47 : decode prog_14_method_5_code 47 = .ok (.iconst 1, 1) := by decide +kernel
theorem d_Mo_reduce_48 : decode prog_14_method_5_code 48 = .ok (.goto (4), 3) := by decide +kernel
theorem d_Mo_reduce_51 : decode prog_14_method_5_code 51 = .ok (.iconst 0, 1) := by decide +kernel
theorem d_Mo_reduce_52 : decode prog_14_method_5_code 52 = .ok (.istore_n 2, 1) := by decide +kernel
theorem d_Mo_reduce_53 : decode prog_14_method_5_code 53 = .ok (.iconst 0, 1) := by decide +kernel
theorem d_Mo_reduce_54 : decode prog_14_method_5_code 54 = .ok (.istore 6, 2) := by decide +kernel
theorem d_Mo_reduce_56 : decode prog_14_method_5_code 56 = .ok (.iload 6, 2) := by decide +kernel
theorem d_Mo_reduce_58 : decode prog_14_method_5_code 58 = .ok (.bipush (16), 2) := by decide +kernel
theorem d_Mo_reduce_60 : decode prog_14_method_5_code 60 = .ok (.if_icmp .ge (50), 3) := by decide +kernel
theorem d_Mo_reduce_63 : decode prog_14_method_5_code 63 = .ok (.lload 4, 2) := by decide +kernel
theorem d_Mo_reduce_65 : decode prog_14_method_5_code 65 = .ok (.lconst 0, 1) := by decide +kernel
theorem d_Mo_reduce_66 : decode prog_14_method_5_code 66 = .ok (.lcmp, 1) := by decide +kernel
theorem d_Mo_reduce_67 : decode prog_14_method_5_code 67 = .ok (.ifCond .eq (43), 3) := by decide +kernel
theorem d_Mo_reduce_70 : decode prog_14_method_5_code 70 = .ok (.aload_n 0, 1) := by decide +kernel
theorem d_Mo_reduce_71 : decode prog_14_method_5_code 71 = .ok (.getfield 126, 3) := by decide +kernel
theorem d_Mo_reduce_74 : decode prog_14_method_5_code 74 = .ok (.iload 6, 2) := by decide +kernel
theorem d_Mo_reduce_76 : decode prog_14_method_5_code 76 = .ok (.dup2, 1) := by decide +kernel
theorem d_Mo_reduce_77 : decode prog_14_method_5_code 77 = .ok (.laload, 1) := by decide +kernel
theorem d_Mo_reduce_78 : decode prog_14_method_5_code 78 = .ok (.lload 4, 2) := by decide +kernel
theorem d_Mo_reduce_80 : decode prog_14_method_5_code 80 = .ok (.aload_n 0, 1) := by decide +kernel
theorem d_Mo_reduce_81 : decode prog_14_method_5_code 81 = .ok (.getfield 129, 3) := by decide +kernel
theorem d_Mo_reduce_84 : decode prog_14_method_5_code 84 = .ok (.sipush (288), 3) := by decide +kernel
theorem d_Mo_reduce_87 : decode prog_14_method_5_code 87 = .ok (.iload_n 1, 1) := by decide +kernel
theorem d_Mo_reduce_88 : decode prog_14_method_5_code 88 = .ok (.imul, 1) := by decide +kernel
theorem d_Mo_reduce_89 : decode prog_14_method_5_code 89 = .ok (.bipush (16), 2) := by decide +kernel
theorem d_Mo_reduce_91 : decode prog_14_method_5_code 91 = .ok (.iload_n 3, 1) := by decide +kernel
theorem d_Mo_reduce_92 : decode prog_14_method_5_code 92 = .ok (.bipush (16), 2) := by decide +kernel
theorem d_Mo_reduce_94 : decode prog_14_method_5_code 94 = .ok (.isub, 1) := by decide +kernel
theorem d_Mo_reduce_95 : decode prog_14_method_5_code 95 = .ok (.imul, 1) := by decide +kernel
theorem d_Mo_reduce_96 : decode prog_14_method_5_code 96 = .ok (.iadd, 1) := by decide +kernel
theorem d_Mo_reduce_97 : decode prog_14_method_5_code 97 = .ok (.iload 6, 2) := by decide +kernel
theorem d_Mo_reduce_99 : decode prog_14_method_5_code 99 = .ok (.iadd, 1) := by decide +kernel
theorem d_Mo_reduce_100 : decode prog_14_method_5_code 100 = .ok (.laload, 1) := by decide +kernel
theorem d_Mo_reduce_101 : decode prog_14_method_5_code 101 = .ok (.lmul, 1) := by decide +kernel
theorem d_Mo_reduce_102 : decode prog_14_method_5_code 102 = .ok (.ladd, 1) := by decide +kernel
theorem d_Mo_reduce_103 : decode prog_14_method_5_code 103 = .ok (.lastore, 1) := by decide +kernel
theorem d_Mo_reduce_104 : decode prog_14_method_5_code 104 = .ok (.iinc 6 (1), 3) := by decide +kernel
theorem d_Mo_reduce_107 : decode prog_14_method_5_code 107 = .ok (.goto (-51), 3) := by decide +kernel
theorem d_Mo_reduce_110 : decode prog_14_method_5_code 110 = .ok (.iinc 3 (1), 3) := by decide +kernel
theorem d_Mo_reduce_113 : decode prog_14_method_5_code 113 = .ok (.goto (-98), 3) := by decide +kernel
theorem d_Mo_reduce_116 : decode prog_14_method_5_code 116 = .ok (.aload_n 0, 1) := by decide +kernel
theorem d_Mo_reduce_117 : decode prog_14_method_5_code 117 = .ok (.invokevirtual 180, 3) := by decide +kernel
theorem d_Mo_reduce_120 : decode prog_14_method_5_code 120 = .ok (.goto (-114), 3) := by decide +kernel
theorem d_Mo_reduce_123 : decode prog_14_method_5_code 123 = .ok (.aload_n 0, 1) := by decide +kernel
theorem d_Mo_reduce_124 : decode prog_14_method_5_code 124 = .ok (.iload_n 1, 1) := by decide +kernel
theorem d_Mo_reduce_125 : decode prog_14_method_5_code 125 = .ok (.invokevirtual 183, 3) := by decide +kernel
theorem d_Mo_reduce_128 : decode prog_14_method_5_code 128 = .ok (.ifCond .eq (67), 3) := by decide +kernel
theorem d_Mo_reduce_131 : decode prog_14_method_5_code 131 = .ok (.lconst 0, 1) := by decide +kernel
theorem d_Mo_reduce_132 : decode prog_14_method_5_code 132 = .ok (.lstore_n 3, 1) := by decide +kernel
theorem d_Mo_reduce_133 : decode prog_14_method_5_code 133 = .ok (.iconst 0, 1) := by decide +kernel
theorem d_Mo_reduce_134 : decode prog_14_method_5_code 134 = .ok (.istore 5, 2) := by decide +kernel
theorem d_Mo_reduce_136 : decode prog_14_method_5_code 136 = .ok (.iload 5, 2) := by decide +kernel
theorem d_Mo_reduce_138 : decode prog_14_method_5_code 138 = .ok (.bipush (16), 2) := by decide +kernel
theorem d_Mo_reduce_140 : decode prog_14_method_5_code 140 = .ok (.if_icmp .ge (52), 3) := by decide +kernel
theorem d_Mo_reduce_143 : decode prog_14_method_5_code 143 = .ok (.aload_n 0, 1) := by decide +kernel
theorem d_Mo_reduce_144 : decode prog_14_method_5_code 144 = .ok (.getfield 126, 3) := by decide +kernel
theorem d_Mo_reduce_147 : decode prog_14_method_5_code 147 = .ok (.iload 5, 2) := by decide +kernel
theorem d_Mo_reduce_149 : decode prog_14_method_5_code 149 = .ok (.laload, 1) := by decide +kernel
theorem d_Mo_reduce_150 : decode prog_14_method_5_code 150 = .ok (.aload_n 0, 1) := by decide +kernel
theorem d_Mo_reduce_151 : decode prog_14_method_5_code 151 = .ok (.getfield 122, 3) := by decide +kernel
theorem d_Mo_reduce_154 : decode prog_14_method_5_code 154 = .ok (.bipush (16), 2) := by decide +kernel
theorem d_Mo_reduce_156 : decode prog_14_method_5_code 156 = .ok (.iload_n 1, 1) := by decide +kernel
theorem d_Mo_reduce_157 : decode prog_14_method_5_code 157 = .ok (.imul, 1) := by decide +kernel
theorem d_Mo_reduce_158 : decode prog_14_method_5_code 158 = .ok (.iload 5, 2) := by decide +kernel
theorem d_Mo_reduce_160 : decode prog_14_method_5_code 160 = .ok (.iadd, 1) := by decide +kernel
theorem d_Mo_reduce_161 : decode prog_14_method_5_code 161 = .ok (.laload, 1) := by decide +kernel
theorem d_Mo_reduce_162 : decode prog_14_method_5_code 162 = .ok (.lsub, 1) := by decide +kernel
theorem d_Mo_reduce_163 : decode prog_14_method_5_code 163 = .ok (.lload_n 3, 1) := by decide +kernel
theorem d_Mo_reduce_164 : decode prog_14_method_5_code 164 = .ok (.ladd, 1) := by decide +kernel
theorem d_Mo_reduce_165 : decode prog_14_method_5_code 165 = .ok (.lstore 6, 2) := by decide +kernel
theorem d_Mo_reduce_167 : decode prog_14_method_5_code 167 = .ok (.aload_n 0, 1) := by decide +kernel
theorem d_Mo_reduce_168 : decode prog_14_method_5_code 168 = .ok (.getfield 126, 3) := by decide +kernel
theorem d_Mo_reduce_171 : decode prog_14_method_5_code 171 = .ok (.iload 5, 2) := by decide +kernel
theorem d_Mo_reduce_173 : decode prog_14_method_5_code 173 = .ok (.lload 6, 2) := by decide +kernel
theorem d_Mo_reduce_175 : decode prog_14_method_5_code 175 = .ok (.ldc2_w 170, 3) := by decide +kernel
theorem d_Mo_reduce_178 : decode prog_14_method_5_code 178 = .ok (.land, 1) := by decide +kernel
theorem d_Mo_reduce_179 : decode prog_14_method_5_code 179 = .ok (.lastore, 1) := by decide +kernel
theorem d_Mo_reduce_180 : decode prog_14_method_5_code 180 = .ok (.lload 6, 2) := by decide +kernel
theorem d_Mo_reduce_182 : decode prog_14_method_5_code 182 = .ok (.bipush (16), 2) := by decide +kernel
theorem d_Mo_reduce_184 : decode prog_14_method_5_code 184 = .ok (.lshr, 1) := by decide +kernel
theorem d_Mo_reduce_185 : decode prog_14_method_5_code 185 = .ok (.lstore_n 3, 1) := by decide +kernel
theorem d_Mo_reduce_186 : decode prog_14_method_5_code 186 = .ok (.iinc 5 (1), 3) := by decide +kernel
theorem d_Mo_reduce_189 : decode prog_14_method_5_code 189 = .ok (.goto (-53), 3) := by decide +kernel
theorem d_Mo_reduce_192 : decode prog_14_method_5_code 192 = .ok (.goto (-69), 3) := by decide +kernel
theorem d_Mo_reduce_195 : decode prog_14_method_5_code 195 = .ok (.return_, 1) := by decide +kernel
theorem d_Mo_right_0 : decode prog_14_method_59_code 0 = .ok (.aload_n 0, 1) := by decide +kernel
theorem d_Mo_right_1 : decode prog_14_method_59_code 1 = .ok (.iconst 0, 1) := by decide +kernel
theorem d_Mo_right_2 : decode prog_14_method_59_code 2 = .ok (.putfield 176, 3) := by decide +kernel
theorem d_Mo_right_5 : decode prog_14_method_59_code 5 = .ok (.aload_n 0, 1) := by decide +kernel
theorem d_Mo_right_6 : decode prog_14_method_59_code 6 = .ok (.aload_n 0, 1) := by decide +kernel
theorem d_Mo_right_7 : decode prog_14_method_59_code 7 = .ok (.getfield 277, 3) := by decide +kernel
theorem d_Mo_right_10 : decode prog_14_method_59_code 10 = .ok (.ifCond .ne (7), 3) := by decide +kernel
theorem d_Mo_right_13 : decode prog_14_method_59_code 13 = .ok (.iconst 1, 1) := by decide +kernel
theorem d_Mo_right_14 : decode prog_14_method_59_code 14 = .ok (.goto (4), 3) := by decide +kernel
theorem d_Mo_right_18 : decode prog_14_method_59_code 18 = .ok (.iconst 1, 1) := by decide +kernel
theorem d_Mo_right_19 : decode prog_14_method_59_code 19 = .ok (.invokevirtual 287, 3) := by decide +kernel
theorem d_Mo_right_22 : decode prog_14_method_59_code 22 = .ok (.ifCond .ne (54), 3) := by decide +kernel
theorem d_Mo_right_76 : decode prog_14_method_59_code 76 = .ok (.iconst 0, 1) := by decide +kernel
theorem d_Mo_right_77 : decode prog_14_method_59_code 77 = .ok (.ireturn, 1) := by decide +kernel
theorem d_Mo_share_0 : decode prog_14_method_56_code 0 = .ok (.aload_n 0, 1) := by decide +kernel
theorem d_Mo_share_1 : decode prog_14_method_56_code 1 = .ok (.iconst 0, 1) := by decide +kernel
theorem d_Mo_share_2 : decode prog_14_method_56_code 2 = .ok (.putfield 176, 3) := by decide +kernel
theorem d_Mo_share_5 : decode prog_14_method_56_code 5 = .ok (.aload_n 0, 1) := by decide +kernel
theorem d_Mo_share_6 : decode prog_14_method_56_code 6 = .ok (.iload_n 1, 1) := by decide +kernel
theorem d_Mo_share_7 : decode prog_14_method_56_code 7 = .ok (.invokevirtual 362, 3) := by decide +kernel
theorem d_Mo_share_10 : decode prog_14_method_56_code 10 = .ok (.ifCond .eq (4), 3) := by decide +kernel
theorem d_Mo_share_13 : decode prog_14_method_56_code 13 = .ok (.return_, 1) := by decide +kernel
theorem d_Mo_show_0 : decode prog_14_method_65_code 0 = .ok (.aload_n 0, 1) := by decide +kernel
theorem d_Mo_show_1 : decode prog_14_method_65_code 1 = .ok (.iconst 0, 1) := by decide +kernel
theorem d_Mo_show_2 : decode prog_14_method_65_code 2 = .ok (.putfield 176, 3) := by decide +kernel
theorem d_Mo_show_5 : decode prog_14_method_65_code 5 = .ok (.aload_n 0, 1) := by decide +kernel
theorem d_Mo_show_6 : decode prog_14_method_65_code 6 = .ok (.getfield 268, 3) := by decide +kernel
theorem d_Mo_show_9 : decode prog_14_method_65_code 9 = .ok (.istore_n 3, 1) := by decide +kernel
theorem d_Mo_show_10 : decode prog_14_method_65_code 10 = .ok (.aload_n 0, 1) := by decide +kernel
theorem d_Mo_show_11 : decode prog_14_method_65_code 11 = .ok (.iconst 0, 1) := by decide +kernel
theorem d_Mo_show_12 : decode prog_14_method_65_code 12 = .ok (.putfield 268, 3) := by decide +kernel
theorem d_Mo_show_15 : decode prog_14_method_65_code 15 = .ok (.aload_n 0, 1) := by decide +kernel
theorem d_Mo_show_16 : decode prog_14_method_65_code 16 = .ok (.getfield 277, 3) := by decide +kernel
theorem d_Mo_show_19 : decode prog_14_method_65_code 19 = .ok (.ifCond .eq (27), 3) := by decide +kernel
theorem d_Mo_show_46 : decode prog_14_method_65_code 46 = .ok (.iconst 0, 1) := by decide +kernel
theorem d_Mo_show_47 : decode prog_14_method_65_code 47 = .ok (.istore 4, 2) := by decide +kernel
theorem d_Mo_show_49 : decode prog_14_method_65_code 49 = .ok (.iload_n 1, 1) := by decide +kernel
theorem d_Mo_show_50 : decode prog_14_method_65_code 50 = .ok (.ifCond .ne (16), 3) := by decide +kernel
theorem d_Mo_show_53 : decode prog_14_method_65_code 53 = .ok (.aload_n 0, 1) := by decide +kernel
theorem d_Mo_show_54 : decode prog_14_method_65_code 54 = .ok (.getfield 307, 3) := by decide +kernel
theorem d_Mo_show_57 : decode prog_14_method_65_code 57 = .ok (.ifCond .le (9), 3) := by decide +kernel
theorem d_Mo_show_66 : decode prog_14_method_65_code 66 = .ok (.iload_n 1, 1) := by decide +kernel
theorem d_Mo_show_67 : decode prog_14_method_65_code 67 = .ok (.iconst 1, 1) := by decide +kernel
theorem d_Mo_show_68 : decode prog_14_method_65_code 68 = .ok (.if_icmp .ne (21), 3) := by decide +kernel
theorem d_Mo_show_71 : decode prog_14_method_65_code 71 = .ok (.aload_n 0, 1) := by decide +kernel
theorem d_Mo_show_72 : decode prog_14_method_65_code 72 = .ok (.iload_n 2, 1) := by decide +kernel
theorem d_Mo_show_73 : decode prog_14_method_65_code 73 = .ok (.invokevirtual 378, 3) := by decide +kernel
theorem d_Mo_show_76 : decode prog_14_method_65_code 76 = .ok (.ifCond .eq (13), 3) := by decide +kernel
theorem d_Mo_show_89 : decode prog_14_method_65_code 89 = .ok (.iload_n 1, 1) := by decide +kernel
theorem d_Mo_show_90 : decode prog_14_method_65_code 90 = .ok (.iconst 2, 1) := by decide +kernel
theorem d_Mo_show_91 : decode prog_14_method_65_code 91 = .ok (.if_icmp .ne (20), 3) := by decide +kernel
theorem d_Mo_show_94 : decode prog_14_method_65_code 94 = .ok (.aload_n 0, 1) := by decide +kernel
theorem d_Mo_show_95 : decode prog_14_method_65_code 95 = .ok (.iload_n 2, 1) := by decide +kernel
theorem d_Mo_show_96 : decode prog_14_method_65_code 96 = .ok (.invokevirtual 378, 3) := by decide +kernel
theorem d_Mo_show_99 : decode prog_14_method_65_code 99 = .ok (.ifCond .eq (12), 3) := by decide +kernel
theorem d_Mo_show_111 : decode prog_14_method_65_code 111 = .ok (.iload_n 1, 1) := by decide +kernel
theorem d_Mo_show_112 : decode prog_14_method_65_code 112 = .ok (.iconst 3, 1) := by decide +kernel
theorem d_Mo_show_113 : decode prog_14_method_65_code 113 = .ok (.if_icmp .ne (25), 3) := by decide +kernel
theorem d_Mo_show_116 : decode prog_14_method_65_code 116 = .ok (.iload_n 2, 1) := by decide +kernel
theorem d_Mo_show_117 : decode prog_14_method_65_code 117 = .ok (.ifCond .lt (21), 3) := by decide +kernel
theorem d_Mo_show_120 : decode prog_14_method_65_code 120 = .ok (.iload_n 2, 1) := by decide +kernel
theorem d_Mo_show_121 : decode prog_14_method_65_code 121 = .ok (.aload_n 0, 1) := by decide +kernel
theorem d_Mo_show_122 : decode prog_14_method_65_code 122 = .ok (.getfield 304, 3) := by decide +kernel
theorem d_Mo_show_125 : decode prog_14_method_65_code 125 = .ok (.if_icmp .ge (13), 3) := by decide +kernel
theorem d_Mo_show_138 : decode prog_14_method_65_code 138 = .ok (.iload_n 1, 1) := by decide +kernel
theorem d_Mo_show_139 : decode prog_14_method_65_code 139 = .ok (.iconst 4, 1) := by decide +kernel
theorem d_Mo_show_140 : decode prog_14_method_65_code 140 = .ok (.if_icmp .ne (60), 3) := by decide +kernel
theorem d_Mo_show_143 : decode prog_14_method_65_code 143 = .ok (.aload_n 0, 1) := by decide +kernel
theorem d_Mo_show_144 : decode prog_14_method_65_code 144 = .ok (.iload_n 2, 1) := by decide +kernel
theorem d_Mo_show_145 : decode prog_14_method_65_code 145 = .ok (.invokevirtual 378, 3) := by decide +kernel
theorem d_Mo_show_148 : decode prog_14_method_65_code 148 = .ok (.ifCond .eq (52), 3) := by decide +kernel
theorem d_Mo_show_200 : decode prog_14_method_65_code 200 = .ok (.iload_n 1, 1) := by decide +kernel
theorem d_Mo_show_201 : decode prog_14_method_65_code 201 = .ok (.iconst 5, 1) := by decide +kernel
theorem d_Mo_show_202 : decode prog_14_method_65_code 202 = .ok (.if_icmp .ne (17), 3) := by decide +kernel
theorem d_Mo_show_205 : decode prog_14_method_65_code 205 = .ok (.iload 4, 2) := by decide +kernel
theorem d_Mo_show_207 : decode prog_14_method_65_code 207 = .ok (.ifCond .eq (12), 3) := by decide +kernel
theorem d_Mo_show_219 : decode prog_14_method_65_code 219 = .ok (.iload_n 1, 1) := by decide +kernel
theorem d_Mo_show_220 : decode prog_14_method_65_code 220 = .ok (.bipush (6), 2) := by decide +kernel
theorem d_Mo_show_222 : decode prog_14_method_65_code 222 = .ok (.if_icmp .ne (17), 3) := by decide +kernel
theorem d_Mo_show_225 : decode prog_14_method_65_code 225 = .ok (.aload_n 0, 1) := by decide +kernel
theorem d_Mo_show_226 : decode prog_14_method_65_code 226 = .ok (.getfield 277, 3) := by decide +kernel
theorem d_Mo_show_229 : decode prog_14_method_65_code 229 = .ok (.ifCond .eq (10), 3) := by decide +kernel
theorem d_Mo_show_239 : decode prog_14_method_65_code 239 = .ok (.iload_n 1, 1) := by decide +kernel
theorem d_Mo_show_240 : decode prog_14_method_65_code 240 = .ok (.bipush (7), 2) := by decide +kernel
theorem d_Mo_show_242 : decode prog_14_method_65_code 242 = .ok (.if_icmp .ne (17), 3) := by decide +kernel
theorem d_Mo_show_245 : decode prog_14_method_65_code 245 = .ok (.iload 4, 2) := by decide +kernel
theorem d_Mo_show_247 : decode prog_14_method_65_code 247 = .ok (.ifCond .eq (12), 3) := by decide +kernel
theorem d_Mo_show_259 : decode prog_14_method_65_code 259 = .ok (.iload_n 1, 1) := by decide +kernel
theorem d_Mo_show_260 : decode prog_14_method_65_code 260 = .ok (.bipush (8), 2) := by decide +kernel
theorem d_Mo_show_262 : decode prog_14_method_65_code 262 = .ok (.if_icmp .ne (79), 3) := by decide +kernel
theorem d_Mo_show_265 : decode prog_14_method_65_code 265 = .ok (.iconst 0, 1) := by decide +kernel
theorem d_Mo_show_266 : decode prog_14_method_65_code 266 = .ok (.istore 5, 2) := by decide +kernel
theorem d_Mo_show_268 : decode prog_14_method_65_code 268 = .ok (.iload 5, 2) := by decide +kernel
theorem d_Mo_show_270 : decode prog_14_method_65_code 270 = .ok (.aload_n 0, 1) := by decide +kernel
theorem d_Mo_show_271 : decode prog_14_method_65_code 271 = .ok (.getfield 262, 3) := by decide +kernel
theorem d_Mo_show_274 : decode prog_14_method_65_code 274 = .ok (.if_icmp .ge (23), 3) := by decide +kernel
theorem d_Mo_show_297 : decode prog_14_method_65_code 297 = .ok (.aload_n 0, 1) := by decide +kernel
theorem d_Mo_show_298 : decode prog_14_method_65_code 298 = .ok (.aload_n 0, 1) := by decide +kernel
theorem d_Mo_show_299 : decode prog_14_method_65_code 299 = .ok (.getfield 262, 3) := by decide +kernel
theorem d_Mo_show_302 : decode prog_14_method_65_code 302 = .ok (.invokevirtual 256, 3) := by decide +kernel
theorem d_Mo_show_305 : decode prog_14_method_65_code 305 = .ok (.iconst 0, 1) := by decide +kernel
theorem d_Mo_show_306 : decode prog_14_method_65_code 306 = .ok (.istore 5, 2) := by decide +kernel
theorem d_Mo_show_308 : decode prog_14_method_65_code 308 = .ok (.iload 5, 2) := by decide +kernel
theorem d_Mo_show_310 : decode prog_14_method_65_code 310 = .ok (.bipush (32), 2) := by decide +kernel
theorem d_Mo_show_312 : decode prog_14_method_65_code 312 = .ok (.if_icmp .ge (23), 3) := by decide +kernel
theorem d_Mo_show_315 : decode prog_14_method_65_code 315 = .ok (.aload_n 0, 1) := by decide +kernel
theorem d_Mo_show_316 : decode prog_14_method_65_code 316 = .ok (.getfield 146, 3) := by decide +kernel
theorem d_Mo_show_319 : decode prog_14_method_65_code 319 = .ok (.iload 5, 2) := by decide +kernel
theorem d_Mo_show_321 : decode prog_14_method_65_code 321 = .ok (.aload_n 0, 1) := by decide +kernel
theorem d_Mo_show_322 : decode prog_14_method_65_code 322 = .ok (.getfield 155, 3) := by decide +kernel
theorem d_Mo_show_325 : decode prog_14_method_65_code 325 = .ok (.iload 5, 2) := by decide +kernel
theorem d_Mo_show_327 : decode prog_14_method_65_code 327 = .ok (.baload, 1) := by decide +kernel
theorem d_Mo_show_328 : decode prog_14_method_65_code 328 = .ok (.bastore, 1) := by decide +kernel
theorem d_Mo_show_329 : decode prog_14_method_65_code 329 = .ok (.iinc 5 (1), 3) := by decide +kernel
theorem d_Mo_show_332 : decode prog_14_method_65_code 332 = .ok (.goto (-24), 3) := by decide +kernel
theorem d_Mo_show_335 : decode prog_14_method_65_code 335 = .ok (.aload_n 0, 1) := by decide +kernel
theorem d_Mo_show_336 : decode prog_14_method_65_code 336 = .ok (.bipush (32), 2) := by decide +kernel
theorem d_Mo_show_338 : decode prog_14_method_65_code 338 = .ok (.invokevirtual 271, 3) := by decide +kernel
theorem d_Mo_show_341 : decode prog_14_method_65_code 341 = .ok (.aload_n 0, 1) := by decide +kernel
theorem d_Mo_show_342 : decode prog_14_method_65_code 342 = .ok (.getfield 268, 3) := by decide +kernel
theorem d_Mo_show_345 : decode prog_14_method_65_code 345 = .ok (.istore 5, 2) := by decide +kernel
theorem d_Mo_show_347 : decode prog_14_method_65_code 347 = .ok (.aload_n 0, 1) := by decide +kernel
theorem d_Mo_show_348 : decode prog_14_method_65_code 348 = .ok (.iload 5, 2) := by decide +kernel
theorem d_Mo_show_350 : decode prog_14_method_65_code 350 = .ok (.ifCond .ne (7), 3) := by decide +kernel
theorem d_Mo_show_353 : decode prog_14_method_65_code 353 = .ok (.iload_n 3, 1) := by decide +kernel
theorem d_Mo_show_354 : decode prog_14_method_65_code 354 = .ok (.goto (5), 3) := by decide +kernel
theorem d_Mo_show_357 : decode prog_14_method_65_code 357 = .ok (.iload 5, 2) := by decide +kernel
theorem d_Mo_show_359 : decode prog_14_method_65_code 359 = .ok (.putfield 268, 3) := by decide +kernel
theorem d_Mo_show_362 : decode prog_14_method_65_code 362 = .ok (.iload 5, 2) := by decide +kernel
theorem d_Mo_show_364 : decode prog_14_method_65_code 364 = .ok (.ireturn, 1) := by decide +kernel
theorem d_Mo_tell_0 : decode prog_14_method_33_code 0 = .ok (.aload_n 0, 1) := by decide +kernel
theorem d_Mo_tell_1 : decode prog_14_method_33_code 1 = .ok (.iload_n 1, 1) := by decide +kernel
theorem d_Mo_tell_2 : decode prog_14_method_33_code 2 = .ok (.putfield 268, 3) := by decide +kernel
theorem d_Mo_tell_5 : decode prog_14_method_33_code 5 = .ok (.return_, 1) := by decide +kernel
theorem d_Mo_thrown_0 : decode prog_14_method_2_code 0 = .ok (.aload_n 0, 1) := by decide +kernel
theorem d_Mo_thrown_1 : decode prog_14_method_2_code 1 = .ok (.getfield 176, 3) := by decide +kernel
theorem d_Mo_thrown_4 : decode prog_14_method_2_code 4 = .ok (.ireturn, 1) := by decide +kernel
theorem d_Mo_turned_0 : decode prog_14_method_26_code 0 = .ok (.iload_n 0, 1) := by decide +kernel
theorem d_Mo_turned_1 : decode prog_14_method_26_code 1 = .ok (.iload_n 1, 1) := by decide +kernel
theorem d_Mo_turned_2 : decode prog_14_method_26_code 2 = .ok (.iushr, 1) := by decide +kernel
theorem d_Mo_turned_3 : decode prog_14_method_26_code 3 = .ok (.iload_n 0, 1) := by decide +kernel
theorem d_Mo_turned_4 : decode prog_14_method_26_code 4 = .ok (.bipush (32), 2) := by decide +kernel
theorem d_Mo_turned_6 : decode prog_14_method_26_code 6 = .ok (.iload_n 1, 1) := by decide +kernel
theorem d_Mo_turned_7 : decode prog_14_method_26_code 7 = .ok (.isub, 1) := by decide +kernel
theorem d_Mo_turned_8 : decode prog_14_method_26_code 8 = .ok (.ishl, 1) := by decide +kernel
theorem d_Mo_turned_9 : decode prog_14_method_26_code 9 = .ok (.ior, 1) := by decide +kernel
theorem d_Mo_turned_10 : decode prog_14_method_26_code 10 = .ok (.ireturn, 1) := by decide +kernel
theorem d_Mo_used_0 : decode prog_14_method_37_code 0 = .ok (.aload_n 0, 1) := by decide +kernel
theorem d_Mo_used_1 : decode prog_14_method_37_code 1 = .ok (.iconst 0, 1) := by decide +kernel
theorem d_Mo_used_2 : decode prog_14_method_37_code 2 = .ok (.putfield 176, 3) := by decide +kernel
theorem d_Mo_used_5 : decode prog_14_method_37_code 5 = .ok (.aload_n 0, 1) := by decide +kernel
theorem d_Mo_used_6 : decode prog_14_method_37_code 6 = .ok (.getfield 274, 3) := by decide +kernel
theorem d_Mo_used_9 : decode prog_14_method_37_code 9 = .ok (.istore_n 1, 1) := by decide +kernel
theorem d_Mo_used_10 : decode prog_14_method_37_code 10 = .ok (.aload_n 0, 1) := by decide +kernel
theorem d_Mo_used_11 : decode prog_14_method_37_code 11 = .ok (.iconst 0, 1) := by decide +kernel
theorem d_Mo_used_12 : decode prog_14_method_37_code 12 = .ok (.putfield 274, 3) := by decide +kernel
theorem d_Mo_used_15 : decode prog_14_method_37_code 15 = .ok (.iload_n 1, 1) := by decide +kernel
theorem d_Mo_used_16 : decode prog_14_method_37_code 16 = .ok (.ireturn, 1) := by decide +kernel
theorem d_Arr_fill_0 : decode prog_26_method_103_code 0 = .ok (.iconst 0, 1) := by decide +kernel
theorem d_Arr_fill_1 : decode prog_26_method_103_code 1 = .ok (.istore_n 2, 1) := by decide +kernel
theorem d_Arr_fill_2 : decode prog_26_method_103_code 2 = .ok (.aload_n 0, 1) := by decide +kernel
theorem d_Arr_fill_3 : decode prog_26_method_103_code 3 = .ok (.arraylength, 1) := by decide +kernel
theorem d_Arr_fill_4 : decode prog_26_method_103_code 4 = .ok (.istore_n 3, 1) := by decide +kernel
theorem d_Arr_fill_5 : decode prog_26_method_103_code 5 = .ok (.iload_n 2, 1) := by decide +kernel
theorem d_Arr_fill_6 : decode prog_26_method_103_code 6 = .ok (.iload_n 3, 1) := by decide +kernel
theorem d_Arr_fill_7 : decode prog_26_method_103_code 7 = .ok (.if_icmp .ge (13), 3) := by decide +kernel
theorem d_Arr_fill_10 : decode prog_26_method_103_code 10 = .ok (.aload_n 0, 1) := by decide +kernel
theorem d_Arr_fill_11 : decode prog_26_method_103_code 11 = .ok (.iload_n 2, 1) := by decide +kernel
theorem d_Arr_fill_12 : decode prog_26_method_103_code 12 = .ok (.iload_n 1, 1) := by decide +kernel
theorem d_Arr_fill_13 : decode prog_26_method_103_code 13 = .ok (.iastore, 1) := by decide +kernel
theorem d_Arr_fill_14 : decode prog_26_method_103_code 14 = .ok (.iinc 2 (1), 3) := by decide +kernel
theorem d_Arr_fill_17 : decode prog_26_method_103_code 17 = .ok (.goto (-12), 3) := by decide +kernel
theorem d_Arr_fill_20 : decode prog_26_method_103_code 20 = .ok (.return_, 1) := by decide +kernel
