theorem d_TB_takeTape_13 : decode prog_1_method_17_code 13 = .ok (.aload_n 0, 1) := by decide +kernel
theorem d_TB_takeTape_14 : decode prog_1_method_17_code 14 = .ok (.aload_n 1, 1) := by decide +kernel
theorem d_TB_takeTape_15 : decode prog_1_method_17_code 15 = .ok (.putfield 18, 3) := by decide +kernel
theorem d_TB_takeTape_18 : decode prog_1_method_17_code 18 = .ok (.aload_n 0, 1) := by decide +kernel
theorem d_TB_takeTape_19 : decode prog_1_method_17_code 19 = .ok (.getfield 14, 3) := by decide +kernel
theorem d_TB_takeTape_22 : decode prog_1_method_17_code 22 = .ok (.invokevirtual 105, 3) := by decide +kernel
theorem d_TB_takeTape_25 : decode prog_1_method_17_code 25 = .ok (.return_, 1) := by decide +kernel
theorem d_Cur_init_0 : decode prog_2_method_1_code 0 = .ok (.aload_n 0, 1) := by decide +kernel
theorem d_Cur_init_1 : decode prog_2_method_1_code 1 = .ok (.invokespecial 3, 3) := by decide +kernel
theorem d_Cur_init_4 : decode prog_2_method_1_code 4 = .ok (.aload_n 0, 1) := by decide +kernel
theorem d_Cur_init_5 : decode prog_2_method_1_code 5 = .ok (.new 9, 3) := by decide +kernel
theorem d_Cur_init_8 : decode prog_2_method_1_code 8 = .ok (.dup, 1) := by decide +kernel
theorem d_Cur_init_9 : decode prog_2_method_1_code 9 = .ok (.invokespecial 11, 3) := by decide +kernel
theorem d_Cur_init_12 : decode prog_2_method_1_code 12 = .ok (.putfield 12, 3) := by decide +kernel
theorem d_Cur_init_15 : decode prog_2_method_1_code 15 = .ok (.aload_n 0, 1) := by decide +kernel
theorem d_Cur_init_16 : decode prog_2_method_1_code 16 = .ok (.bipush (10), 2) := by decide +kernel
theorem d_Cur_init_18 : decode prog_2_method_1_code 18 = .ok (.newarray .long, 2) := by decide +kernel
theorem d_Cur_init_20 : decode prog_2_method_1_code 20 = .ok (.putfield 18, 3) := by decide +kernel
theorem d_Cur_init_23 : decode prog_2_method_1_code 23 = .ok (.aload_n 0, 1) := by decide +kernel
theorem d_Cur_init_24 : decode prog_2_method_1_code 24 = .ok (.bipush (10), 2) := by decide +kernel
theorem d_Cur_init_26 : decode prog_2_method_1_code 26 = .ok (.newarray .long, 2) := by decide +kernel
theorem d_Cur_init_28 : decode prog_2_method_1_code 28 = .ok (.putfield 22, 3) := by decide +kernel
theorem d_Cur_init_31 : decode prog_2_method_1_code 31 = .ok (.aload_n 0, 1) := by decide +kernel
theorem d_Cur_init_32 : decode prog_2_method_1_code 32 = .ok (.bipush (10), 2) := by decide +kernel
theorem d_Cur_init_34 : decode prog_2_method_1_code 34 = .ok (.newarray .long, 2) := by decide +kernel
theorem d_Cur_init_36 : decode prog_2_method_1_code 36 = .ok (.putfield 25, 3) := by decide +kernel
theorem d_Cur_init_39 : decode prog_2_method_1_code 39 = .ok (.aload_n 0, 1) := by decide +kernel
theorem d_Cur_init_40 : decode prog_2_method_1_code 40 = .ok (.bipush (10), 2) := by decide +kernel
theorem d_Cur_init_42 : decode prog_2_method_1_code 42 = .ok (.newarray .long, 2) := by decide +kernel
theorem d_Cur_init_44 : decode prog_2_method_1_code 44 = .ok (.putfield 28, 3) := by decide +kernel
theorem d_Cur_init_47 : decode prog_2_method_1_code 47 = .ok (.aload_n 0, 1) := by decide +kernel
theorem d_Cur_init_48 : decode prog_2_method_1_code 48 = .ok (.bipush (10), 2) := by decide +kernel
theorem d_Cur_init_50 : decode prog_2_method_1_code 50 = .ok (.newarray .long, 2) := by decide +kernel
theorem d_Cur_init_52 : decode prog_2_method_1_code 52 = .ok (.putfield 31, 3) := by decide +kernel
theorem d_Cur_init_55 : decode prog_2_method_1_code 55 = .ok (.aload_n 0, 1) := by decide +kernel
theorem d_Cur_init_56 : decode prog_2_method_1_code 56 = .ok (.bipush (8), 2) := by decide +kernel
theorem d_Cur_init_58 : decode prog_2_method_1_code 58 = .ok (.newarray .int, 2) := by decide +kernel
theorem d_Cur_init_60 : decode prog_2_method_1_code 60 = .ok (.putfield 34, 3) := by decide +kernel
theorem d_Cur_init_63 : decode prog_2_method_1_code 63 = .ok (.aload_n 0, 1) := by decide +kernel
theorem d_Cur_init_64 : decode prog_2_method_1_code 64 = .ok (.new 38, 3) := by decide +kernel
theorem d_Cur_init_67 : decode prog_2_method_1_code 67 = .ok (.dup, 1) := by decide +kernel
theorem d_Cur_init_68 : decode prog_2_method_1_code 68 = .ok (.invokespecial 40, 3) := by decide +kernel
theorem d_Cur_init_71 : decode prog_2_method_1_code 71 = .ok (.putfield 41, 3) := by decide +kernel
theorem d_Cur_init_74 : decode prog_2_method_1_code 74 = .ok (.aload_n 0, 1) := by decide +kernel
theorem d_Cur_init_75 : decode prog_2_method_1_code 75 = .ok (.bipush (8), 2) := by decide +kernel
theorem d_Cur_init_77 : decode prog_2_method_1_code 77 = .ok (.anewarray 45, 3) := by decide +kernel
theorem d_Cur_init_80 : decode prog_2_method_1_code 80 = .ok (.putfield 47, 3) := by decide +kernel
theorem d_Cur_init_83 : decode prog_2_method_1_code 83 = .ok (.iconst 0, 1) := by decide +kernel
theorem d_Cur_init_84 : decode prog_2_method_1_code 84 = .ok (.istore_n 1, 1) := by decide +kernel
theorem d_Cur_init_85 : decode prog_2_method_1_code 85 = .ok (.iload_n 1, 1) := by decide +kernel
theorem d_Cur_init_86 : decode prog_2_method_1_code 86 = .ok (.bipush (8), 2) := by decide +kernel
theorem d_Cur_init_88 : decode prog_2_method_1_code 88 = .ok (.if_icmp .ge (22), 3) := by decide +kernel
theorem d_Cur_init_91 : decode prog_2_method_1_code 91 = .ok (.aload_n 0, 1) := by decide +kernel
theorem d_Cur_init_92 : decode prog_2_method_1_code 92 = .ok (.getfield 47, 3) := by decide +kernel
theorem d_Cur_init_95 : decode prog_2_method_1_code 95 = .ok (.iload_n 1, 1) := by decide +kernel
theorem d_Cur_init_96 : decode prog_2_method_1_code 96 = .ok (.new 45, 3) := by decide +kernel
theorem d_Cur_init_99 : decode prog_2_method_1_code 99 = .ok (.dup, 1) := by decide +kernel
theorem d_Cur_init_100 : decode prog_2_method_1_code 100 = .ok (.invokespecial 51, 3) := by decide +kernel
theorem d_Cur_init_103 : decode prog_2_method_1_code 103 = .ok (.aastore, 1) := by decide +kernel
theorem d_Cur_init_104 : decode prog_2_method_1_code 104 = .ok (.iinc 1 (1), 3) := by decide +kernel
theorem d_Cur_init_107 : decode prog_2_method_1_code 107 = .ok (.goto (-22), 3) := by decide +kernel
theorem d_Cur_init_110 : decode prog_2_method_1_code 110 = .ok (.return_, 1) := by decide +kernel
theorem d_Dig_init_0 : decode prog_3_method_1_code 0 = .ok (.aload_n 0, 1) := by decide +kernel
theorem d_Dig_init_1 : decode prog_3_method_1_code 1 = .ok (.invokespecial 3, 3) := by decide +kernel
theorem d_Dig_init_4 : decode prog_3_method_1_code 4 = .ok (.aload_n 0, 1) := by decide +kernel
theorem d_Dig_init_5 : decode prog_3_method_1_code 5 = .ok (.new 9, 3) := by decide +kernel
theorem d_Dig_init_8 : decode prog_3_method_1_code 8 = .ok (.dup, 1) := by decide +kernel
theorem d_Dig_init_9 : decode prog_3_method_1_code 9 = .ok (.invokespecial 11, 3) := by decide +kernel
theorem d_Dig_init_12 : decode prog_3_method_1_code 12 = .ok (.putfield 12, 3) := by decide +kernel
theorem d_Dig_init_15 : decode prog_3_method_1_code 15 = .ok (.aload_n 0, 1) := by decide +kernel
theorem d_Dig_init_16 : decode prog_3_method_1_code 16 = .ok (.new 18, 3) := by decide +kernel
theorem d_Dig_init_19 : decode prog_3_method_1_code 19 = .ok (.dup, 1) := by decide +kernel
theorem d_Dig_init_20 : decode prog_3_method_1_code 20 = .ok (.sipush (166), 3) := by decide +kernel
theorem d_Dig_init_23 : decode prog_3_method_1_code 23 = .ok (.invokespecial 20, 3) := by decide +kernel
theorem d_Dig_init_26 : decode prog_3_method_1_code 26 = .ok (.putfield 23, 3) := by decide +kernel
theorem d_Dig_init_29 : decode prog_3_method_1_code 29 = .ok (.aload_n 0, 1) := by decide +kernel
theorem d_Dig_init_30 : decode prog_3_method_1_code 30 = .ok (.new 18, 3) := by decide +kernel
theorem d_Dig_init_33 : decode prog_3_method_1_code 33 = .ok (.dup, 1) := by decide +kernel
theorem d_Dig_init_34 : decode prog_3_method_1_code 34 = .ok (.sipush (784), 3) := by decide +kernel
theorem d_Dig_init_37 : decode prog_3_method_1_code 37 = .ok (.invokespecial 20, 3) := by decide +kernel
theorem d_Dig_init_40 : decode prog_3_method_1_code 40 = .ok (.putfield 27, 3) := by decide +kernel
theorem d_Dig_init_43 : decode prog_3_method_1_code 43 = .ok (.aload_n 0, 1) := by decide +kernel
theorem d_Dig_init_44 : decode prog_3_method_1_code 44 = .ok (.new 18, 3) := by decide +kernel
theorem d_Dig_init_47 : decode prog_3_method_1_code 47 = .ok (.dup, 1) := by decide +kernel
theorem d_Dig_init_48 : decode prog_3_method_1_code 48 = .ok (.bipush (32), 2) := by decide +kernel
theorem d_Dig_init_50 : decode prog_3_method_1_code 50 = .ok (.invokespecial 20, 3) := by decide +kernel
theorem d_Dig_init_53 : decode prog_3_method_1_code 53 = .ok (.putfield 30, 3) := by decide +kernel
theorem d_Dig_init_56 : decode prog_3_method_1_code 56 = .ok (.aload_n 0, 1) := by decide +kernel
theorem d_Dig_init_57 : decode prog_3_method_1_code 57 = .ok (.new 18, 3) := by decide +kernel
theorem d_Dig_init_60 : decode prog_3_method_1_code 60 = .ok (.dup, 1) := by decide +kernel
theorem d_Dig_init_61 : decode prog_3_method_1_code 61 = .ok (.bipush (64), 2) := by decide +kernel
theorem d_Dig_init_63 : decode prog_3_method_1_code 63 = .ok (.invokespecial 20, 3) := by decide +kernel
theorem d_Dig_init_66 : decode prog_3_method_1_code 66 = .ok (.putfield 33, 3) := by decide +kernel
theorem d_Dig_init_69 : decode prog_3_method_1_code 69 = .ok (.return_, 1) := by decide +kernel
theorem d_Dig_plain_0 : decode prog_3_method_2_code 0 = .ok (.aload_n 0, 1) := by decide +kernel
theorem d_Dig_plain_1 : decode prog_3_method_2_code 1 = .ok (.getfield 12, 3) := by decide +kernel
theorem d_Dig_plain_4 : decode prog_3_method_2_code 4 = .ok (.invokevirtual 36, 3) := by decide +kernel
theorem d_Dig_plain_7 : decode prog_3_method_2_code 7 = .ok (.aload_n 0, 1) := by decide +kernel
theorem d_Dig_plain_8 : decode prog_3_method_2_code 8 = .ok (.getfield 12, 3) := by decide +kernel
theorem d_Dig_plain_11 : decode prog_3_method_2_code 11 = .ok (.aload_n 2, 1) := by decide +kernel
theorem d_Dig_plain_12 : decode prog_3_method_2_code 12 = .ok (.invokevirtual 39, 3) := by decide +kernel
theorem d_Dig_plain_15 : decode prog_3_method_2_code 15 = .ok (.aload_n 0, 1) := by decide +kernel
theorem d_Dig_plain_16 : decode prog_3_method_2_code 16 = .ok (.getfield 12, 3) := by decide +kernel
theorem d_Dig_plain_19 : decode prog_3_method_2_code 19 = .ok (.aload_n 1, 1) := by decide +kernel
theorem d_Dig_plain_20 : decode prog_3_method_2_code 20 = .ok (.invokevirtual 43, 3) := by decide +kernel
theorem d_Dig_plain_23 : decode prog_3_method_2_code 23 = .ok (.return_, 1) := by decide +kernel
theorem d_Fie_init_0 : decode prog_4_method_1_code 0 = .ok (.aload_n 0, 1) := by decide +kernel
theorem d_Fie_init_1 : decode prog_4_method_1_code 1 = .ok (.invokespecial 5, 3) := by decide +kernel
theorem d_Fie_init_4 : decode prog_4_method_1_code 4 = .ok (.aload_n 0, 1) := by decide +kernel
theorem d_Fie_init_5 : decode prog_4_method_1_code 5 = .ok (.bipush (20), 2) := by decide +kernel
theorem d_Fie_init_7 : decode prog_4_method_1_code 7 = .ok (.newarray .long, 2) := by decide +kernel
theorem d_Fie_init_9 : decode prog_4_method_1_code 9 = .ok (.putfield 11, 3) := by decide +kernel
theorem d_Fie_init_12 : decode prog_4_method_1_code 12 = .ok (.aload_n 0, 1) := by decide +kernel
theorem d_Fie_init_13 : decode prog_4_method_1_code 13 = .ok (.bipush (10), 2) := by decide +kernel
theorem d_Fie_init_15 : decode prog_4_method_1_code 15 = .ok (.newarray .long, 2) := by decide +kernel
theorem d_Fie_init_17 : decode prog_4_method_1_code 17 = .ok (.putfield 15, 3) := by decide +kernel
theorem d_Fie_init_20 : decode prog_4_method_1_code 20 = .ok (.aload_n 0, 1) := by decide +kernel
theorem d_Fie_init_21 : decode prog_4_method_1_code 21 = .ok (.bipush (10), 2) := by decide +kernel
theorem d_Fie_init_23 : decode prog_4_method_1_code 23 = .ok (.newarray .long, 2) := by decide +kernel
theorem d_Fie_init_25 : decode prog_4_method_1_code 25 = .ok (.putfield 18, 3) := by decide +kernel
theorem d_Fie_init_28 : decode prog_4_method_1_code 28 = .ok (.aload_n 0, 1) := by decide +kernel
theorem d_Fie_init_29 : decode prog_4_method_1_code 29 = .ok (.bipush (10), 2) := by decide +kernel
theorem d_Fie_init_31 : decode prog_4_method_1_code 31 = .ok (.newarray .long, 2) := by decide +kernel
theorem d_Fie_init_33 : decode prog_4_method_1_code 33 = .ok (.putfield 21, 3) := by decide +kernel
theorem d_Fie_init_36 : decode prog_4_method_1_code 36 = .ok (.aload_n 0, 1) := by decide +kernel
theorem d_Fie_init_37 : decode prog_4_method_1_code 37 = .ok (.bipush (10), 2) := by decide +kernel
theorem d_Fie_init_39 : decode prog_4_method_1_code 39 = .ok (.newarray .long, 2) := by decide +kernel
theorem d_Fie_init_41 : decode prog_4_method_1_code 41 = .ok (.putfield 24, 3) := by decide +kernel
theorem d_Fie_init_44 : decode prog_4_method_1_code 44 = .ok (.aload_n 0, 1) := by decide +kernel
theorem d_Fie_init_45 : decode prog_4_method_1_code 45 = .ok (.bipush (10), 2) := by decide +kernel
theorem d_Fie_init_47 : decode prog_4_method_1_code 47 = .ok (.newarray .long, 2) := by decide +kernel
theorem d_Fie_init_49 : decode prog_4_method_1_code 49 = .ok (.putfield 27, 3) := by decide +kernel
theorem d_Fie_init_52 : decode prog_4_method_1_code 52 = .ok (.aload_n 0, 1) := by decide +kernel
theorem d_Fie_init_53 : decode prog_4_method_1_code 53 = .ok (.bipush (10), 2) := by decide +kernel
theorem d_Fie_init_55 : decode prog_4_method_1_code 55 = .ok (.newarray .long, 2) := by decide +kernel
theorem d_Fie_init_57 : decode prog_4_method_1_code 57 = .ok (.putfield 30, 3) := by decide +kernel
theorem d_Fie_init_60 : decode prog_4_method_1_code 60 = .ok (.aload_n 0, 1) := by decide +kernel
theorem d_Fie_init_61 : decode prog_4_method_1_code 61 = .ok (.bipush (10), 2) := by decide +kernel
theorem d_Fie_init_63 : decode prog_4_method_1_code 63 = .ok (.newarray .long, 2) := by decide +kernel
theorem d_Fie_init_65 : decode prog_4_method_1_code 65 = .ok (.putfield 33, 3) := by decide +kernel
theorem d_Fie_init_68 : decode prog_4_method_1_code 68 = .ok (.return_, 1) := by decide +kernel
theorem d_Par_init_0 : decode prog_5_method_1_code 0 = .ok (.aload_n 0, 1) := by decide +kernel
theorem d_Par_init_1 : decode prog_5_method_1_code 1 = .ok (.invokespecial 3, 3) := by decide +kernel
theorem d_Par_init_4 : decode prog_5_method_1_code 4 = .ok (.aload_n 0, 1) := by decide +kernel
theorem d_Par_init_5 : decode prog_5_method_1_code 5 = .ok (.bipush (8), 2) := by decide +kernel
theorem d_Par_init_7 : decode prog_5_method_1_code 7 = .ok (.newarray .int, 2) := by decide +kernel
theorem d_Par_init_9 : decode prog_5_method_1_code 9 = .ok (.putfield 9, 3) := by decide +kernel
theorem d_Par_init_12 : decode prog_5_method_1_code 12 = .ok (.aload_n 0, 1) := by decide +kernel
theorem d_Par_init_13 : decode prog_5_method_1_code 13 = .ok (.bipush (8), 2) := by decide +kernel
theorem d_Par_init_15 : decode prog_5_method_1_code 15 = .ok (.newarray .int, 2) := by decide +kernel
theorem d_Par_init_17 : decode prog_5_method_1_code 17 = .ok (.putfield 15, 3) := by decide +kernel
theorem d_Par_init_20 : decode prog_5_method_1_code 20 = .ok (.aload_n 0, 1) := by decide +kernel
theorem d_Par_init_21 : decode prog_5_method_1_code 21 = .ok (.bipush (8), 2) := by decide +kernel
theorem d_Par_init_23 : decode prog_5_method_1_code 23 = .ok (.newarray .int, 2) := by decide +kernel
theorem d_Par_init_25 : decode prog_5_method_1_code 25 = .ok (.putfield 18, 3) := by decide +kernel
theorem d_Par_init_28 : decode prog_5_method_1_code 28 = .ok (.aload_n 0, 1) := by decide +kernel
theorem d_Par_init_29 : decode prog_5_method_1_code 29 = .ok (.bipush (8), 2) := by decide +kernel
theorem d_Par_init_31 : decode prog_5_method_1_code 31 = .ok (.newarray .int, 2) := by decide +kernel
theorem d_Par_init_33 : decode prog_5_method_1_code 33 = .ok (.putfield 21, 3) := by decide +kernel
theorem d_Par_init_36 : decode prog_5_method_1_code 36 = .ok (.aload_n 0, 1) := by decide +kernel
theorem d_Par_init_37 : decode prog_5_method_1_code 37 = .ok (.new 24, 3) := by decide +kernel
theorem d_Par_init_40 : decode prog_5_method_1_code 40 = .ok (.dup, 1) := by decide +kernel
theorem d_Par_init_41 : decode prog_5_method_1_code 41 = .ok (.invokespecial 26, 3) := by decide +kernel
theorem d_Par_init_44 : decode prog_5_method_1_code 44 = .ok (.putfield 27, 3) := by decide +kernel
theorem d_Par_init_47 : decode prog_5_method_1_code 47 = .ok (.aload_n 0, 1) := by decide +kernel
theorem d_Par_init_48 : decode prog_5_method_1_code 48 = .ok (.new 24, 3) := by decide +kernel
theorem d_Par_init_51 : decode prog_5_method_1_code 51 = .ok (.dup, 1) := by decide +kernel
theorem d_Par_init_52 : decode prog_5_method_1_code 52 = .ok (.invokespecial 26, 3) := by decide +kernel
theorem d_Par_init_55 : decode prog_5_method_1_code 55 = .ok (.putfield 31, 3) := by decide +kernel
theorem d_Par_init_58 : decode prog_5_method_1_code 58 = .ok (.aload_n 0, 1) := by decide +kernel
theorem d_Par_init_59 : decode prog_5_method_1_code 59 = .ok (.new 24, 3) := by decide +kernel
theorem d_Par_init_62 : decode prog_5_method_1_code 62 = .ok (.dup, 1) := by decide +kernel
theorem d_Par_init_63 : decode prog_5_method_1_code 63 = .ok (.invokespecial 26, 3) := by decide +kernel
theorem d_Par_init_66 : decode prog_5_method_1_code 66 = .ok (.putfield 34, 3) := by decide +kernel
theorem d_Par_init_69 : decode prog_5_method_1_code 69 = .ok (.return_, 1) := by decide +kernel
theorem d_Poi_init_0 : decode prog_6_method_1_code 0 = .ok (.aload_n 0, 1) := by decide +kernel
theorem d_Poi_init_1 : decode prog_6_method_1_code 1 = .ok (.invokespecial 1, 3) := by decide +kernel
theorem d_Poi_init_4 : decode prog_6_method_1_code 4 = .ok (.aload_n 0, 1) := by decide +kernel
theorem d_Poi_init_5 : decode prog_6_method_1_code 5 = .ok (.bipush (10), 2) := by decide +kernel
theorem d_Poi_init_7 : decode prog_6_method_1_code 7 = .ok (.newarray .long, 2) := by decide +kernel
theorem d_Poi_init_9 : decode prog_6_method_1_code 9 = .ok (.putfield 9, 3) := by decide +kernel
theorem d_Poi_init_12 : decode prog_6_method_1_code 12 = .ok (.aload_n 0, 1) := by decide +kernel
theorem d_Poi_init_13 : decode prog_6_method_1_code 13 = .ok (.bipush (10), 2) := by decide +kernel
theorem d_Poi_init_15 : decode prog_6_method_1_code 15 = .ok (.newarray .long, 2) := by decide +kernel
theorem d_Poi_init_17 : decode prog_6_method_1_code 17 = .ok (.putfield 15, 3) := by decide +kernel
theorem d_Poi_init_20 : decode prog_6_method_1_code 20 = .ok (.aload_n 0, 1) := by decide +kernel
theorem d_Poi_init_21 : decode prog_6_method_1_code 21 = .ok (.bipush (10), 2) := by decide +kernel
theorem d_Poi_init_23 : decode prog_6_method_1_code 23 = .ok (.newarray .long, 2) := by decide +kernel
theorem d_Poi_init_25 : decode prog_6_method_1_code 25 = .ok (.putfield 18, 3) := by decide +kernel
theorem d_Poi_init_28 : decode prog_6_method_1_code 28 = .ok (.aload_n 0, 1) := by decide +kernel
theorem d_Poi_init_29 : decode prog_6_method_1_code 29 = .ok (.iconst 1, 1) := by decide +kernel
theorem d_Poi_init_30 : decode prog_6_method_1_code 30 = .ok (.putfield 21, 3) := by decide +kernel
theorem d_Poi_init_33 : decode prog_6_method_1_code 33 = .ok (.return_, 1) := by decide +kernel
theorem d_Row_init_0 : decode prog_7_method_1_code 0 = .ok (.aload_n 0, 1) := by decide +kernel
theorem d_Row_init_1 : decode prog_7_method_1_code 1 = .ok (.invokespecial 1, 3) := by decide +kernel
theorem d_Row_init_4 : decode prog_7_method_1_code 4 = .ok (.aload_n 0, 1) := by decide +kernel
theorem d_Row_init_5 : decode prog_7_method_1_code 5 = .ok (.iload_n 1, 1) := by decide +kernel
theorem d_Row_init_6 : decode prog_7_method_1_code 6 = .ok (.newarray .byte, 2) := by decide +kernel
theorem d_Row_init_8 : decode prog_7_method_1_code 8 = .ok (.putfield 7, 3) := by decide +kernel
theorem d_Row_init_11 : decode prog_7_method_1_code 11 = .ok (.return_, 1) := by decide +kernel
theorem d_Row_clear_0 : decode prog_7_method_2_code 0 = .ok (.aload_n 0, 1) := by decide +kernel
theorem d_Row_clear_1 : decode prog_7_method_2_code 1 = .ok (.iconst 0, 1) := by decide +kernel
theorem d_Row_clear_2 : decode prog_7_method_2_code 2 = .ok (.putfield 13, 3) := by decide +kernel
theorem d_Row_clear_5 : decode prog_7_method_2_code 5 = .ok (.return_, 1) := by decide +kernel
theorem d_Row_put_0 : decode prog_7_method_3_code 0 = .ok (.aload_n 0, 1) := by decide +kernel
theorem d_Row_put_1 : decode prog_7_method_3_code 1 = .ok (.getfield 13, 3) := by decide +kernel
theorem d_Row_put_4 : decode prog_7_method_3_code 4 = .ok (.aload_n 0, 1) := by decide +kernel
theorem d_Row_put_5 : decode prog_7_method_3_code 5 = .ok (.getfield 7, 3) := by decide +kernel
theorem d_Row_put_8 : decode prog_7_method_3_code 8 = .ok (.arraylength, 1) := by decide +kernel
theorem d_Row_put_9 : decode prog_7_method_3_code 9 = .ok (.if_icmp .ge (24), 3) := by decide +kernel
theorem d_Row_put_12 : decode prog_7_method_3_code 12 = .ok (.aload_n 0, 1) := by decide +kernel
theorem d_Row_put_13 : decode prog_7_method_3_code 13 = .ok (.getfield 7, 3) := by decide +kernel
theorem d_Row_put_16 : decode prog_7_method_3_code 16 = .ok (.aload_n 0, 1) := by decide +kernel
theorem d_Row_put_17 : decode prog_7_method_3_code 17 = .ok (.getfield 13, 3) := by decide +kernel
theorem d_Row_put_20 : decode prog_7_method_3_code 20 = .ok (.iload_n 1, 1) := by decide +kernel
theorem d_Row_put_21 : decode prog_7_method_3_code 21 = .ok (.i2b, 1) := by decide +kernel
theorem d_Row_put_22 : decode prog_7_method_3_code 22 = .ok (.bastore, 1) := by decide +kernel
theorem d_Row_put_23 : decode prog_7_method_3_code 23 = .ok (.aload_n 0, 1) := by decide +kernel
theorem d_Row_put_24 : decode prog_7_method_3_code 24 = .ok (.dup, 1) := by decide +kernel
theorem d_Row_put_25 : decode prog_7_method_3_code 25 = .ok (.getfield 13, 3) := by decide +kernel
theorem d_Row_put_28 : decode prog_7_method_3_code 28 = .ok (.iconst 1, 1) := by decide +kernel
theorem d_Row_put_29 : decode prog_7_method_3_code 29 = .ok (.iadd, 1) := by decide +kernel
theorem d_Row_put_30 : decode prog_7_method_3_code 30 = .ok (.putfield 13, 3) := by decide +kernel
theorem d_Row_put_33 : decode prog_7_method_3_code 33 = .ok (.return_, 1) := by decide +kernel
theorem d_Row_putPart_0 : decode prog_7_method_5_code 0 = .ok (.iload_n 2, 1) := by decide +kernel
theorem d_Row_putPart_1 : decode prog_7_method_5_code 1 = .ok (.istore 4, 2) := by decide +kernel
theorem d_Row_putPart_3 : decode prog_7_method_5_code 3 = .ok (.iload 4, 2) := by decide +kernel
theorem d_Row_putPart_5 : decode prog_7_method_5_code 5 = .ok (.iload_n 2, 1) := by decide +kernel
theorem d_Row_putPart_6 : decode prog_7_method_5_code 6 = .ok (.iload_n 3, 1) := by decide +kernel
theorem d_Row_putPart_7 : decode prog_7_method_5_code 7 = .ok (.iadd, 1) := by decide +kernel
theorem d_Row_putPart_8 : decode prog_7_method_5_code 8 = .ok (.if_icmp .ge (29), 3) := by decide +kernel
theorem d_Row_putPart_37 : decode prog_7_method_5_code 37 = .ok (.return_, 1) := by decide +kernel
theorem d_Row_putRow_0 : decode prog_7_method_4_code 0 = .ok (.aload_n 0, 1) := by decide +kernel
theorem d_Row_putRow_1 : decode prog_7_method_4_code 1 = .ok (.aload_n 1, 1) := by decide +kernel
theorem d_Row_putRow_2 : decode prog_7_method_4_code 2 = .ok (.iconst 0, 1) := by decide +kernel
theorem d_Row_putRow_3 : decode prog_7_method_4_code 3 = .ok (.aload_n 1, 1) := by decide +kernel
theorem d_Row_putRow_4 : decode prog_7_method_4_code 4 = .ok (.getfield 13, 3) := by decide +kernel
theorem d_Row_putRow_7 : decode prog_7_method_4_code 7 = .ok (.invokevirtual 17, 3) := by decide +kernel
theorem d_Row_putRow_10 : decode prog_7_method_4_code 10 = .ok (.return_, 1) := by decide +kernel
theorem d_Sca_init_0 : decode prog_8_method_1_code 0 = .ok (.aload_n 0, 1) := by decide +kernel
theorem d_Sca_init_1 : decode prog_8_method_1_code 1 = .ok (.invokespecial 3, 3) := by decide +kernel
theorem d_Sca_init_4 : decode prog_8_method_1_code 4 = .ok (.aload_n 0, 1) := by decide +kernel
theorem d_Sca_init_5 : decode prog_8_method_1_code 5 = .ok (.bipush (16), 2) := by decide +kernel
theorem d_Sca_init_7 : decode prog_8_method_1_code 7 = .ok (.newarray .int, 2) := by decide +kernel
theorem d_Sca_init_9 : decode prog_8_method_1_code 9 = .ok (.putfield 11, 3) := by decide +kernel
theorem d_Sca_init_12 : decode prog_8_method_1_code 12 = .ok (.aload_n 0, 1) := by decide +kernel
theorem d_Sca_init_13 : decode prog_8_method_1_code 13 = .ok (.bipush (8), 2) := by decide +kernel
theorem d_Sca_init_15 : decode prog_8_method_1_code 15 = .ok (.newarray .int, 2) := by decide +kernel
theorem d_Sca_init_17 : decode prog_8_method_1_code 17 = .ok (.putfield 15, 3) := by decide +kernel
theorem d_Sca_init_20 : decode prog_8_method_1_code 20 = .ok (.return_, 1) := by decide +kernel
theorem d_Sha_init_0 : decode prog_9_method_1_code 0 = .ok (.aload_n 0, 1) := by decide +kernel
theorem d_Sha_init_1 : decode prog_9_method_1_code 1 = .ok (.invokespecial 1, 3) := by decide +kernel
theorem d_Sha_init_4 : decode prog_9_method_1_code 4 = .ok (.aload_n 0, 1) := by decide +kernel
theorem d_Sha_init_5 : decode prog_9_method_1_code 5 = .ok (.bipush (8), 2) := by decide +kernel
theorem d_Sha_init_7 : decode prog_9_method_1_code 7 = .ok (.newarray .int, 2) := by decide +kernel
theorem d_Sha_init_9 : decode prog_9_method_1_code 9 = .ok (.putfield 9, 3) := by decide +kernel
theorem d_Sha_init_12 : decode prog_9_method_1_code 12 = .ok (.aload_n 0, 1) := by decide +kernel
theorem d_Sha_init_13 : decode prog_9_method_1_code 13 = .ok (.bipush (64), 2) := by decide +kernel
theorem d_Sha_init_15 : decode prog_9_method_1_code 15 = .ok (.newarray .int, 2) := by decide +kernel
theorem d_Sha_init_17 : decode prog_9_method_1_code 17 = .ok (.putfield 13, 3) := by decide +kernel
theorem d_Sha_init_20 : decode prog_9_method_1_code 20 = .ok (.return_, 1) := by decide +kernel
theorem d_Sha_addToState_0 : decode prog_9_method_9_code 0 = .ok (.aload_n 0, 1) := by decide +kernel
theorem d_Sha_addToState_1 : decode prog_9_method_9_code 1 = .ok (.getfield 9, 3) := by decide +kernel
theorem d_Sha_addToState_4 : decode prog_9_method_9_code 4 = .ok (.iload 5, 2) := by decide +kernel
theorem d_Sha_addToState_6 : decode prog_9_method_9_code 6 = .ok (.dup2, 1) := by decide +kernel
theorem d_Sha_addToState_7 : decode prog_9_method_9_code 7 = .ok (.iaload, 1) := by decide +kernel
theorem d_Sha_addToState_8 : decode prog_9_method_9_code 8 = .ok (.iload_n 1, 1) := by decide +kernel
theorem d_Sha_addToState_9 : decode prog_9_method_9_code 9 = .ok (.iadd, 1) := by decide +kernel
theorem d_Sha_addToState_10 : decode prog_9_method_9_code 10 = .ok (.iastore, 1) := by decide +kernel
theorem d_Sha_addToState_11 : decode prog_9_method_9_code 11 = .ok (.aload_n 0, 1) := by decide +kernel
theorem d_Sha_addToState_12 : decode prog_9_method_9_code 12 = .ok (.getfield 9, 3) := by decide +kernel
theorem d_Sha_addToState_15 : decode prog_9_method_9_code 15 = .ok (.iload 5, 2) := by decide +kernel
theorem d_Sha_addToState_17 : decode prog_9_method_9_code 17 = .ok (.iconst 1, 1) := by decide +kernel
theorem d_Sha_addToState_18 : decode prog_9_method_9_code 18 = .ok (.iadd, 1) := by decide +kernel
theorem d_Sha_addToState_19 : decode prog_9_method_9_code 19 = .ok (.dup2, 1) := by decide +kernel
theorem d_Sha_addToState_20 : decode prog_9_method_9_code 20 = .ok (.iaload, 1) := by decide +kernel
theorem d_Sha_addToState_21 : decode prog_9_method_9_code 21 = .ok (.iload_n 2, 1) := by decide +kernel
theorem d_Sha_addToState_22 : decode prog_9_method_9_code 22 = .ok (.iadd, 1) := by decide +kernel
theorem d_Sha_addToState_23 : decode prog_9_method_9_code 23 = .ok (.iastore, 1) := by decide +kernel
theorem d_Sha_addToState_24 : decode prog_9_method_9_code 24 = .ok (.aload_n 0, 1) := by decide +kernel
theorem d_Sha_addToState_25 : decode prog_9_method_9_code 25 = .ok (.getfield 9, 3) := by decide +kernel
theorem d_Sha_addToState_28 : decode prog_9_method_9_code 28 = .ok (.iload 5, 2) := by decide +kernel
theorem d_Sha_addToState_30 : decode prog_9_method_9_code 30 = .ok (.iconst 2, 1) := by decide +kernel
theorem d_Sha_addToState_31 : decode prog_9_method_9_code 31 = .ok (.iadd, 1) := by decide +kernel
theorem d_Sha_addToState_32 : decode prog_9_method_9_code 32 = .ok (.dup2, 1) := by decide +kernel
theorem d_Sha_addToState_33 : decode prog_9_method_9_code 33 = .ok (.iaload, 1) := by decide +kernel
theorem d_Sha_addToState_34 : decode prog_9_method_9_code 34 = .ok (.iload_n 3, 1) := by decide +kernel
theorem d_Sha_addToState_35 : decode prog_9_method_9_code 35 = .ok (.iadd, 1) := by decide +kernel
theorem d_Sha_addToState_36 : decode prog_9_method_9_code 36 = .ok (.iastore, 1) := by decide +kernel
theorem d_Sha_addToState_37 : decode prog_9_method_9_code 37 = .ok (.aload_n 0, 1) := by decide +kernel
theorem d_Sha_addToState_38 : decode prog_9_method_9_code 38 = .ok (.getfield 9, 3) := by decide +kernel
theorem d_Sha_addToState_41 : decode prog_9_method_9_code 41 = .ok (.iload 5, 2) := by decide +kernel
theorem d_Sha_addToState_43 : decode prog_9_method_9_code 43 = .ok (.iconst 3, 1) := by decide +kernel
theorem d_Sha_addToState_44 : decode prog_9_method_9_code 44 = .ok (.iadd, 1) := by decide +kernel
theorem d_Sha_addToState_45 : decode prog_9_method_9_code 45 = .ok (.dup2, 1) := by decide +kernel
theorem d_Sha_addToState_46 : decode prog_9_method_9_code 46 = .ok (.iaload, 1) := by decide +kernel
theorem d_Sha_addToState_47 : decode prog_9_method_9_code 47 = .ok (.iload 4, 2) := by decide +kernel
theorem d_Sha_addToState_49 : decode prog_9_method_9_code 49 = .ok (.iadd, 1) := by decide +kernel
theorem d_Sha_addToState_50 : decode prog_9_method_9_code 50 = .ok (.iastore, 1) := by decide +kernel
theorem d_Sha_addToState_51 : decode prog_9_method_9_code 51 = .ok (.return_, 1) := by decide +kernel
theorem d_Sha_begin_0 : decode prog_9_method_2_code 0 = .ok (.getstatic 16, 3) := by decide +kernel
theorem d_Sha_begin_3 : decode prog_9_method_2_code 3 = .ok (.iconst 0, 1) := by decide +kernel
theorem d_Sha_begin_4 : decode prog_9_method_2_code 4 = .ok (.aload_n 0, 1) := by decide +kernel
theorem d_Sha_begin_5 : decode prog_9_method_2_code 5 = .ok (.getfield 9, 3) := by decide +kernel
theorem d_Sha_begin_8 : decode prog_9_method_2_code 8 = .ok (.iconst 0, 1) := by decide +kernel
theorem d_Sha_begin_9 : decode prog_9_method_2_code 9 = .ok (.bipush (8), 2) := by decide +kernel
theorem d_Sha_begin_11 : decode prog_9_method_2_code 11 = .ok (.invokestatic 19, 3) := by decide +kernel
theorem d_Sha_begin_14 : decode prog_9_method_2_code 14 = .ok (.aload_n 0, 1) := by decide +kernel
theorem d_Sha_begin_15 : decode prog_9_method_2_code 15 = .ok (.getfield 13, 3) := by decide +kernel
theorem d_Sha_begin_18 : decode prog_9_method_2_code 18 = .ok (.iconst 0, 1) := by decide +kernel
theorem d_Sha_begin_19 : decode prog_9_method_2_code 19 = .ok (.invokestatic 25, 3) := by decide +kernel
theorem d_Sha_begin_22 : decode prog_9_method_2_code 22 = .ok (.aload_n 0, 1) := by decide +kernel
theorem d_Sha_begin_23 : decode prog_9_method_2_code 23 = .ok (.iconst 0, 1) := by decide +kernel
theorem d_Sha_begin_24 : decode prog_9_method_2_code 24 = .ok (.putfield 31, 3) := by decide +kernel
theorem d_Sha_begin_27 : decode prog_9_method_2_code 27 = .ok (.return_, 1) := by decide +kernel
theorem d_Sha_compress_0 : decode prog_9_method_8_code 0 = .ok (.aload_n 0, 1) := by decide +kernel
theorem d_Sha_compress_1 : decode prog_9_method_8_code 1 = .ok (.getfield 13, 3) := by decide +kernel
theorem d_Sha_compress_4 : decode prog_9_method_8_code 4 = .ok (.astore_n 1, 1) := by decide +kernel
theorem d_Sha_compress_5 : decode prog_9_method_8_code 5 = .ok (.bipush (16), 2) := by decide +kernel
theorem d_Sha_compress_7 : decode prog_9_method_8_code 7 = .ok (.istore_n 2, 1) := by decide +kernel
theorem d_Sha_compress_8 : decode prog_9_method_8_code 8 = .ok (.iload_n 2, 1) := by decide +kernel
theorem d_Sha_compress_9 : decode prog_9_method_8_code 9 = .ok (.bipush (64), 2) := by decide +kernel
theorem d_Sha_compress_11 : decode prog_9_method_8_code 11 = .ok (.if_icmp .ge (93), 3) := by decide +kernel
theorem d_Sha_compress_14 : decode prog_9_method_8_code 14 = .ok (.aload_n 1, 1) := by decide +kernel
theorem d_Sha_compress_15 : decode prog_9_method_8_code 15 = .ok (.iload_n 2, 1) := by decide +kernel
theorem d_Sha_compress_16 : decode prog_9_method_8_code 16 = .ok (.bipush (15), 2) := by decide +kernel
theorem d_Sha_compress_18 : decode prog_9_method_8_code 18 = .ok (.isub, 1) := by decide +kernel
theorem d_Sha_compress_19 : decode prog_9_method_8_code 19 = .ok (.iaload, 1) := by decide +kernel
theorem d_Sha_compress_20 : decode prog_9_method_8_code 20 = .ok (.istore_n 3, 1) := by decide +kernel
theorem d_Sha_compress_21 : decode prog_9_method_8_code 21 = .ok (.aload_n 1, 1) := by decide +kernel
theorem d_Sha_compress_22 : decode prog_9_method_8_code 22 = .ok (.iload_n 2, 1) := by decide +kernel
theorem d_Sha_compress_23 : decode prog_9_method_8_code 23 = .ok (.iconst 2, 1) := by decide +kernel
theorem d_Sha_compress_24 : decode prog_9_method_8_code 24 = .ok (.isub, 1) := by decide +kernel
theorem d_Sha_compress_25 : decode prog_9_method_8_code 25 = .ok (.iaload, 1) := by decide +kernel
theorem d_Sha_compress_26 : decode prog_9_method_8_code 26 = .ok (.istore 4, 2) := by decide +kernel
theorem d_Sha_compress_28 : decode prog_9_method_8_code 28 = .ok (.aload_n 1, 1) := by decide +kernel
theorem d_Sha_compress_29 : decode prog_9_method_8_code 29 = .ok (.iload_n 2, 1) := by decide +kernel
theorem d_Sha_compress_30 : decode prog_9_method_8_code 30 = .ok (.aload_n 1, 1) := by decide +kernel
theorem d_Sha_compress_31 : decode prog_9_method_8_code 31 = .ok (.iload_n 2, 1) := by decide +kernel
theorem d_Sha_compress_32 : decode prog_9_method_8_code 32 = .ok (.bipush (16), 2) := by decide +kernel
theorem d_Sha_compress_34 : decode prog_9_method_8_code 34 = .ok (.isub, 1) := by decide +kernel
theorem d_Sha_compress_35 : decode prog_9_method_8_code 35 = .ok (.iaload, 1) := by decide +kernel
theorem d_Sha_compress_36 : decode prog_9_method_8_code 36 = .ok (.iload_n 3, 1) := by decide +kernel
theorem d_Sha_compress_37 : decode prog_9_method_8_code 37 = .ok (.bipush (7), 2) := by decide +kernel
theorem d_Sha_compress_39 : decode prog_9_method_8_code 39 = .ok (.iushr, 1) := by decide +kernel
theorem d_Sha_compress_40 : decode prog_9_method_8_code 40 = .ok (.iload_n 3, 1) := by decide +kernel
theorem d_Sha_compress_41 : decode prog_9_method_8_code 41 = .ok (.bipush (25), 2) := by decide +kernel
theorem d_Sha_compress_43 : decode prog_9_method_8_code 43 = .ok (.ishl, 1) := by decide +kernel
theorem d_Sha_compress_44 : decode prog_9_method_8_code 44 = .ok (.ior, 1) := by decide +kernel
theorem d_Sha_compress_45 : decode prog_9_method_8_code 45 = .ok (.iload_n 3, 1) := by decide +kernel
theorem d_Sha_compress_46 : decode prog_9_method_8_code 46 = .ok (.bipush (18), 2) := by decide +kernel
theorem d_Sha_compress_48 : decode prog_9_method_8_code 48 = .ok (.iushr, 1) := by decide +kernel
theorem d_Sha_compress_49 : decode prog_9_method_8_code 49 = .ok (.iload_n 3, 1) := by decide +kernel
theorem d_Sha_compress_50 : decode prog_9_method_8_code 50 = .ok (.bipush (14), 2) := by decide +kernel
theorem d_Sha_compress_52 : decode prog_9_method_8_code 52 = .ok (.ishl, 1) := by decide +kernel
theorem d_Sha_compress_53 : decode prog_9_method_8_code 53 = .ok (.ior, 1) := by decide +kernel
theorem d_Sha_compress_54 : decode prog_9_method_8_code 54 = .ok (.ixor, 1) := by decide +kernel
theorem d_Sha_compress_55 : decode prog_9_method_8_code 55 = .ok (.iload_n 3, 1) := by decide +kernel
theorem d_Sha_compress_56 : decode prog_9_method_8_code 56 = .ok (.iconst 3, 1) := by decide +kernel
theorem d_Sha_compress_57 : decode prog_9_method_8_code 57 = .ok (.iushr, 1) := by decide +kernel
theorem d_Sha_compress_58 : decode prog_9_method_8_code 58 = .ok (.ixor, 1) := by decide +kernel
theorem d_Sha_compress_59 : decode prog_9_method_8_code 59 = .ok (.iadd, 1) := by decide +kernel
theorem d_Sha_compress_60 : decode prog_9_method_8_code 60 = .ok (.aload_n 1, 1) := by decide +kernel
theorem d_Sha_compress_61 : decode prog_9_method_8_code 61 = .ok (.iload_n 2, 1) := by decide +kernel
theorem d_Sha_compress_62 : decode prog_9_method_8_code 62 = .ok (.bipush (7), 2) := by decide +kernel
theorem d_Sha_compress_64 : decode prog_9_method_8_code 64 = .ok (.isub, 1) := by decide +kernel
theorem d_Sha_compress_65 : decode prog_9_method_8_code 65 = .ok (.iaload, 1) := by decide +kernel
theorem d_Sha_compress_66 : decode prog_9_method_8_code 66 = .ok (.iadd, 1) := by decide +kernel
theorem d_Sha_compress_67 : decode prog_9_method_8_code 67 = .ok (.iload 4, 2) := by decide +kernel
theorem d_Sha_compress_69 : decode prog_9_method_8_code 69 = .ok (.bipush (17), 2) := by decide +kernel
theorem d_Sha_compress_71 : decode prog_9_method_8_code 71 = .ok (.iushr, 1) := by decide +kernel
theorem d_Sha_compress_72 : decode prog_9_method_8_code 72 = .ok (.iload 4, 2) := by decide +kernel
theorem d_Sha_compress_74 : decode prog_9_method_8_code 74 = .ok (.bipush (15), 2) := by decide +kernel
theorem d_Sha_compress_76 : decode prog_9_method_8_code 76 = .ok (.ishl, 1) := by decide +kernel
theorem d_Sha_compress_77 : decode prog_9_method_8_code 77 = .ok (.ior, 1) := by decide +kernel
theorem d_Sha_compress_78 : decode prog_9_method_8_code 78 = .ok (.iload 4, 2) := by decide +kernel
theorem d_Sha_compress_80 : decode prog_9_method_8_code 80 = .ok (.bipush (19), 2) := by decide +kernel
theorem d_Sha_compress_82 : decode prog_9_method_8_code 82 = .ok (.iushr, 1) := by decide +kernel
theorem d_Sha_compress_83 : decode prog_9_method_8_code 83 = .ok (.iload 4, 2) := by decide +kernel
theorem d_Sha_compress_85 : decode prog_9_method_8_code 85 = .ok (.bipush (13), 2) := by decide +kernel
theorem d_Sha_compress_87 : decode prog_9_method_8_code 87 = .ok (.ishl, 1) := by decide +kernel
theorem d_Sha_compress_88 : decode prog_9_method_8_code 88 = .ok (.ior, 1) := by decide +kernel
theorem d_Sha_compress_89 : decode prog_9_method_8_code 89 = .ok (.ixor, 1) := by decide +kernel
theorem d_Sha_compress_90 : decode prog_9_method_8_code 90 = .ok (.iload 4, 2) := by decide +kernel
theorem d_Sha_compress_92 : decode prog_9_method_8_code 92 = .ok (.bipush (10), 2) := by decide +kernel
theorem d_Sha_compress_94 : decode prog_9_method_8_code 94 = .ok (.iushr, 1) := by decide +kernel
theorem d_Sha_compress_95 : decode prog_9_method_8_code 95 = .ok (.ixor, 1) := by decide +kernel
theorem d_Sha_compress_96 : decode prog_9_method_8_code 96 = .ok (.iadd, 1) := by decide +kernel
theorem d_Sha_compress_97 : decode prog_9_method_8_code 97 = .ok (.iastore, 1) := by decide +kernel
theorem d_Sha_compress_98 : decode prog_9_method_8_code 98 = .ok (.iinc 2 (1), 3) := by decide +kernel
theorem d_Sha_compress_101 : decode prog_9_method_8_code 101 = .ok (.goto (-93), 3) := by decide +kernel
theorem d_Sha_compress_104 : decode prog_9_method_8_code 104 = .ok (.aload_n 0, 1) := by decide +kernel
theorem d_Sha_compress_105 : decode prog_9_method_8_code 105 = .ok (.getfield 9, 3) := by decide +kernel
theorem d_Sha_compress_108 : decode prog_9_method_8_code 108 = .ok (.iconst 0, 1) := by decide +kernel
theorem d_Sha_compress_109 : decode prog_9_method_8_code 109 = .ok (.iaload, 1) := by decide +kernel
theorem d_Sha_compress_110 : decode prog_9_method_8_code 110 = .ok (.istore_n 2, 1) := by decide +kernel
theorem d_Sha_compress_111 : decode prog_9_method_8_code 111 = .ok (.aload_n 0, 1) := by decide +kernel
theorem d_Sha_compress_112 : decode prog_9_method_8_code 112 = .ok (.getfield 9, 3) := by decide +kernel
theorem d_Sha_compress_115 : decode prog_9_method_8_code 115 = .ok (.iconst 1, 1) := by decide +kernel
theorem d_Sha_compress_116 : decode prog_9_method_8_code 116 = .ok (.iaload, 1) := by decide +kernel
