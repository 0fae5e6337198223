theorem dX0_init_0 : decode cX0_init 0 = .ok (.aload_n 0, 1) := by decide +kernel
theorem dX0_init_1 : decode cX0_init 1 = .ok (.invokespecial 1, 3) := by decide +kernel
theorem dX0_init_4 : decode cX0_init 4 = .ok (.aload_n 0, 1) := by decide +kernel
theorem dX0_init_5 : decode cX0_init 5 = .ok (.iconst 4, 1) := by decide +kernel
theorem dX0_init_6 : decode cX0_init 6 = .ok (.newarray .int, 2) := by decide +kernel
theorem dX0_init_8 : decode cX0_init 8 = .ok (.putfield 9, 3) := by decide +kernel
theorem dX0_init_11 : decode cX0_init 11 = .ok (.aload_n 0, 1) := by decide +kernel
theorem dX0_init_12 : decode cX0_init 12 = .ok (.iconst 4, 1) := by decide +kernel
theorem dX0_init_13 : decode cX0_init 13 = .ok (.newarray .int, 2) := by decide +kernel
theorem dX0_init_15 : decode cX0_init 15 = .ok (.putfield 13, 3) := by decide +kernel
theorem dX0_init_18 : decode cX0_init 18 = .ok (.aload_n 0, 1) := by decide +kernel
theorem dX0_init_19 : decode cX0_init 19 = .ok (.iload_n 1, 1) := by decide +kernel
theorem dX0_init_20 : decode cX0_init 20 = .ok (.putfield 16, 3) := by decide +kernel
theorem dX0_init_23 : decode cX0_init 23 = .ok (.aload_n 0, 1) := by decide +kernel
theorem dX0_init_24 : decode cX0_init 24 = .ok (.iload_n 2, 1) := by decide +kernel
theorem dX0_init_25 : decode cX0_init 25 = .ok (.putfield 20, 3) := by decide +kernel
theorem dX0_init_28 : decode cX0_init 28 = .ok (.aload_n 0, 1) := by decide +kernel
theorem dX0_init_29 : decode cX0_init 29 = .ok (.iload_n 3, 1) := by decide +kernel
theorem dX0_init_30 : decode cX0_init 30 = .ok (.putfield 23, 3) := by decide +kernel
theorem dX0_init_33 : decode cX0_init 33 = .ok (.aload_n 0, 1) := by decide +kernel
theorem dX0_init_34 : decode cX0_init 34 = .ok (.iload 4, 2) := by decide +kernel
theorem dX0_init_36 : decode cX0_init 36 = .ok (.putfield 26, 3) := by decide +kernel
theorem dX0_init_39 : decode cX0_init 39 = .ok (.aload_n 0, 1) := by decide +kernel
theorem dX0_init_40 : decode cX0_init 40 = .ok (.iload 5, 2) := by decide +kernel
theorem dX0_init_42 : decode cX0_init 42 = .ok (.putfield 29, 3) := by decide +kernel
theorem dX0_init_45 : decode cX0_init 45 = .ok (.aload_n 0, 1) := by decide +kernel
theorem dX0_init_46 : decode cX0_init 46 = .ok (.iload 6, 2) := by decide +kernel
theorem dX0_init_48 : decode cX0_init 48 = .ok (.putfield 32, 3) := by decide +kernel
theorem dX0_init_51 : decode cX0_init 51 = .ok (.return_, 1) := by decide +kernel
theorem dX1_init_0 : decode cX1_init 0 = .ok (.aload_n 0, 1) := by decide +kernel
theorem dX1_init_1 : decode cX1_init 1 = .ok (.invokespecial 3, 3) := by decide +kernel
theorem dX1_init_4 : decode cX1_init 4 = .ok (.aload_n 0, 1) := by decide +kernel
theorem dX1_init_5 : decode cX1_init 5 = .ok (.bipush 20, 2) := by decide +kernel
theorem dX1_init_7 : decode cX1_init 7 = .ok (.newarray .int, 2) := by decide +kernel
theorem dX1_init_9 : decode cX1_init 9 = .ok (.putfield 11, 3) := by decide +kernel
theorem dX1_init_12 : decode cX1_init 12 = .ok (.aload_n 0, 1) := by decide +kernel
theorem dX1_init_13 : decode cX1_init 13 = .ok (.bipush 20, 2) := by decide +kernel
theorem dX1_init_15 : decode cX1_init 15 = .ok (.newarray .int, 2) := by decide +kernel
theorem dX1_init_17 : decode cX1_init 17 = .ok (.putfield 15, 3) := by decide +kernel
theorem dX1_init_20 : decode cX1_init 20 = .ok (.aload_n 0, 1) := by decide +kernel
theorem dX1_init_21 : decode cX1_init 21 = .ok (.bipush 20, 2) := by decide +kernel
theorem dX1_init_23 : decode cX1_init 23 = .ok (.newarray .int, 2) := by decide +kernel
theorem dX1_init_25 : decode cX1_init 25 = .ok (.putfield 18, 3) := by decide +kernel
theorem dX1_init_28 : decode cX1_init 28 = .ok (.aload_n 0, 1) := by decide +kernel
theorem dX1_init_29 : decode cX1_init 29 = .ok (.bipush 8, 2) := by decide +kernel
theorem dX1_init_31 : decode cX1_init 31 = .ok (.newarray .int, 2) := by decide +kernel
theorem dX1_init_33 : decode cX1_init 33 = .ok (.putfield 21, 3) := by decide +kernel
theorem dX1_init_36 : decode cX1_init 36 = .ok (.aload_n 0, 1) := by decide +kernel
theorem dX1_init_37 : decode cX1_init 37 = .ok (.bipush 8, 2) := by decide +kernel
theorem dX1_init_39 : decode cX1_init 39 = .ok (.newarray .int, 2) := by decide +kernel
theorem dX1_init_41 : decode cX1_init 41 = .ok (.putfield 24, 3) := by decide +kernel
theorem dX1_init_44 : decode cX1_init 44 = .ok (.aload_n 0, 1) := by decide +kernel
theorem dX1_init_45 : decode cX1_init 45 = .ok (.bipush 36, 2) := by decide +kernel
theorem dX1_init_47 : decode cX1_init 47 = .ok (.newarray .int, 2) := by decide +kernel
theorem dX1_init_49 : decode cX1_init 49 = .ok (.putfield 27, 3) := by decide +kernel
theorem dX1_init_52 : decode cX1_init 52 = .ok (.aload_n 0, 1) := by decide +kernel
theorem dX1_init_53 : decode cX1_init 53 = .ok (.bipush 36, 2) := by decide +kernel
theorem dX1_init_55 : decode cX1_init 55 = .ok (.newarray .int, 2) := by decide +kernel
theorem dX1_init_57 : decode cX1_init 57 = .ok (.putfield 30, 3) := by decide +kernel
theorem dX1_init_60 : decode cX1_init 60 = .ok (.aload_n 0, 1) := by decide +kernel
theorem dX1_init_61 : decode cX1_init 61 = .ok (.iload_n 1, 1) := by decide +kernel
theorem dX1_init_62 : decode cX1_init 62 = .ok (.putfield 33, 3) := by decide +kernel
theorem dX1_init_65 : decode cX1_init 65 = .ok (.return_, 1) := by decide +kernel
theorem dX3_init_0 : decode cX3_init 0 = .ok (.aload_n 0, 1) := by decide +kernel
theorem dX3_init_1 : decode cX3_init 1 = .ok (.invokespecial 3, 3) := by decide +kernel
theorem dX3_init_4 : decode cX3_init 4 = .ok (.aload_n 0, 1) := by decide +kernel
theorem dX3_init_5 : decode cX3_init 5 = .ok (.bipush 11, 2) := by decide +kernel
theorem dX3_init_7 : decode cX3_init 7 = .ok (.newarray .int, 2) := by decide +kernel
theorem dX3_init_9 : decode cX3_init 9 = .ok (.putfield 9, 3) := by decide +kernel
theorem dX3_init_12 : decode cX3_init 12 = .ok (.aload_n 0, 1) := by decide +kernel
theorem dX3_init_13 : decode cX3_init 13 = .ok (.iconst 4, 1) := by decide +kernel
theorem dX3_init_14 : decode cX3_init 14 = .ok (.newarray .int, 2) := by decide +kernel
theorem dX3_init_16 : decode cX3_init 16 = .ok (.putfield 15, 3) := by decide +kernel
theorem dX3_init_19 : decode cX3_init 19 = .ok (.aload_n 0, 1) := by decide +kernel
theorem dX3_init_20 : decode cX3_init 20 = .ok (.bipush 28, 2) := by decide +kernel
theorem dX3_init_22 : decode cX3_init 22 = .ok (.newarray .int, 2) := by decide +kernel
theorem dX3_init_24 : decode cX3_init 24 = .ok (.putfield 18, 3) := by decide +kernel
theorem dX3_init_27 : decode cX3_init 27 = .ok (.aload_n 0, 1) := by decide +kernel
theorem dX3_init_28 : decode cX3_init 28 = .ok (.iconst 4, 1) := by decide +kernel
theorem dX3_init_29 : decode cX3_init 29 = .ok (.newarray .int, 2) := by decide +kernel
theorem dX3_init_31 : decode cX3_init 31 = .ok (.putfield 21, 3) := by decide +kernel
theorem dX3_init_34 : decode cX3_init 34 = .ok (.aload_n 0, 1) := by decide +kernel
theorem dX3_init_35 : decode cX3_init 35 = .ok (.iconst 4, 1) := by decide +kernel
theorem dX3_init_36 : decode cX3_init 36 = .ok (.newarray .int, 2) := by decide +kernel
theorem dX3_init_38 : decode cX3_init 38 = .ok (.putfield 24, 3) := by decide +kernel
theorem dX3_init_41 : decode cX3_init 41 = .ok (.aload_n 0, 1) := by decide +kernel
theorem dX3_init_42 : decode cX3_init 42 = .ok (.bipush 7, 2) := by decide +kernel
theorem dX3_init_44 : decode cX3_init 44 = .ok (.newarray .int, 2) := by decide +kernel
theorem dX3_init_46 : decode cX3_init 46 = .ok (.putfield 27, 3) := by decide +kernel
theorem dX3_init_49 : decode cX3_init 49 = .ok (.aload_n 0, 1) := by decide +kernel
theorem dX3_init_50 : decode cX3_init 50 = .ok (.getfield 9, 3) := by decide +kernel
theorem dX3_init_53 : decode cX3_init 53 = .ok (.iconst (-1), 1) := by decide +kernel
theorem dX3_init_54 : decode cX3_init 54 = .ok (.invokestatic 30, 3) := by decide +kernel
theorem dX3_init_57 : decode cX3_init 57 = .ok (.return_, 1) := by decide +kernel
theorem dX4_init_0 : decode cX4_init 0 = .ok (.aload_n 0, 1) := by decide +kernel
theorem dX4_init_1 : decode cX4_init 1 = .ok (.invokespecial 3, 3) := by decide +kernel
theorem dX4_init_4 : decode cX4_init 4 = .ok (.aload_n 0, 1) := by decide +kernel
theorem dX4_init_5 : decode cX4_init 5 = .ok (.new 9, 3) := by decide +kernel
theorem dX4_init_8 : decode cX4_init 8 = .ok (.dup, 1) := by decide +kernel
theorem dX4_init_9 : decode cX4_init 9 = .ok (.invokespecial 11, 3) := by decide +kernel
theorem dX4_init_12 : decode cX4_init 12 = .ok (.putfield 12, 3) := by decide +kernel
theorem dX4_init_15 : decode cX4_init 15 = .ok (.aload_n 0, 1) := by decide +kernel
theorem dX4_init_16 : decode cX4_init 16 = .ok (.sipush 2400, 3) := by decide +kernel
theorem dX4_init_19 : decode cX4_init 19 = .ok (.newarray .int, 2) := by decide +kernel
theorem dX4_init_21 : decode cX4_init 21 = .ok (.putfield 18, 3) := by decide +kernel
theorem dX4_init_24 : decode cX4_init 24 = .ok (.aload_n 0, 1) := by decide +kernel
theorem dX4_init_25 : decode cX4_init 25 = .ok (.sipush 2400, 3) := by decide +kernel
theorem dX4_init_28 : decode cX4_init 28 = .ok (.newarray .int, 2) := by decide +kernel
theorem dX4_init_30 : decode cX4_init 30 = .ok (.putfield 22, 3) := by decide +kernel
theorem dX4_init_33 : decode cX4_init 33 = .ok (.aload_n 0, 1) := by decide +kernel
theorem dX4_init_34 : decode cX4_init 34 = .ok (.sipush 2400, 3) := by decide +kernel
theorem dX4_init_37 : decode cX4_init 37 = .ok (.newarray .int, 2) := by decide +kernel
theorem dX4_init_39 : decode cX4_init 39 = .ok (.putfield 25, 3) := by decide +kernel
theorem dX4_init_42 : decode cX4_init 42 = .ok (.aload_n 0, 1) := by decide +kernel
theorem dX4_init_43 : decode cX4_init 43 = .ok (.bipush 100, 2) := by decide +kernel
theorem dX4_init_45 : decode cX4_init 45 = .ok (.newarray .int, 2) := by decide +kernel
theorem dX4_init_47 : decode cX4_init 47 = .ok (.putfield 28, 3) := by decide +kernel
theorem dX4_init_50 : decode cX4_init 50 = .ok (.aload_n 0, 1) := by decide +kernel
theorem dX4_init_51 : decode cX4_init 51 = .ok (.new 9, 3) := by decide +kernel
theorem dX4_init_54 : decode cX4_init 54 = .ok (.dup, 1) := by decide +kernel
theorem dX4_init_55 : decode cX4_init 55 = .ok (.invokespecial 11, 3) := by decide +kernel
theorem dX4_init_58 : decode cX4_init 58 = .ok (.putfield 31, 3) := by decide +kernel
theorem dX4_init_61 : decode cX4_init 61 = .ok (.aload_n 0, 1) := by decide +kernel
theorem dX4_init_62 : decode cX4_init 62 = .ok (.iconst (-1), 1) := by decide +kernel
theorem dX4_init_63 : decode cX4_init 63 = .ok (.putfield 34, 3) := by decide +kernel
theorem dX4_init_66 : decode cX4_init 66 = .ok (.aload_n 0, 1) := by decide +kernel
theorem dX4_init_67 : decode cX4_init 67 = .ok (.aload_n 1, 1) := by decide +kernel
theorem dX4_init_68 : decode cX4_init 68 = .ok (.putfield 38, 3) := by decide +kernel
theorem dX4_init_71 : decode cX4_init 71 = .ok (.aload_n 0, 1) := by decide +kernel
theorem dX4_init_72 : decode cX4_init 72 = .ok (.iload_n 2, 1) := by decide +kernel
theorem dX4_init_73 : decode cX4_init 73 = .ok (.putfield 42, 3) := by decide +kernel
theorem dX4_init_76 : decode cX4_init 76 = .ok (.aload_n 0, 1) := by decide +kernel
theorem dX4_init_77 : decode cX4_init 77 = .ok (.iload 4, 2) := by decide +kernel
theorem dX4_init_79 : decode cX4_init 79 = .ok (.putfield 45, 3) := by decide +kernel
theorem dX4_init_82 : decode cX4_init 82 = .ok (.aload_n 0, 1) := by decide +kernel
theorem dX4_init_83 : decode cX4_init 83 = .ok (.new 48, 3) := by decide +kernel
theorem dX4_init_86 : decode cX4_init 86 = .ok (.dup, 1) := by decide +kernel
theorem dX4_init_87 : decode cX4_init 87 = .ok (.aload_n 1, 1) := by decide +kernel
theorem dX4_init_88 : decode cX4_init 88 = .ok (.getfield 50, 3) := by decide +kernel
theorem dX4_init_91 : decode cX4_init 91 = .ok (.invokespecial 55, 3) := by decide +kernel
theorem dX4_init_94 : decode cX4_init 94 = .ok (.putfield 58, 3) := by decide +kernel
theorem dX4_init_97 : decode cX4_init 97 = .ok (.aload_n 0, 1) := by decide +kernel
theorem dX4_init_98 : decode cX4_init 98 = .ok (.getfield 12, 3) := by decide +kernel
theorem dX4_init_101 : decode cX4_init 101 = .ok (.aload_n 1, 1) := by decide +kernel
theorem dX4_init_102 : decode cX4_init 102 = .ok (.getfield 50, 3) := by decide +kernel
theorem dX4_init_105 : decode cX4_init 105 = .ok (.iload_n 3, 1) := by decide +kernel
theorem dX4_init_106 : decode cX4_init 106 = .ok (.imul, 1) := by decide +kernel
theorem dX4_init_107 : decode cX4_init 107 = .ok (.putfield 62, 3) := by decide +kernel
theorem dX4_init_110 : decode cX4_init 110 = .ok (.return_, 1) := by decide +kernel
theorem dX5_init_0 : decode cX5_init 0 = .ok (.aload_n 0, 1) := by decide +kernel
theorem dX5_init_1 : decode cX5_init 1 = .ok (.invokespecial 3, 3) := by decide +kernel
theorem dX5_init_4 : decode cX5_init 4 = .ok (.aload_n 0, 1) := by decide +kernel
theorem dX5_init_5 : decode cX5_init 5 = .ok (.sipush 320, 3) := by decide +kernel
theorem dX5_init_8 : decode cX5_init 8 = .ok (.newarray .int, 2) := by decide +kernel
theorem dX5_init_10 : decode cX5_init 10 = .ok (.putfield 11, 3) := by decide +kernel
theorem dX5_init_13 : decode cX5_init 13 = .ok (.aload_n 0, 1) := by decide +kernel
theorem dX5_init_14 : decode cX5_init 14 = .ok (.sipush 300, 3) := by decide +kernel
theorem dX5_init_17 : decode cX5_init 17 = .ok (.newarray .int, 2) := by decide +kernel
theorem dX5_init_19 : decode cX5_init 19 = .ok (.putfield 15, 3) := by decide +kernel
theorem dX5_init_22 : decode cX5_init 22 = .ok (.return_, 1) := by decide +kernel
theorem dX5_append_0 : decode cX5_append 0 = .ok (.bipush 24, 2) := by decide +kernel
theorem dX5_append_2 : decode cX5_append 2 = .ok (.istore_n 2, 1) := by decide +kernel
theorem dX5_append_3 : decode cX5_append 3 = .ok (.iload_n 2, 1) := by decide +kernel
theorem dX5_append_4 : decode cX5_append 4 = .ok (.ifCond .lt 37, 3) := by decide +kernel
theorem dX5_append_7 : decode cX5_append 7 = .ok (.aload_n 0, 1) := by decide +kernel
theorem dX5_append_8 : decode cX5_append 8 = .ok (.getfield 15, 3) := by decide +kernel
theorem dX5_append_11 : decode cX5_append 11 = .ok (.aload_n 0, 1) := by decide +kernel
theorem dX5_append_12 : decode cX5_append 12 = .ok (.getfield 18, 3) := by decide +kernel
theorem dX5_append_15 : decode cX5_append 15 = .ok (.iload_n 1, 1) := by decide +kernel
theorem dX5_append_16 : decode cX5_append 16 = .ok (.iload_n 2, 1) := by decide +kernel
theorem dX5_append_17 : decode cX5_append 17 = .ok (.ishr, 1) := by decide +kernel
theorem dX5_append_18 : decode cX5_append 18 = .ok (.sipush 255, 3) := by decide +kernel
theorem dX5_append_21 : decode cX5_append 21 = .ok (.iand, 1) := by decide +kernel
theorem dX5_append_22 : decode cX5_append 22 = .ok (.invokestatic 22, 3) := by decide +kernel
theorem dX5_append_25 : decode cX5_append 25 = .ok (.aload_n 0, 1) := by decide +kernel
theorem dX5_append_26 : decode cX5_append 26 = .ok (.dup, 1) := by decide +kernel
theorem dX5_append_27 : decode cX5_append 27 = .ok (.getfield 18, 3) := by decide +kernel
theorem dX5_append_30 : decode cX5_append 30 = .ok (.iconst 1, 1) := by decide +kernel
theorem dX5_append_31 : decode cX5_append 31 = .ok (.iadd, 1) := by decide +kernel
theorem dX5_append_32 : decode cX5_append 32 = .ok (.putfield 18, 3) := by decide +kernel
theorem dX5_append_35 : decode cX5_append 35 = .ok (.iinc 2 (-8), 3) := by decide +kernel
theorem dX5_append_38 : decode cX5_append 38 = .ok (.goto (-35), 3) := by decide +kernel
theorem dX5_append_41 : decode cX5_append 41 = .ok (.return_, 1) := by decide +kernel
theorem dX5_read_0 : decode cX5_read 0 = .ok (.aload_n 0, 1) := by decide +kernel
theorem dX5_read_1 : decode cX5_read 1 = .ok (.iconst 0, 1) := by decide +kernel
theorem dX5_read_2 : decode cX5_read 2 = .ok (.putfield 26, 3) := by decide +kernel
theorem dX5_read_5 : decode cX5_read 5 = .ok (.aload_n 0, 1) := by decide +kernel
theorem dX5_read_6 : decode cX5_read 6 = .ok (.iconst 0, 1) := by decide +kernel
theorem dX5_read_7 : decode cX5_read 7 = .ok (.putfield 29, 3) := by decide +kernel
theorem dX5_read_10 : decode cX5_read 10 = .ok (.aload_n 0, 1) := by decide +kernel
theorem dX5_read_11 : decode cX5_read 11 = .ok (.iconst 0, 1) := by decide +kernel
theorem dX5_read_12 : decode cX5_read 12 = .ok (.putfield 32, 3) := by decide +kernel
theorem dX5_read_15 : decode cX5_read 15 = .ok (.aload_n 0, 1) := by decide +kernel
theorem dX5_read_16 : decode cX5_read 16 = .ok (.iconst 0, 1) := by decide +kernel
theorem dX5_read_17 : decode cX5_read 17 = .ok (.putfield 35, 3) := by decide +kernel
theorem dX5_read_20 : decode cX5_read 20 = .ok (.aload_n 0, 1) := by decide +kernel
theorem dX5_read_21 : decode cX5_read 21 = .ok (.iconst 0, 1) := by decide +kernel
theorem dX5_read_22 : decode cX5_read 22 = .ok (.putfield 38, 3) := by decide +kernel
theorem dX5_read_25 : decode cX5_read 25 = .ok (.aload_n 0, 1) := by decide +kernel
theorem dX5_read_26 : decode cX5_read 26 = .ok (.invokevirtual 41, 3) := by decide +kernel
theorem dX5_read_29 : decode cX5_read 29 = .ok (.aload_n 0, 1) := by decide +kernel
theorem dX5_read_30 : decode cX5_read 30 = .ok (.getfield 26, 3) := by decide +kernel
theorem dX5_read_33 : decode cX5_read 33 = .ok (.aload_n 0, 1) := by decide +kernel
theorem dX5_read_34 : decode cX5_read 34 = .ok (.getfield 18, 3) := by decide +kernel
theorem dX5_read_37 : decode cX5_read 37 = .ok (.if_icmp .ge 7, 3) := by decide +kernel
theorem dX5_read_44 : decode cX5_read 44 = .ok (.iconst 0, 1) := by decide +kernel
theorem dX5_read_45 : decode cX5_read 45 = .ok (.istore_n 1, 1) := by decide +kernel
theorem dX5_read_46 : decode cX5_read 46 = .ok (.iconst 0, 1) := by decide +kernel
theorem dX5_read_47 : decode cX5_read 47 = .ok (.istore_n 2, 1) := by decide +kernel
theorem dX5_read_48 : decode cX5_read 48 = .ok (.iload_n 1, 1) := by decide +kernel
theorem dX5_read_49 : decode cX5_read 49 = .ok (.ifCond .eq 112, 3) := by decide +kernel
theorem dX5_read_161 : decode cX5_read 161 = .ok (.aload_n 0, 1) := by decide +kernel
theorem dX5_read_162 : decode cX5_read 162 = .ok (.getfield 38, 3) := by decide +kernel
theorem dX5_read_165 : decode cX5_read 165 = .ok (.ireturn, 1) := by decide +kernel
theorem dX5_skipBlanks_0 : decode cX5_skipBlanks 0 = .ok (.aload_n 0, 1) := by decide +kernel
theorem dX5_skipBlanks_1 : decode cX5_skipBlanks 1 = .ok (.getfield 26, 3) := by decide +kernel
theorem dX5_skipBlanks_4 : decode cX5_skipBlanks 4 = .ok (.aload_n 0, 1) := by decide +kernel
theorem dX5_skipBlanks_5 : decode cX5_skipBlanks 5 = .ok (.getfield 18, 3) := by decide +kernel
theorem dX5_skipBlanks_8 : decode cX5_skipBlanks 8 = .ok (.if_icmp .ge 25, 3) := by decide +kernel
theorem dX5_skipBlanks_33 : decode cX5_skipBlanks 33 = .ok (.return_, 1) := by decide +kernel
theorem dX6_init_0 : decode cX6_init 0 = .ok (.aload_n 0, 1) := by decide +kernel
theorem dX6_init_1 : decode cX6_init 1 = .ok (.invokespecial 3, 3) := by decide +kernel
theorem dX6_init_4 : decode cX6_init 4 = .ok (.aload_n 0, 1) := by decide +kernel
theorem dX6_init_5 : decode cX6_init 5 = .ok (.iload_n 3, 1) := by decide +kernel
theorem dX6_init_6 : decode cX6_init 6 = .ok (.putfield 9, 3) := by decide +kernel
theorem dX6_init_9 : decode cX6_init 9 = .ok (.aload_n 0, 1) := by decide +kernel
theorem dX6_init_10 : decode cX6_init 10 = .ok (.iconst 0, 1) := by decide +kernel
theorem dX6_init_11 : decode cX6_init 11 = .ok (.iload_n 2, 1) := by decide +kernel
theorem dX6_init_12 : decode cX6_init 12 = .ok (.aload_n 1, 1) := by decide +kernel
theorem dX6_init_13 : decode cX6_init 13 = .ok (.arraylength, 1) := by decide +kernel
theorem dX6_init_14 : decode cX6_init 14 = .ok (.invokestatic 15, 3) := by decide +kernel
theorem dX6_init_17 : decode cX6_init 17 = .ok (.invokestatic 21, 3) := by decide +kernel
theorem dX6_init_20 : decode cX6_init 20 = .ok (.newarray .int, 2) := by decide +kernel
theorem dX6_init_22 : decode cX6_init 22 = .ok (.putfield 24, 3) := by decide +kernel
theorem dX6_init_25 : decode cX6_init 25 = .ok (.iconst 0, 1) := by decide +kernel
theorem dX6_init_26 : decode cX6_init 26 = .ok (.istore 4, 2) := by decide +kernel
theorem dX6_init_28 : decode cX6_init 28 = .ok (.iconst 0, 1) := by decide +kernel
theorem dX6_init_29 : decode cX6_init 29 = .ok (.istore 5, 2) := by decide +kernel
theorem dX6_init_31 : decode cX6_init 31 = .ok (.iload 5, 2) := by decide +kernel
theorem dX6_init_33 : decode cX6_init 33 = .ok (.aload_n 0, 1) := by decide +kernel
theorem dX6_init_34 : decode cX6_init 34 = .ok (.getfield 24, 3) := by decide +kernel
theorem dX6_init_37 : decode cX6_init 37 = .ok (.arraylength, 1) := by decide +kernel
theorem dX6_init_38 : decode cX6_init 38 = .ok (.if_icmp .ge 64, 3) := by decide +kernel
theorem dX6_init_102 : decode cX6_init 102 = .ok (.aload_n 0, 1) := by decide +kernel
theorem dX6_init_103 : decode cX6_init 103 = .ok (.iload 4, 2) := by decide +kernel
theorem dX6_init_105 : decode cX6_init 105 = .ok (.putfield 33, 3) := by decide +kernel
theorem dX6_init_108 : decode cX6_init 108 = .ok (.return_, 1) := by decide +kernel
theorem dX7_init_0 : decode cX7_init 0 = .ok (.aload_n 0, 1) := by decide +kernel
theorem dX7_init_1 : decode cX7_init 1 = .ok (.invokespecial 3, 3) := by decide +kernel
theorem dX7_init_4 : decode cX7_init 4 = .ok (.aload_n 0, 1) := by decide +kernel
theorem dX7_init_5 : decode cX7_init 5 = .ok (.sipush 500, 3) := by decide +kernel
theorem dX7_init_8 : decode cX7_init 8 = .ok (.newarray .int, 2) := by decide +kernel
theorem dX7_init_10 : decode cX7_init 10 = .ok (.putfield 11, 3) := by decide +kernel
theorem dX7_init_13 : decode cX7_init 13 = .ok (.aload_n 0, 1) := by decide +kernel
theorem dX7_init_14 : decode cX7_init 14 = .ok (.sipush 500, 3) := by decide +kernel
theorem dX7_init_17 : decode cX7_init 17 = .ok (.newarray .int, 2) := by decide +kernel
theorem dX7_init_19 : decode cX7_init 19 = .ok (.putfield 15, 3) := by decide +kernel
theorem dX7_init_22 : decode cX7_init 22 = .ok (.aload_n 0, 1) := by decide +kernel
theorem dX7_init_23 : decode cX7_init 23 = .ok (.sipush 500, 3) := by decide +kernel
theorem dX7_init_26 : decode cX7_init 26 = .ok (.newarray .int, 2) := by decide +kernel
theorem dX7_init_28 : decode cX7_init 28 = .ok (.putfield 18, 3) := by decide +kernel
theorem dX7_init_31 : decode cX7_init 31 = .ok (.aload_n 0, 1) := by decide +kernel
theorem dX7_init_32 : decode cX7_init 32 = .ok (.sipush 500, 3) := by decide +kernel
theorem dX7_init_35 : decode cX7_init 35 = .ok (.newarray .int, 2) := by decide +kernel
theorem dX7_init_37 : decode cX7_init 37 = .ok (.putfield 21, 3) := by decide +kernel
theorem dX7_init_40 : decode cX7_init 40 = .ok (.return_, 1) := by decide +kernel
theorem dX8_init_0 : decode cX8_init 0 = .ok (.aload_n 0, 1) := by decide +kernel
theorem dX8_init_1 : decode cX8_init 1 = .ok (.invokespecial 3, 3) := by decide +kernel
theorem dX8_init_4 : decode cX8_init 4 = .ok (.aload_n 0, 1) := by decide +kernel
theorem dX8_init_5 : decode cX8_init 5 = .ok (.sipush 500, 3) := by decide +kernel
theorem dX8_init_8 : decode cX8_init 8 = .ok (.newarray .int, 2) := by decide +kernel
theorem dX8_init_10 : decode cX8_init 10 = .ok (.putfield 11, 3) := by decide +kernel
theorem dX8_init_13 : decode cX8_init 13 = .ok (.aload_n 0, 1) := by decide +kernel
theorem dX8_init_14 : decode cX8_init 14 = .ok (.sipush 500, 3) := by decide +kernel
theorem dX8_init_17 : decode cX8_init 17 = .ok (.newarray .int, 2) := by decide +kernel
theorem dX8_init_19 : decode cX8_init 19 = .ok (.putfield 15, 3) := by decide +kernel
theorem dX8_init_22 : decode cX8_init 22 = .ok (.return_, 1) := by decide +kernel
theorem dX8_takes_0 : decode cX8_takes 0 = .ok (.aload_n 0, 1) := by decide +kernel
theorem dX8_takes_1 : decode cX8_takes 1 = .ok (.getfield 18, 3) := by decide +kernel
theorem dX8_takes_4 : decode cX8_takes 4 = .ok (.sipush 500, 3) := by decide +kernel
theorem dX8_takes_7 : decode cX8_takes 7 = .ok (.if_icmp .ge 27, 3) := by decide +kernel
theorem dX8_takes_10 : decode cX8_takes 10 = .ok (.iload_n 1, 1) := by decide +kernel
theorem dX8_takes_11 : decode cX8_takes 11 = .ok (.iconst 0, 1) := by decide +kernel
theorem dX8_takes_12 : decode cX8_takes 12 = .ok (.sipush 14399, 3) := by decide +kernel
theorem dX8_takes_15 : decode cX8_takes 15 = .ok (.invokestatic 22, 3) := by decide +kernel
theorem dX8_takes_18 : decode cX8_takes 18 = .ok (.ifCond .eq 16, 3) := by decide +kernel
theorem dX8_takes_21 : decode cX8_takes 21 = .ok (.iload_n 2, 1) := by decide +kernel
theorem dX8_takes_22 : decode cX8_takes 22 = .ok (.sipush (-500), 3) := by decide +kernel
theorem dX8_takes_25 : decode cX8_takes 25 = .ok (.sipush 900, 3) := by decide +kernel
theorem dX8_takes_28 : decode cX8_takes 28 = .ok (.invokestatic 22, 3) := by decide +kernel
theorem dX8_takes_31 : decode cX8_takes 31 = .ok (.ifCond .ne 5, 3) := by decide +kernel
theorem dX8_takes_34 : decode cX8_takes 34 = .ok (.iconst 0, 1) := by decide +kernel
theorem dX8_takes_35 : decode cX8_takes 35 = .ok (.ireturn, 1) := by decide +kernel
theorem dX8_takes_36 : decode cX8_takes 36 = .ok (.aload_n 0, 1) := by decide +kernel
theorem dX8_takes_37 : decode cX8_takes 37 = .ok (.getfield 18, 3) := by decide +kernel
theorem dX8_takes_40 : decode cX8_takes 40 = .ok (.ifCond .eq 28, 3) := by decide +kernel
theorem dX8_takes_68 : decode cX8_takes 68 = .ok (.iconst 1, 1) := by decide +kernel
theorem dX8_takes_69 : decode cX8_takes 69 = .ok (.goto 4, 3) := by decide +kernel
theorem dX8_takes_73 : decode cX8_takes 73 = .ok (.ireturn, 1) := by decide +kernel
theorem dX8_add_0 : decode cX8_add 0 = .ok (.aload_n 0, 1) := by decide +kernel
theorem dX8_add_1 : decode cX8_add 1 = .ok (.getfield 11, 3) := by decide +kernel
theorem dX8_add_4 : decode cX8_add 4 = .ok (.aload_n 0, 1) := by decide +kernel
theorem dX8_add_5 : decode cX8_add 5 = .ok (.getfield 18, 3) := by decide +kernel
theorem dX8_add_8 : decode cX8_add 8 = .ok (.iload_n 1, 1) := by decide +kernel
theorem dX8_add_9 : decode cX8_add 9 = .ok (.invokestatic 30, 3) := by decide +kernel
theorem dX8_add_12 : decode cX8_add 12 = .ok (.aload_n 0, 1) := by decide +kernel
theorem dX8_add_13 : decode cX8_add 13 = .ok (.getfield 15, 3) := by decide +kernel
theorem dX8_add_16 : decode cX8_add 16 = .ok (.aload_n 0, 1) := by decide +kernel
theorem dX8_add_17 : decode cX8_add 17 = .ok (.getfield 18, 3) := by decide +kernel
theorem dX8_add_20 : decode cX8_add 20 = .ok (.iload_n 2, 1) := by decide +kernel
theorem dX8_add_21 : decode cX8_add 21 = .ok (.invokestatic 30, 3) := by decide +kernel
theorem dX8_add_24 : decode cX8_add 24 = .ok (.aload_n 0, 1) := by decide +kernel
theorem dX8_add_25 : decode cX8_add 25 = .ok (.dup, 1) := by decide +kernel
theorem dX8_add_26 : decode cX8_add 26 = .ok (.getfield 18, 3) := by decide +kernel
theorem dX8_add_29 : decode cX8_add 29 = .ok (.iconst 1, 1) := by decide +kernel
theorem dX8_add_30 : decode cX8_add 30 = .ok (.iadd, 1) := by decide +kernel
theorem dX8_add_31 : decode cX8_add 31 = .ok (.putfield 18, 3) := by decide +kernel
theorem dX8_add_34 : decode cX8_add 34 = .ok (.aload_n 0, 1) := by decide +kernel
theorem dX8_add_35 : decode cX8_add 35 = .ok (.getfield 18, 3) := by decide +kernel
theorem dX8_add_38 : decode cX8_add 38 = .ok (.ireturn, 1) := by decide +kernel
theorem dX8_levelAt_0 : decode cX8_levelAt 0 = .ok (.aload_n 0, 1) := by decide +kernel
theorem dX8_levelAt_1 : decode cX8_levelAt 1 = .ok (.getfield 18, 3) := by decide +kernel
theorem dX8_levelAt_4 : decode cX8_levelAt 4 = .ok (.ifCond .ne 5, 3) := by decide +kernel
theorem dX8_levelAt_7 : decode cX8_levelAt 7 = .ok (.iconst 0, 1) := by decide +kernel
theorem dX8_levelAt_8 : decode cX8_levelAt 8 = .ok (.ireturn, 1) := by decide +kernel
theorem dX9_init_0 : decode cX9_init 0 = .ok (.aload_n 0, 1) := by decide +kernel
theorem dX9_init_1 : decode cX9_init 1 = .ok (.invokespecial 3, 3) := by decide +kernel
theorem dX9_init_4 : decode cX9_init 4 = .ok (.return_, 1) := by decide +kernel
theorem dX10_init_0 : decode cX10_init 0 = .ok (.aload_n 0, 1) := by decide +kernel
theorem dX10_init_1 : decode cX10_init 1 = .ok (.invokespecial 3, 3) := by decide +kernel
theorem dX10_init_4 : decode cX10_init 4 = .ok (.aload_n 0, 1) := by decide +kernel
theorem dX10_init_5 : decode cX10_init 5 = .ok (.sipush 2400, 3) := by decide +kernel
theorem dX10_init_8 : decode cX10_init 8 = .ok (.newarray .int, 2) := by decide +kernel
theorem dX10_init_10 : decode cX10_init 10 = .ok (.putfield 9, 3) := by decide +kernel
theorem dX10_init_13 : decode cX10_init 13 = .ok (.aload_n 0, 1) := by decide +kernel
theorem dX10_init_14 : decode cX10_init 14 = .ok (.sipush 1500, 3) := by decide +kernel
theorem dX10_init_17 : decode cX10_init 17 = .ok (.newarray .int, 2) := by decide +kernel
theorem dX10_init_19 : decode cX10_init 19 = .ok (.putfield 15, 3) := by decide +kernel
theorem dX10_init_22 : decode cX10_init 22 = .ok (.aload_n 0, 1) := by decide +kernel
theorem dX10_init_23 : decode cX10_init 23 = .ok (.sipush 1500, 3) := by decide +kernel
theorem dX10_init_26 : decode cX10_init 26 = .ok (.newarray .int, 2) := by decide +kernel
theorem dX10_init_28 : decode cX10_init 28 = .ok (.putfield 18, 3) := by decide +kernel
theorem dX10_init_31 : decode cX10_init 31 = .ok (.aload_n 0, 1) := by decide +kernel
theorem dX10_init_32 : decode cX10_init 32 = .ok (.sipush 1500, 3) := by decide +kernel
theorem dX10_init_35 : decode cX10_init 35 = .ok (.newarray .int, 2) := by decide +kernel
theorem dX10_init_37 : decode cX10_init 37 = .ok (.putfield 21, 3) := by decide +kernel
theorem dX10_init_40 : decode cX10_init 40 = .ok (.aload_n 0, 1) := by decide +kernel
theorem dX10_init_41 : decode cX10_init 41 = .ok (.bipush 100, 2) := by decide +kernel
theorem dX10_init_43 : decode cX10_init 43 = .ok (.putfield 24, 3) := by decide +kernel
theorem dX10_init_46 : decode cX10_init 46 = .ok (.aload_n 0, 1) := by decide +kernel
theorem dX10_init_47 : decode cX10_init 47 = .ok (.sipush 150, 3) := by decide +kernel
theorem dX10_init_50 : decode cX10_init 50 = .ok (.putfield 28, 3) := by decide +kernel
theorem dX10_init_53 : decode cX10_init 53 = .ok (.return_, 1) := by decide +kernel
theorem dX10_add_0 : decode cX10_add 0 = .ok (.aload_n 0, 1) := by decide +kernel
theorem dX10_add_1 : decode cX10_add 1 = .ok (.getfield 15, 3) := by decide +kernel
theorem dX10_add_4 : decode cX10_add 4 = .ok (.aload_n 0, 1) := by decide +kernel
theorem dX10_add_5 : decode cX10_add 5 = .ok (.getfield 31, 3) := by decide +kernel
theorem dX10_add_8 : decode cX10_add 8 = .ok (.aload_n 0, 1) := by decide +kernel
theorem dX10_add_9 : decode cX10_add 9 = .ok (.getfield 9, 3) := by decide +kernel
theorem dX10_add_12 : decode cX10_add 12 = .ok (.iload_n 1, 1) := by decide +kernel
theorem dX10_add_13 : decode cX10_add 13 = .ok (.invokestatic 34, 3) := by decide +kernel
theorem dX10_add_16 : decode cX10_add 16 = .ok (.invokestatic 38, 3) := by decide +kernel
theorem dX10_add_19 : decode cX10_add 19 = .ok (.aload_n 0, 1) := by decide +kernel
theorem dX10_add_20 : decode cX10_add 20 = .ok (.getfield 18, 3) := by decide +kernel
theorem dX10_add_23 : decode cX10_add 23 = .ok (.aload_n 0, 1) := by decide +kernel
theorem dX10_add_24 : decode cX10_add 24 = .ok (.getfield 31, 3) := by decide +kernel
theorem dX10_add_27 : decode cX10_add 27 = .ok (.iload_n 3, 1) := by decide +kernel
theorem dX10_add_28 : decode cX10_add 28 = .ok (.invokestatic 38, 3) := by decide +kernel
theorem dX10_add_31 : decode cX10_add 31 = .ok (.aload_n 0, 1) := by decide +kernel
theorem dX10_add_32 : decode cX10_add 32 = .ok (.getfield 21, 3) := by decide +kernel
theorem dX10_add_35 : decode cX10_add 35 = .ok (.aload_n 0, 1) := by decide +kernel
theorem dX10_add_36 : decode cX10_add 36 = .ok (.getfield 31, 3) := by decide +kernel
theorem dX10_add_39 : decode cX10_add 39 = .ok (.iload_n 2, 1) := by decide +kernel
theorem dX10_add_40 : decode cX10_add 40 = .ok (.invokestatic 38, 3) := by decide +kernel
theorem dX10_add_43 : decode cX10_add 43 = .ok (.aload_n 0, 1) := by decide +kernel
theorem dX10_add_44 : decode cX10_add 44 = .ok (.dup, 1) := by decide +kernel
theorem dX10_add_45 : decode cX10_add 45 = .ok (.getfield 31, 3) := by decide +kernel
theorem dX10_add_48 : decode cX10_add 48 = .ok (.iconst 1, 1) := by decide +kernel
theorem dX10_add_49 : decode cX10_add 49 = .ok (.iadd, 1) := by decide +kernel
theorem dX10_add_50 : decode cX10_add 50 = .ok (.putfield 31, 3) := by decide +kernel
theorem dX10_add_53 : decode cX10_add 53 = .ok (.aload_n 0, 1) := by decide +kernel
theorem dX10_add_54 : decode cX10_add 54 = .ok (.getfield 9, 3) := by decide +kernel
theorem dX10_add_57 : decode cX10_add 57 = .ok (.iload_n 1, 1) := by decide +kernel
theorem dX10_add_58 : decode cX10_add 58 = .ok (.aload_n 0, 1) := by decide +kernel
theorem dX10_add_59 : decode cX10_add 59 = .ok (.getfield 31, 3) := by decide +kernel
theorem dX10_add_62 : decode cX10_add 62 = .ok (.invokestatic 38, 3) := by decide +kernel
theorem dX10_add_65 : decode cX10_add 65 = .ok (.aload_n 0, 1) := by decide +kernel
theorem dX10_add_66 : decode cX10_add 66 = .ok (.getfield 31, 3) := by decide +kernel
theorem dX10_add_69 : decode cX10_add 69 = .ok (.ireturn, 1) := by decide +kernel
theorem dX10_heightOf_0 : decode cX10_heightOf 0 = .ok (.aload_n 0, 1) := by decide +kernel
theorem dX10_heightOf_1 : decode cX10_heightOf 1 = .ok (.getfield 9, 3) := by decide +kernel
theorem dX10_heightOf_4 : decode cX10_heightOf 4 = .ok (.iload_n 1, 1) := by decide +kernel
theorem dX10_heightOf_5 : decode cX10_heightOf 5 = .ok (.invokestatic 34, 3) := by decide +kernel
theorem dX10_heightOf_8 : decode cX10_heightOf 8 = .ok (.istore_n 3, 1) := by decide +kernel
theorem dX10_heightOf_9 : decode cX10_heightOf 9 = .ok (.iconst 0, 1) := by decide +kernel
theorem dX10_heightOf_10 : decode cX10_heightOf 10 = .ok (.istore 4, 2) := by decide +kernel
theorem dX10_heightOf_12 : decode cX10_heightOf 12 = .ok (.iload_n 3, 1) := by decide +kernel
theorem dX10_heightOf_13 : decode cX10_heightOf 13 = .ok (.ifCond .le 53, 3) := by decide +kernel
theorem dX10_heightOf_66 : decode cX10_heightOf 66 = .ok (.aload_n 0, 1) := by decide +kernel
theorem dX10_heightOf_67 : decode cX10_heightOf 67 = .ok (.getfield 24, 3) := by decide +kernel
theorem dX10_heightOf_70 : decode cX10_heightOf 70 = .ok (.ireturn, 1) := by decide +kernel
theorem dX11_init_0 : decode cX11_init 0 = .ok (.aload_n 0, 1) := by decide +kernel
theorem dX11_init_1 : decode cX11_init 1 = .ok (.invokespecial 3, 3) := by decide +kernel
theorem dX11_init_4 : decode cX11_init 4 = .ok (.aload_n 0, 1) := by decide +kernel
theorem dX11_init_5 : decode cX11_init 5 = .ok (.new 9, 3) := by decide +kernel
theorem dX11_init_8 : decode cX11_init 8 = .ok (.dup, 1) := by decide +kernel
theorem dX11_init_9 : decode cX11_init 9 = .ok (.invokespecial 11, 3) := by decide +kernel
theorem dX11_init_12 : decode cX11_init 12 = .ok (.putfield 12, 3) := by decide +kernel
theorem dX11_init_15 : decode cX11_init 15 = .ok (.aload_n 0, 1) := by decide +kernel
theorem dX11_init_16 : decode cX11_init 16 = .ok (.new 16, 3) := by decide +kernel
theorem dX11_init_19 : decode cX11_init 19 = .ok (.dup, 1) := by decide +kernel
theorem dX11_init_20 : decode cX11_init 20 = .ok (.invokespecial 18, 3) := by decide +kernel
theorem dX11_init_23 : decode cX11_init 23 = .ok (.putfield 19, 3) := by decide +kernel
theorem dX11_init_26 : decode cX11_init 26 = .ok (.aload_n 0, 1) := by decide +kernel
theorem dX11_init_27 : decode cX11_init 27 = .ok (.bipush 11, 2) := by decide +kernel
theorem dX11_init_29 : decode cX11_init 29 = .ok (.anewarray 23, 3) := by decide +kernel
theorem dX11_init_32 : decode cX11_init 32 = .ok (.putfield 25, 3) := by decide +kernel
theorem dX11_init_35 : decode cX11_init 35 = .ok (.aload_n 0, 1) := by decide +kernel
theorem dX11_init_36 : decode cX11_init 36 = .ok (.new 29, 3) := by decide +kernel
theorem dX11_init_39 : decode cX11_init 39 = .ok (.dup, 1) := by decide +kernel
theorem dX11_init_40 : decode cX11_init 40 = .ok (.invokespecial 31, 3) := by decide +kernel
theorem dX11_init_43 : decode cX11_init 43 = .ok (.putfield 32, 3) := by decide +kernel
theorem dX11_init_46 : decode cX11_init 46 = .ok (.aload_n 0, 1) := by decide +kernel
theorem dX11_init_47 : decode cX11_init 47 = .ok (.bipush 10, 2) := by decide +kernel
theorem dX11_init_49 : decode cX11_init 49 = .ok (.anewarray 36, 3) := by decide +kernel
theorem dX11_init_52 : decode cX11_init 52 = .ok (.putfield 38, 3) := by decide +kernel
theorem dX11_init_55 : decode cX11_init 55 = .ok (.aload_n 0, 1) := by decide +kernel
theorem dX11_init_56 : decode cX11_init 56 = .ok (.new 42, 3) := by decide +kernel
theorem dX11_init_59 : decode cX11_init 59 = .ok (.dup, 1) := by decide +kernel
theorem dX11_init_60 : decode cX11_init 60 = .ok (.invokespecial 44, 3) := by decide +kernel
theorem dX11_init_63 : decode cX11_init 63 = .ok (.putfield 45, 3) := by decide +kernel
theorem dX11_init_66 : decode cX11_init 66 = .ok (.aload_n 0, 1) := by decide +kernel
theorem dX11_init_67 : decode cX11_init 67 = .ok (.bipush 10, 2) := by decide +kernel
theorem dX11_init_69 : decode cX11_init 69 = .ok (.anewarray 49, 3) := by decide +kernel
theorem dX11_init_72 : decode cX11_init 72 = .ok (.putfield 51, 3) := by decide +kernel
theorem dX11_init_75 : decode cX11_init 75 = .ok (.aload_n 0, 1) := by decide +kernel
theorem dX11_init_76 : decode cX11_init 76 = .ok (.new 55, 3) := by decide +kernel
theorem dX11_init_79 : decode cX11_init 79 = .ok (.dup, 1) := by decide +kernel
theorem dX11_init_80 : decode cX11_init 80 = .ok (.invokespecial 57, 3) := by decide +kernel
theorem dX11_init_83 : decode cX11_init 83 = .ok (.putfield 58, 3) := by decide +kernel
theorem dX11_init_86 : decode cX11_init 86 = .ok (.aload_n 0, 1) := by decide +kernel
theorem dX11_init_87 : decode cX11_init 87 = .ok (.bipush 8, 2) := by decide +kernel
theorem dX11_init_89 : decode cX11_init 89 = .ok (.newarray .int, 2) := by decide +kernel
theorem dX11_init_91 : decode cX11_init 91 = .ok (.putfield 62, 3) := by decide +kernel
theorem dX11_init_94 : decode cX11_init 94 = .ok (.aload_n 0, 1) := by decide +kernel
theorem dX11_init_95 : decode cX11_init 95 = .ok (.bipush 8, 2) := by decide +kernel
theorem dX11_init_97 : decode cX11_init 97 = .ok (.putfield 66, 3) := by decide +kernel
theorem dX11_init_100 : decode cX11_init 100 = .ok (.return_, 1) := by decide +kernel
theorem dX11_turn_0 : decode cX11_turn 0 = .ok (.aload_n 0, 1) := by decide +kernel
theorem dX11_turn_1 : decode cX11_turn 1 = .ok (.invokevirtual 70, 3) := by decide +kernel
theorem dX11_turn_4 : decode cX11_turn 4 = .ok (.ifCond .ne 15, 3) := by decide +kernel
theorem dX11_turn_7 : decode cX11_turn 7 = .ok (.aload_n 0, 1) := by decide +kernel
theorem dX11_turn_8 : decode cX11_turn 8 = .ok (.getfield 12, 3) := by decide +kernel
theorem dX11_turn_11 : decode cX11_turn 11 = .ok (.iload_n 1, 1) := by decide +kernel
theorem dX11_turn_12 : decode cX11_turn 12 = .ok (.iload_n 2, 1) := by decide +kernel
theorem dX11_turn_13 : decode cX11_turn 13 = .ok (.invokevirtual 74, 3) := by decide +kernel
theorem dX11_turn_16 : decode cX11_turn 16 = .ok (.ifCond .ne 5, 3) := by decide +kernel
theorem dX11_turn_19 : decode cX11_turn 19 = .ok (.iconst (-1), 1) := by decide +kernel
theorem dX11_turn_20 : decode cX11_turn 20 = .ok (.ireturn, 1) := by decide +kernel
theorem dX11_turn_21 : decode cX11_turn 21 = .ok (.aload_n 0, 1) := by decide +kernel
theorem dX11_turn_22 : decode cX11_turn 22 = .ok (.dup, 1) := by decide +kernel
theorem dX11_turn_23 : decode cX11_turn 23 = .ok (.getfield 78, 3) := by decide +kernel
theorem dX11_turn_26 : decode cX11_turn 26 = .ok (.iconst 1, 1) := by decide +kernel
theorem dX11_turn_27 : decode cX11_turn 27 = .ok (.iadd, 1) := by decide +kernel
theorem dX11_turn_28 : decode cX11_turn 28 = .ok (.putfield 78, 3) := by decide +kernel
theorem dX11_turn_31 : decode cX11_turn 31 = .ok (.aload_n 0, 1) := by decide +kernel
theorem dX11_turn_32 : decode cX11_turn 32 = .ok (.getfield 12, 3) := by decide +kernel
theorem dX11_turn_35 : decode cX11_turn 35 = .ok (.iload_n 1, 1) := by decide +kernel
theorem dX11_turn_36 : decode cX11_turn 36 = .ok (.iload_n 2, 1) := by decide +kernel
theorem dX11_turn_37 : decode cX11_turn 37 = .ok (.invokevirtual 81, 3) := by decide +kernel
theorem dX11_turn_40 : decode cX11_turn 40 = .ok (.ireturn, 1) := by decide +kernel
theorem dX11_sea_0 : decode cX11_sea 0 = .ok (.iload_n 1, 1) := by decide +kernel
theorem dX11_sea_1 : decode cX11_sea 1 = .ok (.iconst 0, 1) := by decide +kernel
theorem dX11_sea_2 : decode cX11_sea 2 = .ok (.sipush 14399, 3) := by decide +kernel
theorem dX11_sea_5 : decode cX11_sea 5 = .ok (.invokestatic 85, 3) := by decide +kernel
theorem dX11_sea_8 : decode cX11_sea 8 = .ok (.ifCond .eq 14, 3) := by decide +kernel
theorem dX11_sea_11 : decode cX11_sea 11 = .ok (.aload_n 0, 1) := by decide +kernel
theorem dX11_sea_12 : decode cX11_sea 12 = .ok (.getfield 12, 3) := by decide +kernel
theorem dX11_sea_15 : decode cX11_sea 15 = .ok (.iload_n 1, 1) := by decide +kernel
theorem dX11_sea_16 : decode cX11_sea 16 = .ok (.invokevirtual 89, 3) := by decide +kernel
theorem dX11_sea_19 : decode cX11_sea 19 = .ok (.goto 6, 3) := by decide +kernel
theorem dX11_sea_22 : decode cX11_sea 22 = .ok (.sipush (-1000), 3) := by decide +kernel
theorem dX11_sea_25 : decode cX11_sea 25 = .ok (.ireturn, 1) := by decide +kernel
theorem dX11_wave_0 : decode cX11_wave 0 = .ok (.aload_n 0, 1) := by decide +kernel
theorem dX11_wave_1 : decode cX11_wave 1 = .ok (.invokevirtual 70, 3) := by decide +kernel
theorem dX11_wave_4 : decode cX11_wave 4 = .ok (.ifCond .ne 46, 3) := by decide +kernel
theorem dX11_wave_7 : decode cX11_wave 7 = .ok (.aload_n 0, 1) := by decide +kernel
theorem dX11_wave_8 : decode cX11_wave 8 = .ok (.getfield 19, 3) := by decide +kernel
theorem dX11_wave_11 : decode cX11_wave 11 = .ok (.getfield 93, 3) := by decide +kernel
theorem dX11_wave_14 : decode cX11_wave 14 = .ok (.sipush 1500, 3) := by decide +kernel
theorem dX11_wave_17 : decode cX11_wave 17 = .ok (.if_icmp .ge 33, 3) := by decide +kernel
theorem dX11_wave_20 : decode cX11_wave 20 = .ok (.iload_n 1, 1) := by decide +kernel
theorem dX11_wave_21 : decode cX11_wave 21 = .ok (.invokestatic 96, 3) := by decide +kernel
theorem dX11_wave_24 : decode cX11_wave 24 = .ok (.ifCond .eq 26, 3) := by decide +kernel
theorem dX11_wave_27 : decode cX11_wave 27 = .ok (.iload_n 1, 1) := by decide +kernel
theorem dX11_wave_28 : decode cX11_wave 28 = .ok (.aload_n 0, 1) := by decide +kernel
theorem dX11_wave_29 : decode cX11_wave 29 = .ok (.invokevirtual 100, 3) := by decide +kernel
theorem dX11_wave_32 : decode cX11_wave 32 = .ok (.sipush 240, 3) := by decide +kernel
theorem dX11_wave_35 : decode cX11_wave 35 = .ok (.iadd, 1) := by decide +kernel
theorem dX11_wave_36 : decode cX11_wave 36 = .ok (.if_icmp .gt 14, 3) := by decide +kernel
theorem dX11_wave_39 : decode cX11_wave 39 = .ok (.iload_n 2, 1) := by decide +kernel
theorem dX11_wave_40 : decode cX11_wave 40 = .ok (.iconst 0, 1) := by decide +kernel
theorem dX11_wave_41 : decode cX11_wave 41 = .ok (.sipush 500, 3) := by decide +kernel
theorem dX11_wave_44 : decode cX11_wave 44 = .ok (.invokestatic 85, 3) := by decide +kernel
theorem dX11_wave_47 : decode cX11_wave 47 = .ok (.ifCond .ne 5, 3) := by decide +kernel
theorem dX11_wave_50 : decode cX11_wave 50 = .ok (.iconst (-1), 1) := by decide +kernel
theorem dX11_wave_51 : decode cX11_wave 51 = .ok (.ireturn, 1) := by decide +kernel
theorem dX11_wave_52 : decode cX11_wave 52 = .ok (.aload_n 0, 1) := by decide +kernel
theorem dX11_wave_53 : decode cX11_wave 53 = .ok (.dup, 1) := by decide +kernel
theorem dX11_wave_54 : decode cX11_wave 54 = .ok (.getfield 78, 3) := by decide +kernel
theorem dX11_wave_57 : decode cX11_wave 57 = .ok (.iconst 1, 1) := by decide +kernel
theorem dX11_wave_58 : decode cX11_wave 58 = .ok (.iadd, 1) := by decide +kernel
theorem dX11_wave_59 : decode cX11_wave 59 = .ok (.putfield 78, 3) := by decide +kernel
theorem dX11_wave_62 : decode cX11_wave 62 = .ok (.aload_n 0, 1) := by decide +kernel
theorem dX11_wave_63 : decode cX11_wave 63 = .ok (.getfield 19, 3) := by decide +kernel
theorem dX11_wave_66 : decode cX11_wave 66 = .ok (.iload_n 1, 1) := by decide +kernel
theorem dX11_wave_67 : decode cX11_wave 67 = .ok (.iload_n 2, 1) := by decide +kernel
theorem dX11_wave_68 : decode cX11_wave 68 = .ok (.aload_n 0, 1) := by decide +kernel
theorem dX11_wave_69 : decode cX11_wave 69 = .ok (.invokevirtual 100, 3) := by decide +kernel
theorem dX11_wave_72 : decode cX11_wave 72 = .ok (.invokevirtual 104, 3) := by decide +kernel
theorem dX11_wave_75 : decode cX11_wave 75 = .ok (.ireturn, 1) := by decide +kernel
theorem dX11_waved_0 : decode cX11_waved 0 = .ok (.iload_n 1, 1) := by decide +kernel
theorem dX11_waved_1 : decode cX11_waved 1 = .ok (.invokestatic 96, 3) := by decide +kernel
theorem dX11_waved_4 : decode cX11_waved 4 = .ok (.ifCond .eq 22, 3) := by decide +kernel
theorem dX11_waved_7 : decode cX11_waved 7 = .ok (.iload_n 2, 1) := by decide +kernel
theorem dX11_waved_8 : decode cX11_waved 8 = .ok (.invokestatic 96, 3) := by decide +kernel
theorem dX11_waved_11 : decode cX11_waved 11 = .ok (.ifCond .eq 15, 3) := by decide +kernel
theorem dX11_waved_14 : decode cX11_waved 14 = .ok (.aload_n 0, 1) := by decide +kernel
theorem dX11_waved_15 : decode cX11_waved 15 = .ok (.getfield 19, 3) := by decide +kernel
theorem dX11_waved_18 : decode cX11_waved 18 = .ok (.iload_n 1, 1) := by decide +kernel
theorem dX11_waved_19 : decode cX11_waved 19 = .ok (.iload_n 2, 1) := by decide +kernel
theorem dX11_waved_20 : decode cX11_waved 20 = .ok (.invokevirtual 107, 3) := by decide +kernel
theorem dX11_waved_23 : decode cX11_waved 23 = .ok (.goto 4, 3) := by decide +kernel
theorem dX11_waved_26 : decode cX11_waved 26 = .ok (.iconst (-1), 1) := by decide +kernel
theorem dX11_waved_27 : decode cX11_waved 27 = .ok (.ireturn, 1) := by decide +kernel
theorem dX11_set_0 : decode cX11_set 0 = .ok (.aload_n 0, 1) := by decide +kernel
theorem dX11_set_1 : decode cX11_set 1 = .ok (.invokevirtual 70, 3) := by decide +kernel
theorem dX11_set_4 : decode cX11_set 4 = .ok (.ifCond .ne 42, 3) := by decide +kernel
theorem dX11_set_7 : decode cX11_set 7 = .ok (.iload_n 1, 1) := by decide +kernel
theorem dX11_set_8 : decode cX11_set 8 = .ok (.iconst 0, 1) := by decide +kernel
theorem dX11_set_9 : decode cX11_set 9 = .ok (.iconst 2, 1) := by decide +kernel
theorem dX11_set_10 : decode cX11_set 10 = .ok (.invokestatic 85, 3) := by decide +kernel
theorem dX11_set_13 : decode cX11_set 13 = .ok (.ifCond .eq 33, 3) := by decide +kernel
theorem dX11_set_16 : decode cX11_set 16 = .ok (.iload_n 2, 1) := by decide +kernel
theorem dX11_set_17 : decode cX11_set 17 = .ok (.iload_n 1, 1) := by decide +kernel
theorem dX11_set_18 : decode cX11_set 18 = .ok (.iconst 2, 1) := by decide +kernel
theorem dX11_set_19 : decode cX11_set 19 = .ok (.if_icmp .ne 7, 3) := by decide +kernel
theorem dX11_set_22 : decode cX11_set 22 = .ok (.iconst 1, 1) := by decide +kernel
theorem dX11_set_23 : decode cX11_set 23 = .ok (.goto 4, 3) := by decide +kernel
theorem dX11_set_26 : decode cX11_set 26 = .ok (.iconst 0, 1) := by decide +kernel
theorem dX11_set_27 : decode cX11_set 27 = .ok (.iload_n 1, 1) := by decide +kernel
theorem dX11_set_28 : decode cX11_set 28 = .ok (.iconst 2, 1) := by decide +kernel
theorem dX11_set_29 : decode cX11_set 29 = .ok (.if_icmp .ne 8, 3) := by decide +kernel
theorem dX11_set_32 : decode cX11_set 32 = .ok (.bipush 24, 2) := by decide +kernel
theorem dX11_set_34 : decode cX11_set 34 = .ok (.goto 6, 3) := by decide +kernel
theorem dX11_set_37 : decode cX11_set 37 = .ok (.sipush 500, 3) := by decide +kernel
theorem dX11_set_40 : decode cX11_set 40 = .ok (.invokestatic 85, 3) := by decide +kernel
theorem dX11_set_43 : decode cX11_set 43 = .ok (.ifCond .ne 5, 3) := by decide +kernel
theorem dX11_set_46 : decode cX11_set 46 = .ok (.iconst (-1), 1) := by decide +kernel
theorem dX11_set_47 : decode cX11_set 47 = .ok (.ireturn, 1) := by decide +kernel
theorem dX11_set_48 : decode cX11_set 48 = .ok (.aload_n 0, 1) := by decide +kernel
theorem dX11_set_49 : decode cX11_set 49 = .ok (.iload_n 1, 1) := by decide +kernel
theorem dX11_set_50 : decode cX11_set 50 = .ok (.invokevirtual 110, 3) := by decide +kernel
theorem dX11_set_53 : decode cX11_set 53 = .ok (.istore_n 3, 1) := by decide +kernel
theorem dX11_set_54 : decode cX11_set 54 = .ok (.aload_n 0, 1) := by decide +kernel
theorem dX11_set_55 : decode cX11_set 55 = .ok (.dup, 1) := by decide +kernel
theorem dX11_set_56 : decode cX11_set 56 = .ok (.getfield 78, 3) := by decide +kernel
theorem dX11_set_59 : decode cX11_set 59 = .ok (.iconst 1, 1) := by decide +kernel
theorem dX11_set_60 : decode cX11_set 60 = .ok (.iadd, 1) := by decide +kernel
theorem dX11_set_61 : decode cX11_set 61 = .ok (.putfield 78, 3) := by decide +kernel
theorem dX11_set_64 : decode cX11_set 64 = .ok (.iload_n 1, 1) := by decide +kernel
theorem dX11_set_65 : decode cX11_set 65 = .ok (.lookupswitch 49 #[(0, 27), (1, 38)], 27) := by decide +kernel
theorem dX11_set_92 : decode cX11_set 92 = .ok (.aload_n 0, 1) := by decide +kernel
theorem dX11_set_93 : decode cX11_set 93 = .ok (.getfield 19, 3) := by decide +kernel
theorem dX11_set_96 : decode cX11_set 96 = .ok (.iload_n 2, 1) := by decide +kernel
theorem dX11_set_97 : decode cX11_set 97 = .ok (.putfield 113, 3) := by decide +kernel
theorem dX11_set_100 : decode cX11_set 100 = .ok (.goto 19, 3) := by decide +kernel
theorem dX11_set_103 : decode cX11_set 103 = .ok (.aload_n 0, 1) := by decide +kernel
theorem dX11_set_104 : decode cX11_set 104 = .ok (.getfield 19, 3) := by decide +kernel
theorem dX11_set_107 : decode cX11_set 107 = .ok (.iload_n 2, 1) := by decide +kernel
theorem dX11_set_108 : decode cX11_set 108 = .ok (.putfield 116, 3) := by decide +kernel
theorem dX11_set_111 : decode cX11_set 111 = .ok (.goto 8, 3) := by decide +kernel
theorem dX11_set_114 : decode cX11_set 114 = .ok (.aload_n 0, 1) := by decide +kernel
theorem dX11_set_115 : decode cX11_set 115 = .ok (.iload_n 2, 1) := by decide +kernel
theorem dX11_set_116 : decode cX11_set 116 = .ok (.putfield 66, 3) := by decide +kernel
theorem dX11_set_119 : decode cX11_set 119 = .ok (.iload_n 3, 1) := by decide +kernel
theorem dX11_set_120 : decode cX11_set 120 = .ok (.ireturn, 1) := by decide +kernel
theorem dX11_pool_0 : decode cX11_pool 0 = .ok (.iload_n 2, 1) := by decide +kernel
theorem dX11_pool_1 : decode cX11_pool 1 = .ok (.sipush (-300), 3) := by decide +kernel
theorem dX11_pool_4 : decode cX11_pool 4 = .ok (.sipush 800, 3) := by decide +kernel
theorem dX11_pool_7 : decode cX11_pool 7 = .ok (.invokestatic 85, 3) := by decide +kernel
theorem dX11_pool_10 : decode cX11_pool 10 = .ok (.ifCond .eq 41, 3) := by decide +kernel
theorem dX11_pool_13 : decode cX11_pool 13 = .ok (.iload_n 3, 1) := by decide +kernel
theorem dX11_pool_14 : decode cX11_pool 14 = .ok (.iload_n 2, 1) := by decide +kernel
theorem dX11_pool_15 : decode cX11_pool 15 = .ok (.if_icmp .le 36, 3) := by decide +kernel
theorem dX11_pool_18 : decode cX11_pool 18 = .ok (.iload_n 3, 1) := by decide +kernel
theorem dX11_pool_19 : decode cX11_pool 19 = .ok (.sipush 900, 3) := by decide +kernel
theorem dX11_pool_22 : decode cX11_pool 22 = .ok (.if_icmp .gt 29, 3) := by decide +kernel
theorem dX11_pool_25 : decode cX11_pool 25 = .ok (.iload 4, 2) := by decide +kernel
theorem dX11_pool_27 : decode cX11_pool 27 = .ok (.iload_n 2, 1) := by decide +kernel
theorem dX11_pool_28 : decode cX11_pool 28 = .ok (.iload_n 3, 1) := by decide +kernel
theorem dX11_pool_29 : decode cX11_pool 29 = .ok (.invokestatic 85, 3) := by decide +kernel
theorem dX11_pool_32 : decode cX11_pool 32 = .ok (.ifCond .eq 19, 3) := by decide +kernel
theorem dX11_pool_35 : decode cX11_pool 35 = .ok (.iload 7, 2) := by decide +kernel
theorem dX11_pool_37 : decode cX11_pool 37 = .ok (.iconst 0, 1) := by decide +kernel
theorem dX11_pool_38 : decode cX11_pool 38 = .ok (.iload_n 3, 1) := by decide +kernel
theorem dX11_pool_39 : decode cX11_pool 39 = .ok (.iload_n 2, 1) := by decide +kernel
theorem dX11_pool_40 : decode cX11_pool 40 = .ok (.isub, 1) := by decide +kernel
theorem dX11_pool_41 : decode cX11_pool 41 = .ok (.invokestatic 85, 3) := by decide +kernel
theorem dX11_pool_44 : decode cX11_pool 44 = .ok (.ifCond .eq 7, 3) := by decide +kernel
theorem dX11_pool_47 : decode cX11_pool 47 = .ok (.iconst 1, 1) := by decide +kernel
theorem dX11_pool_48 : decode cX11_pool 48 = .ok (.goto 4, 3) := by decide +kernel
theorem dX11_pool_51 : decode cX11_pool 51 = .ok (.iconst 0, 1) := by decide +kernel
theorem dX11_pool_52 : decode cX11_pool 52 = .ok (.istore 8, 2) := by decide +kernel
theorem dX11_pool_54 : decode cX11_pool 54 = .ok (.aload_n 0, 1) := by decide +kernel
theorem dX11_pool_55 : decode cX11_pool 55 = .ok (.invokevirtual 70, 3) := by decide +kernel
theorem dX11_pool_58 : decode cX11_pool 58 = .ok (.ifCond .ne 53, 3) := by decide +kernel
theorem dX11_pool_61 : decode cX11_pool 61 = .ok (.aload_n 0, 1) := by decide +kernel
theorem dX11_pool_62 : decode cX11_pool 62 = .ok (.getfield 119, 3) := by decide +kernel
theorem dX11_pool_65 : decode cX11_pool 65 = .ok (.aload_n 0, 1) := by decide +kernel
theorem dX11_pool_66 : decode cX11_pool 66 = .ok (.getfield 25, 3) := by decide +kernel
theorem dX11_pool_69 : decode cX11_pool 69 = .ok (.arraylength, 1) := by decide +kernel
theorem dX11_pool_70 : decode cX11_pool 70 = .ok (.if_icmp .ge 41, 3) := by decide +kernel
theorem dX11_pool_73 : decode cX11_pool 73 = .ok (.iload 8, 2) := by decide +kernel
theorem dX11_pool_75 : decode cX11_pool 75 = .ok (.ifCond .eq 36, 3) := by decide +kernel
theorem dX11_pool_78 : decode cX11_pool 78 = .ok (.iload_n 1, 1) := by decide +kernel
theorem dX11_pool_79 : decode cX11_pool 79 = .ok (.iconst 1, 1) := by decide +kernel
theorem dX11_pool_80 : decode cX11_pool 80 = .ok (.sipush 2000, 3) := by decide +kernel
theorem dX11_pool_83 : decode cX11_pool 83 = .ok (.invokestatic 85, 3) := by decide +kernel
theorem dX11_pool_86 : decode cX11_pool 86 = .ok (.ifCond .eq 25, 3) := by decide +kernel
theorem dX11_pool_89 : decode cX11_pool 89 = .ok (.iload 5, 2) := by decide +kernel
theorem dX11_pool_91 : decode cX11_pool 91 = .ok (.iconst 0, 1) := by decide +kernel
theorem dX11_pool_92 : decode cX11_pool 92 = .ok (.bipush 100, 2) := by decide +kernel
theorem dX11_pool_94 : decode cX11_pool 94 = .ok (.invokestatic 85, 3) := by decide +kernel
theorem dX11_pool_97 : decode cX11_pool 97 = .ok (.ifCond .eq 14, 3) := by decide +kernel
theorem dX11_pool_100 : decode cX11_pool 100 = .ok (.iload 6, 2) := by decide +kernel
theorem dX11_pool_102 : decode cX11_pool 102 = .ok (.iconst 0, 1) := by decide +kernel
theorem dX11_pool_103 : decode cX11_pool 103 = .ok (.bipush 100, 2) := by decide +kernel
theorem dX11_pool_105 : decode cX11_pool 105 = .ok (.invokestatic 85, 3) := by decide +kernel
theorem dX11_pool_108 : decode cX11_pool 108 = .ok (.ifCond .ne 5, 3) := by decide +kernel
theorem dX11_pool_111 : decode cX11_pool 111 = .ok (.iconst (-1), 1) := by decide +kernel
theorem dX11_pool_112 : decode cX11_pool 112 = .ok (.ireturn, 1) := by decide +kernel
theorem dX11_pool_113 : decode cX11_pool 113 = .ok (.new 122, 3) := by decide +kernel
theorem dX11_pool_116 : decode cX11_pool 116 = .ok (.dup, 1) := by decide +kernel
theorem dX11_pool_117 : decode cX11_pool 117 = .ok (.iload_n 1, 1) := by decide +kernel
theorem dX11_pool_118 : decode cX11_pool 118 = .ok (.iload_n 2, 1) := by decide +kernel
theorem dX11_pool_119 : decode cX11_pool 119 = .ok (.iload_n 3, 1) := by decide +kernel
theorem dX11_pool_120 : decode cX11_pool 120 = .ok (.iload 4, 2) := by decide +kernel
theorem dX11_pool_122 : decode cX11_pool 122 = .ok (.iload 5, 2) := by decide +kernel
theorem dX11_pool_124 : decode cX11_pool 124 = .ok (.iload 6, 2) := by decide +kernel
theorem dX11_pool_126 : decode cX11_pool 126 = .ok (.invokespecial 124, 3) := by decide +kernel
theorem dX11_pool_129 : decode cX11_pool 129 = .ok (.astore 9, 2) := by decide +kernel
theorem dX11_pool_131 : decode cX11_pool 131 = .ok (.aload_n 0, 1) := by decide +kernel
theorem dX11_pool_132 : decode cX11_pool 132 = .ok (.getfield 25, 3) := by decide +kernel
theorem dX11_pool_135 : decode cX11_pool 135 = .ok (.aload_n 0, 1) := by decide +kernel
theorem dX11_pool_136 : decode cX11_pool 136 = .ok (.getfield 119, 3) := by decide +kernel
theorem dX11_pool_139 : decode cX11_pool 139 = .ok (.new 23, 3) := by decide +kernel
theorem dX11_pool_142 : decode cX11_pool 142 = .ok (.dup, 1) := by decide +kernel
theorem dX11_pool_143 : decode cX11_pool 143 = .ok (.aload 9, 2) := by decide +kernel
theorem dX11_pool_145 : decode cX11_pool 145 = .ok (.aload_n 0, 1) := by decide +kernel
theorem dX11_pool_146 : decode cX11_pool 146 = .ok (.getfield 119, 3) := by decide +kernel
theorem dX11_pool_149 : decode cX11_pool 149 = .ok (.iload 7, 2) := by decide +kernel
theorem dX11_pool_151 : decode cX11_pool 151 = .ok (.aload_n 0, 1) := by decide +kernel
theorem dX11_pool_152 : decode cX11_pool 152 = .ok (.invokevirtual 100, 3) := by decide +kernel
theorem dX11_pool_155 : decode cX11_pool 155 = .ok (.invokespecial 127, 3) := by decide +kernel
theorem dX11_pool_158 : decode cX11_pool 158 = .ok (.aastore, 1) := by decide +kernel
theorem dX11_pool_159 : decode cX11_pool 159 = .ok (.aload_n 0, 1) := by decide +kernel
theorem dX11_pool_160 : decode cX11_pool 160 = .ok (.dup, 1) := by decide +kernel
theorem dX11_pool_161 : decode cX11_pool 161 = .ok (.getfield 119, 3) := by decide +kernel
theorem dX11_pool_164 : decode cX11_pool 164 = .ok (.iconst 1, 1) := by decide +kernel
theorem dX11_pool_165 : decode cX11_pool 165 = .ok (.iadd, 1) := by decide +kernel
theorem dX11_pool_166 : decode cX11_pool 166 = .ok (.putfield 119, 3) := by decide +kernel
theorem dX11_pool_169 : decode cX11_pool 169 = .ok (.aload_n 0, 1) := by decide +kernel
theorem dX11_pool_170 : decode cX11_pool 170 = .ok (.getfield 119, 3) := by decide +kernel
theorem dX11_pool_173 : decode cX11_pool 173 = .ok (.iconst 1, 1) := by decide +kernel
theorem dX11_pool_174 : decode cX11_pool 174 = .ok (.isub, 1) := by decide +kernel
theorem dX11_pool_175 : decode cX11_pool 175 = .ok (.ireturn, 1) := by decide +kernel
theorem dX11_dirt_0 : decode cX11_dirt 0 = .ok (.aload_n 0, 1) := by decide +kernel
theorem dX11_dirt_1 : decode cX11_dirt 1 = .ok (.iload_n 1, 1) := by decide +kernel
theorem dX11_dirt_2 : decode cX11_dirt 2 = .ok (.invokevirtual 130, 3) := by decide +kernel
theorem dX11_dirt_5 : decode cX11_dirt 5 = .ok (.astore 4, 2) := by decide +kernel
theorem dX11_dirt_7 : decode cX11_dirt 7 = .ok (.aload_n 0, 1) := by decide +kernel
theorem dX11_dirt_8 : decode cX11_dirt 8 = .ok (.invokevirtual 70, 3) := by decide +kernel
theorem dX11_dirt_11 : decode cX11_dirt 11 = .ok (.ifCond .ne 28, 3) := by decide +kernel
theorem dX11_dirt_14 : decode cX11_dirt 14 = .ok (.aload 4, 2) := by decide +kernel
theorem dX11_dirt_16 : decode cX11_dirt 16 = .ok (.ifnull 23, 3) := by decide +kernel
theorem dX11_dirt_39 : decode cX11_dirt 39 = .ok (.iconst 0, 1) := by decide +kernel
theorem dX11_dirt_40 : decode cX11_dirt 40 = .ok (.ireturn, 1) := by decide +kernel
theorem dX11_crack_0 : decode cX11_crack 0 = .ok (.aload_n 0, 1) := by decide +kernel
theorem dX11_crack_1 : decode cX11_crack 1 = .ok (.iload_n 1, 1) := by decide +kernel
theorem dX11_crack_2 : decode cX11_crack 2 = .ok (.invokevirtual 130, 3) := by decide +kernel
theorem dX11_crack_5 : decode cX11_crack 5 = .ok (.astore 4, 2) := by decide +kernel
theorem dX11_crack_7 : decode cX11_crack 7 = .ok (.aload_n 0, 1) := by decide +kernel
theorem dX11_crack_8 : decode cX11_crack 8 = .ok (.invokevirtual 70, 3) := by decide +kernel
theorem dX11_crack_11 : decode cX11_crack 11 = .ok (.ifCond .ne 21, 3) := by decide +kernel
theorem dX11_crack_14 : decode cX11_crack 14 = .ok (.aload 4, 2) := by decide +kernel
theorem dX11_crack_16 : decode cX11_crack 16 = .ok (.ifnull 16, 3) := by decide +kernel
theorem dX11_crack_32 : decode cX11_crack 32 = .ok (.iconst (-1), 1) := by decide +kernel
theorem dX11_crack_33 : decode cX11_crack 33 = .ok (.ireturn, 1) := by decide +kernel
theorem dX11_mend_0 : decode cX11_mend 0 = .ok (.aload_n 0, 1) := by decide +kernel
theorem dX11_mend_1 : decode cX11_mend 1 = .ok (.iload_n 1, 1) := by decide +kernel
theorem dX11_mend_2 : decode cX11_mend 2 = .ok (.invokevirtual 130, 3) := by decide +kernel
theorem dX11_mend_5 : decode cX11_mend 5 = .ok (.astore_n 2, 1) := by decide +kernel
theorem dX11_mend_6 : decode cX11_mend 6 = .ok (.aload_n 0, 1) := by decide +kernel
theorem dX11_mend_7 : decode cX11_mend 7 = .ok (.invokevirtual 70, 3) := by decide +kernel
theorem dX11_mend_10 : decode cX11_mend 10 = .ok (.ifCond .ne 7, 3) := by decide +kernel
theorem dX11_mend_13 : decode cX11_mend 13 = .ok (.aload_n 2, 1) := by decide +kernel
theorem dX11_mend_14 : decode cX11_mend 14 = .ok (.ifnonnull 5, 3) := by decide +kernel
theorem dX11_mend_17 : decode cX11_mend 17 = .ok (.iconst (-1), 1) := by decide +kernel
theorem dX11_mend_18 : decode cX11_mend 18 = .ok (.ireturn, 1) := by decide +kernel
theorem dX11_sluice_0 : decode cX11_sluice 0 = .ok (.aload_n 0, 1) := by decide +kernel
theorem dX11_sluice_1 : decode cX11_sluice 1 = .ok (.iload_n 1, 1) := by decide +kernel
theorem dX11_sluice_2 : decode cX11_sluice 2 = .ok (.invokevirtual 130, 3) := by decide +kernel
theorem dX11_sluice_5 : decode cX11_sluice 5 = .ok (.astore_n 3, 1) := by decide +kernel
theorem dX11_sluice_6 : decode cX11_sluice 6 = .ok (.aload_n 0, 1) := by decide +kernel
theorem dX11_sluice_7 : decode cX11_sluice 7 = .ok (.invokevirtual 70, 3) := by decide +kernel
theorem dX11_sluice_10 : decode cX11_sluice 10 = .ok (.ifCond .ne 18, 3) := by decide +kernel
theorem dX11_sluice_13 : decode cX11_sluice 13 = .ok (.aload_n 3, 1) := by decide +kernel
theorem dX11_sluice_14 : decode cX11_sluice 14 = .ok (.ifnull 14, 3) := by decide +kernel
theorem dX11_sluice_28 : decode cX11_sluice 28 = .ok (.iconst 0, 1) := by decide +kernel
theorem dX11_sluice_29 : decode cX11_sluice 29 = .ok (.ireturn, 1) := by decide +kernel
theorem dX11_pump_0 : decode cX11_pump 0 = .ok (.aload_n 0, 1) := by decide +kernel
theorem dX11_pump_1 : decode cX11_pump 1 = .ok (.iload_n 1, 1) := by decide +kernel
theorem dX11_pump_2 : decode cX11_pump 2 = .ok (.invokevirtual 130, 3) := by decide +kernel
theorem dX11_pump_5 : decode cX11_pump 5 = .ok (.astore_n 3, 1) := by decide +kernel
theorem dX11_pump_6 : decode cX11_pump 6 = .ok (.aload_n 0, 1) := by decide +kernel
theorem dX11_pump_7 : decode cX11_pump 7 = .ok (.invokevirtual 70, 3) := by decide +kernel
theorem dX11_pump_10 : decode cX11_pump 10 = .ok (.ifCond .ne 20, 3) := by decide +kernel
theorem dX11_pump_13 : decode cX11_pump 13 = .ok (.aload_n 3, 1) := by decide +kernel
theorem dX11_pump_14 : decode cX11_pump 14 = .ok (.ifnull 16, 3) := by decide +kernel
theorem dX11_pump_30 : decode cX11_pump 30 = .ok (.sipush (-2000), 3) := by decide +kernel
theorem dX11_pump_33 : decode cX11_pump 33 = .ok (.ireturn, 1) := by decide +kernel
theorem dX11_clean_0 : decode cX11_clean 0 = .ok (.aload_n 0, 1) := by decide +kernel
theorem dX11_clean_1 : decode cX11_clean 1 = .ok (.iload_n 1, 1) := by decide +kernel
theorem dX11_clean_2 : decode cX11_clean 2 = .ok (.invokevirtual 130, 3) := by decide +kernel
theorem dX11_clean_5 : decode cX11_clean 5 = .ok (.astore_n 2, 1) := by decide +kernel
theorem dX11_clean_6 : decode cX11_clean 6 = .ok (.aload_n 0, 1) := by decide +kernel
theorem dX11_clean_7 : decode cX11_clean 7 = .ok (.invokevirtual 70, 3) := by decide +kernel
theorem dX11_clean_10 : decode cX11_clean 10 = .ok (.ifCond .ne 22, 3) := by decide +kernel
theorem dX11_clean_13 : decode cX11_clean 13 = .ok (.aload_n 2, 1) := by decide +kernel
theorem dX11_clean_14 : decode cX11_clean 14 = .ok (.ifnull 18, 3) := by decide +kernel
theorem dX11_clean_32 : decode cX11_clean 32 = .ok (.iconst (-1), 1) := by decide +kernel
theorem dX11_clean_33 : decode cX11_clean 33 = .ok (.ireturn, 1) := by decide +kernel
theorem dX11_pass_0 : decode cX11_pass 0 = .ok (.iload_n 1, 1) := by decide +kernel
theorem dX11_pass_1 : decode cX11_pass 1 = .ok (.iconst 1, 1) := by decide +kernel
theorem dX11_pass_2 : decode cX11_pass 2 = .ok (.sipush 288, 3) := by decide +kernel
theorem dX11_pass_5 : decode cX11_pass 5 = .ok (.invokestatic 85, 3) := by decide +kernel
theorem dX11_pass_8 : decode cX11_pass 8 = .ok (.ifCond .eq 15, 3) := by decide +kernel
theorem dX11_pass_11 : decode cX11_pass 11 = .ok (.iload_n 1, 1) := by decide +kernel
theorem dX11_pass_12 : decode cX11_pass 12 = .ok (.sipush 14400, 3) := by decide +kernel
theorem dX11_pass_15 : decode cX11_pass 15 = .ok (.aload_n 0, 1) := by decide +kernel
theorem dX11_pass_16 : decode cX11_pass 16 = .ok (.getfield 173, 3) := by decide +kernel
theorem dX11_pass_19 : decode cX11_pass 19 = .ok (.isub, 1) := by decide +kernel
theorem dX11_pass_20 : decode cX11_pass 20 = .ok (.if_icmp .le 5, 3) := by decide +kernel
theorem dX11_pass_23 : decode cX11_pass 23 = .ok (.iconst (-1), 1) := by decide +kernel
theorem dX11_pass_24 : decode cX11_pass 24 = .ok (.ireturn, 1) := by decide +kernel
theorem dX11_pass_25 : decode cX11_pass 25 = .ok (.aload_n 0, 1) := by decide +kernel
theorem dX11_pass_26 : decode cX11_pass 26 = .ok (.dup, 1) := by decide +kernel
theorem dX11_pass_27 : decode cX11_pass 27 = .ok (.getfield 78, 3) := by decide +kernel
theorem dX11_pass_30 : decode cX11_pass 30 = .ok (.iconst 1, 1) := by decide +kernel
theorem dX11_pass_31 : decode cX11_pass 31 = .ok (.iadd, 1) := by decide +kernel
theorem dX11_pass_32 : decode cX11_pass 32 = .ok (.putfield 78, 3) := by decide +kernel
theorem dX11_pass_35 : decode cX11_pass 35 = .ok (.iconst 0, 1) := by decide +kernel
theorem dX11_pass_36 : decode cX11_pass 36 = .ok (.istore_n 2, 1) := by decide +kernel
theorem dX11_pass_37 : decode cX11_pass 37 = .ok (.iload_n 2, 1) := by decide +kernel
theorem dX11_pass_38 : decode cX11_pass 38 = .ok (.iload_n 1, 1) := by decide +kernel
theorem dX11_pass_39 : decode cX11_pass 39 = .ok (.if_icmp .ge 71, 3) := by decide +kernel
theorem dX11_pass_42 : decode cX11_pass 42 = .ok (.iconst 0, 1) := by decide +kernel
theorem dX11_pass_43 : decode cX11_pass 43 = .ok (.istore_n 3, 1) := by decide +kernel
theorem dX11_pass_44 : decode cX11_pass 44 = .ok (.iload_n 3, 1) := by decide +kernel
theorem dX11_pass_45 : decode cX11_pass 45 = .ok (.aload_n 0, 1) := by decide +kernel
theorem dX11_pass_46 : decode cX11_pass 46 = .ok (.getfield 25, 3) := by decide +kernel
theorem dX11_pass_49 : decode cX11_pass 49 = .ok (.arraylength, 1) := by decide +kernel
theorem dX11_pass_50 : decode cX11_pass 50 = .ok (.if_icmp .ge 44, 3) := by decide +kernel
theorem dX11_pass_53 : decode cX11_pass 53 = .ok (.aload_n 0, 1) := by decide +kernel
theorem dX11_pass_54 : decode cX11_pass 54 = .ok (.getfield 25, 3) := by decide +kernel
theorem dX11_pass_57 : decode cX11_pass 57 = .ok (.iload_n 3, 1) := by decide +kernel
theorem dX11_pass_58 : decode cX11_pass 58 = .ok (.aaload, 1) := by decide +kernel
theorem dX11_pass_59 : decode cX11_pass 59 = .ok (.astore 4, 2) := by decide +kernel
theorem dX11_pass_61 : decode cX11_pass 61 = .ok (.aload 4, 2) := by decide +kernel
theorem dX11_pass_63 : decode cX11_pass 63 = .ok (.ifnull 25, 3) := by decide +kernel
theorem dX11_pass_88 : decode cX11_pass 88 = .ok (.iinc 3 1, 3) := by decide +kernel
theorem dX11_pass_91 : decode cX11_pass 91 = .ok (.goto (-47), 3) := by decide +kernel
theorem dX11_pass_94 : decode cX11_pass 94 = .ok (.aload_n 0, 1) := by decide +kernel
theorem dX11_pass_95 : decode cX11_pass 95 = .ok (.dup, 1) := by decide +kernel
theorem dX11_pass_96 : decode cX11_pass 96 = .ok (.getfield 173, 3) := by decide +kernel
theorem dX11_pass_99 : decode cX11_pass 99 = .ok (.iconst 1, 1) := by decide +kernel
theorem dX11_pass_100 : decode cX11_pass 100 = .ok (.iadd, 1) := by decide +kernel
theorem dX11_pass_101 : decode cX11_pass 101 = .ok (.putfield 173, 3) := by decide +kernel
theorem dX11_pass_104 : decode cX11_pass 104 = .ok (.iinc 2 1, 3) := by decide +kernel
theorem dX11_pass_107 : decode cX11_pass 107 = .ok (.goto (-70), 3) := by decide +kernel
theorem dX11_pass_110 : decode cX11_pass 110 = .ok (.aload_n 0, 1) := by decide +kernel
theorem dX11_pass_111 : decode cX11_pass 111 = .ok (.getfield 173, 3) := by decide +kernel
theorem dX11_pass_114 : decode cX11_pass 114 = .ok (.ireturn, 1) := by decide +kernel
theorem dX11_about_0 : decode cX11_about 0 = .ok (.aload_n 0, 1) := by decide +kernel
theorem dX11_about_1 : decode cX11_about 1 = .ok (.iload_n 1, 1) := by decide +kernel
theorem dX11_about_2 : decode cX11_about 2 = .ok (.invokevirtual 130, 3) := by decide +kernel
theorem dX11_about_5 : decode cX11_about 5 = .ok (.astore_n 3, 1) := by decide +kernel
theorem dX11_about_6 : decode cX11_about 6 = .ok (.aload_n 3, 1) := by decide +kernel
theorem dX11_about_7 : decode cX11_about 7 = .ok (.ifnonnull 7, 3) := by decide +kernel
theorem dX11_about_10 : decode cX11_about 10 = .ok (.sipush (-1000), 3) := by decide +kernel
theorem dX11_about_13 : decode cX11_about 13 = .ok (.ireturn, 1) := by decide +kernel
theorem dX11_hour_0 : decode cX11_hour 0 = .ok (.aload_n 0, 1) := by decide +kernel
theorem dX11_hour_1 : decode cX11_hour 1 = .ok (.iload_n 1, 1) := by decide +kernel
theorem dX11_hour_2 : decode cX11_hour 2 = .ok (.invokevirtual 130, 3) := by decide +kernel
theorem dX11_hour_5 : decode cX11_hour 5 = .ok (.astore 4, 2) := by decide +kernel
theorem dX11_hour_7 : decode cX11_hour 7 = .ok (.aload 4, 2) := by decide +kernel
theorem dX11_hour_9 : decode cX11_hour 9 = .ok (.ifnull 22, 3) := by decide +kernel
theorem dX11_hour_31 : decode cX11_hour 31 = .ok (.sipush (-1000), 3) := by decide +kernel
theorem dX11_hour_34 : decode cX11_hour 34 = .ok (.ireturn, 1) := by decide +kernel
theorem dX11_feed_0 : decode cX11_feed 0 = .ok (.aload_n 0, 1) := by decide +kernel
theorem dX11_feed_1 : decode cX11_feed 1 = .ok (.getfield 32, 3) := by decide +kernel
theorem dX11_feed_4 : decode cX11_feed 4 = .ok (.getfield 212, 3) := by decide +kernel
theorem dX11_feed_7 : decode cX11_feed 7 = .ok (.sipush 280, 3) := by decide +kernel
theorem dX11_feed_10 : decode cX11_feed 10 = .ok (.if_icmp .le 5, 3) := by decide +kernel
theorem dX11_feed_15 : decode cX11_feed 15 = .ok (.aload_n 0, 1) := by decide +kernel
theorem dX11_feed_16 : decode cX11_feed 16 = .ok (.getfield 32, 3) := by decide +kernel
theorem dX11_feed_19 : decode cX11_feed 19 = .ok (.iload_n 1, 1) := by decide +kernel
theorem dX11_feed_20 : decode cX11_feed 20 = .ok (.invokevirtual 215, 3) := by decide +kernel
theorem dX11_feed_23 : decode cX11_feed 23 = .ok (.aload_n 0, 1) := by decide +kernel
theorem dX11_feed_24 : decode cX11_feed 24 = .ok (.getfield 32, 3) := by decide +kernel
theorem dX11_feed_27 : decode cX11_feed 27 = .ok (.iload_n 2, 1) := by decide +kernel
theorem dX11_feed_28 : decode cX11_feed 28 = .ok (.invokevirtual 215, 3) := by decide +kernel
theorem dX11_feed_31 : decode cX11_feed 31 = .ok (.aload_n 0, 1) := by decide +kernel
theorem dX11_feed_32 : decode cX11_feed 32 = .ok (.getfield 32, 3) := by decide +kernel
theorem dX11_feed_35 : decode cX11_feed 35 = .ok (.iload_n 3, 1) := by decide +kernel
theorem dX11_feed_36 : decode cX11_feed 36 = .ok (.invokevirtual 215, 3) := by decide +kernel
theorem dX11_feed_39 : decode cX11_feed 39 = .ok (.aload_n 0, 1) := by decide +kernel
theorem dX11_feed_40 : decode cX11_feed 40 = .ok (.getfield 32, 3) := by decide +kernel
theorem dX11_feed_43 : decode cX11_feed 43 = .ok (.iload 4, 2) := by decide +kernel
theorem dX11_feed_45 : decode cX11_feed 45 = .ok (.invokevirtual 215, 3) := by decide +kernel
theorem dX11_feed_48 : decode cX11_feed 48 = .ok (.aload_n 0, 1) := by decide +kernel
theorem dX11_feed_49 : decode cX11_feed 49 = .ok (.getfield 32, 3) := by decide +kernel
theorem dX11_feed_52 : decode cX11_feed 52 = .ok (.iload 5, 2) := by decide +kernel
theorem dX11_feed_54 : decode cX11_feed 54 = .ok (.invokevirtual 215, 3) := by decide +kernel
theorem dX11_feed_57 : decode cX11_feed 57 = .ok (.aload_n 0, 1) := by decide +kernel
theorem dX11_feed_58 : decode cX11_feed 58 = .ok (.getfield 32, 3) := by decide +kernel
theorem dX11_feed_61 : decode cX11_feed 61 = .ok (.getfield 212, 3) := by decide +kernel
theorem dX11_feed_64 : decode cX11_feed 64 = .ok (.ireturn, 1) := by decide +kernel
theorem dX11_end_0 : decode cX11_end 0 = .ok (.iload_n 1, 1) := by decide +kernel
theorem dX11_end_1 : decode cX11_end 1 = .ok (.ifCond .lt 14, 3) := by decide +kernel
theorem dX11_end_4 : decode cX11_end 4 = .ok (.iload_n 1, 1) := by decide +kernel
theorem dX11_end_5 : decode cX11_end 5 = .ok (.aload_n 0, 1) := by decide +kernel
theorem dX11_end_6 : decode cX11_end 6 = .ok (.getfield 32, 3) := by decide +kernel
theorem dX11_end_9 : decode cX11_end 9 = .ok (.getfield 212, 3) := by decide +kernel
theorem dX11_end_12 : decode cX11_end 12 = .ok (.if_icmp .le 5, 3) := by decide +kernel
theorem dX11_end_15 : decode cX11_end 15 = .ok (.iconst (-1), 1) := by decide +kernel
theorem dX11_end_16 : decode cX11_end 16 = .ok (.ireturn, 1) := by decide +kernel
theorem dX11_end_17 : decode cX11_end 17 = .ok (.aload_n 0, 1) := by decide +kernel
theorem dX11_end_18 : decode cX11_end 18 = .ok (.getfield 32, 3) := by decide +kernel
theorem dX11_end_21 : decode cX11_end 21 = .ok (.iload_n 1, 1) := by decide +kernel
theorem dX11_end_22 : decode cX11_end 22 = .ok (.putfield 212, 3) := by decide +kernel
theorem dX11_end_25 : decode cX11_end 25 = .ok (.iload_n 1, 1) := by decide +kernel
theorem dX11_end_26 : decode cX11_end 26 = .ok (.ireturn, 1) := by decide +kernel
theorem dX11_rules_0 : decode cX11_rules 0 = .ok (.aload_n 0, 1) := by decide +kernel
theorem dX11_rules_1 : decode cX11_rules 1 = .ok (.invokevirtual 70, 3) := by decide +kernel
theorem dX11_rules_4 : decode cX11_rules 4 = .ok (.ifCond .ne 15, 3) := by decide +kernel
theorem dX11_rules_7 : decode cX11_rules 7 = .ok (.aload_n 0, 1) := by decide +kernel
theorem dX11_rules_8 : decode cX11_rules 8 = .ok (.getfield 219, 3) := by decide +kernel
theorem dX11_rules_11 : decode cX11_rules 11 = .ok (.aload_n 0, 1) := by decide +kernel
theorem dX11_rules_12 : decode cX11_rules 12 = .ok (.getfield 38, 3) := by decide +kernel
theorem dX11_rules_15 : decode cX11_rules 15 = .ok (.arraylength, 1) := by decide +kernel
theorem dX11_rules_16 : decode cX11_rules 16 = .ok (.if_icmp .lt 5, 3) := by decide +kernel
theorem dX11_rules_21 : decode cX11_rules 21 = .ok (.aload_n 0, 1) := by decide +kernel
theorem dX11_rules_22 : decode cX11_rules 22 = .ok (.getfield 32, 3) := by decide +kernel
theorem dX11_rules_25 : decode cX11_rules 25 = .ok (.invokevirtual 222, 3) := by decide +kernel
theorem dX11_rules_28 : decode cX11_rules 28 = .ok (.istore_n 1, 1) := by decide +kernel
theorem dX11_rules_29 : decode cX11_rules 29 = .ok (.aload_n 0, 1) := by decide +kernel
theorem dX11_rules_30 : decode cX11_rules 30 = .ok (.getfield 32, 3) := by decide +kernel
theorem dX11_rules_33 : decode cX11_rules 33 = .ok (.iconst 0, 1) := by decide +kernel
theorem dX11_rules_34 : decode cX11_rules 34 = .ok (.putfield 212, 3) := by decide +kernel
theorem dX11_rules_37 : decode cX11_rules 37 = .ok (.iload_n 1, 1) := by decide +kernel
theorem dX11_rules_38 : decode cX11_rules 38 = .ok (.ifCond .eq 8, 3) := by decide +kernel
theorem dX11_rules_46 : decode cX11_rules 46 = .ok (.aload_n 0, 1) := by decide +kernel
theorem dX11_rules_47 : decode cX11_rules 47 = .ok (.getfield 38, 3) := by decide +kernel
theorem dX11_rules_50 : decode cX11_rules 50 = .ok (.aload_n 0, 1) := by decide +kernel
theorem dX11_rules_51 : decode cX11_rules 51 = .ok (.getfield 219, 3) := by decide +kernel
theorem dX11_rules_54 : decode cX11_rules 54 = .ok (.new 36, 3) := by decide +kernel
theorem dX11_rules_57 : decode cX11_rules 57 = .ok (.dup, 1) := by decide +kernel
theorem dX11_rules_58 : decode cX11_rules 58 = .ok (.aload_n 0, 1) := by decide +kernel
theorem dX11_rules_59 : decode cX11_rules 59 = .ok (.getfield 32, 3) := by decide +kernel
theorem dX11_rules_62 : decode cX11_rules 62 = .ok (.getfield 225, 3) := by decide +kernel
theorem dX11_rules_65 : decode cX11_rules 65 = .ok (.aload_n 0, 1) := by decide +kernel
theorem dX11_rules_66 : decode cX11_rules 66 = .ok (.getfield 32, 3) := by decide +kernel
theorem dX11_rules_69 : decode cX11_rules 69 = .ok (.getfield 228, 3) := by decide +kernel
theorem dX11_rules_72 : decode cX11_rules 72 = .ok (.aload_n 0, 1) := by decide +kernel
theorem dX11_rules_73 : decode cX11_rules 73 = .ok (.invokevirtual 100, 3) := by decide +kernel
theorem dX11_rules_76 : decode cX11_rules 76 = .ok (.invokespecial 229, 3) := by decide +kernel
theorem dX11_rules_79 : decode cX11_rules 79 = .ok (.aastore, 1) := by decide +kernel
theorem dX11_rules_80 : decode cX11_rules 80 = .ok (.aload_n 0, 1) := by decide +kernel
theorem dX11_rules_81 : decode cX11_rules 81 = .ok (.dup, 1) := by decide +kernel
theorem dX11_rules_82 : decode cX11_rules 82 = .ok (.getfield 219, 3) := by decide +kernel
theorem dX11_rules_85 : decode cX11_rules 85 = .ok (.iconst 1, 1) := by decide +kernel
theorem dX11_rules_86 : decode cX11_rules 86 = .ok (.iadd, 1) := by decide +kernel
theorem dX11_rules_87 : decode cX11_rules 87 = .ok (.putfield 219, 3) := by decide +kernel
theorem dX11_rules_90 : decode cX11_rules 90 = .ok (.aload_n 0, 1) := by decide +kernel
theorem dX11_rules_91 : decode cX11_rules 91 = .ok (.getfield 32, 3) := by decide +kernel
theorem dX11_rules_94 : decode cX11_rules 94 = .ok (.getfield 232, 3) := by decide +kernel
theorem dX11_rules_97 : decode cX11_rules 97 = .ok (.ireturn, 1) := by decide +kernel
theorem dX11_test_0 : decode cX11_test 0 = .ok (.aload_n 0, 1) := by decide +kernel
theorem dX11_test_1 : decode cX11_test 1 = .ok (.invokevirtual 70, 3) := by decide +kernel
theorem dX11_test_4 : decode cX11_test 4 = .ok (.ifCond .ne 47, 3) := by decide +kernel
theorem dX11_test_7 : decode cX11_test 7 = .ok (.aload_n 0, 1) := by decide +kernel
theorem dX11_test_8 : decode cX11_test 8 = .ok (.getfield 45, 3) := by decide +kernel
theorem dX11_test_11 : decode cX11_test 11 = .ok (.getfield 235, 3) := by decide +kernel
theorem dX11_test_14 : decode cX11_test 14 = .ok (.sipush 500, 3) := by decide +kernel
theorem dX11_test_17 : decode cX11_test 17 = .ok (.if_icmp .ge 34, 3) := by decide +kernel
theorem dX11_test_20 : decode cX11_test 20 = .ok (.aload_n 0, 1) := by decide +kernel
theorem dX11_test_21 : decode cX11_test 21 = .ok (.iload_n 1, 1) := by decide +kernel
theorem dX11_test_22 : decode cX11_test 22 = .ok (.invokevirtual 130, 3) := by decide +kernel
theorem dX11_test_25 : decode cX11_test 25 = .ok (.ifnull 26, 3) := by decide +kernel
theorem dX11_test_51 : decode cX11_test 51 = .ok (.iconst (-1), 1) := by decide +kernel
theorem dX11_test_52 : decode cX11_test 52 = .ok (.ireturn, 1) := by decide +kernel
theorem dX11_closed_0 : decode cX11_closed 0 = .ok (.aload_n 0, 1) := by decide +kernel
theorem dX11_closed_1 : decode cX11_closed 1 = .ok (.iload_n 1, 1) := by decide +kernel
theorem dX11_closed_2 : decode cX11_closed 2 = .ok (.invokevirtual 130, 3) := by decide +kernel
theorem dX11_closed_5 : decode cX11_closed 5 = .ok (.astore 4, 2) := by decide +kernel
theorem dX11_closed_7 : decode cX11_closed 7 = .ok (.aload 4, 2) := by decide +kernel
theorem dX11_closed_9 : decode cX11_closed 9 = .ok (.ifnull 20, 3) := by decide +kernel
theorem dX11_closed_29 : decode cX11_closed 29 = .ok (.iconst (-1), 1) := by decide +kernel
theorem dX11_closed_30 : decode cX11_closed 30 = .ok (.ireturn, 1) := by decide +kernel
theorem dX11_open_0 : decode cX11_open 0 = .ok (.aload_n 0, 1) := by decide +kernel
theorem dX11_open_1 : decode cX11_open 1 = .ok (.iload_n 1, 1) := by decide +kernel
theorem dX11_open_2 : decode cX11_open 2 = .ok (.invokevirtual 130, 3) := by decide +kernel
theorem dX11_open_5 : decode cX11_open 5 = .ok (.astore 4, 2) := by decide +kernel
theorem dX11_open_7 : decode cX11_open 7 = .ok (.aload 4, 2) := by decide +kernel
theorem dX11_open_9 : decode cX11_open 9 = .ok (.ifnull 48, 3) := by decide +kernel
theorem dX11_open_57 : decode cX11_open 57 = .ok (.iconst (-1), 1) := by decide +kernel
theorem dX11_open_58 : decode cX11_open 58 = .ok (.ireturn, 1) := by decide +kernel
theorem dX11_free_0 : decode cX11_free 0 = .ok (.aload_n 0, 1) := by decide +kernel
theorem dX11_free_1 : decode cX11_free 1 = .ok (.iload_n 1, 1) := by decide +kernel
theorem dX11_free_2 : decode cX11_free 2 = .ok (.invokevirtual 130, 3) := by decide +kernel
theorem dX11_free_5 : decode cX11_free 5 = .ok (.astore 4, 2) := by decide +kernel
theorem dX11_free_7 : decode cX11_free 7 = .ok (.iload_n 3, 1) := by decide +kernel
theorem dX11_free_8 : decode cX11_free 8 = .ok (.ifCond .eq 7, 3) := by decide +kernel
theorem dX11_free_11 : decode cX11_free 11 = .ok (.iconst 1, 1) := by decide +kernel
theorem dX11_free_12 : decode cX11_free 12 = .ok (.goto 4, 3) := by decide +kernel
theorem dX11_free_15 : decode cX11_free 15 = .ok (.iconst 0, 1) := by decide +kernel
theorem dX11_free_16 : decode cX11_free 16 = .ok (.istore 5, 2) := by decide +kernel
theorem dX11_free_18 : decode cX11_free 18 = .ok (.aload_n 0, 1) := by decide +kernel
theorem dX11_free_19 : decode cX11_free 19 = .ok (.invokevirtual 70, 3) := by decide +kernel
theorem dX11_free_22 : decode cX11_free 22 = .ok (.ifCond .ne 29, 3) := by decide +kernel
theorem dX11_free_25 : decode cX11_free 25 = .ok (.aload 4, 2) := by decide +kernel
theorem dX11_free_27 : decode cX11_free 27 = .ok (.ifnull 24, 3) := by decide +kernel
theorem dX11_free_51 : decode cX11_free 51 = .ok (.iconst 0, 1) := by decide +kernel
theorem dX11_free_52 : decode cX11_free 52 = .ok (.ireturn, 1) := by decide +kernel
theorem dX11_low_0 : decode cX11_low 0 = .ok (.aload_n 0, 1) := by decide +kernel
theorem dX11_low_1 : decode cX11_low 1 = .ok (.iload_n 1, 1) := by decide +kernel
theorem dX11_low_2 : decode cX11_low 2 = .ok (.invokevirtual 130, 3) := by decide +kernel
theorem dX11_low_5 : decode cX11_low 5 = .ok (.astore_n 3, 1) := by decide +kernel
theorem dX11_low_6 : decode cX11_low 6 = .ok (.aload_n 3, 1) := by decide +kernel
theorem dX11_low_7 : decode cX11_low 7 = .ok (.ifnull 10, 3) := by decide +kernel
theorem dX11_low_17 : decode cX11_low 17 = .ok (.iconst (-1), 1) := by decide +kernel
theorem dX11_low_18 : decode cX11_low 18 = .ok (.ireturn, 1) := by decide +kernel
theorem dX11_plan_0 : decode cX11_plan 0 = .ok (.iload_n 3, 1) := by decide +kernel
theorem dX11_plan_1 : decode cX11_plan 1 = .ok (.iconst 1, 1) := by decide +kernel
theorem dX11_plan_2 : decode cX11_plan 2 = .ok (.bipush 6, 2) := by decide +kernel
theorem dX11_plan_4 : decode cX11_plan 4 = .ok (.invokestatic 85, 3) := by decide +kernel
theorem dX11_plan_7 : decode cX11_plan 7 = .ok (.ifCond .eq 29, 3) := by decide +kernel
theorem dX11_plan_10 : decode cX11_plan 10 = .ok (.iload 4, 2) := by decide +kernel
theorem dX11_plan_12 : decode cX11_plan 12 = .ok (.iconst 1, 1) := by decide +kernel
theorem dX11_plan_13 : decode cX11_plan 13 = .ok (.iconst 3, 1) := by decide +kernel
theorem dX11_plan_14 : decode cX11_plan 14 = .ok (.invokestatic 85, 3) := by decide +kernel
theorem dX11_plan_17 : decode cX11_plan 17 = .ok (.ifCond .eq 19, 3) := by decide +kernel
theorem dX11_plan_20 : decode cX11_plan 20 = .ok (.iload 5, 2) := by decide +kernel
theorem dX11_plan_22 : decode cX11_plan 22 = .ok (.iconst 0, 1) := by decide +kernel
theorem dX11_plan_23 : decode cX11_plan 23 = .ok (.sipush 999, 3) := by decide +kernel
theorem dX11_plan_26 : decode cX11_plan 26 = .ok (.invokestatic 85, 3) := by decide +kernel
theorem dX11_plan_29 : decode cX11_plan 29 = .ok (.ifCond .eq 7, 3) := by decide +kernel
theorem dX11_plan_32 : decode cX11_plan 32 = .ok (.iconst 1, 1) := by decide +kernel
theorem dX11_plan_33 : decode cX11_plan 33 = .ok (.goto 4, 3) := by decide +kernel
theorem dX11_plan_36 : decode cX11_plan 36 = .ok (.iconst 0, 1) := by decide +kernel
theorem dX11_plan_37 : decode cX11_plan 37 = .ok (.istore 6, 2) := by decide +kernel
theorem dX11_plan_39 : decode cX11_plan 39 = .ok (.iload_n 1, 1) := by decide +kernel
theorem dX11_plan_40 : decode cX11_plan 40 = .ok (.ifCond .le 25, 3) := by decide +kernel
theorem dX11_plan_43 : decode cX11_plan 43 = .ok (.iload_n 1, 1) := by decide +kernel
theorem dX11_plan_44 : decode cX11_plan 44 = .ok (.iconst 1, 1) := by decide +kernel
theorem dX11_plan_45 : decode cX11_plan 45 = .ok (.aload_n 0, 1) := by decide +kernel
theorem dX11_plan_46 : decode cX11_plan 46 = .ok (.getfield 119, 3) := by decide +kernel
theorem dX11_plan_49 : decode cX11_plan 49 = .ok (.ishl, 1) := by decide +kernel
theorem dX11_plan_50 : decode cX11_plan 50 = .ok (.if_icmp .ge 15, 3) := by decide +kernel
theorem dX11_plan_65 : decode cX11_plan 65 = .ok (.iconst 0, 1) := by decide +kernel
theorem dX11_plan_66 : decode cX11_plan 66 = .ok (.istore 7, 2) := by decide +kernel
theorem dX11_plan_68 : decode cX11_plan 68 = .ok (.iload 6, 2) := by decide +kernel
theorem dX11_plan_70 : decode cX11_plan 70 = .ok (.ifCond .eq 42, 3) := by decide +kernel
theorem dX11_plan_73 : decode cX11_plan 73 = .ok (.iload 7, 2) := by decide +kernel
theorem dX11_plan_75 : decode cX11_plan 75 = .ok (.ifCond .eq 37, 3) := by decide +kernel
theorem dX11_plan_112 : decode cX11_plan 112 = .ok (.iconst (-1), 1) := by decide +kernel
theorem dX11_plan_113 : decode cX11_plan 113 = .ok (.ireturn, 1) := by decide +kernel
theorem dX11_planned_0 : decode cX11_planned 0 = .ok (.iload_n 1, 1) := by decide +kernel
theorem dX11_planned_1 : decode cX11_planned 1 = .ok (.iconst 0, 1) := by decide +kernel
theorem dX11_planned_2 : decode cX11_planned 2 = .ok (.aload_n 0, 1) := by decide +kernel
theorem dX11_planned_3 : decode cX11_planned 3 = .ok (.getfield 119, 3) := by decide +kernel
theorem dX11_planned_6 : decode cX11_planned 6 = .ok (.iconst 1, 1) := by decide +kernel
theorem dX11_planned_7 : decode cX11_planned 7 = .ok (.isub, 1) := by decide +kernel
theorem dX11_planned_8 : decode cX11_planned 8 = .ok (.invokestatic 85, 3) := by decide +kernel
theorem dX11_planned_11 : decode cX11_planned 11 = .ok (.ifCond .eq 17, 3) := by decide +kernel
theorem dX11_planned_28 : decode cX11_planned 28 = .ok (.iconst (-1), 1) := by decide +kernel
theorem dX11_planned_29 : decode cX11_planned 29 = .ok (.ireturn, 1) := by decide +kernel
theorem dX11_race_0 : decode cX11_race 0 = .ok (.aload_n 0, 1) := by decide +kernel
theorem dX11_race_1 : decode cX11_race 1 = .ok (.iload_n 1, 1) := by decide +kernel
theorem dX11_race_2 : decode cX11_race 2 = .ok (.invokevirtual 130, 3) := by decide +kernel
theorem dX11_race_5 : decode cX11_race 5 = .ok (.astore 8, 2) := by decide +kernel
theorem dX11_race_7 : decode cX11_race 7 = .ok (.iload_n 2, 1) := by decide +kernel
theorem dX11_race_8 : decode cX11_race 8 = .ok (.invokestatic 243, 3) := by decide +kernel
theorem dX11_race_11 : decode cX11_race 11 = .ok (.ifCond .eq 46, 3) := by decide +kernel
theorem dX11_race_14 : decode cX11_race 14 = .ok (.iload_n 2, 1) := by decide +kernel
theorem dX11_race_15 : decode cX11_race 15 = .ok (.aload_n 0, 1) := by decide +kernel
theorem dX11_race_16 : decode cX11_race 16 = .ok (.invokevirtual 263, 3) := by decide +kernel
theorem dX11_race_19 : decode cX11_race 19 = .ok (.aload_n 0, 1) := by decide +kernel
theorem dX11_race_20 : decode cX11_race 20 = .ok (.invokevirtual 263, 3) := by decide +kernel
theorem dX11_race_23 : decode cX11_race 23 = .ok (.bipush 9, 2) := by decide +kernel
theorem dX11_race_25 : decode cX11_race 25 = .ok (.iadd, 1) := by decide +kernel
theorem dX11_race_26 : decode cX11_race 26 = .ok (.invokestatic 85, 3) := by decide +kernel
theorem dX11_race_29 : decode cX11_race 29 = .ok (.ifCond .eq 28, 3) := by decide +kernel
theorem dX11_race_32 : decode cX11_race 32 = .ok (.iload_n 3, 1) := by decide +kernel
theorem dX11_race_33 : decode cX11_race 33 = .ok (.iconst 0, 1) := by decide +kernel
theorem dX11_race_34 : decode cX11_race 34 = .ok (.bipush 23, 2) := by decide +kernel
theorem dX11_race_36 : decode cX11_race 36 = .ok (.invokestatic 85, 3) := by decide +kernel
theorem dX11_race_39 : decode cX11_race 39 = .ok (.ifCond .eq 18, 3) := by decide +kernel
theorem dX11_race_42 : decode cX11_race 42 = .ok (.iload 4, 2) := by decide +kernel
theorem dX11_race_44 : decode cX11_race 44 = .ok (.iconst 1, 1) := by decide +kernel
theorem dX11_race_45 : decode cX11_race 45 = .ok (.bipush 6, 2) := by decide +kernel
theorem dX11_race_47 : decode cX11_race 47 = .ok (.invokestatic 85, 3) := by decide +kernel
theorem dX11_race_50 : decode cX11_race 50 = .ok (.ifCond .eq 7, 3) := by decide +kernel
theorem dX11_race_53 : decode cX11_race 53 = .ok (.iconst 1, 1) := by decide +kernel
theorem dX11_race_54 : decode cX11_race 54 = .ok (.goto 4, 3) := by decide +kernel
theorem dX11_race_57 : decode cX11_race 57 = .ok (.iconst 0, 1) := by decide +kernel
theorem dX11_race_58 : decode cX11_race 58 = .ok (.istore 9, 2) := by decide +kernel
theorem dX11_race_60 : decode cX11_race 60 = .ok (.iload 5, 2) := by decide +kernel
theorem dX11_race_62 : decode cX11_race 62 = .ok (.iconst 0, 1) := by decide +kernel
theorem dX11_race_63 : decode cX11_race 63 = .ok (.sipush 1200, 3) := by decide +kernel
theorem dX11_race_66 : decode cX11_race 66 = .ok (.invokestatic 85, 3) := by decide +kernel
theorem dX11_race_69 : decode cX11_race 69 = .ok (.ifCond .eq 31, 3) := by decide +kernel
theorem dX11_race_72 : decode cX11_race 72 = .ok (.iload 6, 2) := by decide +kernel
theorem dX11_race_74 : decode cX11_race 74 = .ok (.iconst 0, 1) := by decide +kernel
theorem dX11_race_75 : decode cX11_race 75 = .ok (.sipush 1200, 3) := by decide +kernel
theorem dX11_race_78 : decode cX11_race 78 = .ok (.invokestatic 85, 3) := by decide +kernel
theorem dX11_race_81 : decode cX11_race 81 = .ok (.ifCond .eq 19, 3) := by decide +kernel
theorem dX11_race_84 : decode cX11_race 84 = .ok (.iload 7, 2) := by decide +kernel
theorem dX11_race_86 : decode cX11_race 86 = .ok (.iconst 0, 1) := by decide +kernel
theorem dX11_race_87 : decode cX11_race 87 = .ok (.sipush 500, 3) := by decide +kernel
theorem dX11_race_90 : decode cX11_race 90 = .ok (.invokestatic 85, 3) := by decide +kernel
theorem dX11_race_93 : decode cX11_race 93 = .ok (.ifCond .eq 7, 3) := by decide +kernel
theorem dX11_race_96 : decode cX11_race 96 = .ok (.iconst 1, 1) := by decide +kernel
theorem dX11_race_97 : decode cX11_race 97 = .ok (.goto 4, 3) := by decide +kernel
theorem dX11_race_100 : decode cX11_race 100 = .ok (.iconst 0, 1) := by decide +kernel
theorem dX11_race_101 : decode cX11_race 101 = .ok (.istore 10, 2) := by decide +kernel
theorem dX11_race_103 : decode cX11_race 103 = .ok (.aload_n 0, 1) := by decide +kernel
theorem dX11_race_104 : decode cX11_race 104 = .ok (.invokevirtual 70, 3) := by decide +kernel
theorem dX11_race_107 : decode cX11_race 107 = .ok (.ifCond .ne 36, 3) := by decide +kernel
theorem dX11_race_110 : decode cX11_race 110 = .ok (.aload 8, 2) := by decide +kernel
theorem dX11_race_112 : decode cX11_race 112 = .ok (.ifnull 31, 3) := by decide +kernel
theorem dX11_race_143 : decode cX11_race 143 = .ok (.iconst (-1), 1) := by decide +kernel
theorem dX11_race_144 : decode cX11_race 144 = .ok (.ireturn, 1) := by decide +kernel
theorem dX11_night_0 : decode cX11_night 0 = .ok (.aload_n 0, 1) := by decide +kernel
theorem dX11_night_1 : decode cX11_night 1 = .ok (.iload_n 1, 1) := by decide +kernel
theorem dX11_night_2 : decode cX11_night 2 = .ok (.invokevirtual 130, 3) := by decide +kernel
theorem dX11_night_5 : decode cX11_night 5 = .ok (.astore 5, 2) := by decide +kernel
theorem dX11_night_7 : decode cX11_night 7 = .ok (.aload_n 0, 1) := by decide +kernel
theorem dX11_night_8 : decode cX11_night 8 = .ok (.invokevirtual 70, 3) := by decide +kernel
theorem dX11_night_11 : decode cX11_night 11 = .ok (.ifCond .ne 23, 3) := by decide +kernel
theorem dX11_night_14 : decode cX11_night 14 = .ok (.aload 5, 2) := by decide +kernel
theorem dX11_night_16 : decode cX11_night 16 = .ok (.ifnull 18, 3) := by decide +kernel
theorem dX11_night_34 : decode cX11_night 34 = .ok (.iconst (-1), 1) := by decide +kernel
theorem dX11_night_35 : decode cX11_night 35 = .ok (.ireturn, 1) := by decide +kernel
theorem dX11_suspect_0 : decode cX11_suspect 0 = .ok (.aload_n 0, 1) := by decide +kernel
theorem dX11_suspect_1 : decode cX11_suspect 1 = .ok (.iload_n 1, 1) := by decide +kernel
theorem dX11_suspect_2 : decode cX11_suspect 2 = .ok (.invokevirtual 130, 3) := by decide +kernel
theorem dX11_suspect_5 : decode cX11_suspect 5 = .ok (.astore 4, 2) := by decide +kernel
theorem dX11_suspect_7 : decode cX11_suspect 7 = .ok (.aload_n 0, 1) := by decide +kernel
theorem dX11_suspect_8 : decode cX11_suspect 8 = .ok (.invokevirtual 70, 3) := by decide +kernel
theorem dX11_suspect_11 : decode cX11_suspect 11 = .ok (.ifCond .ne 21, 3) := by decide +kernel
theorem dX11_suspect_14 : decode cX11_suspect 14 = .ok (.aload 4, 2) := by decide +kernel
theorem dX11_suspect_16 : decode cX11_suspect 16 = .ok (.ifnull 16, 3) := by decide +kernel
theorem dX11_suspect_32 : decode cX11_suspect 32 = .ok (.iconst (-1), 1) := by decide +kernel
theorem dX11_suspect_33 : decode cX11_suspect 33 = .ok (.ireturn, 1) := by decide +kernel
theorem dX11_cause_0 : decode cX11_cause 0 = .ok (.aload_n 0, 1) := by decide +kernel
theorem dX11_cause_1 : decode cX11_cause 1 = .ok (.iload_n 1, 1) := by decide +kernel
theorem dX11_cause_2 : decode cX11_cause 2 = .ok (.invokevirtual 130, 3) := by decide +kernel
theorem dX11_cause_5 : decode cX11_cause 5 = .ok (.astore_n 2, 1) := by decide +kernel
theorem dX11_cause_6 : decode cX11_cause 6 = .ok (.aload_n 2, 1) := by decide +kernel
theorem dX11_cause_7 : decode cX11_cause 7 = .ok (.ifnonnull 5, 3) := by decide +kernel
theorem dX11_cause_10 : decode cX11_cause 10 = .ok (.iconst (-1), 1) := by decide +kernel
theorem dX11_cause_11 : decode cX11_cause 11 = .ok (.ireturn, 1) := by decide +kernel
theorem dX11_causes_0 : decode cX11_causes 0 = .ok (.aload_n 0, 1) := by decide +kernel
theorem dX11_causes_1 : decode cX11_causes 1 = .ok (.getfield 303, 3) := by decide +kernel
theorem dX11_causes_4 : decode cX11_causes 4 = .ok (.ifnonnull 7, 3) := by decide +kernel
theorem dX11_causes_7 : decode cX11_causes 7 = .ok (.iconst (-1), 1) := by decide +kernel
theorem dX11_causes_8 : decode cX11_causes 8 = .ok (.goto 12, 3) := by decide +kernel
theorem dX11_causes_20 : decode cX11_causes 20 = .ok (.ireturn, 1) := by decide +kernel
theorem dX11_look_0 : decode cX11_look 0 = .ok (.aload_n 0, 1) := by decide +kernel
theorem dX11_look_1 : decode cX11_look 1 = .ok (.getfield 303, 3) := by decide +kernel
theorem dX11_look_4 : decode cX11_look 4 = .ok (.ifnonnull 7, 3) := by decide +kernel
theorem dX11_look_7 : decode cX11_look 7 = .ok (.iconst (-1), 1) := by decide +kernel
theorem dX11_look_8 : decode cX11_look 8 = .ok (.goto 10, 3) := by decide +kernel
theorem dX11_look_18 : decode cX11_look 18 = .ok (.ireturn, 1) := by decide +kernel
theorem dX11_lease_0 : decode cX11_lease 0 = .ok (.aload_n 0, 1) := by decide +kernel
theorem dX11_lease_1 : decode cX11_lease 1 = .ok (.invokevirtual 70, 3) := by decide +kernel
theorem dX11_lease_4 : decode cX11_lease 4 = .ok (.ifCond .ne 55, 3) := by decide +kernel
theorem dX11_lease_7 : decode cX11_lease 7 = .ok (.aload_n 0, 1) := by decide +kernel
theorem dX11_lease_8 : decode cX11_lease 8 = .ok (.getfield 315, 3) := by decide +kernel
theorem dX11_lease_11 : decode cX11_lease 11 = .ok (.aload_n 0, 1) := by decide +kernel
theorem dX11_lease_12 : decode cX11_lease 12 = .ok (.getfield 51, 3) := by decide +kernel
theorem dX11_lease_15 : decode cX11_lease 15 = .ok (.arraylength, 1) := by decide +kernel
theorem dX11_lease_16 : decode cX11_lease 16 = .ok (.if_icmp .ge 43, 3) := by decide +kernel
theorem dX11_lease_19 : decode cX11_lease 19 = .ok (.aload_n 0, 1) := by decide +kernel
theorem dX11_lease_20 : decode cX11_lease 20 = .ok (.iload_n 1, 1) := by decide +kernel
theorem dX11_lease_21 : decode cX11_lease 21 = .ok (.invokevirtual 130, 3) := by decide +kernel
theorem dX11_lease_24 : decode cX11_lease 24 = .ok (.ifnull 35, 3) := by decide +kernel
theorem dX11_lease_59 : decode cX11_lease 59 = .ok (.iconst (-1), 1) := by decide +kernel
theorem dX11_lease_60 : decode cX11_lease 60 = .ok (.ireturn, 1) := by decide +kernel
theorem dX11_due_0 : decode cX11_due 0 = .ok (.aload_n 0, 1) := by decide +kernel
theorem dX11_due_1 : decode cX11_due 1 = .ok (.iload_n 1, 1) := by decide +kernel
theorem dX11_due_2 : decode cX11_due 2 = .ok (.invokevirtual 321, 3) := by decide +kernel
theorem dX11_due_5 : decode cX11_due 5 = .ok (.astore_n 3, 1) := by decide +kernel
theorem dX11_due_6 : decode cX11_due 6 = .ok (.aload_n 3, 1) := by decide +kernel
theorem dX11_due_7 : decode cX11_due 7 = .ok (.ifnull 17, 3) := by decide +kernel
theorem dX11_due_24 : decode cX11_due 24 = .ok (.iconst (-1), 1) := by decide +kernel
theorem dX11_due_25 : decode cX11_due 25 = .ok (.goto 9, 3) := by decide +kernel
theorem dX11_due_34 : decode cX11_due 34 = .ok (.ireturn, 1) := by decide +kernel
theorem dX11_pay_0 : decode cX11_pay 0 = .ok (.aload_n 0, 1) := by decide +kernel
theorem dX11_pay_1 : decode cX11_pay 1 = .ok (.iload_n 1, 1) := by decide +kernel
theorem dX11_pay_2 : decode cX11_pay 2 = .ok (.invokevirtual 321, 3) := by decide +kernel
theorem dX11_pay_5 : decode cX11_pay 5 = .ok (.astore_n 2, 1) := by decide +kernel
theorem dX11_pay_6 : decode cX11_pay 6 = .ok (.aload_n 0, 1) := by decide +kernel
theorem dX11_pay_7 : decode cX11_pay 7 = .ok (.invokevirtual 70, 3) := by decide +kernel
theorem dX11_pay_10 : decode cX11_pay 10 = .ok (.ifCond .ne 7, 3) := by decide +kernel
theorem dX11_pay_13 : decode cX11_pay 13 = .ok (.aload_n 2, 1) := by decide +kernel
theorem dX11_pay_14 : decode cX11_pay 14 = .ok (.ifnonnull 7, 3) := by decide +kernel
theorem dX11_pay_17 : decode cX11_pay 17 = .ok (.ldc_w 329, 3) := by decide +kernel
theorem dX11_pay_20 : decode cX11_pay 20 = .ok (.ireturn, 1) := by decide +kernel
theorem dX11_count_0 : decode cX11_count 0 = .ok (.iload_n 1, 1) := by decide +kernel
theorem dX11_count_1 : decode cX11_count 1 = .ok (.tableswitch 120 0 10 #[59, 64, 72, 80, 85, 90, 98, 103, 111, 111, 111], 59) := by decide +kernel
theorem dX11_count_60 : decode cX11_count 60 = .ok (.aload_n 0, 1) := by decide +kernel
theorem dX11_count_61 : decode cX11_count 61 = .ok (.getfield 173, 3) := by decide +kernel
theorem dX11_count_64 : decode cX11_count 64 = .ok (.ireturn, 1) := by decide +kernel
theorem dX11_count_65 : decode cX11_count 65 = .ok (.aload_n 0, 1) := by decide +kernel
theorem dX11_count_66 : decode cX11_count 66 = .ok (.getfield 12, 3) := by decide +kernel
theorem dX11_count_69 : decode cX11_count 69 = .ok (.getfield 333, 3) := by decide +kernel
theorem dX11_count_72 : decode cX11_count 72 = .ok (.ireturn, 1) := by decide +kernel
theorem dX11_count_73 : decode cX11_count 73 = .ok (.aload_n 0, 1) := by decide +kernel
theorem dX11_count_74 : decode cX11_count 74 = .ok (.getfield 19, 3) := by decide +kernel
theorem dX11_count_77 : decode cX11_count 77 = .ok (.getfield 93, 3) := by decide +kernel
theorem dX11_count_80 : decode cX11_count 80 = .ok (.ireturn, 1) := by decide +kernel
theorem dX11_count_81 : decode cX11_count 81 = .ok (.aload_n 0, 1) := by decide +kernel
theorem dX11_count_82 : decode cX11_count 82 = .ok (.getfield 119, 3) := by decide +kernel
theorem dX11_count_85 : decode cX11_count 85 = .ok (.ireturn, 1) := by decide +kernel
theorem dX11_count_86 : decode cX11_count 86 = .ok (.aload_n 0, 1) := by decide +kernel
theorem dX11_count_87 : decode cX11_count 87 = .ok (.getfield 219, 3) := by decide +kernel
theorem dX11_count_90 : decode cX11_count 90 = .ok (.ireturn, 1) := by decide +kernel
theorem dX11_count_91 : decode cX11_count 91 = .ok (.aload_n 0, 1) := by decide +kernel
theorem dX11_count_92 : decode cX11_count 92 = .ok (.getfield 45, 3) := by decide +kernel
theorem dX11_count_95 : decode cX11_count 95 = .ok (.getfield 235, 3) := by decide +kernel
theorem dX11_count_98 : decode cX11_count 98 = .ok (.ireturn, 1) := by decide +kernel
theorem dX11_count_99 : decode cX11_count 99 = .ok (.aload_n 0, 1) := by decide +kernel
theorem dX11_count_100 : decode cX11_count 100 = .ok (.getfield 315, 3) := by decide +kernel
theorem dX11_count_103 : decode cX11_count 103 = .ok (.ireturn, 1) := by decide +kernel
theorem dX11_count_104 : decode cX11_count 104 = .ok (.aload_n 0, 1) := by decide +kernel
theorem dX11_count_105 : decode cX11_count 105 = .ok (.getfield 32, 3) := by decide +kernel
theorem dX11_count_108 : decode cX11_count 108 = .ok (.getfield 212, 3) := by decide +kernel
theorem dX11_count_111 : decode cX11_count 111 = .ok (.ireturn, 1) := by decide +kernel
theorem dX11_count_112 : decode cX11_count 112 = .ok (.aload_n 0, 1) := by decide +kernel
theorem dX11_count_113 : decode cX11_count 113 = .ok (.iload_n 1, 1) := by decide +kernel
theorem dX11_count_114 : decode cX11_count 114 = .ok (.bipush 8, 2) := by decide +kernel
theorem dX11_count_116 : decode cX11_count 116 = .ok (.isub, 1) := by decide +kernel
theorem dX11_count_117 : decode cX11_count 117 = .ok (.invokevirtual 110, 3) := by decide +kernel
theorem dX11_count_120 : decode cX11_count 120 = .ok (.ireturn, 1) := by decide +kernel
theorem dX11_count_121 : decode cX11_count 121 = .ok (.iload_n 1, 1) := by decide +kernel
theorem dX11_count_122 : decode cX11_count 122 = .ok (.bipush 20, 2) := by decide +kernel
theorem dX11_count_124 : decode cX11_count 124 = .ok (.if_icmp .ge 7, 3) := by decide +kernel
theorem dX11_count_127 : decode cX11_count 127 = .ok (.iconst (-1), 1) := by decide +kernel
theorem dX11_count_128 : decode cX11_count 128 = .ok (.goto 11, 3) := by decide +kernel
theorem dX11_count_131 : decode cX11_count 131 = .ok (.aload_n 0, 1) := by decide +kernel
theorem dX11_count_132 : decode cX11_count 132 = .ok (.iload_n 1, 1) := by decide +kernel
theorem dX11_count_133 : decode cX11_count 133 = .ok (.bipush 20, 2) := by decide +kernel
theorem dX11_count_135 : decode cX11_count 135 = .ok (.isub, 1) := by decide +kernel
theorem dX11_count_136 : decode cX11_count 136 = .ok (.invokevirtual 334, 3) := by decide +kernel
theorem dX11_count_139 : decode cX11_count 139 = .ok (.ireturn, 1) := by decide +kernel
theorem dX11_paidOf_0 : decode cX11_paidOf 0 = .ok (.aload_n 0, 1) := by decide +kernel
theorem dX11_paidOf_1 : decode cX11_paidOf 1 = .ok (.iload_n 1, 1) := by decide +kernel
theorem dX11_paidOf_2 : decode cX11_paidOf 2 = .ok (.invokevirtual 321, 3) := by decide +kernel
theorem dX11_paidOf_5 : decode cX11_paidOf 5 = .ok (.astore_n 2, 1) := by decide +kernel
theorem dX11_paidOf_6 : decode cX11_paidOf 6 = .ok (.aload_n 2, 1) := by decide +kernel
theorem dX11_paidOf_7 : decode cX11_paidOf 7 = .ok (.ifnonnull 7, 3) := by decide +kernel
theorem dX11_paidOf_10 : decode cX11_paidOf 10 = .ok (.iconst (-1), 1) := by decide +kernel
theorem dX11_paidOf_11 : decode cX11_paidOf 11 = .ok (.goto 7, 3) := by decide +kernel
theorem dX11_paidOf_18 : decode cX11_paidOf 18 = .ok (.ireturn, 1) := by decide +kernel
theorem dX11_settingOf_0 : decode cX11_settingOf 0 = .ok (.iload_n 1, 1) := by decide +kernel
theorem dX11_settingOf_1 : decode cX11_settingOf 1 = .ok (.lookupswitch 43 #[(0, 27), (1, 35)], 27) := by decide +kernel
theorem dX11_settingOf_28 : decode cX11_settingOf 28 = .ok (.aload_n 0, 1) := by decide +kernel
theorem dX11_settingOf_29 : decode cX11_settingOf 29 = .ok (.getfield 19, 3) := by decide +kernel
theorem dX11_settingOf_32 : decode cX11_settingOf 32 = .ok (.getfield 113, 3) := by decide +kernel
theorem dX11_settingOf_35 : decode cX11_settingOf 35 = .ok (.ireturn, 1) := by decide +kernel
theorem dX11_settingOf_36 : decode cX11_settingOf 36 = .ok (.aload_n 0, 1) := by decide +kernel
theorem dX11_settingOf_37 : decode cX11_settingOf 37 = .ok (.getfield 19, 3) := by decide +kernel
theorem dX11_settingOf_40 : decode cX11_settingOf 40 = .ok (.getfield 116, 3) := by decide +kernel
theorem dX11_settingOf_43 : decode cX11_settingOf 43 = .ok (.ireturn, 1) := by decide +kernel
theorem dX11_settingOf_44 : decode cX11_settingOf 44 = .ok (.aload_n 0, 1) := by decide +kernel
theorem dX11_settingOf_45 : decode cX11_settingOf 45 = .ok (.getfield 66, 3) := by decide +kernel
theorem dX11_settingOf_48 : decode cX11_settingOf 48 = .ok (.ireturn, 1) := by decide +kernel
theorem dX11_atEnd_0 : decode cX11_atEnd 0 = .ok (.aload_n 0, 1) := by decide +kernel
theorem dX11_atEnd_1 : decode cX11_atEnd 1 = .ok (.getfield 173, 3) := by decide +kernel
theorem dX11_atEnd_4 : decode cX11_atEnd 4 = .ok (.sipush 14400, 3) := by decide +kernel
theorem dX11_atEnd_7 : decode cX11_atEnd 7 = .ok (.if_icmp .lt 7, 3) := by decide +kernel
theorem dX11_atEnd_14 : decode cX11_atEnd 14 = .ok (.iconst 0, 1) := by decide +kernel
theorem dX11_atEnd_15 : decode cX11_atEnd 15 = .ok (.ireturn, 1) := by decide +kernel
theorem dX11_hourNow_0 : decode cX11_hourNow 0 = .ok (.aload_n 0, 1) := by decide +kernel
theorem dX11_hourNow_1 : decode cX11_hourNow 1 = .ok (.getfield 173, 3) := by decide +kernel
theorem dX11_hourNow_4 : decode cX11_hourNow 4 = .ok (.bipush 6, 2) := by decide +kernel
theorem dX11_hourNow_6 : decode cX11_hourNow 6 = .ok (.idiv, 1) := by decide +kernel
theorem dX11_hourNow_7 : decode cX11_hourNow 7 = .ok (.ireturn, 1) := by decide +kernel
theorem dX11_dayNow_0 : decode cX11_dayNow 0 = .ok (.aload_n 0, 1) := by decide +kernel
theorem dX11_dayNow_1 : decode cX11_dayNow 1 = .ok (.getfield 173, 3) := by decide +kernel
theorem dX11_dayNow_4 : decode cX11_dayNow 4 = .ok (.sipush 144, 3) := by decide +kernel
theorem dX11_dayNow_7 : decode cX11_dayNow 7 = .ok (.idiv, 1) := by decide +kernel
theorem dX11_dayNow_8 : decode cX11_dayNow 8 = .ok (.ireturn, 1) := by decide +kernel
theorem dX11_poolAt_0 : decode cX11_poolAt 0 = .ok (.iload_n 1, 1) := by decide +kernel
theorem dX11_poolAt_1 : decode cX11_poolAt 1 = .ok (.ifCond .lt 21, 3) := by decide +kernel
theorem dX11_poolAt_4 : decode cX11_poolAt 4 = .ok (.iload_n 1, 1) := by decide +kernel
theorem dX11_poolAt_5 : decode cX11_poolAt 5 = .ok (.aload_n 0, 1) := by decide +kernel
theorem dX11_poolAt_6 : decode cX11_poolAt 6 = .ok (.getfield 25, 3) := by decide +kernel
theorem dX11_poolAt_9 : decode cX11_poolAt 9 = .ok (.arraylength, 1) := by decide +kernel
theorem dX11_poolAt_10 : decode cX11_poolAt 10 = .ok (.if_icmp .ge 12, 3) := by decide +kernel
theorem dX11_poolAt_13 : decode cX11_poolAt 13 = .ok (.aload_n 0, 1) := by decide +kernel
theorem dX11_poolAt_14 : decode cX11_poolAt 14 = .ok (.getfield 25, 3) := by decide +kernel
theorem dX11_poolAt_17 : decode cX11_poolAt 17 = .ok (.iload_n 1, 1) := by decide +kernel
theorem dX11_poolAt_18 : decode cX11_poolAt 18 = .ok (.aaload, 1) := by decide +kernel
theorem dX11_poolAt_19 : decode cX11_poolAt 19 = .ok (.goto 4, 3) := by decide +kernel
theorem dX11_poolAt_22 : decode cX11_poolAt 22 = .ok (.aconst_null, 1) := by decide +kernel
theorem dX11_poolAt_23 : decode cX11_poolAt 23 = .ok (.areturn, 1) := by decide +kernel
theorem dX11_leaseAt_0 : decode cX11_leaseAt 0 = .ok (.iload_n 1, 1) := by decide +kernel
theorem dX11_leaseAt_1 : decode cX11_leaseAt 1 = .ok (.ifCond .lt 21, 3) := by decide +kernel
theorem dX11_leaseAt_4 : decode cX11_leaseAt 4 = .ok (.iload_n 1, 1) := by decide +kernel
theorem dX11_leaseAt_5 : decode cX11_leaseAt 5 = .ok (.aload_n 0, 1) := by decide +kernel
theorem dX11_leaseAt_6 : decode cX11_leaseAt 6 = .ok (.getfield 51, 3) := by decide +kernel
theorem dX11_leaseAt_9 : decode cX11_leaseAt 9 = .ok (.arraylength, 1) := by decide +kernel
theorem dX11_leaseAt_10 : decode cX11_leaseAt 10 = .ok (.if_icmp .ge 12, 3) := by decide +kernel
theorem dX11_leaseAt_13 : decode cX11_leaseAt 13 = .ok (.aload_n 0, 1) := by decide +kernel
theorem dX11_leaseAt_14 : decode cX11_leaseAt 14 = .ok (.getfield 51, 3) := by decide +kernel
theorem dX11_leaseAt_17 : decode cX11_leaseAt 17 = .ok (.iload_n 1, 1) := by decide +kernel
theorem dX11_leaseAt_18 : decode cX11_leaseAt 18 = .ok (.aaload, 1) := by decide +kernel
theorem dX11_leaseAt_19 : decode cX11_leaseAt 19 = .ok (.goto 4, 3) := by decide +kernel
theorem dX11_leaseAt_22 : decode cX11_leaseAt 22 = .ok (.aconst_null, 1) := by decide +kernel
theorem dX11_leaseAt_23 : decode cX11_leaseAt 23 = .ok (.areturn, 1) := by decide +kernel
theorem dX11_isHour_0 : decode cX11_isHour 0 = .ok (.iload_n 0, 1) := by decide +kernel
theorem dX11_isHour_1 : decode cX11_isHour 1 = .ok (.iconst 0, 1) := by decide +kernel
theorem dX11_isHour_2 : decode cX11_isHour 2 = .ok (.sipush 2399, 3) := by decide +kernel
theorem dX11_isHour_5 : decode cX11_isHour 5 = .ok (.invokestatic 85, 3) := by decide +kernel
theorem dX11_isHour_8 : decode cX11_isHour 8 = .ok (.ireturn, 1) := by decide +kernel
theorem dX11_isDay_0 : decode cX11_isDay 0 = .ok (.iload_n 0, 1) := by decide +kernel
theorem dX11_isDay_1 : decode cX11_isDay 1 = .ok (.iconst 0, 1) := by decide +kernel
theorem dX11_isDay_2 : decode cX11_isDay 2 = .ok (.bipush 99, 2) := by decide +kernel
theorem dX11_isDay_4 : decode cX11_isDay 4 = .ok (.invokestatic 85, 3) := by decide +kernel
theorem dX11_isDay_7 : decode cX11_isDay 7 = .ok (.ireturn, 1) := by decide +kernel
theorem dX11_within_0 : decode cX11_within 0 = .ok (.iload_n 0, 1) := by decide +kernel
theorem dX11_within_1 : decode cX11_within 1 = .ok (.iload_n 1, 1) := by decide +kernel
theorem dX11_within_2 : decode cX11_within 2 = .ok (.if_icmp .lt 12, 3) := by decide +kernel
theorem dX11_within_5 : decode cX11_within 5 = .ok (.iload_n 0, 1) := by decide +kernel
theorem dX11_within_6 : decode cX11_within 6 = .ok (.iload_n 2, 1) := by decide +kernel
theorem dX11_within_7 : decode cX11_within 7 = .ok (.if_icmp .gt 7, 3) := by decide +kernel
theorem dX11_within_10 : decode cX11_within 10 = .ok (.iconst 1, 1) := by decide +kernel
theorem dX11_within_11 : decode cX11_within 11 = .ok (.goto 4, 3) := by decide +kernel
theorem dX11_within_14 : decode cX11_within 14 = .ok (.iconst 0, 1) := by decide +kernel
theorem dX11_within_15 : decode cX11_within 15 = .ok (.ireturn, 1) := by decide +kernel
theorem dX11_at_0 : decode cX11_at 0 = .ok (.iload_n 1, 1) := by decide +kernel
theorem dX11_at_1 : decode cX11_at 1 = .ok (.ifCond .lt 15, 3) := by decide +kernel
theorem dX11_at_4 : decode cX11_at 4 = .ok (.iload_n 1, 1) := by decide +kernel
theorem dX11_at_5 : decode cX11_at 5 = .ok (.aload_n 0, 1) := by decide +kernel
theorem dX11_at_6 : decode cX11_at 6 = .ok (.arraylength, 1) := by decide +kernel
theorem dX11_at_7 : decode cX11_at 7 = .ok (.if_icmp .ge 9, 3) := by decide +kernel
theorem dX11_at_10 : decode cX11_at 10 = .ok (.aload_n 0, 1) := by decide +kernel
theorem dX11_at_11 : decode cX11_at 11 = .ok (.iload_n 1, 1) := by decide +kernel
theorem dX11_at_12 : decode cX11_at 12 = .ok (.iaload, 1) := by decide +kernel
theorem dX11_at_13 : decode cX11_at 13 = .ok (.goto 4, 3) := by decide +kernel
theorem dX11_at_16 : decode cX11_at 16 = .ok (.iconst 0, 1) := by decide +kernel
theorem dX11_at_17 : decode cX11_at 17 = .ok (.ireturn, 1) := by decide +kernel
theorem dX11_put_0 : decode cX11_put 0 = .ok (.iload_n 1, 1) := by decide +kernel
theorem dX11_put_1 : decode cX11_put 1 = .ok (.ifCond .lt 13, 3) := by decide +kernel
theorem dX11_put_4 : decode cX11_put 4 = .ok (.iload_n 1, 1) := by decide +kernel
theorem dX11_put_5 : decode cX11_put 5 = .ok (.aload_n 0, 1) := by decide +kernel
theorem dX11_put_6 : decode cX11_put 6 = .ok (.arraylength, 1) := by decide +kernel
theorem dX11_put_7 : decode cX11_put 7 = .ok (.if_icmp .ge 7, 3) := by decide +kernel
theorem dX11_put_10 : decode cX11_put 10 = .ok (.aload_n 0, 1) := by decide +kernel
theorem dX11_put_11 : decode cX11_put 11 = .ok (.iload_n 1, 1) := by decide +kernel
theorem dX11_put_12 : decode cX11_put 12 = .ok (.iload_n 2, 1) := by decide +kernel
theorem dX11_put_13 : decode cX11_put 13 = .ok (.iastore, 1) := by decide +kernel
theorem dX11_put_14 : decode cX11_put 14 = .ok (.return_, 1) := by decide +kernel
theorem dX12_init_0 : decode cX12_init 0 = .ok (.aload_n 0, 1) := by decide +kernel
theorem dX12_init_1 : decode cX12_init 1 = .ok (.invokespecial 1, 3) := by decide +kernel
theorem dX12_init_4 : decode cX12_init 4 = .ok (.aload_n 0, 1) := by decide +kernel
theorem dX12_init_5 : decode cX12_init 5 = .ok (.sipush 500, 3) := by decide +kernel
theorem dX12_init_8 : decode cX12_init 8 = .ok (.newarray .int, 2) := by decide +kernel
theorem dX12_init_10 : decode cX12_init 10 = .ok (.putfield 7, 3) := by decide +kernel
theorem dX12_init_13 : decode cX12_init 13 = .ok (.aload_n 0, 1) := by decide +kernel
theorem dX12_init_14 : decode cX12_init 14 = .ok (.sipush 500, 3) := by decide +kernel
theorem dX12_init_17 : decode cX12_init 17 = .ok (.newarray .int, 2) := by decide +kernel
theorem dX12_init_19 : decode cX12_init 19 = .ok (.putfield 13, 3) := by decide +kernel
theorem dX12_init_22 : decode cX12_init 22 = .ok (.aload_n 0, 1) := by decide +kernel
theorem dX12_init_23 : decode cX12_init 23 = .ok (.sipush 1500, 3) := by decide +kernel
theorem dX12_init_26 : decode cX12_init 26 = .ok (.newarray .int, 2) := by decide +kernel
theorem dX12_init_28 : decode cX12_init 28 = .ok (.putfield 16, 3) := by decide +kernel
theorem dX12_init_31 : decode cX12_init 31 = .ok (.aload_n 0, 1) := by decide +kernel
theorem dX12_init_32 : decode cX12_init 32 = .ok (.sipush 1500, 3) := by decide +kernel
theorem dX12_init_35 : decode cX12_init 35 = .ok (.newarray .int, 2) := by decide +kernel
theorem dX12_init_37 : decode cX12_init 37 = .ok (.putfield 19, 3) := by decide +kernel
theorem dX12_init_40 : decode cX12_init 40 = .ok (.aload_n 0, 1) := by decide +kernel
theorem dX12_init_41 : decode cX12_init 41 = .ok (.sipush 1500, 3) := by decide +kernel
theorem dX12_init_44 : decode cX12_init 44 = .ok (.newarray .int, 2) := by decide +kernel
theorem dX12_init_46 : decode cX12_init 46 = .ok (.putfield 22, 3) := by decide +kernel
theorem dX12_init_49 : decode cX12_init 49 = .ok (.aload_n 0, 1) := by decide +kernel
theorem dX12_init_50 : decode cX12_init 50 = .ok (.iconst 3, 1) := by decide +kernel
theorem dX12_init_51 : decode cX12_init 51 = .ok (.newarray .int, 2) := by decide +kernel
theorem dX12_init_53 : decode cX12_init 53 = .ok (.dup, 1) := by decide +kernel
theorem dX12_init_54 : decode cX12_init 54 = .ok (.iconst 0, 1) := by decide +kernel
theorem dX12_init_55 : decode cX12_init 55 = .ok (.bipush 100, 2) := by decide +kernel
theorem dX12_init_57 : decode cX12_init 57 = .ok (.iastore, 1) := by decide +kernel
theorem dX12_init_58 : decode cX12_init 58 = .ok (.dup, 1) := by decide +kernel
theorem dX12_init_59 : decode cX12_init 59 = .ok (.iconst 1, 1) := by decide +kernel
theorem dX12_init_60 : decode cX12_init 60 = .ok (.sipush 150, 3) := by decide +kernel
theorem dX12_init_63 : decode cX12_init 63 = .ok (.iastore, 1) := by decide +kernel
theorem dX12_init_64 : decode cX12_init 64 = .ok (.dup, 1) := by decide +kernel
theorem dX12_init_65 : decode cX12_init 65 = .ok (.iconst 2, 1) := by decide +kernel
theorem dX12_init_66 : decode cX12_init 66 = .ok (.bipush 8, 2) := by decide +kernel
theorem dX12_init_68 : decode cX12_init 68 = .ok (.iastore, 1) := by decide +kernel
theorem dX12_init_69 : decode cX12_init 69 = .ok (.putfield 25, 3) := by decide +kernel
theorem dX12_init_72 : decode cX12_init 72 = .ok (.aload_n 0, 1) := by decide +kernel
theorem dX12_init_73 : decode cX12_init 73 = .ok (.bipush 7, 2) := by decide +kernel
theorem dX12_init_75 : decode cX12_init 75 = .ok (.newarray .int, 2) := by decide +kernel
theorem dX12_init_77 : decode cX12_init 77 = .ok (.dup, 1) := by decide +kernel
theorem dX12_init_78 : decode cX12_init 78 = .ok (.iconst 0, 1) := by decide +kernel
theorem dX12_init_79 : decode cX12_init 79 = .ok (.iconst 0, 1) := by decide +kernel
theorem dX12_init_80 : decode cX12_init 80 = .ok (.iastore, 1) := by decide +kernel
theorem dX12_init_81 : decode cX12_init 81 = .ok (.dup, 1) := by decide +kernel
theorem dX12_init_82 : decode cX12_init 82 = .ok (.iconst 1, 1) := by decide +kernel
theorem dX12_init_83 : decode cX12_init 83 = .ok (.iconst 1, 1) := by decide +kernel
theorem dX12_init_84 : decode cX12_init 84 = .ok (.iastore, 1) := by decide +kernel
theorem dX12_init_85 : decode cX12_init 85 = .ok (.dup, 1) := by decide +kernel
theorem dX12_init_86 : decode cX12_init 86 = .ok (.iconst 2, 1) := by decide +kernel
theorem dX12_init_87 : decode cX12_init 87 = .ok (.iconst 3, 1) := by decide +kernel
theorem dX12_init_88 : decode cX12_init 88 = .ok (.iastore, 1) := by decide +kernel
theorem dX12_init_89 : decode cX12_init 89 = .ok (.dup, 1) := by decide +kernel
theorem dX12_init_90 : decode cX12_init 90 = .ok (.iconst 3, 1) := by decide +kernel
theorem dX12_init_91 : decode cX12_init 91 = .ok (.bipush 6, 2) := by decide +kernel
theorem dX12_init_93 : decode cX12_init 93 = .ok (.iastore, 1) := by decide +kernel
theorem dX12_init_94 : decode cX12_init 94 = .ok (.dup, 1) := by decide +kernel
theorem dX12_init_95 : decode cX12_init 95 = .ok (.iconst 4, 1) := by decide +kernel
theorem dX12_init_96 : decode cX12_init 96 = .ok (.bipush 9, 2) := by decide +kernel
theorem dX12_init_98 : decode cX12_init 98 = .ok (.iastore, 1) := by decide +kernel
theorem dX12_init_99 : decode cX12_init 99 = .ok (.dup, 1) := by decide +kernel
theorem dX12_init_100 : decode cX12_init 100 = .ok (.iconst 5, 1) := by decide +kernel
theorem dX12_init_101 : decode cX12_init 101 = .ok (.bipush 11, 2) := by decide +kernel
theorem dX12_init_103 : decode cX12_init 103 = .ok (.iastore, 1) := by decide +kernel
theorem dX12_init_104 : decode cX12_init 104 = .ok (.dup, 1) := by decide +kernel
theorem dX12_init_105 : decode cX12_init 105 = .ok (.bipush 6, 2) := by decide +kernel
theorem dX12_init_107 : decode cX12_init 107 = .ok (.bipush 12, 2) := by decide +kernel
theorem dX12_init_109 : decode cX12_init 109 = .ok (.iastore, 1) := by decide +kernel
theorem dX12_init_110 : decode cX12_init 110 = .ok (.putfield 28, 3) := by decide +kernel
theorem dX12_init_113 : decode cX12_init 113 = .ok (.aload_n 0, 1) := by decide +kernel
theorem dX12_init_114 : decode cX12_init 114 = .ok (.bipush 11, 2) := by decide +kernel
theorem dX12_init_116 : decode cX12_init 116 = .ok (.newarray .int, 2) := by decide +kernel
theorem dX12_init_118 : decode cX12_init 118 = .ok (.putfield 31, 3) := by decide +kernel
theorem dX12_init_121 : decode cX12_init 121 = .ok (.aload_n 0, 1) := by decide +kernel
theorem dX12_init_122 : decode cX12_init 122 = .ok (.bipush 11, 2) := by decide +kernel
theorem dX12_init_124 : decode cX12_init 124 = .ok (.newarray .int, 2) := by decide +kernel
theorem dX12_init_126 : decode cX12_init 126 = .ok (.putfield 34, 3) := by decide +kernel
theorem dX12_init_129 : decode cX12_init 129 = .ok (.aload_n 0, 1) := by decide +kernel
theorem dX12_init_130 : decode cX12_init 130 = .ok (.bipush 11, 2) := by decide +kernel
theorem dX12_init_132 : decode cX12_init 132 = .ok (.newarray .int, 2) := by decide +kernel
theorem dX12_init_134 : decode cX12_init 134 = .ok (.putfield 37, 3) := by decide +kernel
theorem dX12_init_137 : decode cX12_init 137 = .ok (.aload_n 0, 1) := by decide +kernel
theorem dX12_init_138 : decode cX12_init 138 = .ok (.bipush 11, 2) := by decide +kernel
theorem dX12_init_140 : decode cX12_init 140 = .ok (.newarray .int, 2) := by decide +kernel
theorem dX12_init_142 : decode cX12_init 142 = .ok (.putfield 40, 3) := by decide +kernel
theorem dX12_init_145 : decode cX12_init 145 = .ok (.aload_n 0, 1) := by decide +kernel
theorem dX12_init_146 : decode cX12_init 146 = .ok (.bipush 11, 2) := by decide +kernel
theorem dX12_init_148 : decode cX12_init 148 = .ok (.newarray .int, 2) := by decide +kernel
theorem dX12_init_150 : decode cX12_init 150 = .ok (.putfield 43, 3) := by decide +kernel
theorem dX12_init_153 : decode cX12_init 153 = .ok (.aload_n 0, 1) := by decide +kernel
theorem dX12_init_154 : decode cX12_init 154 = .ok (.bipush 11, 2) := by decide +kernel
theorem dX12_init_156 : decode cX12_init 156 = .ok (.newarray .int, 2) := by decide +kernel
theorem dX12_init_158 : decode cX12_init 158 = .ok (.putfield 46, 3) := by decide +kernel
theorem dX12_init_161 : decode cX12_init 161 = .ok (.aload_n 0, 1) := by decide +kernel
theorem dX12_init_162 : decode cX12_init 162 = .ok (.bipush 11, 2) := by decide +kernel
theorem dX12_init_164 : decode cX12_init 164 = .ok (.newarray .int, 2) := by decide +kernel
theorem dX12_init_166 : decode cX12_init 166 = .ok (.putfield 49, 3) := by decide +kernel
theorem dX12_init_169 : decode cX12_init 169 = .ok (.aload_n 0, 1) := by decide +kernel
theorem dX12_init_170 : decode cX12_init 170 = .ok (.bipush 11, 2) := by decide +kernel
theorem dX12_init_172 : decode cX12_init 172 = .ok (.newarray .int, 2) := by decide +kernel
theorem dX12_init_174 : decode cX12_init 174 = .ok (.putfield 52, 3) := by decide +kernel
theorem dX12_init_177 : decode cX12_init 177 = .ok (.aload_n 0, 1) := by decide +kernel
theorem dX12_init_178 : decode cX12_init 178 = .ok (.bipush 11, 2) := by decide +kernel
theorem dX12_init_180 : decode cX12_init 180 = .ok (.newarray .boolean, 2) := by decide +kernel
theorem dX12_init_182 : decode cX12_init 182 = .ok (.putfield 55, 3) := by decide +kernel
theorem dX12_init_185 : decode cX12_init 185 = .ok (.aload_n 0, 1) := by decide +kernel
theorem dX12_init_186 : decode cX12_init 186 = .ok (.bipush 11, 2) := by decide +kernel
theorem dX12_init_188 : decode cX12_init 188 = .ok (.newarray .int, 2) := by decide +kernel
theorem dX12_init_190 : decode cX12_init 190 = .ok (.putfield 59, 3) := by decide +kernel
theorem dX12_init_193 : decode cX12_init 193 = .ok (.aload_n 0, 1) := by decide +kernel
theorem dX12_init_194 : decode cX12_init 194 = .ok (.bipush 11, 2) := by decide +kernel
theorem dX12_init_196 : decode cX12_init 196 = .ok (.newarray .int, 2) := by decide +kernel
theorem dX12_init_198 : decode cX12_init 198 = .ok (.putfield 62, 3) := by decide +kernel
theorem dX12_init_201 : decode cX12_init 201 = .ok (.aload_n 0, 1) := by decide +kernel
theorem dX12_init_202 : decode cX12_init 202 = .ok (.bipush 11, 2) := by decide +kernel
theorem dX12_init_204 : decode cX12_init 204 = .ok (.newarray .long, 2) := by decide +kernel
theorem dX12_init_206 : decode cX12_init 206 = .ok (.putfield 65, 3) := by decide +kernel
theorem dX12_init_209 : decode cX12_init 209 = .ok (.aload_n 0, 1) := by decide +kernel
theorem dX12_init_210 : decode cX12_init 210 = .ok (.bipush 11, 2) := by decide +kernel
theorem dX12_init_212 : decode cX12_init 212 = .ok (.newarray .int, 2) := by decide +kernel
theorem dX12_init_214 : decode cX12_init 214 = .ok (.putfield 69, 3) := by decide +kernel
theorem dX12_init_217 : decode cX12_init 217 = .ok (.aload_n 0, 1) := by decide +kernel
theorem dX12_init_218 : decode cX12_init 218 = .ok (.bipush 11, 2) := by decide +kernel
theorem dX12_init_220 : decode cX12_init 220 = .ok (.newarray .int, 2) := by decide +kernel
theorem dX12_init_222 : decode cX12_init 222 = .ok (.putfield 72, 3) := by decide +kernel
theorem dX12_init_225 : decode cX12_init 225 = .ok (.aload_n 0, 1) := by decide +kernel
theorem dX12_init_226 : decode cX12_init 226 = .ok (.bipush 11, 2) := by decide +kernel
theorem dX12_init_228 : decode cX12_init 228 = .ok (.newarray .int, 2) := by decide +kernel
theorem dX12_init_230 : decode cX12_init 230 = .ok (.putfield 75, 3) := by decide +kernel
theorem dX12_init_233 : decode cX12_init 233 = .ok (.aload_n 0, 1) := by decide +kernel
theorem dX12_init_234 : decode cX12_init 234 = .ok (.bipush 11, 2) := by decide +kernel
theorem dX12_init_236 : decode cX12_init 236 = .ok (.newarray .int, 2) := by decide +kernel
theorem dX12_init_238 : decode cX12_init 238 = .ok (.putfield 78, 3) := by decide +kernel
theorem dX12_init_241 : decode cX12_init 241 = .ok (.aload_n 0, 1) := by decide +kernel
theorem dX12_init_242 : decode cX12_init 242 = .ok (.bipush 44, 2) := by decide +kernel
theorem dX12_init_244 : decode cX12_init 244 = .ok (.newarray .int, 2) := by decide +kernel
theorem dX12_init_246 : decode cX12_init 246 = .ok (.putfield 81, 3) := by decide +kernel
theorem dX12_init_249 : decode cX12_init 249 = .ok (.aload_n 0, 1) := by decide +kernel
theorem dX12_init_250 : decode cX12_init 250 = .ok (.bipush 44, 2) := by decide +kernel
theorem dX12_init_252 : decode cX12_init 252 = .ok (.newarray .int, 2) := by decide +kernel
theorem dX12_init_254 : decode cX12_init 254 = .ok (.putfield 84, 3) := by decide +kernel
theorem dX12_init_257 : decode cX12_init 257 = .ok (.aload_n 0, 1) := by decide +kernel
theorem dX12_init_258 : decode cX12_init 258 = .ok (.sipush 26400, 3) := by decide +kernel
theorem dX12_init_261 : decode cX12_init 261 = .ok (.newarray .int, 2) := by decide +kernel
theorem dX12_init_263 : decode cX12_init 263 = .ok (.putfield 87, 3) := by decide +kernel
theorem dX12_init_266 : decode cX12_init 266 = .ok (.aload_n 0, 1) := by decide +kernel
theorem dX12_init_267 : decode cX12_init 267 = .ok (.sipush 26400, 3) := by decide +kernel
theorem dX12_init_270 : decode cX12_init 270 = .ok (.newarray .int, 2) := by decide +kernel
theorem dX12_init_272 : decode cX12_init 272 = .ok (.putfield 90, 3) := by decide +kernel
theorem dX12_init_275 : decode cX12_init 275 = .ok (.aload_n 0, 1) := by decide +kernel
theorem dX12_init_276 : decode cX12_init 276 = .ok (.sipush 26400, 3) := by decide +kernel
theorem dX12_init_279 : decode cX12_init 279 = .ok (.newarray .int, 2) := by decide +kernel
theorem dX12_init_281 : decode cX12_init 281 = .ok (.putfield 93, 3) := by decide +kernel
theorem dX12_init_284 : decode cX12_init 284 = .ok (.aload_n 0, 1) := by decide +kernel
theorem dX12_init_285 : decode cX12_init 285 = .ok (.sipush 1100, 3) := by decide +kernel
theorem dX12_init_288 : decode cX12_init 288 = .ok (.newarray .boolean, 2) := by decide +kernel
theorem dX12_init_290 : decode cX12_init 290 = .ok (.putfield 96, 3) := by decide +kernel
theorem dX12_init_293 : decode cX12_init 293 = .ok (.aload_n 0, 1) := by decide +kernel
theorem dX12_init_294 : decode cX12_init 294 = .ok (.sipush 241, 3) := by decide +kernel
theorem dX12_init_297 : decode cX12_init 297 = .ok (.newarray .int, 2) := by decide +kernel
theorem dX12_init_299 : decode cX12_init 299 = .ok (.putfield 99, 3) := by decide +kernel
theorem dX12_init_302 : decode cX12_init 302 = .ok (.aload_n 0, 1) := by decide +kernel
theorem dX12_init_303 : decode cX12_init 303 = .ok (.sipush 241, 3) := by decide +kernel
theorem dX12_init_306 : decode cX12_init 306 = .ok (.newarray .int, 2) := by decide +kernel
theorem dX12_init_308 : decode cX12_init 308 = .ok (.putfield 102, 3) := by decide +kernel
theorem dX12_init_311 : decode cX12_init 311 = .ok (.aload_n 0, 1) := by decide +kernel
theorem dX12_init_312 : decode cX12_init 312 = .ok (.sipush 241, 3) := by decide +kernel
theorem dX12_init_315 : decode cX12_init 315 = .ok (.newarray .int, 2) := by decide +kernel
theorem dX12_init_317 : decode cX12_init 317 = .ok (.putfield 105, 3) := by decide +kernel
theorem dX12_init_320 : decode cX12_init 320 = .ok (.aload_n 0, 1) := by decide +kernel
theorem dX12_init_321 : decode cX12_init 321 = .ok (.sipush 300, 3) := by decide +kernel
theorem dX12_init_324 : decode cX12_init 324 = .ok (.newarray .byte, 2) := by decide +kernel
theorem dX12_init_326 : decode cX12_init 326 = .ok (.putfield 108, 3) := by decide +kernel
theorem dX12_init_329 : decode cX12_init 329 = .ok (.aload_n 0, 1) := by decide +kernel
theorem dX12_init_330 : decode cX12_init 330 = .ok (.bipush 55, 2) := by decide +kernel
theorem dX12_init_332 : decode cX12_init 332 = .ok (.newarray .byte, 2) := by decide +kernel
theorem dX12_init_334 : decode cX12_init 334 = .ok (.dup, 1) := by decide +kernel
theorem dX12_init_335 : decode cX12_init 335 = .ok (.iconst 0, 1) := by decide +kernel
theorem dX12_init_336 : decode cX12_init 336 = .ok (.bipush 111, 2) := by decide +kernel
theorem dX12_init_338 : decode cX12_init 338 = .ok (.bastore, 1) := by decide +kernel
theorem dX12_init_339 : decode cX12_init 339 = .ok (.dup, 1) := by decide +kernel
theorem dX12_init_340 : decode cX12_init 340 = .ok (.iconst 1, 1) := by decide +kernel
theorem dX12_init_341 : decode cX12_init 341 = .ok (.bipush 114, 2) := by decide +kernel
theorem dX12_init_343 : decode cX12_init 343 = .ok (.bastore, 1) := by decide +kernel
theorem dX12_init_344 : decode cX12_init 344 = .ok (.dup, 1) := by decide +kernel
theorem dX12_init_345 : decode cX12_init 345 = .ok (.iconst 2, 1) := by decide +kernel
theorem dX12_init_346 : decode cX12_init 346 = .ok (.iconst 0, 1) := by decide +kernel
theorem dX12_init_347 : decode cX12_init 347 = .ok (.bastore, 1) := by decide +kernel
theorem dX12_init_348 : decode cX12_init 348 = .ok (.dup, 1) := by decide +kernel
theorem dX12_init_349 : decode cX12_init 349 = .ok (.iconst 3, 1) := by decide +kernel
theorem dX12_init_350 : decode cX12_init 350 = .ok (.iconst 0, 1) := by decide +kernel
theorem dX12_init_351 : decode cX12_init 351 = .ok (.bastore, 1) := by decide +kernel
theorem dX12_init_352 : decode cX12_init 352 = .ok (.dup, 1) := by decide +kernel
theorem dX12_init_353 : decode cX12_init 353 = .ok (.iconst 4, 1) := by decide +kernel
theorem dX12_init_354 : decode cX12_init 354 = .ok (.iconst 0, 1) := by decide +kernel
theorem dX12_init_355 : decode cX12_init 355 = .ok (.bastore, 1) := by decide +kernel
theorem dX12_init_356 : decode cX12_init 356 = .ok (.dup, 1) := by decide +kernel
theorem dX12_init_357 : decode cX12_init 357 = .ok (.iconst 5, 1) := by decide +kernel
theorem dX12_init_358 : decode cX12_init 358 = .ok (.bipush 97, 2) := by decide +kernel
theorem dX12_init_360 : decode cX12_init 360 = .ok (.bastore, 1) := by decide +kernel
theorem dX12_init_361 : decode cX12_init 361 = .ok (.dup, 1) := by decide +kernel
theorem dX12_init_362 : decode cX12_init 362 = .ok (.bipush 6, 2) := by decide +kernel
theorem dX12_init_364 : decode cX12_init 364 = .ok (.bipush 110, 2) := by decide +kernel
theorem dX12_init_366 : decode cX12_init 366 = .ok (.bastore, 1) := by decide +kernel
theorem dX12_init_367 : decode cX12_init 367 = .ok (.dup, 1) := by decide +kernel
theorem dX12_init_368 : decode cX12_init 368 = .ok (.bipush 7, 2) := by decide +kernel
theorem dX12_init_370 : decode cX12_init 370 = .ok (.bipush 100, 2) := by decide +kernel
theorem dX12_init_372 : decode cX12_init 372 = .ok (.bastore, 1) := by decide +kernel
theorem dX12_init_373 : decode cX12_init 373 = .ok (.dup, 1) := by decide +kernel
theorem dX12_init_374 : decode cX12_init 374 = .ok (.bipush 8, 2) := by decide +kernel
theorem dX12_init_376 : decode cX12_init 376 = .ok (.iconst 0, 1) := by decide +kernel
theorem dX12_init_377 : decode cX12_init 377 = .ok (.bastore, 1) := by decide +kernel
theorem dX12_init_378 : decode cX12_init 378 = .ok (.dup, 1) := by decide +kernel
theorem dX12_init_379 : decode cX12_init 379 = .ok (.bipush 9, 2) := by decide +kernel
theorem dX12_init_381 : decode cX12_init 381 = .ok (.iconst 0, 1) := by decide +kernel
theorem dX12_init_382 : decode cX12_init 382 = .ok (.bastore, 1) := by decide +kernel
theorem dX12_init_383 : decode cX12_init 383 = .ok (.dup, 1) := by decide +kernel
theorem dX12_init_384 : decode cX12_init 384 = .ok (.bipush 10, 2) := by decide +kernel
theorem dX12_init_386 : decode cX12_init 386 = .ok (.bipush 110, 2) := by decide +kernel
theorem dX12_init_388 : decode cX12_init 388 = .ok (.bastore, 1) := by decide +kernel
theorem dX12_init_389 : decode cX12_init 389 = .ok (.dup, 1) := by decide +kernel
theorem dX12_init_390 : decode cX12_init 390 = .ok (.bipush 11, 2) := by decide +kernel
theorem dX12_init_392 : decode cX12_init 392 = .ok (.bipush 111, 2) := by decide +kernel
theorem dX12_init_394 : decode cX12_init 394 = .ok (.bastore, 1) := by decide +kernel
theorem dX12_init_395 : decode cX12_init 395 = .ok (.dup, 1) := by decide +kernel
theorem dX12_init_396 : decode cX12_init 396 = .ok (.bipush 12, 2) := by decide +kernel
theorem dX12_init_398 : decode cX12_init 398 = .ok (.bipush 116, 2) := by decide +kernel
theorem dX12_init_400 : decode cX12_init 400 = .ok (.bastore, 1) := by decide +kernel
theorem dX12_init_401 : decode cX12_init 401 = .ok (.dup, 1) := by decide +kernel
theorem dX12_init_402 : decode cX12_init 402 = .ok (.bipush 13, 2) := by decide +kernel
theorem dX12_init_404 : decode cX12_init 404 = .ok (.iconst 0, 1) := by decide +kernel
theorem dX12_init_405 : decode cX12_init 405 = .ok (.bastore, 1) := by decide +kernel
theorem dX12_init_406 : decode cX12_init 406 = .ok (.dup, 1) := by decide +kernel
theorem dX12_init_407 : decode cX12_init 407 = .ok (.bipush 14, 2) := by decide +kernel
theorem dX12_init_409 : decode cX12_init 409 = .ok (.iconst 0, 1) := by decide +kernel
theorem dX12_init_410 : decode cX12_init 410 = .ok (.bastore, 1) := by decide +kernel
theorem dX12_init_411 : decode cX12_init 411 = .ok (.dup, 1) := by decide +kernel
theorem dX12_init_412 : decode cX12_init 412 = .ok (.bipush 15, 2) := by decide +kernel
theorem dX12_init_414 : decode cX12_init 414 = .ok (.bipush 100, 2) := by decide +kernel
theorem dX12_init_416 : decode cX12_init 416 = .ok (.bastore, 1) := by decide +kernel
theorem dX12_init_417 : decode cX12_init 417 = .ok (.dup, 1) := by decide +kernel
theorem dX12_init_418 : decode cX12_init 418 = .ok (.bipush 16, 2) := by decide +kernel
theorem dX12_init_420 : decode cX12_init 420 = .ok (.bipush 101, 2) := by decide +kernel
theorem dX12_init_422 : decode cX12_init 422 = .ok (.bastore, 1) := by decide +kernel
theorem dX12_init_423 : decode cX12_init 423 = .ok (.dup, 1) := by decide +kernel
theorem dX12_init_424 : decode cX12_init 424 = .ok (.bipush 17, 2) := by decide +kernel
theorem dX12_init_426 : decode cX12_init 426 = .ok (.bipush 112, 2) := by decide +kernel
theorem dX12_init_428 : decode cX12_init 428 = .ok (.bastore, 1) := by decide +kernel
theorem dX12_init_429 : decode cX12_init 429 = .ok (.dup, 1) := by decide +kernel
theorem dX12_init_430 : decode cX12_init 430 = .ok (.bipush 18, 2) := by decide +kernel
theorem dX12_init_432 : decode cX12_init 432 = .ok (.bipush 116, 2) := by decide +kernel
theorem dX12_init_434 : decode cX12_init 434 = .ok (.bastore, 1) := by decide +kernel
theorem dX12_init_435 : decode cX12_init 435 = .ok (.dup, 1) := by decide +kernel
theorem dX12_init_436 : decode cX12_init 436 = .ok (.bipush 19, 2) := by decide +kernel
theorem dX12_init_438 : decode cX12_init 438 = .ok (.bipush 104, 2) := by decide +kernel
theorem dX12_init_440 : decode cX12_init 440 = .ok (.bastore, 1) := by decide +kernel
theorem dX12_init_441 : decode cX12_init 441 = .ok (.dup, 1) := by decide +kernel
theorem dX12_init_442 : decode cX12_init 442 = .ok (.bipush 20, 2) := by decide +kernel
theorem dX12_init_444 : decode cX12_init 444 = .ok (.bipush 115, 2) := by decide +kernel
theorem dX12_init_446 : decode cX12_init 446 = .ok (.bastore, 1) := by decide +kernel
theorem dX12_init_447 : decode cX12_init 447 = .ok (.dup, 1) := by decide +kernel
theorem dX12_init_448 : decode cX12_init 448 = .ok (.bipush 21, 2) := by decide +kernel
theorem dX12_init_450 : decode cX12_init 450 = .ok (.bipush 101, 2) := by decide +kernel
theorem dX12_init_452 : decode cX12_init 452 = .ok (.bastore, 1) := by decide +kernel
theorem dX12_init_453 : decode cX12_init 453 = .ok (.dup, 1) := by decide +kernel
theorem dX12_init_454 : decode cX12_init 454 = .ok (.bipush 22, 2) := by decide +kernel
theorem dX12_init_456 : decode cX12_init 456 = .ok (.bipush 97, 2) := by decide +kernel
theorem dX12_init_458 : decode cX12_init 458 = .ok (.bastore, 1) := by decide +kernel
theorem dX12_init_459 : decode cX12_init 459 = .ok (.dup, 1) := by decide +kernel
theorem dX12_init_460 : decode cX12_init 460 = .ok (.bipush 23, 2) := by decide +kernel
theorem dX12_init_462 : decode cX12_init 462 = .ok (.iconst 0, 1) := by decide +kernel
theorem dX12_init_463 : decode cX12_init 463 = .ok (.bastore, 1) := by decide +kernel
theorem dX12_init_464 : decode cX12_init 464 = .ok (.dup, 1) := by decide +kernel
theorem dX12_init_465 : decode cX12_init 465 = .ok (.bipush 24, 2) := by decide +kernel
theorem dX12_init_467 : decode cX12_init 467 = .ok (.iconst 0, 1) := by decide +kernel
theorem dX12_init_468 : decode cX12_init 468 = .ok (.bastore, 1) := by decide +kernel
theorem dX12_init_469 : decode cX12_init 469 = .ok (.dup, 1) := by decide +kernel
theorem dX12_init_470 : decode cX12_init 470 = .ok (.bipush 25, 2) := by decide +kernel
theorem dX12_init_472 : decode cX12_init 472 = .ok (.bipush 119, 2) := by decide +kernel
theorem dX12_init_474 : decode cX12_init 474 = .ok (.bastore, 1) := by decide +kernel
theorem dX12_init_475 : decode cX12_init 475 = .ok (.dup, 1) := by decide +kernel
theorem dX12_init_476 : decode cX12_init 476 = .ok (.bipush 26, 2) := by decide +kernel
theorem dX12_init_478 : decode cX12_init 478 = .ok (.bipush 97, 2) := by decide +kernel
theorem dX12_init_480 : decode cX12_init 480 = .ok (.bastore, 1) := by decide +kernel
theorem dX12_init_481 : decode cX12_init 481 = .ok (.dup, 1) := by decide +kernel
theorem dX12_init_482 : decode cX12_init 482 = .ok (.bipush 27, 2) := by decide +kernel
theorem dX12_init_484 : decode cX12_init 484 = .ok (.bipush 118, 2) := by decide +kernel
theorem dX12_init_486 : decode cX12_init 486 = .ok (.bastore, 1) := by decide +kernel
theorem dX12_init_487 : decode cX12_init 487 = .ok (.dup, 1) := by decide +kernel
theorem dX12_init_488 : decode cX12_init 488 = .ok (.bipush 28, 2) := by decide +kernel
theorem dX12_init_490 : decode cX12_init 490 = .ok (.bipush 101, 2) := by decide +kernel
theorem dX12_init_492 : decode cX12_init 492 = .ok (.bastore, 1) := by decide +kernel
theorem dX12_init_493 : decode cX12_init 493 = .ok (.dup, 1) := by decide +kernel
theorem dX12_init_494 : decode cX12_init 494 = .ok (.bipush 29, 2) := by decide +kernel
theorem dX12_init_496 : decode cX12_init 496 = .ok (.iconst 0, 1) := by decide +kernel
theorem dX12_init_497 : decode cX12_init 497 = .ok (.bastore, 1) := by decide +kernel
theorem dX12_init_498 : decode cX12_init 498 = .ok (.dup, 1) := by decide +kernel
theorem dX12_init_499 : decode cX12_init 499 = .ok (.bipush 30, 2) := by decide +kernel
theorem dX12_init_501 : decode cX12_init 501 = .ok (.bipush 97, 2) := by decide +kernel
theorem dX12_init_503 : decode cX12_init 503 = .ok (.bastore, 1) := by decide +kernel
theorem dX12_init_504 : decode cX12_init 504 = .ok (.dup, 1) := by decide +kernel
theorem dX12_init_505 : decode cX12_init 505 = .ok (.bipush 31, 2) := by decide +kernel
theorem dX12_init_507 : decode cX12_init 507 = .ok (.bipush 103, 2) := by decide +kernel
theorem dX12_init_509 : decode cX12_init 509 = .ok (.bastore, 1) := by decide +kernel
theorem dX12_init_510 : decode cX12_init 510 = .ok (.dup, 1) := by decide +kernel
theorem dX12_init_511 : decode cX12_init 511 = .ok (.bipush 32, 2) := by decide +kernel
theorem dX12_init_513 : decode cX12_init 513 = .ok (.bipush 101, 2) := by decide +kernel
theorem dX12_init_515 : decode cX12_init 515 = .ok (.bastore, 1) := by decide +kernel
theorem dX12_init_516 : decode cX12_init 516 = .ok (.dup, 1) := by decide +kernel
theorem dX12_init_517 : decode cX12_init 517 = .ok (.bipush 33, 2) := by decide +kernel
theorem dX12_init_519 : decode cX12_init 519 = .ok (.iconst 0, 1) := by decide +kernel
theorem dX12_init_520 : decode cX12_init 520 = .ok (.bastore, 1) := by decide +kernel
theorem dX12_init_521 : decode cX12_init 521 = .ok (.dup, 1) := by decide +kernel
theorem dX12_init_522 : decode cX12_init 522 = .ok (.bipush 34, 2) := by decide +kernel
theorem dX12_init_524 : decode cX12_init 524 = .ok (.iconst 0, 1) := by decide +kernel
theorem dX12_init_525 : decode cX12_init 525 = .ok (.bastore, 1) := by decide +kernel
theorem dX12_init_526 : decode cX12_init 526 = .ok (.dup, 1) := by decide +kernel
theorem dX12_init_527 : decode cX12_init 527 = .ok (.bipush 35, 2) := by decide +kernel
theorem dX12_init_529 : decode cX12_init 529 = .ok (.bipush 100, 2) := by decide +kernel
theorem dX12_init_531 : decode cX12_init 531 = .ok (.bastore, 1) := by decide +kernel
theorem dX12_init_532 : decode cX12_init 532 = .ok (.dup, 1) := by decide +kernel
theorem dX12_init_533 : decode cX12_init 533 = .ok (.bipush 36, 2) := by decide +kernel
theorem dX12_init_535 : decode cX12_init 535 = .ok (.bipush 105, 2) := by decide +kernel
theorem dX12_init_537 : decode cX12_init 537 = .ok (.bastore, 1) := by decide +kernel
theorem dX12_init_538 : decode cX12_init 538 = .ok (.dup, 1) := by decide +kernel
theorem dX12_init_539 : decode cX12_init 539 = .ok (.bipush 37, 2) := by decide +kernel
theorem dX12_init_541 : decode cX12_init 541 = .ok (.bipush 114, 2) := by decide +kernel
theorem dX12_init_543 : decode cX12_init 543 = .ok (.bastore, 1) := by decide +kernel
theorem dX12_init_544 : decode cX12_init 544 = .ok (.dup, 1) := by decide +kernel
theorem dX12_init_545 : decode cX12_init 545 = .ok (.bipush 38, 2) := by decide +kernel
theorem dX12_init_547 : decode cX12_init 547 = .ok (.bipush 116, 2) := by decide +kernel
theorem dX12_init_549 : decode cX12_init 549 = .ok (.bastore, 1) := by decide +kernel
theorem dX12_init_550 : decode cX12_init 550 = .ok (.dup, 1) := by decide +kernel
theorem dX12_init_551 : decode cX12_init 551 = .ok (.bipush 39, 2) := by decide +kernel
theorem dX12_init_553 : decode cX12_init 553 = .ok (.iconst 0, 1) := by decide +kernel
theorem dX12_init_554 : decode cX12_init 554 = .ok (.bastore, 1) := by decide +kernel
theorem dX12_init_555 : decode cX12_init 555 = .ok (.dup, 1) := by decide +kernel
theorem dX12_init_556 : decode cX12_init 556 = .ok (.bipush 40, 2) := by decide +kernel
theorem dX12_init_558 : decode cX12_init 558 = .ok (.bipush 104, 2) := by decide +kernel
theorem dX12_init_560 : decode cX12_init 560 = .ok (.bastore, 1) := by decide +kernel
theorem dX12_init_561 : decode cX12_init 561 = .ok (.dup, 1) := by decide +kernel
theorem dX12_init_562 : decode cX12_init 562 = .ok (.bipush 41, 2) := by decide +kernel
theorem dX12_init_564 : decode cX12_init 564 = .ok (.bipush 111, 2) := by decide +kernel
theorem dX12_init_566 : decode cX12_init 566 = .ok (.bastore, 1) := by decide +kernel
theorem dX12_init_567 : decode cX12_init 567 = .ok (.dup, 1) := by decide +kernel
theorem dX12_init_568 : decode cX12_init 568 = .ok (.bipush 42, 2) := by decide +kernel
theorem dX12_init_570 : decode cX12_init 570 = .ok (.bipush 117, 2) := by decide +kernel
theorem dX12_init_572 : decode cX12_init 572 = .ok (.bastore, 1) := by decide +kernel
theorem dX12_init_573 : decode cX12_init 573 = .ok (.dup, 1) := by decide +kernel
theorem dX12_init_574 : decode cX12_init 574 = .ok (.bipush 43, 2) := by decide +kernel
theorem dX12_init_576 : decode cX12_init 576 = .ok (.bipush 114, 2) := by decide +kernel
theorem dX12_init_578 : decode cX12_init 578 = .ok (.bastore, 1) := by decide +kernel
theorem dX12_init_579 : decode cX12_init 579 = .ok (.dup, 1) := by decide +kernel
theorem dX12_init_580 : decode cX12_init 580 = .ok (.bipush 44, 2) := by decide +kernel
theorem dX12_init_582 : decode cX12_init 582 = .ok (.iconst 0, 1) := by decide +kernel
theorem dX12_init_583 : decode cX12_init 583 = .ok (.bastore, 1) := by decide +kernel
theorem dX12_init_584 : decode cX12_init 584 = .ok (.dup, 1) := by decide +kernel
theorem dX12_init_585 : decode cX12_init 585 = .ok (.bipush 45, 2) := by decide +kernel
theorem dX12_init_587 : decode cX12_init 587 = .ok (.bipush 100, 2) := by decide +kernel
theorem dX12_init_589 : decode cX12_init 589 = .ok (.bastore, 1) := by decide +kernel
theorem dX12_init_590 : decode cX12_init 590 = .ok (.dup, 1) := by decide +kernel
theorem dX12_init_591 : decode cX12_init 591 = .ok (.bipush 46, 2) := by decide +kernel
theorem dX12_init_593 : decode cX12_init 593 = .ok (.bipush 97, 2) := by decide +kernel
theorem dX12_init_595 : decode cX12_init 595 = .ok (.bastore, 1) := by decide +kernel
theorem dX12_init_596 : decode cX12_init 596 = .ok (.dup, 1) := by decide +kernel
theorem dX12_init_597 : decode cX12_init 597 = .ok (.bipush 47, 2) := by decide +kernel
theorem dX12_init_599 : decode cX12_init 599 = .ok (.bipush 121, 2) := by decide +kernel
theorem dX12_init_601 : decode cX12_init 601 = .ok (.bastore, 1) := by decide +kernel
theorem dX12_init_602 : decode cX12_init 602 = .ok (.dup, 1) := by decide +kernel
theorem dX12_init_603 : decode cX12_init 603 = .ok (.bipush 48, 2) := by decide +kernel
theorem dX12_init_605 : decode cX12_init 605 = .ok (.iconst 0, 1) := by decide +kernel
theorem dX12_init_606 : decode cX12_init 606 = .ok (.bastore, 1) := by decide +kernel
theorem dX12_init_607 : decode cX12_init 607 = .ok (.dup, 1) := by decide +kernel
theorem dX12_init_608 : decode cX12_init 608 = .ok (.bipush 49, 2) := by decide +kernel
theorem dX12_init_610 : decode cX12_init 610 = .ok (.iconst 0, 1) := by decide +kernel
theorem dX12_init_611 : decode cX12_init 611 = .ok (.bastore, 1) := by decide +kernel
theorem dX12_init_612 : decode cX12_init 612 = .ok (.dup, 1) := by decide +kernel
theorem dX12_init_613 : decode cX12_init 613 = .ok (.bipush 50, 2) := by decide +kernel
theorem dX12_init_615 : decode cX12_init 615 = .ok (.bipush 116, 2) := by decide +kernel
theorem dX12_init_617 : decode cX12_init 617 = .ok (.bastore, 1) := by decide +kernel
theorem dX12_init_618 : decode cX12_init 618 = .ok (.dup, 1) := by decide +kernel
theorem dX12_init_619 : decode cX12_init 619 = .ok (.bipush 51, 2) := by decide +kernel
theorem dX12_init_621 : decode cX12_init 621 = .ok (.bipush 101, 2) := by decide +kernel
theorem dX12_init_623 : decode cX12_init 623 = .ok (.bastore, 1) := by decide +kernel
theorem dX12_init_624 : decode cX12_init 624 = .ok (.dup, 1) := by decide +kernel
theorem dX12_init_625 : decode cX12_init 625 = .ok (.bipush 52, 2) := by decide +kernel
theorem dX12_init_627 : decode cX12_init 627 = .ok (.bipush 115, 2) := by decide +kernel
theorem dX12_init_629 : decode cX12_init 629 = .ok (.bastore, 1) := by decide +kernel
theorem dX12_init_630 : decode cX12_init 630 = .ok (.dup, 1) := by decide +kernel
theorem dX12_init_631 : decode cX12_init 631 = .ok (.bipush 53, 2) := by decide +kernel
theorem dX12_init_633 : decode cX12_init 633 = .ok (.bipush 116, 2) := by decide +kernel
theorem dX12_init_635 : decode cX12_init 635 = .ok (.bastore, 1) := by decide +kernel
theorem dX12_init_636 : decode cX12_init 636 = .ok (.dup, 1) := by decide +kernel
theorem dX12_init_637 : decode cX12_init 637 = .ok (.bipush 54, 2) := by decide +kernel
theorem dX12_init_639 : decode cX12_init 639 = .ok (.iconst 0, 1) := by decide +kernel
theorem dX12_init_640 : decode cX12_init 640 = .ok (.bastore, 1) := by decide +kernel
theorem dX12_init_641 : decode cX12_init 641 = .ok (.putfield 112, 3) := by decide +kernel
theorem dX12_init_644 : decode cX12_init 644 = .ok (.aload_n 0, 1) := by decide +kernel
theorem dX12_init_645 : decode cX12_init 645 = .ok (.sipush 128, 3) := by decide +kernel
theorem dX12_init_648 : decode cX12_init 648 = .ok (.newarray .int, 2) := by decide +kernel
theorem dX12_init_650 : decode cX12_init 650 = .ok (.putfield 115, 3) := by decide +kernel
theorem dX12_init_653 : decode cX12_init 653 = .ok (.aload_n 0, 1) := by decide +kernel
theorem dX12_init_654 : decode cX12_init 654 = .ok (.bipush 8, 2) := by decide +kernel
theorem dX12_init_656 : decode cX12_init 656 = .ok (.newarray .int, 2) := by decide +kernel
theorem dX12_init_658 : decode cX12_init 658 = .ok (.putfield 118, 3) := by decide +kernel
theorem dX12_init_661 : decode cX12_init 661 = .ok (.aload_n 0, 1) := by decide +kernel
theorem dX12_init_662 : decode cX12_init 662 = .ok (.sipush 128, 3) := by decide +kernel
theorem dX12_init_665 : decode cX12_init 665 = .ok (.newarray .int, 2) := by decide +kernel
theorem dX12_init_667 : decode cX12_init 667 = .ok (.putfield 121, 3) := by decide +kernel
theorem dX12_init_670 : decode cX12_init 670 = .ok (.aload_n 0, 1) := by decide +kernel
theorem dX12_init_671 : decode cX12_init 671 = .ok (.bipush 10, 2) := by decide +kernel
theorem dX12_init_673 : decode cX12_init 673 = .ok (.newarray .int, 2) := by decide +kernel
theorem dX12_init_675 : decode cX12_init 675 = .ok (.putfield 124, 3) := by decide +kernel
theorem dX12_init_678 : decode cX12_init 678 = .ok (.aload_n 0, 1) := by decide +kernel
theorem dX12_init_679 : decode cX12_init 679 = .ok (.bipush 10, 2) := by decide +kernel
theorem dX12_init_681 : decode cX12_init 681 = .ok (.newarray .int, 2) := by decide +kernel
theorem dX12_init_683 : decode cX12_init 683 = .ok (.putfield 127, 3) := by decide +kernel
theorem dX12_init_686 : decode cX12_init 686 = .ok (.aload_n 0, 1) := by decide +kernel
theorem dX12_init_687 : decode cX12_init 687 = .ok (.sipush 1280, 3) := by decide +kernel
theorem dX12_init_690 : decode cX12_init 690 = .ok (.newarray .int, 2) := by decide +kernel
theorem dX12_init_692 : decode cX12_init 692 = .ok (.putfield 130, 3) := by decide +kernel
theorem dX12_init_695 : decode cX12_init 695 = .ok (.aload_n 0, 1) := by decide +kernel
theorem dX12_init_696 : decode cX12_init 696 = .ok (.bipush 80, 2) := by decide +kernel
theorem dX12_init_698 : decode cX12_init 698 = .ok (.newarray .int, 2) := by decide +kernel
theorem dX12_init_700 : decode cX12_init 700 = .ok (.putfield 133, 3) := by decide +kernel
theorem dX12_init_703 : decode cX12_init 703 = .ok (.aload_n 0, 1) := by decide +kernel
theorem dX12_init_704 : decode cX12_init 704 = .ok (.sipush 500, 3) := by decide +kernel
theorem dX12_init_707 : decode cX12_init 707 = .ok (.newarray .int, 2) := by decide +kernel
theorem dX12_init_709 : decode cX12_init 709 = .ok (.putfield 136, 3) := by decide +kernel
theorem dX12_init_712 : decode cX12_init 712 = .ok (.aload_n 0, 1) := by decide +kernel
theorem dX12_init_713 : decode cX12_init 713 = .ok (.sipush 500, 3) := by decide +kernel
theorem dX12_init_716 : decode cX12_init 716 = .ok (.newarray .int, 2) := by decide +kernel
theorem dX12_init_718 : decode cX12_init 718 = .ok (.putfield 139, 3) := by decide +kernel
theorem dX12_init_721 : decode cX12_init 721 = .ok (.aload_n 0, 1) := by decide +kernel
theorem dX12_init_722 : decode cX12_init 722 = .ok (.sipush 500, 3) := by decide +kernel
theorem dX12_init_725 : decode cX12_init 725 = .ok (.newarray .int, 2) := by decide +kernel
theorem dX12_init_727 : decode cX12_init 727 = .ok (.putfield 142, 3) := by decide +kernel
theorem dX12_init_730 : decode cX12_init 730 = .ok (.aload_n 0, 1) := by decide +kernel
theorem dX12_init_731 : decode cX12_init 731 = .ok (.sipush 500, 3) := by decide +kernel
theorem dX12_init_734 : decode cX12_init 734 = .ok (.newarray .int, 2) := by decide +kernel
theorem dX12_init_736 : decode cX12_init 736 = .ok (.putfield 145, 3) := by decide +kernel
theorem dX12_init_739 : decode cX12_init 739 = .ok (.aload_n 0, 1) := by decide +kernel
theorem dX12_init_740 : decode cX12_init 740 = .ok (.bipush 8, 2) := by decide +kernel
theorem dX12_init_742 : decode cX12_init 742 = .ok (.newarray .int, 2) := by decide +kernel
theorem dX12_init_744 : decode cX12_init 744 = .ok (.putfield 148, 3) := by decide +kernel
theorem dX12_init_747 : decode cX12_init 747 = .ok (.aload_n 0, 1) := by decide +kernel
theorem dX12_init_748 : decode cX12_init 748 = .ok (.sipush 128, 3) := by decide +kernel
theorem dX12_init_751 : decode cX12_init 751 = .ok (.newarray .boolean, 2) := by decide +kernel
theorem dX12_init_753 : decode cX12_init 753 = .ok (.putfield 151, 3) := by decide +kernel
theorem dX12_init_756 : decode cX12_init 756 = .ok (.aload_n 0, 1) := by decide +kernel
theorem dX12_init_757 : decode cX12_init 757 = .ok (.bipush 11, 2) := by decide +kernel
theorem dX12_init_759 : decode cX12_init 759 = .ok (.newarray .int, 2) := by decide +kernel
theorem dX12_init_761 : decode cX12_init 761 = .ok (.dup, 1) := by decide +kernel
theorem dX12_init_762 : decode cX12_init 762 = .ok (.iconst 0, 1) := by decide +kernel
theorem dX12_init_763 : decode cX12_init 763 = .ok (.iconst (-1), 1) := by decide +kernel
theorem dX12_init_764 : decode cX12_init 764 = .ok (.iastore, 1) := by decide +kernel
theorem dX12_init_765 : decode cX12_init 765 = .ok (.dup, 1) := by decide +kernel
theorem dX12_init_766 : decode cX12_init 766 = .ok (.iconst 1, 1) := by decide +kernel
theorem dX12_init_767 : decode cX12_init 767 = .ok (.iconst (-1), 1) := by decide +kernel
theorem dX12_init_768 : decode cX12_init 768 = .ok (.iastore, 1) := by decide +kernel
theorem dX12_init_769 : decode cX12_init 769 = .ok (.dup, 1) := by decide +kernel
theorem dX12_init_770 : decode cX12_init 770 = .ok (.iconst 2, 1) := by decide +kernel
theorem dX12_init_771 : decode cX12_init 771 = .ok (.iconst (-1), 1) := by decide +kernel
theorem dX12_init_772 : decode cX12_init 772 = .ok (.iastore, 1) := by decide +kernel
theorem dX12_init_773 : decode cX12_init 773 = .ok (.dup, 1) := by decide +kernel
theorem dX12_init_774 : decode cX12_init 774 = .ok (.iconst 3, 1) := by decide +kernel
theorem dX12_init_775 : decode cX12_init 775 = .ok (.iconst (-1), 1) := by decide +kernel
theorem dX12_init_776 : decode cX12_init 776 = .ok (.iastore, 1) := by decide +kernel
theorem dX12_init_777 : decode cX12_init 777 = .ok (.dup, 1) := by decide +kernel
theorem dX12_init_778 : decode cX12_init 778 = .ok (.iconst 4, 1) := by decide +kernel
theorem dX12_init_779 : decode cX12_init 779 = .ok (.iconst (-1), 1) := by decide +kernel
theorem dX12_init_780 : decode cX12_init 780 = .ok (.iastore, 1) := by decide +kernel
theorem dX12_init_781 : decode cX12_init 781 = .ok (.dup, 1) := by decide +kernel
theorem dX12_init_782 : decode cX12_init 782 = .ok (.iconst 5, 1) := by decide +kernel
theorem dX12_init_783 : decode cX12_init 783 = .ok (.iconst (-1), 1) := by decide +kernel
theorem dX12_init_784 : decode cX12_init 784 = .ok (.iastore, 1) := by decide +kernel
theorem dX12_init_785 : decode cX12_init 785 = .ok (.dup, 1) := by decide +kernel
theorem dX12_init_786 : decode cX12_init 786 = .ok (.bipush 6, 2) := by decide +kernel
theorem dX12_init_788 : decode cX12_init 788 = .ok (.iconst (-1), 1) := by decide +kernel
theorem dX12_init_789 : decode cX12_init 789 = .ok (.iastore, 1) := by decide +kernel
theorem dX12_init_790 : decode cX12_init 790 = .ok (.dup, 1) := by decide +kernel
theorem dX12_init_791 : decode cX12_init 791 = .ok (.bipush 7, 2) := by decide +kernel
theorem dX12_init_793 : decode cX12_init 793 = .ok (.iconst (-1), 1) := by decide +kernel
theorem dX12_init_794 : decode cX12_init 794 = .ok (.iastore, 1) := by decide +kernel
theorem dX12_init_795 : decode cX12_init 795 = .ok (.dup, 1) := by decide +kernel
theorem dX12_init_796 : decode cX12_init 796 = .ok (.bipush 8, 2) := by decide +kernel
theorem dX12_init_798 : decode cX12_init 798 = .ok (.iconst (-1), 1) := by decide +kernel
theorem dX12_init_799 : decode cX12_init 799 = .ok (.iastore, 1) := by decide +kernel
theorem dX12_init_800 : decode cX12_init 800 = .ok (.dup, 1) := by decide +kernel
theorem dX12_init_801 : decode cX12_init 801 = .ok (.bipush 9, 2) := by decide +kernel
theorem dX12_init_803 : decode cX12_init 803 = .ok (.iconst (-1), 1) := by decide +kernel
theorem dX12_init_804 : decode cX12_init 804 = .ok (.iastore, 1) := by decide +kernel
theorem dX12_init_805 : decode cX12_init 805 = .ok (.dup, 1) := by decide +kernel
theorem dX12_init_806 : decode cX12_init 806 = .ok (.bipush 10, 2) := by decide +kernel
theorem dX12_init_808 : decode cX12_init 808 = .ok (.iconst (-1), 1) := by decide +kernel
theorem dX12_init_809 : decode cX12_init 809 = .ok (.iastore, 1) := by decide +kernel
theorem dX12_init_810 : decode cX12_init 810 = .ok (.putfield 154, 3) := by decide +kernel
theorem dX12_init_813 : decode cX12_init 813 = .ok (.aload_n 0, 1) := by decide +kernel
theorem dX12_init_814 : decode cX12_init 814 = .ok (.iconst 4, 1) := by decide +kernel
theorem dX12_init_815 : decode cX12_init 815 = .ok (.newarray .int, 2) := by decide +kernel
theorem dX12_init_817 : decode cX12_init 817 = .ok (.putfield 157, 3) := by decide +kernel
theorem dX12_init_820 : decode cX12_init 820 = .ok (.aload_n 0, 1) := by decide +kernel
theorem dX12_init_821 : decode cX12_init 821 = .ok (.iconst 4, 1) := by decide +kernel
theorem dX12_init_822 : decode cX12_init 822 = .ok (.newarray .int, 2) := by decide +kernel
theorem dX12_init_824 : decode cX12_init 824 = .ok (.putfield 160, 3) := by decide +kernel
theorem dX12_init_827 : decode cX12_init 827 = .ok (.aload_n 0, 1) := by decide +kernel
theorem dX12_init_828 : decode cX12_init 828 = .ok (.iconst 4, 1) := by decide +kernel
theorem dX12_init_829 : decode cX12_init 829 = .ok (.newarray .int, 2) := by decide +kernel
theorem dX12_init_831 : decode cX12_init 831 = .ok (.putfield 163, 3) := by decide +kernel
theorem dX12_init_834 : decode cX12_init 834 = .ok (.aload_n 0, 1) := by decide +kernel
theorem dX12_init_835 : decode cX12_init 835 = .ok (.iconst 4, 1) := by decide +kernel
theorem dX12_init_836 : decode cX12_init 836 = .ok (.newarray .int, 2) := by decide +kernel
theorem dX12_init_838 : decode cX12_init 838 = .ok (.putfield 166, 3) := by decide +kernel
theorem dX12_init_841 : decode cX12_init 841 = .ok (.aload_n 0, 1) := by decide +kernel
theorem dX12_init_842 : decode cX12_init 842 = .ok (.bipush 11, 2) := by decide +kernel
theorem dX12_init_844 : decode cX12_init 844 = .ok (.newarray .int, 2) := by decide +kernel
theorem dX12_init_846 : decode cX12_init 846 = .ok (.putfield 169, 3) := by decide +kernel
theorem dX12_init_849 : decode cX12_init 849 = .ok (.aload_n 0, 1) := by decide +kernel
theorem dX12_init_850 : decode cX12_init 850 = .ok (.sipush 220, 3) := by decide +kernel
theorem dX12_init_853 : decode cX12_init 853 = .ok (.newarray .int, 2) := by decide +kernel
theorem dX12_init_855 : decode cX12_init 855 = .ok (.putfield 172, 3) := by decide +kernel
theorem dX12_init_858 : decode cX12_init 858 = .ok (.aload_n 0, 1) := by decide +kernel
theorem dX12_init_859 : decode cX12_init 859 = .ok (.sipush 220, 3) := by decide +kernel
theorem dX12_init_862 : decode cX12_init 862 = .ok (.newarray .int, 2) := by decide +kernel
theorem dX12_init_864 : decode cX12_init 864 = .ok (.putfield 175, 3) := by decide +kernel
theorem dX12_init_867 : decode cX12_init 867 = .ok (.aload_n 0, 1) := by decide +kernel
theorem dX12_init_868 : decode cX12_init 868 = .ok (.sipush 220, 3) := by decide +kernel
theorem dX12_init_871 : decode cX12_init 871 = .ok (.newarray .int, 2) := by decide +kernel
theorem dX12_init_873 : decode cX12_init 873 = .ok (.putfield 178, 3) := by decide +kernel
theorem dX12_init_876 : decode cX12_init 876 = .ok (.aload_n 0, 1) := by decide +kernel
theorem dX12_init_877 : decode cX12_init 877 = .ok (.bipush 11, 2) := by decide +kernel
theorem dX12_init_879 : decode cX12_init 879 = .ok (.newarray .int, 2) := by decide +kernel
theorem dX12_init_881 : decode cX12_init 881 = .ok (.putfield 181, 3) := by decide +kernel
theorem dX12_init_884 : decode cX12_init 884 = .ok (.aload_n 0, 1) := by decide +kernel
theorem dX12_init_885 : decode cX12_init 885 = .ok (.bipush 88, 2) := by decide +kernel
theorem dX12_init_887 : decode cX12_init 887 = .ok (.newarray .int, 2) := by decide +kernel
theorem dX12_init_889 : decode cX12_init 889 = .ok (.putfield 184, 3) := by decide +kernel
theorem dX12_init_892 : decode cX12_init 892 = .ok (.aload_n 0, 1) := by decide +kernel
theorem dX12_init_893 : decode cX12_init 893 = .ok (.bipush 88, 2) := by decide +kernel
theorem dX12_init_895 : decode cX12_init 895 = .ok (.newarray .int, 2) := by decide +kernel
theorem dX12_init_897 : decode cX12_init 897 = .ok (.putfield 187, 3) := by decide +kernel
theorem dX12_init_900 : decode cX12_init 900 = .ok (.aload_n 0, 1) := by decide +kernel
theorem dX12_init_901 : decode cX12_init 901 = .ok (.bipush 36, 2) := by decide +kernel
theorem dX12_init_903 : decode cX12_init 903 = .ok (.newarray .int, 2) := by decide +kernel
theorem dX12_init_905 : decode cX12_init 905 = .ok (.putfield 190, 3) := by decide +kernel
theorem dX12_init_908 : decode cX12_init 908 = .ok (.aload_n 0, 1) := by decide +kernel
theorem dX12_init_909 : decode cX12_init 909 = .ok (.bipush 36, 2) := by decide +kernel
theorem dX12_init_911 : decode cX12_init 911 = .ok (.newarray .int, 2) := by decide +kernel
theorem dX12_init_913 : decode cX12_init 913 = .ok (.putfield 193, 3) := by decide +kernel
theorem dX12_init_916 : decode cX12_init 916 = .ok (.aload_n 0, 1) := by decide +kernel
theorem dX12_init_917 : decode cX12_init 917 = .ok (.bipush 10, 2) := by decide +kernel
theorem dX12_init_919 : decode cX12_init 919 = .ok (.newarray .int, 2) := by decide +kernel
theorem dX12_init_921 : decode cX12_init 921 = .ok (.putfield 196, 3) := by decide +kernel
theorem dX12_init_924 : decode cX12_init 924 = .ok (.aload_n 0, 1) := by decide +kernel
theorem dX12_init_925 : decode cX12_init 925 = .ok (.bipush 10, 2) := by decide +kernel
theorem dX12_init_927 : decode cX12_init 927 = .ok (.newarray .int, 2) := by decide +kernel
theorem dX12_init_929 : decode cX12_init 929 = .ok (.putfield 199, 3) := by decide +kernel
theorem dX12_init_932 : decode cX12_init 932 = .ok (.aload_n 0, 1) := by decide +kernel
theorem dX12_init_933 : decode cX12_init 933 = .ok (.bipush 10, 2) := by decide +kernel
theorem dX12_init_935 : decode cX12_init 935 = .ok (.newarray .int, 2) := by decide +kernel
theorem dX12_init_937 : decode cX12_init 937 = .ok (.putfield 202, 3) := by decide +kernel
theorem dX12_init_940 : decode cX12_init 940 = .ok (.aload_n 0, 1) := by decide +kernel
theorem dX12_init_941 : decode cX12_init 941 = .ok (.bipush 10, 2) := by decide +kernel
theorem dX12_init_943 : decode cX12_init 943 = .ok (.newarray .int, 2) := by decide +kernel
theorem dX12_init_945 : decode cX12_init 945 = .ok (.putfield 205, 3) := by decide +kernel
theorem dX12_init_948 : decode cX12_init 948 = .ok (.aload_n 0, 1) := by decide +kernel
theorem dX12_init_949 : decode cX12_init 949 = .ok (.bipush 10, 2) := by decide +kernel
theorem dX12_init_951 : decode cX12_init 951 = .ok (.newarray .int, 2) := by decide +kernel
theorem dX12_init_953 : decode cX12_init 953 = .ok (.putfield 208, 3) := by decide +kernel
theorem dX12_init_956 : decode cX12_init 956 = .ok (.return_, 1) := by decide +kernel
theorem dX12_in_0 : decode cX12_in 0 = .ok (.iload_n 0, 1) := by decide +kernel
theorem dX12_in_1 : decode cX12_in 1 = .ok (.iload_n 1, 1) := by decide +kernel
theorem dX12_in_2 : decode cX12_in 2 = .ok (.if_icmp .lt 12, 3) := by decide +kernel
theorem dX12_in_5 : decode cX12_in 5 = .ok (.iload_n 0, 1) := by decide +kernel
theorem dX12_in_6 : decode cX12_in 6 = .ok (.iload_n 2, 1) := by decide +kernel
theorem dX12_in_7 : decode cX12_in 7 = .ok (.if_icmp .gt 7, 3) := by decide +kernel
theorem dX12_in_10 : decode cX12_in 10 = .ok (.iconst 1, 1) := by decide +kernel
theorem dX12_in_11 : decode cX12_in 11 = .ok (.goto 4, 3) := by decide +kernel
theorem dX12_in_14 : decode cX12_in 14 = .ok (.iconst 0, 1) := by decide +kernel
theorem dX12_in_15 : decode cX12_in 15 = .ok (.ireturn, 1) := by decide +kernel
theorem dX12_isHour_0 : decode cX12_isHour 0 = .ok (.iload_n 0, 1) := by decide +kernel
theorem dX12_isHour_1 : decode cX12_isHour 1 = .ok (.iconst 0, 1) := by decide +kernel
theorem dX12_isHour_2 : decode cX12_isHour 2 = .ok (.sipush 2399, 3) := by decide +kernel
theorem dX12_isHour_5 : decode cX12_isHour 5 = .ok (.invokestatic 211, 3) := by decide +kernel
theorem dX12_isHour_8 : decode cX12_isHour 8 = .ok (.ireturn, 1) := by decide +kernel
theorem dX12_isDay_0 : decode cX12_isDay 0 = .ok (.iload_n 0, 1) := by decide +kernel
theorem dX12_isDay_1 : decode cX12_isDay 1 = .ok (.iconst 0, 1) := by decide +kernel
theorem dX12_isDay_2 : decode cX12_isDay 2 = .ok (.bipush 99, 2) := by decide +kernel
theorem dX12_isDay_4 : decode cX12_isDay 4 = .ok (.invokestatic 211, 3) := by decide +kernel
theorem dX12_isDay_7 : decode cX12_isDay 7 = .ok (.ireturn, 1) := by decide +kernel
theorem dX12_isOver_0 : decode cX12_isOver 0 = .ok (.aload_n 0, 1) := by decide +kernel
theorem dX12_isOver_1 : decode cX12_isOver 1 = .ok (.getfield 215, 3) := by decide +kernel
theorem dX12_isOver_4 : decode cX12_isOver 4 = .ok (.sipush 14400, 3) := by decide +kernel
theorem dX12_isOver_7 : decode cX12_isOver 7 = .ok (.if_icmp .ne 7, 3) := by decide +kernel
theorem dX12_isOver_14 : decode cX12_isOver 14 = .ok (.iconst 0, 1) := by decide +kernel
theorem dX12_isOver_15 : decode cX12_isOver 15 = .ok (.ireturn, 1) := by decide +kernel
theorem dX12_turn_0 : decode cX12_turn 0 = .ok (.aload_n 0, 1) := by decide +kernel
theorem dX12_turn_1 : decode cX12_turn 1 = .ok (.getfield 219, 3) := by decide +kernel
theorem dX12_turn_4 : decode cX12_turn 4 = .ok (.sipush 500, 3) := by decide +kernel
theorem dX12_turn_7 : decode cX12_turn 7 = .ok (.if_icmp .eq 34, 3) := by decide +kernel
theorem dX12_turn_10 : decode cX12_turn 10 = .ok (.aload_n 0, 1) := by decide +kernel
theorem dX12_turn_11 : decode cX12_turn 11 = .ok (.invokevirtual 222, 3) := by decide +kernel
theorem dX12_turn_14 : decode cX12_turn 14 = .ok (.ifCond .ne 27, 3) := by decide +kernel
theorem dX12_turn_17 : decode cX12_turn 17 = .ok (.iload_n 1, 1) := by decide +kernel
theorem dX12_turn_18 : decode cX12_turn 18 = .ok (.iconst 0, 1) := by decide +kernel
theorem dX12_turn_19 : decode cX12_turn 19 = .ok (.sipush 14399, 3) := by decide +kernel
theorem dX12_turn_22 : decode cX12_turn 22 = .ok (.invokestatic 211, 3) := by decide +kernel
theorem dX12_turn_25 : decode cX12_turn 25 = .ok (.ifCond .eq 16, 3) := by decide +kernel
theorem dX12_turn_28 : decode cX12_turn 28 = .ok (.iload_n 2, 1) := by decide +kernel
theorem dX12_turn_29 : decode cX12_turn 29 = .ok (.sipush (-500), 3) := by decide +kernel
theorem dX12_turn_32 : decode cX12_turn 32 = .ok (.sipush 900, 3) := by decide +kernel
theorem dX12_turn_35 : decode cX12_turn 35 = .ok (.invokestatic 211, 3) := by decide +kernel
theorem dX12_turn_38 : decode cX12_turn 38 = .ok (.ifCond .ne 5, 3) := by decide +kernel
theorem dX12_turn_41 : decode cX12_turn 41 = .ok (.iconst (-1), 1) := by decide +kernel
theorem dX12_turn_42 : decode cX12_turn 42 = .ok (.ireturn, 1) := by decide +kernel
theorem dX12_turn_43 : decode cX12_turn 43 = .ok (.aload_n 0, 1) := by decide +kernel
theorem dX12_turn_44 : decode cX12_turn 44 = .ok (.getfield 219, 3) := by decide +kernel
theorem dX12_turn_47 : decode cX12_turn 47 = .ok (.ifCond .le 28, 3) := by decide +kernel
theorem dX12_turn_75 : decode cX12_turn 75 = .ok (.aload_n 0, 1) := by decide +kernel
theorem dX12_turn_76 : decode cX12_turn 76 = .ok (.getfield 7, 3) := by decide +kernel
theorem dX12_turn_79 : decode cX12_turn 79 = .ok (.aload_n 0, 1) := by decide +kernel
theorem dX12_turn_80 : decode cX12_turn 80 = .ok (.getfield 219, 3) := by decide +kernel
theorem dX12_turn_83 : decode cX12_turn 83 = .ok (.iload_n 1, 1) := by decide +kernel
theorem dX12_turn_84 : decode cX12_turn 84 = .ok (.iastore, 1) := by decide +kernel
theorem dX12_turn_85 : decode cX12_turn 85 = .ok (.aload_n 0, 1) := by decide +kernel
theorem dX12_turn_86 : decode cX12_turn 86 = .ok (.getfield 13, 3) := by decide +kernel
theorem dX12_turn_89 : decode cX12_turn 89 = .ok (.aload_n 0, 1) := by decide +kernel
theorem dX12_turn_90 : decode cX12_turn 90 = .ok (.getfield 219, 3) := by decide +kernel
theorem dX12_turn_93 : decode cX12_turn 93 = .ok (.iload_n 2, 1) := by decide +kernel
theorem dX12_turn_94 : decode cX12_turn 94 = .ok (.iastore, 1) := by decide +kernel
theorem dX12_turn_95 : decode cX12_turn 95 = .ok (.aload_n 0, 1) := by decide +kernel
theorem dX12_turn_96 : decode cX12_turn 96 = .ok (.dup, 1) := by decide +kernel
theorem dX12_turn_97 : decode cX12_turn 97 = .ok (.getfield 219, 3) := by decide +kernel
theorem dX12_turn_100 : decode cX12_turn 100 = .ok (.iconst 1, 1) := by decide +kernel
theorem dX12_turn_101 : decode cX12_turn 101 = .ok (.iadd, 1) := by decide +kernel
theorem dX12_turn_102 : decode cX12_turn 102 = .ok (.putfield 219, 3) := by decide +kernel
theorem dX12_turn_105 : decode cX12_turn 105 = .ok (.aload_n 0, 1) := by decide +kernel
theorem dX12_turn_106 : decode cX12_turn 106 = .ok (.getfield 219, 3) := by decide +kernel
theorem dX12_turn_109 : decode cX12_turn 109 = .ok (.ireturn, 1) := by decide +kernel
theorem dX12_seaAt_0 : decode cX12_seaAt 0 = .ok (.aload_n 0, 1) := by decide +kernel
theorem dX12_seaAt_1 : decode cX12_seaAt 1 = .ok (.getfield 219, 3) := by decide +kernel
theorem dX12_seaAt_4 : decode cX12_seaAt 4 = .ok (.ifCond .ne 5, 3) := by decide +kernel
theorem dX12_seaAt_7 : decode cX12_seaAt 7 = .ok (.iconst 0, 1) := by decide +kernel
theorem dX12_seaAt_8 : decode cX12_seaAt 8 = .ok (.ireturn, 1) := by decide +kernel
theorem dX12_sea_0 : decode cX12_sea 0 = .ok (.iload_n 1, 1) := by decide +kernel
theorem dX12_sea_1 : decode cX12_sea 1 = .ok (.iconst 0, 1) := by decide +kernel
theorem dX12_sea_2 : decode cX12_sea 2 = .ok (.sipush 14399, 3) := by decide +kernel
theorem dX12_sea_5 : decode cX12_sea 5 = .ok (.invokestatic 211, 3) := by decide +kernel
theorem dX12_sea_8 : decode cX12_sea 8 = .ok (.ifCond .eq 11, 3) := by decide +kernel
theorem dX12_sea_11 : decode cX12_sea 11 = .ok (.aload_n 0, 1) := by decide +kernel
theorem dX12_sea_12 : decode cX12_sea 12 = .ok (.iload_n 1, 1) := by decide +kernel
theorem dX12_sea_13 : decode cX12_sea 13 = .ok (.invokevirtual 226, 3) := by decide +kernel
theorem dX12_sea_16 : decode cX12_sea 16 = .ok (.goto 6, 3) := by decide +kernel
theorem dX12_sea_19 : decode cX12_sea 19 = .ok (.sipush (-1000), 3) := by decide +kernel
theorem dX12_sea_22 : decode cX12_sea 22 = .ok (.ireturn, 1) := by decide +kernel
theorem dX12_wave_0 : decode cX12_wave 0 = .ok (.aload_n 0, 1) := by decide +kernel
theorem dX12_wave_1 : decode cX12_wave 1 = .ok (.getfield 230, 3) := by decide +kernel
theorem dX12_wave_4 : decode cX12_wave 4 = .ok (.sipush 1500, 3) := by decide +kernel
theorem dX12_wave_7 : decode cX12_wave 7 = .ok (.if_icmp .eq 43, 3) := by decide +kernel
theorem dX12_wave_10 : decode cX12_wave 10 = .ok (.aload_n 0, 1) := by decide +kernel
theorem dX12_wave_11 : decode cX12_wave 11 = .ok (.invokevirtual 222, 3) := by decide +kernel
theorem dX12_wave_14 : decode cX12_wave 14 = .ok (.ifCond .ne 36, 3) := by decide +kernel
theorem dX12_wave_17 : decode cX12_wave 17 = .ok (.iload_n 1, 1) := by decide +kernel
theorem dX12_wave_18 : decode cX12_wave 18 = .ok (.invokestatic 233, 3) := by decide +kernel
theorem dX12_wave_21 : decode cX12_wave 21 = .ok (.ifCond .eq 29, 3) := by decide +kernel
theorem dX12_wave_24 : decode cX12_wave 24 = .ok (.iload_n 1, 1) := by decide +kernel
theorem dX12_wave_25 : decode cX12_wave 25 = .ok (.aload_n 0, 1) := by decide +kernel
theorem dX12_wave_26 : decode cX12_wave 26 = .ok (.getfield 215, 3) := by decide +kernel
theorem dX12_wave_29 : decode cX12_wave 29 = .ok (.bipush 6, 2) := by decide +kernel
theorem dX12_wave_31 : decode cX12_wave 31 = .ok (.idiv, 1) := by decide +kernel
theorem dX12_wave_32 : decode cX12_wave 32 = .ok (.sipush 240, 3) := by decide +kernel
theorem dX12_wave_35 : decode cX12_wave 35 = .ok (.iadd, 1) := by decide +kernel
theorem dX12_wave_36 : decode cX12_wave 36 = .ok (.if_icmp .gt 14, 3) := by decide +kernel
theorem dX12_wave_39 : decode cX12_wave 39 = .ok (.iload_n 2, 1) := by decide +kernel
theorem dX12_wave_40 : decode cX12_wave 40 = .ok (.iconst 0, 1) := by decide +kernel
theorem dX12_wave_41 : decode cX12_wave 41 = .ok (.sipush 500, 3) := by decide +kernel
theorem dX12_wave_44 : decode cX12_wave 44 = .ok (.invokestatic 211, 3) := by decide +kernel
theorem dX12_wave_47 : decode cX12_wave 47 = .ok (.ifCond .ne 5, 3) := by decide +kernel
theorem dX12_wave_50 : decode cX12_wave 50 = .ok (.iconst (-1), 1) := by decide +kernel
theorem dX12_wave_51 : decode cX12_wave 51 = .ok (.ireturn, 1) := by decide +kernel
theorem dX12_wave_52 : decode cX12_wave 52 = .ok (.aload_n 0, 1) := by decide +kernel
theorem dX12_wave_53 : decode cX12_wave 53 = .ok (.getfield 16, 3) := by decide +kernel
theorem dX12_wave_56 : decode cX12_wave 56 = .ok (.aload_n 0, 1) := by decide +kernel
theorem dX12_wave_57 : decode cX12_wave 57 = .ok (.getfield 230, 3) := by decide +kernel
theorem dX12_wave_60 : decode cX12_wave 60 = .ok (.iload_n 1, 1) := by decide +kernel
theorem dX12_wave_61 : decode cX12_wave 61 = .ok (.iastore, 1) := by decide +kernel
theorem dX12_wave_62 : decode cX12_wave 62 = .ok (.aload_n 0, 1) := by decide +kernel
theorem dX12_wave_63 : decode cX12_wave 63 = .ok (.getfield 19, 3) := by decide +kernel
theorem dX12_wave_66 : decode cX12_wave 66 = .ok (.aload_n 0, 1) := by decide +kernel
theorem dX12_wave_67 : decode cX12_wave 67 = .ok (.getfield 230, 3) := by decide +kernel
theorem dX12_wave_70 : decode cX12_wave 70 = .ok (.aload_n 0, 1) := by decide +kernel
theorem dX12_wave_71 : decode cX12_wave 71 = .ok (.getfield 215, 3) := by decide +kernel
theorem dX12_wave_74 : decode cX12_wave 74 = .ok (.bipush 6, 2) := by decide +kernel
theorem dX12_wave_76 : decode cX12_wave 76 = .ok (.idiv, 1) := by decide +kernel
theorem dX12_wave_77 : decode cX12_wave 77 = .ok (.iastore, 1) := by decide +kernel
theorem dX12_wave_78 : decode cX12_wave 78 = .ok (.aload_n 0, 1) := by decide +kernel
theorem dX12_wave_79 : decode cX12_wave 79 = .ok (.getfield 22, 3) := by decide +kernel
theorem dX12_wave_82 : decode cX12_wave 82 = .ok (.aload_n 0, 1) := by decide +kernel
theorem dX12_wave_83 : decode cX12_wave 83 = .ok (.getfield 230, 3) := by decide +kernel
theorem dX12_wave_86 : decode cX12_wave 86 = .ok (.iload_n 2, 1) := by decide +kernel
theorem dX12_wave_87 : decode cX12_wave 87 = .ok (.iastore, 1) := by decide +kernel
theorem dX12_wave_88 : decode cX12_wave 88 = .ok (.aload_n 0, 1) := by decide +kernel
theorem dX12_wave_89 : decode cX12_wave 89 = .ok (.dup, 1) := by decide +kernel
theorem dX12_wave_90 : decode cX12_wave 90 = .ok (.getfield 230, 3) := by decide +kernel
theorem dX12_wave_93 : decode cX12_wave 93 = .ok (.iconst 1, 1) := by decide +kernel
theorem dX12_wave_94 : decode cX12_wave 94 = .ok (.iadd, 1) := by decide +kernel
theorem dX12_wave_95 : decode cX12_wave 95 = .ok (.putfield 230, 3) := by decide +kernel
theorem dX12_wave_98 : decode cX12_wave 98 = .ok (.aload_n 0, 1) := by decide +kernel
theorem dX12_wave_99 : decode cX12_wave 99 = .ok (.getfield 230, 3) := by decide +kernel
theorem dX12_wave_102 : decode cX12_wave 102 = .ok (.ireturn, 1) := by decide +kernel
theorem dX12_waveAt_0 : decode cX12_waveAt 0 = .ok (.aload_n 0, 1) := by decide +kernel
theorem dX12_waveAt_1 : decode cX12_waveAt 1 = .ok (.getfield 230, 3) := by decide +kernel
theorem dX12_waveAt_4 : decode cX12_waveAt 4 = .ok (.iconst 1, 1) := by decide +kernel
theorem dX12_waveAt_5 : decode cX12_waveAt 5 = .ok (.isub, 1) := by decide +kernel
theorem dX12_waveAt_6 : decode cX12_waveAt 6 = .ok (.istore_n 3, 1) := by decide +kernel
theorem dX12_waveAt_7 : decode cX12_waveAt 7 = .ok (.iload_n 3, 1) := by decide +kernel
theorem dX12_waveAt_8 : decode cX12_waveAt 8 = .ok (.ifCond .lt 36, 3) := by decide +kernel
theorem dX12_waveAt_44 : decode cX12_waveAt 44 = .ok (.aload_n 0, 1) := by decide +kernel
theorem dX12_waveAt_45 : decode cX12_waveAt 45 = .ok (.getfield 25, 3) := by decide +kernel
theorem dX12_waveAt_48 : decode cX12_waveAt 48 = .ok (.iconst 0, 1) := by decide +kernel
theorem dX12_waveAt_49 : decode cX12_waveAt 49 = .ok (.iaload, 1) := by decide +kernel
theorem dX12_waveAt_50 : decode cX12_waveAt 50 = .ok (.ireturn, 1) := by decide +kernel
theorem dX12_waved_0 : decode cX12_waved 0 = .ok (.iload_n 1, 1) := by decide +kernel
theorem dX12_waved_1 : decode cX12_waved 1 = .ok (.invokestatic 233, 3) := by decide +kernel
theorem dX12_waved_4 : decode cX12_waved 4 = .ok (.ifCond .eq 19, 3) := by decide +kernel
theorem dX12_waved_7 : decode cX12_waved 7 = .ok (.iload_n 2, 1) := by decide +kernel
theorem dX12_waved_8 : decode cX12_waved 8 = .ok (.invokestatic 233, 3) := by decide +kernel
theorem dX12_waved_11 : decode cX12_waved 11 = .ok (.ifCond .eq 12, 3) := by decide +kernel
theorem dX12_waved_14 : decode cX12_waved 14 = .ok (.aload_n 0, 1) := by decide +kernel
theorem dX12_waved_15 : decode cX12_waved 15 = .ok (.iload_n 1, 1) := by decide +kernel
theorem dX12_waved_16 : decode cX12_waved 16 = .ok (.iload_n 2, 1) := by decide +kernel
theorem dX12_waved_17 : decode cX12_waved 17 = .ok (.invokevirtual 237, 3) := by decide +kernel
theorem dX12_waved_20 : decode cX12_waved 20 = .ok (.goto 4, 3) := by decide +kernel
theorem dX12_waved_23 : decode cX12_waved 23 = .ok (.iconst (-1), 1) := by decide +kernel
theorem dX12_waved_24 : decode cX12_waved 24 = .ok (.ireturn, 1) := by decide +kernel
theorem dX12_set_0 : decode cX12_set 0 = .ok (.iload_n 1, 1) := by decide +kernel
theorem dX12_set_1 : decode cX12_set 1 = .ok (.iconst 0, 1) := by decide +kernel
theorem dX12_set_2 : decode cX12_set 2 = .ok (.iconst 2, 1) := by decide +kernel
theorem dX12_set_3 : decode cX12_set 3 = .ok (.invokestatic 211, 3) := by decide +kernel
theorem dX12_set_6 : decode cX12_set 6 = .ok (.ifCond .eq 40, 3) := by decide +kernel
theorem dX12_set_9 : decode cX12_set 9 = .ok (.aload_n 0, 1) := by decide +kernel
theorem dX12_set_10 : decode cX12_set 10 = .ok (.invokevirtual 222, 3) := by decide +kernel
theorem dX12_set_13 : decode cX12_set 13 = .ok (.ifCond .ne 33, 3) := by decide +kernel
theorem dX12_set_16 : decode cX12_set 16 = .ok (.iload_n 2, 1) := by decide +kernel
theorem dX12_set_17 : decode cX12_set 17 = .ok (.iload_n 1, 1) := by decide +kernel
theorem dX12_set_18 : decode cX12_set 18 = .ok (.iconst 2, 1) := by decide +kernel
theorem dX12_set_19 : decode cX12_set 19 = .ok (.if_icmp .ne 7, 3) := by decide +kernel
theorem dX12_set_22 : decode cX12_set 22 = .ok (.iconst 1, 1) := by decide +kernel
theorem dX12_set_23 : decode cX12_set 23 = .ok (.goto 4, 3) := by decide +kernel
theorem dX12_set_26 : decode cX12_set 26 = .ok (.iconst 0, 1) := by decide +kernel
theorem dX12_set_27 : decode cX12_set 27 = .ok (.iload_n 1, 1) := by decide +kernel
theorem dX12_set_28 : decode cX12_set 28 = .ok (.iconst 2, 1) := by decide +kernel
theorem dX12_set_29 : decode cX12_set 29 = .ok (.if_icmp .ne 8, 3) := by decide +kernel
theorem dX12_set_32 : decode cX12_set 32 = .ok (.bipush 24, 2) := by decide +kernel
theorem dX12_set_34 : decode cX12_set 34 = .ok (.goto 6, 3) := by decide +kernel
theorem dX12_set_37 : decode cX12_set 37 = .ok (.sipush 500, 3) := by decide +kernel
theorem dX12_set_40 : decode cX12_set 40 = .ok (.invokestatic 211, 3) := by decide +kernel
theorem dX12_set_43 : decode cX12_set 43 = .ok (.ifCond .ne 5, 3) := by decide +kernel
theorem dX12_set_46 : decode cX12_set 46 = .ok (.iconst (-1), 1) := by decide +kernel
theorem dX12_set_47 : decode cX12_set 47 = .ok (.ireturn, 1) := by decide +kernel
theorem dX12_set_48 : decode cX12_set 48 = .ok (.aload_n 0, 1) := by decide +kernel
theorem dX12_set_49 : decode cX12_set 49 = .ok (.getfield 25, 3) := by decide +kernel
theorem dX12_set_52 : decode cX12_set 52 = .ok (.iload_n 1, 1) := by decide +kernel
theorem dX12_set_53 : decode cX12_set 53 = .ok (.iaload, 1) := by decide +kernel
theorem dX12_set_54 : decode cX12_set 54 = .ok (.istore_n 3, 1) := by decide +kernel
theorem dX12_set_55 : decode cX12_set 55 = .ok (.aload_n 0, 1) := by decide +kernel
theorem dX12_set_56 : decode cX12_set 56 = .ok (.getfield 25, 3) := by decide +kernel
theorem dX12_set_59 : decode cX12_set 59 = .ok (.iload_n 1, 1) := by decide +kernel
theorem dX12_set_60 : decode cX12_set 60 = .ok (.iload_n 2, 1) := by decide +kernel
theorem dX12_set_61 : decode cX12_set 61 = .ok (.iastore, 1) := by decide +kernel
theorem dX12_set_62 : decode cX12_set 62 = .ok (.iload_n 3, 1) := by decide +kernel
theorem dX12_set_63 : decode cX12_set 63 = .ok (.ireturn, 1) := by decide +kernel
theorem dX12_isPool_0 : decode cX12_isPool 0 = .ok (.iload_n 1, 1) := by decide +kernel
theorem dX12_isPool_1 : decode cX12_isPool 1 = .ok (.iconst 0, 1) := by decide +kernel
theorem dX12_isPool_2 : decode cX12_isPool 2 = .ok (.aload_n 0, 1) := by decide +kernel
theorem dX12_isPool_3 : decode cX12_isPool 3 = .ok (.getfield 241, 3) := by decide +kernel
theorem dX12_isPool_6 : decode cX12_isPool 6 = .ok (.iconst 1, 1) := by decide +kernel
theorem dX12_isPool_7 : decode cX12_isPool 7 = .ok (.isub, 1) := by decide +kernel
theorem dX12_isPool_8 : decode cX12_isPool 8 = .ok (.invokestatic 211, 3) := by decide +kernel
theorem dX12_isPool_11 : decode cX12_isPool 11 = .ok (.ireturn, 1) := by decide +kernel
theorem dX12_pool_0 : decode cX12_pool 0 = .ok (.aload_n 0, 1) := by decide +kernel
theorem dX12_pool_1 : decode cX12_pool 1 = .ok (.getfield 241, 3) := by decide +kernel
theorem dX12_pool_4 : decode cX12_pool 4 = .ok (.bipush 11, 2) := by decide +kernel
theorem dX12_pool_6 : decode cX12_pool 6 = .ok (.if_icmp .eq 91, 3) := by decide +kernel
theorem dX12_pool_9 : decode cX12_pool 9 = .ok (.aload_n 0, 1) := by decide +kernel
theorem dX12_pool_10 : decode cX12_pool 10 = .ok (.invokevirtual 222, 3) := by decide +kernel
theorem dX12_pool_13 : decode cX12_pool 13 = .ok (.ifCond .ne 84, 3) := by decide +kernel
theorem dX12_pool_16 : decode cX12_pool 16 = .ok (.iload_n 1, 1) := by decide +kernel
theorem dX12_pool_17 : decode cX12_pool 17 = .ok (.iconst 1, 1) := by decide +kernel
theorem dX12_pool_18 : decode cX12_pool 18 = .ok (.sipush 2000, 3) := by decide +kernel
theorem dX12_pool_21 : decode cX12_pool 21 = .ok (.invokestatic 211, 3) := by decide +kernel
theorem dX12_pool_24 : decode cX12_pool 24 = .ok (.ifCond .eq 73, 3) := by decide +kernel
theorem dX12_pool_27 : decode cX12_pool 27 = .ok (.iload_n 2, 1) := by decide +kernel
theorem dX12_pool_28 : decode cX12_pool 28 = .ok (.sipush (-300), 3) := by decide +kernel
theorem dX12_pool_31 : decode cX12_pool 31 = .ok (.sipush 800, 3) := by decide +kernel
theorem dX12_pool_34 : decode cX12_pool 34 = .ok (.invokestatic 211, 3) := by decide +kernel
theorem dX12_pool_37 : decode cX12_pool 37 = .ok (.ifCond .eq 60, 3) := by decide +kernel
theorem dX12_pool_40 : decode cX12_pool 40 = .ok (.iload_n 3, 1) := by decide +kernel
theorem dX12_pool_41 : decode cX12_pool 41 = .ok (.iload_n 2, 1) := by decide +kernel
theorem dX12_pool_42 : decode cX12_pool 42 = .ok (.iconst 1, 1) := by decide +kernel
theorem dX12_pool_43 : decode cX12_pool 43 = .ok (.iadd, 1) := by decide +kernel
theorem dX12_pool_44 : decode cX12_pool 44 = .ok (.sipush 900, 3) := by decide +kernel
theorem dX12_pool_47 : decode cX12_pool 47 = .ok (.invokestatic 211, 3) := by decide +kernel
theorem dX12_pool_50 : decode cX12_pool 50 = .ok (.ifCond .eq 47, 3) := by decide +kernel
theorem dX12_pool_53 : decode cX12_pool 53 = .ok (.iload 4, 2) := by decide +kernel
theorem dX12_pool_55 : decode cX12_pool 55 = .ok (.iload_n 2, 1) := by decide +kernel
theorem dX12_pool_56 : decode cX12_pool 56 = .ok (.iload_n 3, 1) := by decide +kernel
theorem dX12_pool_57 : decode cX12_pool 57 = .ok (.invokestatic 211, 3) := by decide +kernel
theorem dX12_pool_60 : decode cX12_pool 60 = .ok (.ifCond .eq 37, 3) := by decide +kernel
theorem dX12_pool_63 : decode cX12_pool 63 = .ok (.iload 5, 2) := by decide +kernel
theorem dX12_pool_65 : decode cX12_pool 65 = .ok (.iconst 0, 1) := by decide +kernel
theorem dX12_pool_66 : decode cX12_pool 66 = .ok (.bipush 100, 2) := by decide +kernel
theorem dX12_pool_68 : decode cX12_pool 68 = .ok (.invokestatic 211, 3) := by decide +kernel
theorem dX12_pool_71 : decode cX12_pool 71 = .ok (.ifCond .eq 26, 3) := by decide +kernel
theorem dX12_pool_74 : decode cX12_pool 74 = .ok (.iload 6, 2) := by decide +kernel
theorem dX12_pool_76 : decode cX12_pool 76 = .ok (.iconst 0, 1) := by decide +kernel
theorem dX12_pool_77 : decode cX12_pool 77 = .ok (.bipush 100, 2) := by decide +kernel
theorem dX12_pool_79 : decode cX12_pool 79 = .ok (.invokestatic 211, 3) := by decide +kernel
theorem dX12_pool_82 : decode cX12_pool 82 = .ok (.ifCond .eq 15, 3) := by decide +kernel
theorem dX12_pool_85 : decode cX12_pool 85 = .ok (.iload 7, 2) := by decide +kernel
theorem dX12_pool_87 : decode cX12_pool 87 = .ok (.iconst 0, 1) := by decide +kernel
theorem dX12_pool_88 : decode cX12_pool 88 = .ok (.iload_n 3, 1) := by decide +kernel
theorem dX12_pool_89 : decode cX12_pool 89 = .ok (.iload_n 2, 1) := by decide +kernel
theorem dX12_pool_90 : decode cX12_pool 90 = .ok (.isub, 1) := by decide +kernel
theorem dX12_pool_91 : decode cX12_pool 91 = .ok (.invokestatic 211, 3) := by decide +kernel
theorem dX12_pool_94 : decode cX12_pool 94 = .ok (.ifCond .ne 5, 3) := by decide +kernel
theorem dX12_pool_97 : decode cX12_pool 97 = .ok (.iconst (-1), 1) := by decide +kernel
theorem dX12_pool_98 : decode cX12_pool 98 = .ok (.ireturn, 1) := by decide +kernel
theorem dX12_pool_99 : decode cX12_pool 99 = .ok (.aload_n 0, 1) := by decide +kernel
theorem dX12_pool_100 : decode cX12_pool 100 = .ok (.getfield 31, 3) := by decide +kernel
theorem dX12_pool_103 : decode cX12_pool 103 = .ok (.aload_n 0, 1) := by decide +kernel
theorem dX12_pool_104 : decode cX12_pool 104 = .ok (.getfield 241, 3) := by decide +kernel
theorem dX12_pool_107 : decode cX12_pool 107 = .ok (.iload_n 1, 1) := by decide +kernel
theorem dX12_pool_108 : decode cX12_pool 108 = .ok (.iastore, 1) := by decide +kernel
theorem dX12_pool_109 : decode cX12_pool 109 = .ok (.aload_n 0, 1) := by decide +kernel
theorem dX12_pool_110 : decode cX12_pool 110 = .ok (.getfield 34, 3) := by decide +kernel
theorem dX12_pool_113 : decode cX12_pool 113 = .ok (.aload_n 0, 1) := by decide +kernel
theorem dX12_pool_114 : decode cX12_pool 114 = .ok (.getfield 241, 3) := by decide +kernel
theorem dX12_pool_117 : decode cX12_pool 117 = .ok (.iload_n 2, 1) := by decide +kernel
theorem dX12_pool_118 : decode cX12_pool 118 = .ok (.iastore, 1) := by decide +kernel
theorem dX12_pool_119 : decode cX12_pool 119 = .ok (.aload_n 0, 1) := by decide +kernel
theorem dX12_pool_120 : decode cX12_pool 120 = .ok (.getfield 37, 3) := by decide +kernel
theorem dX12_pool_123 : decode cX12_pool 123 = .ok (.aload_n 0, 1) := by decide +kernel
theorem dX12_pool_124 : decode cX12_pool 124 = .ok (.getfield 241, 3) := by decide +kernel
theorem dX12_pool_127 : decode cX12_pool 127 = .ok (.iload_n 3, 1) := by decide +kernel
theorem dX12_pool_128 : decode cX12_pool 128 = .ok (.iastore, 1) := by decide +kernel
theorem dX12_pool_129 : decode cX12_pool 129 = .ok (.aload_n 0, 1) := by decide +kernel
theorem dX12_pool_130 : decode cX12_pool 130 = .ok (.getfield 40, 3) := by decide +kernel
theorem dX12_pool_133 : decode cX12_pool 133 = .ok (.aload_n 0, 1) := by decide +kernel
theorem dX12_pool_134 : decode cX12_pool 134 = .ok (.getfield 241, 3) := by decide +kernel
theorem dX12_pool_137 : decode cX12_pool 137 = .ok (.iload 4, 2) := by decide +kernel
theorem dX12_pool_139 : decode cX12_pool 139 = .ok (.iastore, 1) := by decide +kernel
theorem dX12_pool_140 : decode cX12_pool 140 = .ok (.aload_n 0, 1) := by decide +kernel
theorem dX12_pool_141 : decode cX12_pool 141 = .ok (.getfield 43, 3) := by decide +kernel
theorem dX12_pool_144 : decode cX12_pool 144 = .ok (.aload_n 0, 1) := by decide +kernel
theorem dX12_pool_145 : decode cX12_pool 145 = .ok (.getfield 241, 3) := by decide +kernel
theorem dX12_pool_148 : decode cX12_pool 148 = .ok (.iload 5, 2) := by decide +kernel
theorem dX12_pool_150 : decode cX12_pool 150 = .ok (.iastore, 1) := by decide +kernel
theorem dX12_pool_151 : decode cX12_pool 151 = .ok (.aload_n 0, 1) := by decide +kernel
theorem dX12_pool_152 : decode cX12_pool 152 = .ok (.getfield 46, 3) := by decide +kernel
theorem dX12_pool_155 : decode cX12_pool 155 = .ok (.aload_n 0, 1) := by decide +kernel
theorem dX12_pool_156 : decode cX12_pool 156 = .ok (.getfield 241, 3) := by decide +kernel
theorem dX12_pool_159 : decode cX12_pool 159 = .ok (.iload 6, 2) := by decide +kernel
theorem dX12_pool_161 : decode cX12_pool 161 = .ok (.iastore, 1) := by decide +kernel
theorem dX12_pool_162 : decode cX12_pool 162 = .ok (.aload_n 0, 1) := by decide +kernel
theorem dX12_pool_163 : decode cX12_pool 163 = .ok (.getfield 62, 3) := by decide +kernel
theorem dX12_pool_166 : decode cX12_pool 166 = .ok (.aload_n 0, 1) := by decide +kernel
theorem dX12_pool_167 : decode cX12_pool 167 = .ok (.getfield 241, 3) := by decide +kernel
theorem dX12_pool_170 : decode cX12_pool 170 = .ok (.iload_n 1, 1) := by decide +kernel
theorem dX12_pool_171 : decode cX12_pool 171 = .ok (.iload 7, 2) := by decide +kernel
theorem dX12_pool_173 : decode cX12_pool 173 = .ok (.imul, 1) := by decide +kernel
theorem dX12_pool_174 : decode cX12_pool 174 = .ok (.iastore, 1) := by decide +kernel
theorem dX12_pool_175 : decode cX12_pool 175 = .ok (.aload_n 0, 1) := by decide +kernel
theorem dX12_pool_176 : decode cX12_pool 176 = .ok (.getfield 75, 3) := by decide +kernel
theorem dX12_pool_179 : decode cX12_pool 179 = .ok (.aload_n 0, 1) := by decide +kernel
theorem dX12_pool_180 : decode cX12_pool 180 = .ok (.getfield 241, 3) := by decide +kernel
theorem dX12_pool_183 : decode cX12_pool 183 = .ok (.aload_n 0, 1) := by decide +kernel
theorem dX12_pool_184 : decode cX12_pool 184 = .ok (.getfield 215, 3) := by decide +kernel
theorem dX12_pool_187 : decode cX12_pool 187 = .ok (.bipush 6, 2) := by decide +kernel
theorem dX12_pool_189 : decode cX12_pool 189 = .ok (.idiv, 1) := by decide +kernel
theorem dX12_pool_190 : decode cX12_pool 190 = .ok (.iastore, 1) := by decide +kernel
theorem dX12_pool_191 : decode cX12_pool 191 = .ok (.aload_n 0, 1) := by decide +kernel
theorem dX12_pool_192 : decode cX12_pool 192 = .ok (.dup, 1) := by decide +kernel
theorem dX12_pool_193 : decode cX12_pool 193 = .ok (.getfield 241, 3) := by decide +kernel
theorem dX12_pool_196 : decode cX12_pool 196 = .ok (.iconst 1, 1) := by decide +kernel
theorem dX12_pool_197 : decode cX12_pool 197 = .ok (.iadd, 1) := by decide +kernel
theorem dX12_pool_198 : decode cX12_pool 198 = .ok (.putfield 241, 3) := by decide +kernel
theorem dX12_pool_201 : decode cX12_pool 201 = .ok (.aload_n 0, 1) := by decide +kernel
theorem dX12_pool_202 : decode cX12_pool 202 = .ok (.getfield 241, 3) := by decide +kernel
theorem dX12_pool_205 : decode cX12_pool 205 = .ok (.iconst 1, 1) := by decide +kernel
theorem dX12_pool_206 : decode cX12_pool 206 = .ok (.isub, 1) := by decide +kernel
theorem dX12_pool_207 : decode cX12_pool 207 = .ok (.ireturn, 1) := by decide +kernel
theorem dX12_dirt_0 : decode cX12_dirt 0 = .ok (.aload_n 0, 1) := by decide +kernel
theorem dX12_dirt_1 : decode cX12_dirt 1 = .ok (.iload_n 1, 1) := by decide +kernel
theorem dX12_dirt_2 : decode cX12_dirt 2 = .ok (.invokevirtual 244, 3) := by decide +kernel
theorem dX12_dirt_5 : decode cX12_dirt 5 = .ok (.ifCond .eq 30, 3) := by decide +kernel
theorem dX12_dirt_35 : decode cX12_dirt 35 = .ok (.iconst 0, 1) := by decide +kernel
theorem dX12_dirt_36 : decode cX12_dirt 36 = .ok (.ireturn, 1) := by decide +kernel
theorem dX12_crack_0 : decode cX12_crack 0 = .ok (.aload_n 0, 1) := by decide +kernel
theorem dX12_crack_1 : decode cX12_crack 1 = .ok (.iload_n 1, 1) := by decide +kernel
theorem dX12_crack_2 : decode cX12_crack 2 = .ok (.invokevirtual 244, 3) := by decide +kernel
theorem dX12_crack_5 : decode cX12_crack 5 = .ok (.ifCond .eq 49, 3) := by decide +kernel
theorem dX12_crack_54 : decode cX12_crack 54 = .ok (.iconst (-1), 1) := by decide +kernel
theorem dX12_crack_55 : decode cX12_crack 55 = .ok (.ireturn, 1) := by decide +kernel
theorem dX12_mend_0 : decode cX12_mend 0 = .ok (.aload_n 0, 1) := by decide +kernel
theorem dX12_mend_1 : decode cX12_mend 1 = .ok (.iload_n 1, 1) := by decide +kernel
theorem dX12_mend_2 : decode cX12_mend 2 = .ok (.invokevirtual 244, 3) := by decide +kernel
theorem dX12_mend_5 : decode cX12_mend 5 = .ok (.ifCond .eq 10, 3) := by decide +kernel
theorem dX12_mend_15 : decode cX12_mend 15 = .ok (.iconst (-1), 1) := by decide +kernel
theorem dX12_mend_16 : decode cX12_mend 16 = .ok (.ireturn, 1) := by decide +kernel
theorem dX12_sluice_0 : decode cX12_sluice 0 = .ok (.aload_n 0, 1) := by decide +kernel
theorem dX12_sluice_1 : decode cX12_sluice 1 = .ok (.iload_n 1, 1) := by decide +kernel
theorem dX12_sluice_2 : decode cX12_sluice 2 = .ok (.invokevirtual 244, 3) := by decide +kernel
theorem dX12_sluice_5 : decode cX12_sluice 5 = .ok (.ifCond .eq 20, 3) := by decide +kernel
theorem dX12_sluice_25 : decode cX12_sluice 25 = .ok (.iconst 0, 1) := by decide +kernel
theorem dX12_sluice_26 : decode cX12_sluice 26 = .ok (.ireturn, 1) := by decide +kernel
theorem dX12_pump_0 : decode cX12_pump 0 = .ok (.aload_n 0, 1) := by decide +kernel
theorem dX12_pump_1 : decode cX12_pump 1 = .ok (.iload_n 1, 1) := by decide +kernel
theorem dX12_pump_2 : decode cX12_pump 2 = .ok (.invokevirtual 244, 3) := by decide +kernel
theorem dX12_pump_5 : decode cX12_pump 5 = .ok (.ifCond .eq 23, 3) := by decide +kernel
theorem dX12_pump_28 : decode cX12_pump 28 = .ok (.sipush (-2000), 3) := by decide +kernel
theorem dX12_pump_31 : decode cX12_pump 31 = .ok (.ireturn, 1) := by decide +kernel
theorem dX12_clean_0 : decode cX12_clean 0 = .ok (.aload_n 0, 1) := by decide +kernel
theorem dX12_clean_1 : decode cX12_clean 1 = .ok (.iload_n 1, 1) := by decide +kernel
theorem dX12_clean_2 : decode cX12_clean 2 = .ok (.invokevirtual 244, 3) := by decide +kernel
theorem dX12_clean_5 : decode cX12_clean 5 = .ok (.ifCond .eq 27, 3) := by decide +kernel
theorem dX12_clean_32 : decode cX12_clean 32 = .ok (.iconst (-1), 1) := by decide +kernel
theorem dX12_clean_33 : decode cX12_clean 33 = .ok (.ireturn, 1) := by decide +kernel
theorem dX12_isStorm_0 : decode cX12_isStorm 0 = .ok (.bipush 24, 2) := by decide +kernel
theorem dX12_isStorm_2 : decode cX12_isStorm 2 = .ok (.iload_n 1, 1) := by decide +kernel
theorem dX12_isStorm_3 : decode cX12_isStorm 3 = .ok (.imul, 1) := by decide +kernel
theorem dX12_isStorm_4 : decode cX12_isStorm 4 = .ok (.istore_n 3, 1) := by decide +kernel
theorem dX12_isStorm_5 : decode cX12_isStorm 5 = .ok (.iload_n 3, 1) := by decide +kernel
theorem dX12_isStorm_6 : decode cX12_isStorm 6 = .ok (.bipush 24, 2) := by decide +kernel
theorem dX12_isStorm_8 : decode cX12_isStorm 8 = .ok (.iload_n 1, 1) := by decide +kernel
theorem dX12_isStorm_9 : decode cX12_isStorm 9 = .ok (.imul, 1) := by decide +kernel
theorem dX12_isStorm_10 : decode cX12_isStorm 10 = .ok (.bipush 24, 2) := by decide +kernel
theorem dX12_isStorm_12 : decode cX12_isStorm 12 = .ok (.iadd, 1) := by decide +kernel
theorem dX12_isStorm_13 : decode cX12_isStorm 13 = .ok (.if_icmp .ge 26, 3) := by decide +kernel
theorem dX12_isStorm_16 : decode cX12_isStorm 16 = .ok (.aload_n 0, 1) := by decide +kernel
theorem dX12_isStorm_17 : decode cX12_isStorm 17 = .ok (.iload_n 3, 1) := by decide +kernel
theorem dX12_isStorm_18 : decode cX12_isStorm 18 = .ok (.iload_n 2, 1) := by decide +kernel
theorem dX12_isStorm_19 : decode cX12_isStorm 19 = .ok (.invokevirtual 237, 3) := by decide +kernel
theorem dX12_isStorm_22 : decode cX12_isStorm 22 = .ok (.aload_n 0, 1) := by decide +kernel
theorem dX12_isStorm_23 : decode cX12_isStorm 23 = .ok (.getfield 25, 3) := by decide +kernel
theorem dX12_isStorm_26 : decode cX12_isStorm 26 = .ok (.iconst 1, 1) := by decide +kernel
theorem dX12_isStorm_27 : decode cX12_isStorm 27 = .ok (.iaload, 1) := by decide +kernel
theorem dX12_isStorm_28 : decode cX12_isStorm 28 = .ok (.if_icmp .lt 5, 3) := by decide +kernel
theorem dX12_isStorm_33 : decode cX12_isStorm 33 = .ok (.iinc 3 1, 3) := by decide +kernel
theorem dX12_isStorm_36 : decode cX12_isStorm 36 = .ok (.goto (-31), 3) := by decide +kernel
theorem dX12_isStorm_39 : decode cX12_isStorm 39 = .ok (.iconst 0, 1) := by decide +kernel
theorem dX12_isStorm_40 : decode cX12_isStorm 40 = .ok (.ireturn, 1) := by decide +kernel
theorem dX12_pass_0 : decode cX12_pass 0 = .ok (.iload_n 1, 1) := by decide +kernel
theorem dX12_pass_1 : decode cX12_pass 1 = .ok (.iconst 1, 1) := by decide +kernel
theorem dX12_pass_2 : decode cX12_pass 2 = .ok (.sipush 288, 3) := by decide +kernel
theorem dX12_pass_5 : decode cX12_pass 5 = .ok (.invokestatic 211, 3) := by decide +kernel
theorem dX12_pass_8 : decode cX12_pass 8 = .ok (.ifCond .eq 15, 3) := by decide +kernel
theorem dX12_pass_11 : decode cX12_pass 11 = .ok (.aload_n 0, 1) := by decide +kernel
theorem dX12_pass_12 : decode cX12_pass 12 = .ok (.getfield 215, 3) := by decide +kernel
theorem dX12_pass_15 : decode cX12_pass 15 = .ok (.iload_n 1, 1) := by decide +kernel
theorem dX12_pass_16 : decode cX12_pass 16 = .ok (.iadd, 1) := by decide +kernel
theorem dX12_pass_17 : decode cX12_pass 17 = .ok (.sipush 14400, 3) := by decide +kernel
theorem dX12_pass_20 : decode cX12_pass 20 = .ok (.if_icmp .le 5, 3) := by decide +kernel
theorem dX12_pass_23 : decode cX12_pass 23 = .ok (.iconst (-1), 1) := by decide +kernel
theorem dX12_pass_24 : decode cX12_pass 24 = .ok (.ireturn, 1) := by decide +kernel
theorem dX12_pass_25 : decode cX12_pass 25 = .ok (.iconst 0, 1) := by decide +kernel
theorem dX12_pass_26 : decode cX12_pass 26 = .ok (.istore_n 2, 1) := by decide +kernel
theorem dX12_pass_27 : decode cX12_pass 27 = .ok (.iload_n 2, 1) := by decide +kernel
theorem dX12_pass_28 : decode cX12_pass 28 = .ok (.iload_n 1, 1) := by decide +kernel
theorem dX12_pass_29 : decode cX12_pass 29 = .ok (.if_icmp .ge 273, 3) := by decide +kernel
theorem dX12_pass_32 : decode cX12_pass 32 = .ok (.aload_n 0, 1) := by decide +kernel
theorem dX12_pass_33 : decode cX12_pass 33 = .ok (.getfield 215, 3) := by decide +kernel
theorem dX12_pass_36 : decode cX12_pass 36 = .ok (.bipush 6, 2) := by decide +kernel
theorem dX12_pass_38 : decode cX12_pass 38 = .ok (.idiv, 1) := by decide +kernel
theorem dX12_pass_39 : decode cX12_pass 39 = .ok (.istore_n 3, 1) := by decide +kernel
theorem dX12_pass_40 : decode cX12_pass 40 = .ok (.aload_n 0, 1) := by decide +kernel
theorem dX12_pass_41 : decode cX12_pass 41 = .ok (.iload_n 3, 1) := by decide +kernel
theorem dX12_pass_42 : decode cX12_pass 42 = .ok (.iload_n 3, 1) := by decide +kernel
theorem dX12_pass_43 : decode cX12_pass 43 = .ok (.invokevirtual 237, 3) := by decide +kernel
theorem dX12_pass_46 : decode cX12_pass 46 = .ok (.istore 4, 2) := by decide +kernel
theorem dX12_pass_48 : decode cX12_pass 48 = .ok (.aload_n 0, 1) := by decide +kernel
theorem dX12_pass_49 : decode cX12_pass 49 = .ok (.getfield 215, 3) := by decide +kernel
theorem dX12_pass_52 : decode cX12_pass 52 = .ok (.sipush 144, 3) := by decide +kernel
theorem dX12_pass_55 : decode cX12_pass 55 = .ok (.irem, 1) := by decide +kernel
theorem dX12_pass_56 : decode cX12_pass 56 = .ok (.sipush 143, 3) := by decide +kernel
theorem dX12_pass_59 : decode cX12_pass 59 = .ok (.if_icmp .ne 7, 3) := by decide +kernel
theorem dX12_pass_62 : decode cX12_pass 62 = .ok (.iconst 1, 1) := by decide +kernel
theorem dX12_pass_63 : decode cX12_pass 63 = .ok (.goto 4, 3) := by decide +kernel
theorem dX12_pass_66 : decode cX12_pass 66 = .ok (.iconst 0, 1) := by decide +kernel
theorem dX12_pass_67 : decode cX12_pass 67 = .ok (.istore 5, 2) := by decide +kernel
theorem dX12_pass_69 : decode cX12_pass 69 = .ok (.iload 5, 2) := by decide +kernel
theorem dX12_pass_71 : decode cX12_pass 71 = .ok (.ifCond .eq 23, 3) := by decide +kernel
theorem dX12_pass_74 : decode cX12_pass 74 = .ok (.aload_n 0, 1) := by decide +kernel
theorem dX12_pass_75 : decode cX12_pass 75 = .ok (.aload_n 0, 1) := by decide +kernel
theorem dX12_pass_76 : decode cX12_pass 76 = .ok (.getfield 215, 3) := by decide +kernel
theorem dX12_pass_79 : decode cX12_pass 79 = .ok (.sipush 144, 3) := by decide +kernel
theorem dX12_pass_82 : decode cX12_pass 82 = .ok (.idiv, 1) := by decide +kernel
theorem dX12_pass_83 : decode cX12_pass 83 = .ok (.iload_n 3, 1) := by decide +kernel
theorem dX12_pass_84 : decode cX12_pass 84 = .ok (.invokevirtual 289, 3) := by decide +kernel
theorem dX12_pass_87 : decode cX12_pass 87 = .ok (.ifCond .eq 7, 3) := by decide +kernel
theorem dX12_pass_94 : decode cX12_pass 94 = .ok (.iconst 0, 1) := by decide +kernel
theorem dX12_pass_95 : decode cX12_pass 95 = .ok (.istore 6, 2) := by decide +kernel
theorem dX12_pass_97 : decode cX12_pass 97 = .ok (.iconst 0, 1) := by decide +kernel
theorem dX12_pass_98 : decode cX12_pass 98 = .ok (.istore 7, 2) := by decide +kernel
theorem dX12_pass_100 : decode cX12_pass 100 = .ok (.iload 7, 2) := by decide +kernel
theorem dX12_pass_102 : decode cX12_pass 102 = .ok (.aload_n 0, 1) := by decide +kernel
theorem dX12_pass_103 : decode cX12_pass 103 = .ok (.getfield 241, 3) := by decide +kernel
theorem dX12_pass_106 : decode cX12_pass 106 = .ok (.if_icmp .ge 180, 3) := by decide +kernel
theorem dX12_pass_286 : decode cX12_pass 286 = .ok (.aload_n 0, 1) := by decide +kernel
theorem dX12_pass_287 : decode cX12_pass 287 = .ok (.dup, 1) := by decide +kernel
theorem dX12_pass_288 : decode cX12_pass 288 = .ok (.getfield 215, 3) := by decide +kernel
theorem dX12_pass_291 : decode cX12_pass 291 = .ok (.iconst 1, 1) := by decide +kernel
theorem dX12_pass_292 : decode cX12_pass 292 = .ok (.iadd, 1) := by decide +kernel
theorem dX12_pass_293 : decode cX12_pass 293 = .ok (.putfield 215, 3) := by decide +kernel
theorem dX12_pass_296 : decode cX12_pass 296 = .ok (.iinc 2 1, 3) := by decide +kernel
theorem dX12_pass_299 : decode cX12_pass 299 = .ok (.goto (-272), 3) := by decide +kernel
theorem dX12_pass_302 : decode cX12_pass 302 = .ok (.aload_n 0, 1) := by decide +kernel
theorem dX12_pass_303 : decode cX12_pass 303 = .ok (.getfield 215, 3) := by decide +kernel
theorem dX12_pass_306 : decode cX12_pass 306 = .ok (.ireturn, 1) := by decide +kernel
theorem dX12_about_0 : decode cX12_about 0 = .ok (.aload_n 0, 1) := by decide +kernel
theorem dX12_about_1 : decode cX12_about 1 = .ok (.iload_n 1, 1) := by decide +kernel
theorem dX12_about_2 : decode cX12_about 2 = .ok (.invokevirtual 244, 3) := by decide +kernel
theorem dX12_about_5 : decode cX12_about 5 = .ok (.ifCond .ne 7, 3) := by decide +kernel
theorem dX12_about_8 : decode cX12_about 8 = .ok (.sipush (-1000), 3) := by decide +kernel
theorem dX12_about_11 : decode cX12_about 11 = .ok (.ireturn, 1) := by decide +kernel
theorem dX12_hour_0 : decode cX12_hour 0 = .ok (.aload_n 0, 1) := by decide +kernel
theorem dX12_hour_1 : decode cX12_hour 1 = .ok (.iload_n 1, 1) := by decide +kernel
theorem dX12_hour_2 : decode cX12_hour 2 = .ok (.invokevirtual 244, 3) := by decide +kernel
theorem dX12_hour_5 : decode cX12_hour 5 = .ok (.ifCond .eq 29, 3) := by decide +kernel
theorem dX12_hour_34 : decode cX12_hour 34 = .ok (.sipush (-1000), 3) := by decide +kernel
theorem dX12_hour_37 : decode cX12_hour 37 = .ok (.ireturn, 1) := by decide +kernel
theorem dX12_four_0 : decode cX12_four 0 = .ok (.bipush 24, 2) := by decide +kernel
theorem dX12_four_2 : decode cX12_four 2 = .ok (.istore_n 2, 1) := by decide +kernel
theorem dX12_four_3 : decode cX12_four 3 = .ok (.iload_n 2, 1) := by decide +kernel
theorem dX12_four_4 : decode cX12_four 4 = .ok (.ifCond .lt 32, 3) := by decide +kernel
theorem dX12_four_7 : decode cX12_four 7 = .ok (.aload_n 0, 1) := by decide +kernel
theorem dX12_four_8 : decode cX12_four 8 = .ok (.getfield 108, 3) := by decide +kernel
theorem dX12_four_11 : decode cX12_four 11 = .ok (.aload_n 0, 1) := by decide +kernel
theorem dX12_four_12 : decode cX12_four 12 = .ok (.getfield 326, 3) := by decide +kernel
theorem dX12_four_15 : decode cX12_four 15 = .ok (.iload_n 1, 1) := by decide +kernel
theorem dX12_four_16 : decode cX12_four 16 = .ok (.iload_n 2, 1) := by decide +kernel
theorem dX12_four_17 : decode cX12_four 17 = .ok (.ishr, 1) := by decide +kernel
theorem dX12_four_18 : decode cX12_four 18 = .ok (.i2b, 1) := by decide +kernel
theorem dX12_four_19 : decode cX12_four 19 = .ok (.bastore, 1) := by decide +kernel
theorem dX12_four_20 : decode cX12_four 20 = .ok (.aload_n 0, 1) := by decide +kernel
theorem dX12_four_21 : decode cX12_four 21 = .ok (.dup, 1) := by decide +kernel
theorem dX12_four_22 : decode cX12_four 22 = .ok (.getfield 326, 3) := by decide +kernel
theorem dX12_four_25 : decode cX12_four 25 = .ok (.iconst 1, 1) := by decide +kernel
theorem dX12_four_26 : decode cX12_four 26 = .ok (.iadd, 1) := by decide +kernel
theorem dX12_four_27 : decode cX12_four 27 = .ok (.putfield 326, 3) := by decide +kernel
theorem dX12_four_30 : decode cX12_four 30 = .ok (.iinc 2 (-8), 3) := by decide +kernel
theorem dX12_four_33 : decode cX12_four 33 = .ok (.goto (-30), 3) := by decide +kernel
theorem dX12_four_36 : decode cX12_four 36 = .ok (.return_, 1) := by decide +kernel
theorem dX12_feed_0 : decode cX12_feed 0 = .ok (.aload_n 0, 1) := by decide +kernel
theorem dX12_feed_1 : decode cX12_feed 1 = .ok (.getfield 326, 3) := by decide +kernel
theorem dX12_feed_4 : decode cX12_feed 4 = .ok (.bipush 20, 2) := by decide +kernel
theorem dX12_feed_6 : decode cX12_feed 6 = .ok (.iadd, 1) := by decide +kernel
theorem dX12_feed_7 : decode cX12_feed 7 = .ok (.sipush 300, 3) := by decide +kernel
theorem dX12_feed_10 : decode cX12_feed 10 = .ok (.if_icmp .le 5, 3) := by decide +kernel
theorem dX12_feed_15 : decode cX12_feed 15 = .ok (.aload_n 0, 1) := by decide +kernel
theorem dX12_feed_16 : decode cX12_feed 16 = .ok (.iload_n 1, 1) := by decide +kernel
theorem dX12_feed_17 : decode cX12_feed 17 = .ok (.invokevirtual 329, 3) := by decide +kernel
theorem dX12_feed_20 : decode cX12_feed 20 = .ok (.aload_n 0, 1) := by decide +kernel
theorem dX12_feed_21 : decode cX12_feed 21 = .ok (.iload_n 2, 1) := by decide +kernel
theorem dX12_feed_22 : decode cX12_feed 22 = .ok (.invokevirtual 329, 3) := by decide +kernel
theorem dX12_feed_25 : decode cX12_feed 25 = .ok (.aload_n 0, 1) := by decide +kernel
theorem dX12_feed_26 : decode cX12_feed 26 = .ok (.iload_n 3, 1) := by decide +kernel
theorem dX12_feed_27 : decode cX12_feed 27 = .ok (.invokevirtual 329, 3) := by decide +kernel
theorem dX12_feed_30 : decode cX12_feed 30 = .ok (.aload_n 0, 1) := by decide +kernel
theorem dX12_feed_31 : decode cX12_feed 31 = .ok (.iload 4, 2) := by decide +kernel
theorem dX12_feed_33 : decode cX12_feed 33 = .ok (.invokevirtual 329, 3) := by decide +kernel
theorem dX12_feed_36 : decode cX12_feed 36 = .ok (.aload_n 0, 1) := by decide +kernel
theorem dX12_feed_37 : decode cX12_feed 37 = .ok (.iload 5, 2) := by decide +kernel
theorem dX12_feed_39 : decode cX12_feed 39 = .ok (.invokevirtual 329, 3) := by decide +kernel
theorem dX12_feed_42 : decode cX12_feed 42 = .ok (.aload_n 0, 1) := by decide +kernel
theorem dX12_feed_43 : decode cX12_feed 43 = .ok (.getfield 326, 3) := by decide +kernel
theorem dX12_feed_46 : decode cX12_feed 46 = .ok (.ireturn, 1) := by decide +kernel
theorem dX12_end_0 : decode cX12_end 0 = .ok (.iload_n 1, 1) := by decide +kernel
theorem dX12_end_1 : decode cX12_end 1 = .ok (.ifCond .lt 11, 3) := by decide +kernel
theorem dX12_end_4 : decode cX12_end 4 = .ok (.iload_n 1, 1) := by decide +kernel
theorem dX12_end_5 : decode cX12_end 5 = .ok (.aload_n 0, 1) := by decide +kernel
theorem dX12_end_6 : decode cX12_end 6 = .ok (.getfield 326, 3) := by decide +kernel
theorem dX12_end_9 : decode cX12_end 9 = .ok (.if_icmp .le 5, 3) := by decide +kernel
theorem dX12_end_12 : decode cX12_end 12 = .ok (.iconst (-1), 1) := by decide +kernel
theorem dX12_end_13 : decode cX12_end 13 = .ok (.ireturn, 1) := by decide +kernel
theorem dX12_end_14 : decode cX12_end 14 = .ok (.aload_n 0, 1) := by decide +kernel
theorem dX12_end_15 : decode cX12_end 15 = .ok (.iload_n 1, 1) := by decide +kernel
theorem dX12_end_16 : decode cX12_end 16 = .ok (.putfield 326, 3) := by decide +kernel
theorem dX12_end_19 : decode cX12_end 19 = .ok (.iload_n 1, 1) := by decide +kernel
theorem dX12_end_20 : decode cX12_end 20 = .ok (.ireturn, 1) := by decide +kernel
theorem dX12_see_0 : decode cX12_see 0 = .ok (.aload_n 0, 1) := by decide +kernel
theorem dX12_see_1 : decode cX12_see 1 = .ok (.getfield 335, 3) := by decide +kernel
theorem dX12_see_4 : decode cX12_see 4 = .ok (.aload_n 0, 1) := by decide +kernel
theorem dX12_see_5 : decode cX12_see 5 = .ok (.getfield 326, 3) := by decide +kernel
theorem dX12_see_8 : decode cX12_see 8 = .ok (.if_icmp .ge 30, 3) := by decide +kernel
theorem dX12_see_38 : decode cX12_see 38 = .ok (.aload_n 0, 1) := by decide +kernel
theorem dX12_see_39 : decode cX12_see 39 = .ok (.getfield 335, 3) := by decide +kernel
theorem dX12_see_42 : decode cX12_see 42 = .ok (.aload_n 0, 1) := by decide +kernel
theorem dX12_see_43 : decode cX12_see 43 = .ok (.getfield 326, 3) := by decide +kernel
theorem dX12_see_46 : decode cX12_see 46 = .ok (.if_icmp .ge 19, 3) := by decide +kernel
theorem dX12_see_65 : decode cX12_see 65 = .ok (.iconst (-1), 1) := by decide +kernel
theorem dX12_see_66 : decode cX12_see 66 = .ok (.ireturn, 1) := by decide +kernel
theorem dX12_rules_0 : decode cX12_rules 0 = .ok (.aload_n 0, 1) := by decide +kernel
theorem dX12_rules_1 : decode cX12_rules 1 = .ok (.getfield 382, 3) := by decide +kernel
theorem dX12_rules_4 : decode cX12_rules 4 = .ok (.bipush 10, 2) := by decide +kernel
theorem dX12_rules_6 : decode cX12_rules 6 = .ok (.if_icmp .eq 10, 3) := by decide +kernel
theorem dX12_rules_9 : decode cX12_rules 9 = .ok (.aload_n 0, 1) := by decide +kernel
theorem dX12_rules_10 : decode cX12_rules 10 = .ok (.invokevirtual 222, 3) := by decide +kernel
theorem dX12_rules_13 : decode cX12_rules 13 = .ok (.ifCond .eq 5, 3) := by decide +kernel
theorem dX12_rules_18 : decode cX12_rules 18 = .ok (.aload_n 0, 1) := by decide +kernel
theorem dX12_rules_19 : decode cX12_rules 19 = .ok (.iconst 0, 1) := by decide +kernel
theorem dX12_rules_20 : decode cX12_rules 20 = .ok (.putfield 335, 3) := by decide +kernel
theorem dX12_rules_23 : decode cX12_rules 23 = .ok (.aload_n 0, 1) := by decide +kernel
theorem dX12_rules_24 : decode cX12_rules 24 = .ok (.iconst 0, 1) := by decide +kernel
theorem dX12_rules_25 : decode cX12_rules 25 = .ok (.putfield 332, 3) := by decide +kernel
theorem dX12_rules_28 : decode cX12_rules 28 = .ok (.aload_n 0, 1) := by decide +kernel
theorem dX12_rules_29 : decode cX12_rules 29 = .ok (.iconst 0, 1) := by decide +kernel
theorem dX12_rules_30 : decode cX12_rules 30 = .ok (.putfield 344, 3) := by decide +kernel
theorem dX12_rules_33 : decode cX12_rules 33 = .ok (.aload_n 0, 1) := by decide +kernel
theorem dX12_rules_34 : decode cX12_rules 34 = .ok (.iconst 0, 1) := by decide +kernel
theorem dX12_rules_35 : decode cX12_rules 35 = .ok (.putfield 369, 3) := by decide +kernel
theorem dX12_rules_38 : decode cX12_rules 38 = .ok (.aload_n 0, 1) := by decide +kernel
theorem dX12_rules_39 : decode cX12_rules 39 = .ok (.iconst 0, 1) := by decide +kernel
theorem dX12_rules_40 : decode cX12_rules 40 = .ok (.putfield 353, 3) := by decide +kernel
theorem dX12_rules_43 : decode cX12_rules 43 = .ok (.aload_n 0, 1) := by decide +kernel
theorem dX12_rules_44 : decode cX12_rules 44 = .ok (.iconst 0, 1) := by decide +kernel
theorem dX12_rules_45 : decode cX12_rules 45 = .ok (.putfield 347, 3) := by decide +kernel
theorem dX12_rules_48 : decode cX12_rules 48 = .ok (.aload_n 0, 1) := by decide +kernel
theorem dX12_rules_49 : decode cX12_rules 49 = .ok (.invokevirtual 338, 3) := by decide +kernel
theorem dX12_rules_52 : decode cX12_rules 52 = .ok (.iconst (-1), 1) := by decide +kernel
theorem dX12_rules_53 : decode cX12_rules 53 = .ok (.if_icmp .eq 10, 3) := by decide +kernel
theorem dX12_rules_63 : decode cX12_rules 63 = .ok (.iconst 1, 1) := by decide +kernel
theorem dX12_rules_64 : decode cX12_rules 64 = .ok (.goto 4, 3) := by decide +kernel
theorem dX12_rules_68 : decode cX12_rules 68 = .ok (.istore_n 1, 1) := by decide +kernel
theorem dX12_rules_69 : decode cX12_rules 69 = .ok (.aload_n 0, 1) := by decide +kernel
theorem dX12_rules_70 : decode cX12_rules 70 = .ok (.iconst 0, 1) := by decide +kernel
theorem dX12_rules_71 : decode cX12_rules 71 = .ok (.putfield 326, 3) := by decide +kernel
theorem dX12_rules_74 : decode cX12_rules 74 = .ok (.iload_n 1, 1) := by decide +kernel
theorem dX12_rules_75 : decode cX12_rules 75 = .ok (.ifCond .ne 11, 3) := by decide +kernel
theorem dX12_rules_86 : decode cX12_rules 86 = .ok (.aload_n 0, 1) := by decide +kernel
theorem dX12_rules_87 : decode cX12_rules 87 = .ok (.getfield 124, 3) := by decide +kernel
theorem dX12_rules_90 : decode cX12_rules 90 = .ok (.aload_n 0, 1) := by decide +kernel
theorem dX12_rules_91 : decode cX12_rules 91 = .ok (.getfield 382, 3) := by decide +kernel
theorem dX12_rules_94 : decode cX12_rules 94 = .ok (.aload_n 0, 1) := by decide +kernel
theorem dX12_rules_95 : decode cX12_rules 95 = .ok (.getfield 215, 3) := by decide +kernel
theorem dX12_rules_98 : decode cX12_rules 98 = .ok (.bipush 6, 2) := by decide +kernel
theorem dX12_rules_100 : decode cX12_rules 100 = .ok (.idiv, 1) := by decide +kernel
theorem dX12_rules_101 : decode cX12_rules 101 = .ok (.iastore, 1) := by decide +kernel
theorem dX12_rules_102 : decode cX12_rules 102 = .ok (.aload_n 0, 1) := by decide +kernel
theorem dX12_rules_103 : decode cX12_rules 103 = .ok (.getfield 127, 3) := by decide +kernel
theorem dX12_rules_106 : decode cX12_rules 106 = .ok (.aload_n 0, 1) := by decide +kernel
theorem dX12_rules_107 : decode cX12_rules 107 = .ok (.getfield 382, 3) := by decide +kernel
theorem dX12_rules_110 : decode cX12_rules 110 = .ok (.aload_n 0, 1) := by decide +kernel
theorem dX12_rules_111 : decode cX12_rules 111 = .ok (.getfield 369, 3) := by decide +kernel
theorem dX12_rules_114 : decode cX12_rules 114 = .ok (.iastore, 1) := by decide +kernel
theorem dX12_rules_115 : decode cX12_rules 115 = .ok (.iconst 0, 1) := by decide +kernel
theorem dX12_rules_116 : decode cX12_rules 116 = .ok (.istore_n 2, 1) := by decide +kernel
theorem dX12_rules_117 : decode cX12_rules 117 = .ok (.iload_n 2, 1) := by decide +kernel
theorem dX12_rules_118 : decode cX12_rules 118 = .ok (.aload_n 0, 1) := by decide +kernel
theorem dX12_rules_119 : decode cX12_rules 119 = .ok (.getfield 344, 3) := by decide +kernel
theorem dX12_rules_122 : decode cX12_rules 122 = .ok (.if_icmp .ge 30, 3) := by decide +kernel
theorem dX12_rules_152 : decode cX12_rules 152 = .ok (.iconst 0, 1) := by decide +kernel
theorem dX12_rules_153 : decode cX12_rules 153 = .ok (.istore_n 2, 1) := by decide +kernel
theorem dX12_rules_154 : decode cX12_rules 154 = .ok (.iload_n 2, 1) := by decide +kernel
theorem dX12_rules_155 : decode cX12_rules 155 = .ok (.aload_n 0, 1) := by decide +kernel
theorem dX12_rules_156 : decode cX12_rules 156 = .ok (.getfield 369, 3) := by decide +kernel
theorem dX12_rules_159 : decode cX12_rules 159 = .ok (.if_icmp .ge 29, 3) := by decide +kernel
theorem dX12_rules_188 : decode cX12_rules 188 = .ok (.aload_n 0, 1) := by decide +kernel
theorem dX12_rules_189 : decode cX12_rules 189 = .ok (.dup, 1) := by decide +kernel
theorem dX12_rules_190 : decode cX12_rules 190 = .ok (.getfield 382, 3) := by decide +kernel
theorem dX12_rules_193 : decode cX12_rules 193 = .ok (.iconst 1, 1) := by decide +kernel
theorem dX12_rules_194 : decode cX12_rules 194 = .ok (.iadd, 1) := by decide +kernel
theorem dX12_rules_195 : decode cX12_rules 195 = .ok (.putfield 382, 3) := by decide +kernel
theorem dX12_rules_198 : decode cX12_rules 198 = .ok (.aload_n 0, 1) := by decide +kernel
theorem dX12_rules_199 : decode cX12_rules 199 = .ok (.getfield 369, 3) := by decide +kernel
theorem dX12_rules_202 : decode cX12_rules 202 = .ok (.ireturn, 1) := by decide +kernel
theorem dX12_test_0 : decode cX12_test 0 = .ok (.aload_n 0, 1) := by decide +kernel
theorem dX12_test_1 : decode cX12_test 1 = .ok (.getfield 388, 3) := by decide +kernel
theorem dX12_test_4 : decode cX12_test 4 = .ok (.sipush 500, 3) := by decide +kernel
theorem dX12_test_7 : decode cX12_test 7 = .ok (.if_icmp .eq 44, 3) := by decide +kernel
theorem dX12_test_10 : decode cX12_test 10 = .ok (.aload_n 0, 1) := by decide +kernel
theorem dX12_test_11 : decode cX12_test 11 = .ok (.invokevirtual 222, 3) := by decide +kernel
theorem dX12_test_14 : decode cX12_test 14 = .ok (.ifCond .ne 37, 3) := by decide +kernel
theorem dX12_test_17 : decode cX12_test 17 = .ok (.aload_n 0, 1) := by decide +kernel
theorem dX12_test_18 : decode cX12_test 18 = .ok (.iload_n 1, 1) := by decide +kernel
theorem dX12_test_19 : decode cX12_test 19 = .ok (.invokevirtual 244, 3) := by decide +kernel
theorem dX12_test_22 : decode cX12_test 22 = .ok (.ifCond .eq 29, 3) := by decide +kernel
theorem dX12_test_51 : decode cX12_test 51 = .ok (.iconst (-1), 1) := by decide +kernel
theorem dX12_test_52 : decode cX12_test 52 = .ok (.ireturn, 1) := by decide +kernel
theorem dX12_closed_0 : decode cX12_closed 0 = .ok (.aload_n 0, 1) := by decide +kernel
theorem dX12_closed_1 : decode cX12_closed 1 = .ok (.iload_n 1, 1) := by decide +kernel
theorem dX12_closed_2 : decode cX12_closed 2 = .ok (.invokevirtual 244, 3) := by decide +kernel
theorem dX12_closed_5 : decode cX12_closed 5 = .ok (.ifCond .eq 27, 3) := by decide +kernel
theorem dX12_closed_32 : decode cX12_closed 32 = .ok (.iconst (-1), 1) := by decide +kernel
theorem dX12_closed_33 : decode cX12_closed 33 = .ok (.ireturn, 1) := by decide +kernel
theorem dX12_open_0 : decode cX12_open 0 = .ok (.aload_n 0, 1) := by decide +kernel
theorem dX12_open_1 : decode cX12_open 1 = .ok (.iload_n 1, 1) := by decide +kernel
theorem dX12_open_2 : decode cX12_open 2 = .ok (.invokevirtual 244, 3) := by decide +kernel
theorem dX12_open_5 : decode cX12_open 5 = .ok (.ifCond .eq 40, 3) := by decide +kernel
theorem dX12_open_45 : decode cX12_open 45 = .ok (.iconst (-1), 1) := by decide +kernel
theorem dX12_open_46 : decode cX12_open 46 = .ok (.ireturn, 1) := by decide +kernel
theorem dX12_free_0 : decode cX12_free 0 = .ok (.aload_n 0, 1) := by decide +kernel
theorem dX12_free_1 : decode cX12_free 1 = .ok (.iload_n 1, 1) := by decide +kernel
theorem dX12_free_2 : decode cX12_free 2 = .ok (.invokevirtual 244, 3) := by decide +kernel
theorem dX12_free_5 : decode cX12_free 5 = .ok (.ifCond .eq 32, 3) := by decide +kernel
theorem dX12_free_37 : decode cX12_free 37 = .ok (.iconst 0, 1) := by decide +kernel
theorem dX12_free_38 : decode cX12_free 38 = .ok (.ireturn, 1) := by decide +kernel
theorem dX12_low_0 : decode cX12_low 0 = .ok (.aload_n 0, 1) := by decide +kernel
theorem dX12_low_1 : decode cX12_low 1 = .ok (.iload_n 1, 1) := by decide +kernel
theorem dX12_low_2 : decode cX12_low 2 = .ok (.invokevirtual 244, 3) := by decide +kernel
theorem dX12_low_5 : decode cX12_low 5 = .ok (.ifCond .eq 27, 3) := by decide +kernel
theorem dX12_low_32 : decode cX12_low 32 = .ok (.iconst (-1), 1) := by decide +kernel
theorem dX12_low_33 : decode cX12_low 33 = .ok (.ireturn, 1) := by decide +kernel
theorem dX12_plan_0 : decode cX12_plan 0 = .ok (.iload_n 1, 1) := by decide +kernel
theorem dX12_plan_1 : decode cX12_plan 1 = .ok (.iconst 1, 1) := by decide +kernel
theorem dX12_plan_2 : decode cX12_plan 2 = .ok (.if_icmp .lt 86, 3) := by decide +kernel
theorem dX12_plan_5 : decode cX12_plan 5 = .ok (.aload_n 0, 1) := by decide +kernel
theorem dX12_plan_6 : decode cX12_plan 6 = .ok (.getfield 241, 3) := by decide +kernel
theorem dX12_plan_9 : decode cX12_plan 9 = .ok (.ifCond .eq 79, 3) := by decide +kernel
theorem dX12_plan_88 : decode cX12_plan 88 = .ok (.iconst (-1), 1) := by decide +kernel
theorem dX12_plan_89 : decode cX12_plan 89 = .ok (.ireturn, 1) := by decide +kernel
theorem dX12_planned_0 : decode cX12_planned 0 = .ok (.aload_n 0, 1) := by decide +kernel
theorem dX12_planned_1 : decode cX12_planned 1 = .ok (.iload_n 1, 1) := by decide +kernel
theorem dX12_planned_2 : decode cX12_planned 2 = .ok (.invokevirtual 244, 3) := by decide +kernel
theorem dX12_planned_5 : decode cX12_planned 5 = .ok (.ifCond .eq 12, 3) := by decide +kernel
theorem dX12_planned_17 : decode cX12_planned 17 = .ok (.iconst (-1), 1) := by decide +kernel
theorem dX12_planned_18 : decode cX12_planned 18 = .ok (.ireturn, 1) := by decide +kernel
theorem dX12_race_0 : decode cX12_race 0 = .ok (.aload_n 0, 1) := by decide +kernel
theorem dX12_race_1 : decode cX12_race 1 = .ok (.iload_n 1, 1) := by decide +kernel
theorem dX12_race_2 : decode cX12_race 2 = .ok (.invokevirtual 244, 3) := by decide +kernel
theorem dX12_race_5 : decode cX12_race 5 = .ok (.ifCond .eq 100, 3) := by decide +kernel
theorem dX12_race_105 : decode cX12_race 105 = .ok (.iconst (-1), 1) := by decide +kernel
theorem dX12_race_106 : decode cX12_race 106 = .ok (.ireturn, 1) := by decide +kernel
theorem dX12_night_0 : decode cX12_night 0 = .ok (.aload_n 0, 1) := by decide +kernel
theorem dX12_night_1 : decode cX12_night 1 = .ok (.iload_n 1, 1) := by decide +kernel
theorem dX12_night_2 : decode cX12_night 2 = .ok (.invokevirtual 244, 3) := by decide +kernel
theorem dX12_night_5 : decode cX12_night 5 = .ok (.ifCond .eq 52, 3) := by decide +kernel
theorem dX12_night_57 : decode cX12_night 57 = .ok (.iconst (-1), 1) := by decide +kernel
theorem dX12_night_58 : decode cX12_night 58 = .ok (.ireturn, 1) := by decide +kernel
theorem dX12_suspect_0 : decode cX12_suspect 0 = .ok (.aload_n 0, 1) := by decide +kernel
theorem dX12_suspect_1 : decode cX12_suspect 1 = .ok (.iload_n 1, 1) := by decide +kernel
theorem dX12_suspect_2 : decode cX12_suspect 2 = .ok (.invokevirtual 244, 3) := by decide +kernel
theorem dX12_suspect_5 : decode cX12_suspect 5 = .ok (.ifCond .eq 42, 3) := by decide +kernel
theorem dX12_suspect_47 : decode cX12_suspect 47 = .ok (.iconst (-1), 1) := by decide +kernel
theorem dX12_suspect_48 : decode cX12_suspect 48 = .ok (.ireturn, 1) := by decide +kernel
theorem dX12_cause_0 : decode cX12_cause 0 = .ok (.aload_n 0, 1) := by decide +kernel
theorem dX12_cause_1 : decode cX12_cause 1 = .ok (.iload_n 1, 1) := by decide +kernel
theorem dX12_cause_2 : decode cX12_cause 2 = .ok (.invokevirtual 244, 3) := by decide +kernel
theorem dX12_cause_5 : decode cX12_cause 5 = .ok (.ifCond .ne 5, 3) := by decide +kernel
theorem dX12_cause_8 : decode cX12_cause 8 = .ok (.iconst (-1), 1) := by decide +kernel
theorem dX12_cause_9 : decode cX12_cause 9 = .ok (.ireturn, 1) := by decide +kernel
theorem dX12_causes_0 : decode cX12_causes 0 = .ok (.iload_n 1, 1) := by decide +kernel
theorem dX12_causes_1 : decode cX12_causes 1 = .ok (.iconst 0, 1) := by decide +kernel
theorem dX12_causes_2 : decode cX12_causes 2 = .ok (.aload_n 0, 1) := by decide +kernel
theorem dX12_causes_3 : decode cX12_causes 3 = .ok (.getfield 435, 3) := by decide +kernel
theorem dX12_causes_6 : decode cX12_causes 6 = .ok (.iconst 1, 1) := by decide +kernel
theorem dX12_causes_7 : decode cX12_causes 7 = .ok (.isub, 1) := by decide +kernel
theorem dX12_causes_8 : decode cX12_causes 8 = .ok (.invokestatic 211, 3) := by decide +kernel
theorem dX12_causes_11 : decode cX12_causes 11 = .ok (.ifCond .eq 34, 3) := by decide +kernel
theorem dX12_causes_45 : decode cX12_causes 45 = .ok (.iconst (-1), 1) := by decide +kernel
theorem dX12_causes_46 : decode cX12_causes 46 = .ok (.ireturn, 1) := by decide +kernel
theorem dX12_look_0 : decode cX12_look 0 = .ok (.aload_n 0, 1) := by decide +kernel
theorem dX12_look_1 : decode cX12_look 1 = .ok (.getfield 435, 3) := by decide +kernel
theorem dX12_look_4 : decode cX12_look 4 = .ok (.iconst 2, 1) := by decide +kernel
theorem dX12_look_5 : decode cX12_look 5 = .ok (.if_icmp .ge 5, 3) := by decide +kernel
theorem dX12_look_8 : decode cX12_look 8 = .ok (.iconst (-1), 1) := by decide +kernel
theorem dX12_look_9 : decode cX12_look 9 = .ok (.ireturn, 1) := by decide +kernel
theorem dX12_lease_0 : decode cX12_lease 0 = .ok (.aload_n 0, 1) := by decide +kernel
theorem dX12_lease_1 : decode cX12_lease 1 = .ok (.getfield 444, 3) := by decide +kernel
theorem dX12_lease_4 : decode cX12_lease 4 = .ok (.bipush 10, 2) := by decide +kernel
theorem dX12_lease_6 : decode cX12_lease 6 = .ok (.if_icmp .eq 47, 3) := by decide +kernel
theorem dX12_lease_9 : decode cX12_lease 9 = .ok (.aload_n 0, 1) := by decide +kernel
theorem dX12_lease_10 : decode cX12_lease 10 = .ok (.invokevirtual 222, 3) := by decide +kernel
theorem dX12_lease_13 : decode cX12_lease 13 = .ok (.ifCond .ne 40, 3) := by decide +kernel
theorem dX12_lease_16 : decode cX12_lease 16 = .ok (.aload_n 0, 1) := by decide +kernel
theorem dX12_lease_17 : decode cX12_lease 17 = .ok (.iload_n 1, 1) := by decide +kernel
theorem dX12_lease_18 : decode cX12_lease 18 = .ok (.invokevirtual 244, 3) := by decide +kernel
theorem dX12_lease_21 : decode cX12_lease 21 = .ok (.ifCond .eq 32, 3) := by decide +kernel
theorem dX12_lease_53 : decode cX12_lease 53 = .ok (.iconst (-1), 1) := by decide +kernel
theorem dX12_lease_54 : decode cX12_lease 54 = .ok (.ireturn, 1) := by decide +kernel
theorem dX12_due_0 : decode cX12_due 0 = .ok (.iload_n 1, 1) := by decide +kernel
theorem dX12_due_1 : decode cX12_due 1 = .ok (.iconst 0, 1) := by decide +kernel
theorem dX12_due_2 : decode cX12_due 2 = .ok (.aload_n 0, 1) := by decide +kernel
theorem dX12_due_3 : decode cX12_due 3 = .ok (.getfield 444, 3) := by decide +kernel
theorem dX12_due_6 : decode cX12_due 6 = .ok (.iconst 1, 1) := by decide +kernel
theorem dX12_due_7 : decode cX12_due 7 = .ok (.isub, 1) := by decide +kernel
theorem dX12_due_8 : decode cX12_due 8 = .ok (.invokestatic 211, 3) := by decide +kernel
theorem dX12_due_11 : decode cX12_due 11 = .ok (.ifCond .eq 29, 3) := by decide +kernel
theorem dX12_due_40 : decode cX12_due 40 = .ok (.iconst (-1), 1) := by decide +kernel
theorem dX12_due_41 : decode cX12_due 41 = .ok (.ireturn, 1) := by decide +kernel
theorem dX12_pay_0 : decode cX12_pay 0 = .ok (.iload_n 1, 1) := by decide +kernel
theorem dX12_pay_1 : decode cX12_pay 1 = .ok (.iconst 0, 1) := by decide +kernel
theorem dX12_pay_2 : decode cX12_pay 2 = .ok (.aload_n 0, 1) := by decide +kernel
theorem dX12_pay_3 : decode cX12_pay 3 = .ok (.getfield 444, 3) := by decide +kernel
theorem dX12_pay_6 : decode cX12_pay 6 = .ok (.iconst 1, 1) := by decide +kernel
theorem dX12_pay_7 : decode cX12_pay 7 = .ok (.isub, 1) := by decide +kernel
theorem dX12_pay_8 : decode cX12_pay 8 = .ok (.invokestatic 211, 3) := by decide +kernel
theorem dX12_pay_11 : decode cX12_pay 11 = .ok (.ifCond .eq 10, 3) := by decide +kernel
theorem dX12_pay_21 : decode cX12_pay 21 = .ok (.ldc_w 450, 3) := by decide +kernel
theorem dX12_pay_24 : decode cX12_pay 24 = .ok (.ireturn, 1) := by decide +kernel
theorem dX12_count_0 : decode cX12_count 0 = .ok (.iload_n 1, 1) := by decide +kernel
theorem dX12_count_1 : decode cX12_count 1 = .ok (.tableswitch 109 0 10 #[59, 64, 69, 74, 79, 84, 89, 94, 99, 99, 99], 59) := by decide +kernel
theorem dX12_count_60 : decode cX12_count 60 = .ok (.aload_n 0, 1) := by decide +kernel
theorem dX12_count_61 : decode cX12_count 61 = .ok (.getfield 215, 3) := by decide +kernel
theorem dX12_count_64 : decode cX12_count 64 = .ok (.ireturn, 1) := by decide +kernel
theorem dX12_count_65 : decode cX12_count 65 = .ok (.aload_n 0, 1) := by decide +kernel
theorem dX12_count_66 : decode cX12_count 66 = .ok (.getfield 219, 3) := by decide +kernel
theorem dX12_count_69 : decode cX12_count 69 = .ok (.ireturn, 1) := by decide +kernel
theorem dX12_count_70 : decode cX12_count 70 = .ok (.aload_n 0, 1) := by decide +kernel
theorem dX12_count_71 : decode cX12_count 71 = .ok (.getfield 230, 3) := by decide +kernel
theorem dX12_count_74 : decode cX12_count 74 = .ok (.ireturn, 1) := by decide +kernel
theorem dX12_count_75 : decode cX12_count 75 = .ok (.aload_n 0, 1) := by decide +kernel
theorem dX12_count_76 : decode cX12_count 76 = .ok (.getfield 241, 3) := by decide +kernel
theorem dX12_count_79 : decode cX12_count 79 = .ok (.ireturn, 1) := by decide +kernel
theorem dX12_count_80 : decode cX12_count 80 = .ok (.aload_n 0, 1) := by decide +kernel
theorem dX12_count_81 : decode cX12_count 81 = .ok (.getfield 382, 3) := by decide +kernel
theorem dX12_count_84 : decode cX12_count 84 = .ok (.ireturn, 1) := by decide +kernel
theorem dX12_count_85 : decode cX12_count 85 = .ok (.aload_n 0, 1) := by decide +kernel
theorem dX12_count_86 : decode cX12_count 86 = .ok (.getfield 388, 3) := by decide +kernel
theorem dX12_count_89 : decode cX12_count 89 = .ok (.ireturn, 1) := by decide +kernel
theorem dX12_count_90 : decode cX12_count 90 = .ok (.aload_n 0, 1) := by decide +kernel
theorem dX12_count_91 : decode cX12_count 91 = .ok (.getfield 444, 3) := by decide +kernel
theorem dX12_count_94 : decode cX12_count 94 = .ok (.ireturn, 1) := by decide +kernel
theorem dX12_count_95 : decode cX12_count 95 = .ok (.aload_n 0, 1) := by decide +kernel
theorem dX12_count_96 : decode cX12_count 96 = .ok (.getfield 326, 3) := by decide +kernel
theorem dX12_count_99 : decode cX12_count 99 = .ok (.ireturn, 1) := by decide +kernel
theorem dX12_count_100 : decode cX12_count 100 = .ok (.aload_n 0, 1) := by decide +kernel
theorem dX12_count_101 : decode cX12_count 101 = .ok (.getfield 25, 3) := by decide +kernel
theorem dX12_count_104 : decode cX12_count 104 = .ok (.iload_n 1, 1) := by decide +kernel
theorem dX12_count_105 : decode cX12_count 105 = .ok (.bipush 8, 2) := by decide +kernel
theorem dX12_count_107 : decode cX12_count 107 = .ok (.isub, 1) := by decide +kernel
theorem dX12_count_108 : decode cX12_count 108 = .ok (.iaload, 1) := by decide +kernel
theorem dX12_count_109 : decode cX12_count 109 = .ok (.ireturn, 1) := by decide +kernel
theorem dX12_count_110 : decode cX12_count 110 = .ok (.iload_n 1, 1) := by decide +kernel
theorem dX12_count_111 : decode cX12_count 111 = .ok (.bipush 20, 2) := by decide +kernel
theorem dX12_count_113 : decode cX12_count 113 = .ok (.bipush 19, 2) := by decide +kernel
theorem dX12_count_115 : decode cX12_count 115 = .ok (.aload_n 0, 1) := by decide +kernel
theorem dX12_count_116 : decode cX12_count 116 = .ok (.getfield 444, 3) := by decide +kernel
theorem dX12_count_119 : decode cX12_count 119 = .ok (.iadd, 1) := by decide +kernel
theorem dX12_count_120 : decode cX12_count 120 = .ok (.invokestatic 211, 3) := by decide +kernel
theorem dX12_count_123 : decode cX12_count 123 = .ok (.ifCond .eq 15, 3) := by decide +kernel
theorem dX12_count_138 : decode cX12_count 138 = .ok (.iconst (-1), 1) := by decide +kernel
theorem dX12_count_139 : decode cX12_count 139 = .ok (.ireturn, 1) := by decide +kernel
theorem dJ7_fill_53178_0 : decode cJ7_fill_53178 0 = .ok (.iconst 0, 1) := by decide +kernel
theorem dJ7_fill_53178_1 : decode cJ7_fill_53178 1 = .ok (.istore_n 2, 1) := by decide +kernel
theorem dJ7_fill_53178_2 : decode cJ7_fill_53178 2 = .ok (.aload_n 0, 1) := by decide +kernel
theorem dJ7_fill_53178_3 : decode cJ7_fill_53178 3 = .ok (.arraylength, 1) := by decide +kernel
theorem dJ7_fill_53178_4 : decode cJ7_fill_53178 4 = .ok (.istore_n 3, 1) := by decide +kernel
theorem dJ7_fill_53178_5 : decode cJ7_fill_53178 5 = .ok (.iload_n 2, 1) := by decide +kernel
theorem dJ7_fill_53178_6 : decode cJ7_fill_53178 6 = .ok (.iload_n 3, 1) := by decide +kernel
theorem dJ7_fill_53178_7 : decode cJ7_fill_53178 7 = .ok (.if_icmp .ge 13, 3) := by decide +kernel
theorem dJ7_fill_53178_10 : decode cJ7_fill_53178 10 = .ok (.aload_n 0, 1) := by decide +kernel
theorem dJ7_fill_53178_11 : decode cJ7_fill_53178 11 = .ok (.iload_n 2, 1) := by decide +kernel
theorem dJ7_fill_53178_12 : decode cJ7_fill_53178 12 = .ok (.iload_n 1, 1) := by decide +kernel
theorem dJ7_fill_53178_13 : decode cJ7_fill_53178 13 = .ok (.iastore, 1) := by decide +kernel
theorem dJ7_fill_53178_14 : decode cJ7_fill_53178 14 = .ok (.iinc 2 1, 3) := by decide +kernel
theorem dJ7_fill_53178_17 : decode cJ7_fill_53178 17 = .ok (.goto (-12), 3) := by decide +kernel
theorem dJ7_fill_53178_20 : decode cJ7_fill_53178 20 = .ok (.return_, 1) := by decide +kernel
