theorem d_Mod_read_0 : decode prog_13_method_162_code 0 = .ok (.aload_n 0, 1) := by decide +kernel
theorem d_Mod_read_1 : decode prog_13_method_162_code 1 = .ok (.iconst 0, 1) := by decide +kernel
theorem d_Mod_read_2 : decode prog_13_method_162_code 2 = .ok (.putfield 217, 3) := by decide +kernel
theorem d_Mod_read_5 : decode prog_13_method_162_code 5 = .ok (.aload_n 0, 1) := by decide +kernel
theorem d_Mod_begin_0 : decode prog_13_method_159_code 0 = .ok (.aload_n 0, 1) := by decide +kernel
theorem d_Mod_begin_1 : decode prog_13_method_159_code 1 = .ok (.aload_n 0, 1) := by decide +kernel
theorem d_Mod_begin_2 : decode prog_13_method_159_code 2 = .ok (.getfield 857, 3) := by decide +kernel
theorem d_Mod_begin_5 : decode prog_13_method_159_code 5 = .ok (.putfield 679, 3) := by decide +kernel
theorem d_Mod_begin_8 : decode prog_13_method_159_code 8 = .ok (.aload_n 0, 1) := by decide +kernel
theorem d_Mod_begin_9 : decode prog_13_method_159_code 9 = .ok (.iconst 0, 1) := by decide +kernel
theorem d_Mod_begin_10 : decode prog_13_method_159_code 10 = .ok (.putfield 857, 3) := by decide +kernel
theorem d_Mod_begin_13 : decode prog_13_method_159_code 13 = .ok (.iconst 0, 1) := by decide +kernel
theorem d_Mod_begin_14 : decode prog_13_method_159_code 14 = .ok (.istore_n 1, 1) := by decide +kernel
theorem d_Mod_begin_15 : decode prog_13_method_159_code 15 = .ok (.iload_n 1, 1) := by decide +kernel
theorem d_Mod_begin_16 : decode prog_13_method_159_code 16 = .ok (.aload_n 0, 1) := by decide +kernel
theorem d_Mod_begin_17 : decode prog_13_method_159_code 17 = .ok (.getfield 679, 3) := by decide +kernel
theorem d_Mod_begin_20 : decode prog_13_method_159_code 20 = .ok (.if_icmp .ge 21, 3) := by decide +kernel
theorem d_Mod_begin_41 : decode prog_13_method_159_code 41 = .ok (.aload_n 0, 1) := by decide +kernel
theorem d_Mod_begin_42 : decode prog_13_method_159_code 42 = .ok (.iconst 0, 1) := by decide +kernel
theorem d_Mod_begin_43 : decode prog_13_method_159_code 43 = .ok (.putfield 703, 3) := by decide +kernel
theorem d_Mod_begin_46 : decode prog_13_method_159_code 46 = .ok (.aload_n 0, 1) := by decide +kernel
theorem d_Mod_begin_47 : decode prog_13_method_159_code 47 = .ok (.iconst 0, 1) := by decide +kernel
theorem d_Mod_begin_48 : decode prog_13_method_159_code 48 = .ok (.putfield 733, 3) := by decide +kernel
theorem d_Mod_begin_51 : decode prog_13_method_159_code 51 = .ok (.aload_n 0, 1) := by decide +kernel
theorem d_Mod_begin_52 : decode prog_13_method_159_code 52 = .ok (.iconst 0, 1) := by decide +kernel
theorem d_Mod_begin_53 : decode prog_13_method_159_code 53 = .ok (.putfield 751, 3) := by decide +kernel
theorem d_Mod_begin_56 : decode prog_13_method_159_code 56 = .ok (.aload_n 0, 1) := by decide +kernel
theorem d_Mod_begin_57 : decode prog_13_method_159_code 57 = .ok (.iconst 0, 1) := by decide +kernel
theorem d_Mod_begin_58 : decode prog_13_method_159_code 58 = .ok (.putfield 766, 3) := by decide +kernel
theorem d_Mod_begin_61 : decode prog_13_method_159_code 61 = .ok (.aload_n 0, 1) := by decide +kernel
theorem d_Mod_begin_62 : decode prog_13_method_159_code 62 = .ok (.iconst 0, 1) := by decide +kernel
theorem d_Mod_begin_63 : decode prog_13_method_159_code 63 = .ok (.putfield 697, 3) := by decide +kernel
theorem d_Mod_begin_66 : decode prog_13_method_159_code 66 = .ok (.aload_n 0, 1) := by decide +kernel
theorem d_Mod_begin_67 : decode prog_13_method_159_code 67 = .ok (.iconst 0, 1) := by decide +kernel
theorem d_Mod_begin_68 : decode prog_13_method_159_code 68 = .ok (.putfield 700, 3) := by decide +kernel
theorem d_Mod_begin_71 : decode prog_13_method_159_code 71 = .ok (.aload_n 0, 1) := by decide +kernel
theorem d_Mod_begin_72 : decode prog_13_method_159_code 72 = .ok (.iconst (-1), 1) := by decide +kernel
theorem d_Mod_begin_73 : decode prog_13_method_159_code 73 = .ok (.putfield 839, 3) := by decide +kernel
theorem d_Mod_begin_76 : decode prog_13_method_159_code 76 = .ok (.aload_n 0, 1) := by decide +kernel
theorem d_Mod_begin_77 : decode prog_13_method_159_code 77 = .ok (.iconst 0, 1) := by decide +kernel
theorem d_Mod_begin_78 : decode prog_13_method_159_code 78 = .ok (.putfield 769, 3) := by decide +kernel
theorem d_Mod_begin_81 : decode prog_13_method_159_code 81 = .ok (.iconst 0, 1) := by decide +kernel
theorem d_Mod_begin_82 : decode prog_13_method_159_code 82 = .ok (.istore_n 1, 1) := by decide +kernel
theorem d_Mod_begin_83 : decode prog_13_method_159_code 83 = .ok (.iload_n 1, 1) := by decide +kernel
theorem d_Mod_begin_84 : decode prog_13_method_159_code 84 = .ok (.iconst 2, 1) := by decide +kernel
theorem d_Mod_begin_85 : decode prog_13_method_159_code 85 = .ok (.if_icmp .ge 30, 3) := by decide +kernel
theorem d_Mod_begin_88 : decode prog_13_method_159_code 88 = .ok (.aload_n 0, 1) := by decide +kernel
theorem d_Mod_begin_89 : decode prog_13_method_159_code 89 = .ok (.getfield 153, 3) := by decide +kernel
theorem d_Mod_begin_92 : decode prog_13_method_159_code 92 = .ok (.iload_n 1, 1) := by decide +kernel
theorem d_Mod_begin_93 : decode prog_13_method_159_code 93 = .ok (.iconst 0, 1) := by decide +kernel
theorem d_Mod_begin_94 : decode prog_13_method_159_code 94 = .ok (.bastore, 1) := by decide +kernel
theorem d_Mod_begin_95 : decode prog_13_method_159_code 95 = .ok (.aload_n 0, 1) := by decide +kernel
theorem d_Mod_begin_96 : decode prog_13_method_159_code 96 = .ok (.getfield 156, 3) := by decide +kernel
theorem d_Mod_begin_99 : decode prog_13_method_159_code 99 = .ok (.iload_n 1, 1) := by decide +kernel
theorem d_Mod_begin_100 : decode prog_13_method_159_code 100 = .ok (.iconst 0, 1) := by decide +kernel
theorem d_Mod_begin_101 : decode prog_13_method_159_code 101 = .ok (.bastore, 1) := by decide +kernel
theorem d_Mod_begin_102 : decode prog_13_method_159_code 102 = .ok (.aload_n 0, 1) := by decide +kernel
theorem d_Mod_begin_103 : decode prog_13_method_159_code 103 = .ok (.getfield 186, 3) := by decide +kernel
theorem d_Mod_begin_106 : decode prog_13_method_159_code 106 = .ok (.iload_n 1, 1) := by decide +kernel
theorem d_Mod_begin_107 : decode prog_13_method_159_code 107 = .ok (.iconst (-1), 1) := by decide +kernel
theorem d_Mod_begin_108 : decode prog_13_method_159_code 108 = .ok (.iastore, 1) := by decide +kernel
theorem d_Mod_begin_109 : decode prog_13_method_159_code 109 = .ok (.iinc 1 1, 3) := by decide +kernel
theorem d_Mod_begin_112 : decode prog_13_method_159_code 112 = .ok (.goto (-29), 3) := by decide +kernel
theorem d_Mod_begin_115 : decode prog_13_method_159_code 115 = .ok (.aload_n 0, 1) := by decide +kernel
theorem d_Mod_look_0 : decode prog_13_method_138_code 0 = .ok (.aload_n 0, 1) := by decide +kernel
theorem d_Mod_look_1 : decode prog_13_method_138_code 1 = .ok (.getfield 703, 3) := by decide +kernel
theorem d_Mod_look_4 : decode prog_13_method_138_code 4 = .ok (.aload_n 0, 1) := by decide +kernel
theorem d_Mod_look_5 : decode prog_13_method_138_code 5 = .ok (.getfield 733, 3) := by decide +kernel
theorem d_Mod_look_8 : decode prog_13_method_138_code 8 = .ok (.iadd, 1) := by decide +kernel
theorem d_Mod_look_9 : decode prog_13_method_138_code 9 = .ok (.istore_n 1, 1) := by decide +kernel
theorem d_Mod_look_10 : decode prog_13_method_138_code 10 = .ok (.iload_n 1, 1) := by decide +kernel
theorem d_Mod_look_11 : decode prog_13_method_138_code 11 = .ok (.aload_n 0, 1) := by decide +kernel
theorem d_Mod_look_12 : decode prog_13_method_138_code 12 = .ok (.getfield 679, 3) := by decide +kernel
theorem d_Mod_look_15 : decode prog_13_method_138_code 15 = .ok (.if_icmp .ge 29, 3) := by decide +kernel
theorem d_Mod_look_44 : decode prog_13_method_138_code 44 = .ok (.aload_n 0, 1) := by decide +kernel
theorem d_Mod_look_45 : decode prog_13_method_138_code 45 = .ok (.iload_n 1, 1) := by decide +kernel
theorem d_Mod_look_46 : decode prog_13_method_138_code 46 = .ok (.putfield 703, 3) := by decide +kernel
theorem d_Mod_look_49 : decode prog_13_method_138_code 49 = .ok (.aload_n 0, 1) := by decide +kernel
theorem d_Mod_look_50 : decode prog_13_method_138_code 50 = .ok (.iconst 1, 1) := by decide +kernel
theorem d_Mod_look_51 : decode prog_13_method_138_code 51 = .ok (.putfield 733, 3) := by decide +kernel
theorem d_Mod_look_54 : decode prog_13_method_138_code 54 = .ok (.aload_n 0, 1) := by decide +kernel
theorem d_Mod_look_55 : decode prog_13_method_138_code 55 = .ok (.iconst 0, 1) := by decide +kernel
theorem d_Mod_look_56 : decode prog_13_method_138_code 56 = .ok (.putfield 736, 3) := by decide +kernel
theorem d_Mod_look_59 : decode prog_13_method_138_code 59 = .ok (.iload_n 1, 1) := by decide +kernel
theorem d_Mod_look_60 : decode prog_13_method_138_code 60 = .ok (.aload_n 0, 1) := by decide +kernel
theorem d_Mod_look_61 : decode prog_13_method_138_code 61 = .ok (.getfield 679, 3) := by decide +kernel
theorem d_Mod_look_64 : decode prog_13_method_138_code 64 = .ok (.if_icmp .lt 16, 3) := by decide +kernel
theorem d_Mod_look_67 : decode prog_13_method_138_code 67 = .ok (.aload_n 0, 1) := by decide +kernel
theorem d_Mod_look_68 : decode prog_13_method_138_code 68 = .ok (.iconst 0, 1) := by decide +kernel
theorem d_Mod_look_69 : decode prog_13_method_138_code 69 = .ok (.putfield 733, 3) := by decide +kernel
theorem d_Mod_look_72 : decode prog_13_method_138_code 72 = .ok (.aload_n 0, 1) := by decide +kernel
theorem d_Mod_look_73 : decode prog_13_method_138_code 73 = .ok (.iconst 0, 1) := by decide +kernel
theorem d_Mod_look_74 : decode prog_13_method_138_code 74 = .ok (.putfield 709, 3) := by decide +kernel
theorem d_Mod_look_77 : decode prog_13_method_138_code 77 = .ok (.goto 297, 3) := by decide +kernel
theorem d_Mod_look_374 : decode prog_13_method_138_code 374 = .ok (.return_, 1) := by decide +kernel
theorem d_Mod_begin_116 : decode prog_13_method_159_code 116 = .ok (.invokevirtual 754, 3) := by decide +kernel
theorem d_Mod_begin_119 : decode prog_13_method_159_code 119 = .ok (.return_, 1) := by decide +kernel
theorem d_Mod_read_6 : decode prog_13_method_162_code 6 = .ok (.invokevirtual 863, 3) := by decide +kernel
theorem d_Mod_read_9 : decode prog_13_method_162_code 9 = .ok (.aload_n 0, 1) := by decide +kernel
theorem d_Mod_read_10 : decode prog_13_method_162_code 10 = .ok (.iconst 0, 1) := by decide +kernel
theorem d_Mod_read_11 : decode prog_13_method_162_code 11 = .ok (.putfield 860, 3) := by decide +kernel
theorem d_Mod_read_14 : decode prog_13_method_162_code 14 = .ok (.aload_n 0, 1) := by decide +kernel
theorem d_Mod_read_15 : decode prog_13_method_162_code 15 = .ok (.iconst 0, 1) := by decide +kernel
theorem d_Mod_read_16 : decode prog_13_method_162_code 16 = .ok (.putfield 806, 3) := by decide +kernel
theorem d_Mod_read_19 : decode prog_13_method_162_code 19 = .ok (.aload_n 0, 1) := by decide +kernel
theorem d_Mod_read_20 : decode prog_13_method_162_code 20 = .ok (.iconst 0, 1) := by decide +kernel
theorem d_Mod_read_21 : decode prog_13_method_162_code 21 = .ok (.putfield 834, 3) := by decide +kernel
theorem d_Mod_read_24 : decode prog_13_method_162_code 24 = .ok (.aload_n 0, 1) := by decide +kernel
theorem d_Mod_read_25 : decode prog_13_method_162_code 25 = .ok (.iconst 0, 1) := by decide +kernel
theorem d_Mod_read_26 : decode prog_13_method_162_code 26 = .ok (.putfield 812, 3) := by decide +kernel
theorem d_Mod_read_29 : decode prog_13_method_162_code 29 = .ok (.aload_n 0, 1) := by decide +kernel
theorem d_Mod_read_30 : decode prog_13_method_162_code 30 = .ok (.iconst 0, 1) := by decide +kernel
theorem d_Mod_read_31 : decode prog_13_method_162_code 31 = .ok (.putfield 866, 3) := by decide +kernel
theorem d_Mod_read_34 : decode prog_13_method_162_code 34 = .ok (.aload_n 0, 1) := by decide +kernel
theorem d_Mod_readStatement_0 : decode prog_13_method_158_code 0 = .ok (.aload_n 0, 1) := by decide +kernel
theorem d_Mod_readStatement_1 : decode prog_13_method_158_code 1 = .ok (.iconst (-1), 1) := by decide +kernel
theorem d_Mod_readStatement_2 : decode prog_13_method_158_code 2 = .ok (.putfield 809, 3) := by decide +kernel
theorem d_Mod_readStatement_5 : decode prog_13_method_158_code 5 = .ok (.aload_n 0, 1) := by decide +kernel
theorem d_Mod_openStatement_0 : decode prog_13_method_153_code 0 = .ok (.aload_n 0, 1) := by decide +kernel
theorem d_Mod_openStatement_1 : decode prog_13_method_153_code 1 = .ok (.dup, 1) := by decide +kernel
theorem d_Mod_openStatement_2 : decode prog_13_method_153_code 2 = .ok (.getfield 809, 3) := by decide +kernel
theorem d_Mod_openStatement_5 : decode prog_13_method_153_code 5 = .ok (.iconst 1, 1) := by decide +kernel
theorem d_Mod_openStatement_6 : decode prog_13_method_153_code 6 = .ok (.iadd, 1) := by decide +kernel
theorem d_Mod_openStatement_7 : decode prog_13_method_153_code 7 = .ok (.putfield 809, 3) := by decide +kernel
theorem d_Mod_openStatement_10 : decode prog_13_method_153_code 10 = .ok (.aload_n 0, 1) := by decide +kernel
theorem d_Mod_openStatement_11 : decode prog_13_method_153_code 11 = .ok (.getfield 162, 3) := by decide +kernel
theorem d_Mod_openStatement_14 : decode prog_13_method_153_code 14 = .ok (.aload_n 0, 1) := by decide +kernel
theorem d_Mod_openStatement_15 : decode prog_13_method_153_code 15 = .ok (.getfield 809, 3) := by decide +kernel
theorem d_Mod_openStatement_18 : decode prog_13_method_153_code 18 = .ok (.iconst 0, 1) := by decide +kernel
theorem d_Mod_openStatement_19 : decode prog_13_method_153_code 19 = .ok (.iastore, 1) := by decide +kernel
theorem d_Mod_openStatement_20 : decode prog_13_method_153_code 20 = .ok (.aload_n 0, 1) := by decide +kernel
theorem d_Mod_openStatement_21 : decode prog_13_method_153_code 21 = .ok (.getfield 168, 3) := by decide +kernel
theorem d_Mod_openStatement_24 : decode prog_13_method_153_code 24 = .ok (.aload_n 0, 1) := by decide +kernel
theorem d_Mod_openStatement_25 : decode prog_13_method_153_code 25 = .ok (.getfield 809, 3) := by decide +kernel
theorem d_Mod_openStatement_28 : decode prog_13_method_153_code 28 = .ok (.iconst (-1), 1) := by decide +kernel
theorem d_Mod_openStatement_29 : decode prog_13_method_153_code 29 = .ok (.iastore, 1) := by decide +kernel
theorem d_Mod_openStatement_30 : decode prog_13_method_153_code 30 = .ok (.aload_n 0, 1) := by decide +kernel
theorem d_Mod_openStatement_31 : decode prog_13_method_153_code 31 = .ok (.getfield 171, 3) := by decide +kernel
theorem d_Mod_openStatement_34 : decode prog_13_method_153_code 34 = .ok (.aload_n 0, 1) := by decide +kernel
theorem d_Mod_openStatement_35 : decode prog_13_method_153_code 35 = .ok (.getfield 809, 3) := by decide +kernel
theorem d_Mod_openStatement_38 : decode prog_13_method_153_code 38 = .ok (.iconst (-1), 1) := by decide +kernel
theorem d_Mod_openStatement_39 : decode prog_13_method_153_code 39 = .ok (.iastore, 1) := by decide +kernel
theorem d_Mod_openStatement_40 : decode prog_13_method_153_code 40 = .ok (.aload_n 0, 1) := by decide +kernel
theorem d_Mod_openStatement_41 : decode prog_13_method_153_code 41 = .ok (.getfield 174, 3) := by decide +kernel
theorem d_Mod_openStatement_44 : decode prog_13_method_153_code 44 = .ok (.aload_n 0, 1) := by decide +kernel
theorem d_Mod_openStatement_45 : decode prog_13_method_153_code 45 = .ok (.getfield 809, 3) := by decide +kernel
theorem d_Mod_openStatement_48 : decode prog_13_method_153_code 48 = .ok (.iconst 0, 1) := by decide +kernel
theorem d_Mod_openStatement_49 : decode prog_13_method_153_code 49 = .ok (.iastore, 1) := by decide +kernel
theorem d_Mod_openStatement_50 : decode prog_13_method_153_code 50 = .ok (.aload_n 0, 1) := by decide +kernel
theorem d_Mod_openStatement_51 : decode prog_13_method_153_code 51 = .ok (.getfield 177, 3) := by decide +kernel
theorem d_Mod_openStatement_54 : decode prog_13_method_153_code 54 = .ok (.aload_n 0, 1) := by decide +kernel
theorem d_Mod_openStatement_55 : decode prog_13_method_153_code 55 = .ok (.getfield 809, 3) := by decide +kernel
theorem d_Mod_openStatement_58 : decode prog_13_method_153_code 58 = .ok (.aload_n 0, 1) := by decide +kernel
theorem d_Mod_openStatement_59 : decode prog_13_method_153_code 59 = .ok (.getfield 812, 3) := by decide +kernel
theorem d_Mod_openStatement_62 : decode prog_13_method_153_code 62 = .ok (.iastore, 1) := by decide +kernel
theorem d_Mod_openStatement_63 : decode prog_13_method_153_code 63 = .ok (.aload_n 0, 1) := by decide +kernel
theorem d_Mod_openStatement_64 : decode prog_13_method_153_code 64 = .ok (.getfield 697, 3) := by decide +kernel
theorem d_Mod_openStatement_67 : decode prog_13_method_153_code 67 = .ok (.ifCond .ne 190, 3) := by decide +kernel
theorem d_Mod_openStatement_70 : decode prog_13_method_153_code 70 = .ok (.aload_n 0, 1) := by decide +kernel
theorem d_Mod_openStatement_71 : decode prog_13_method_153_code 71 = .ok (.iconst 1, 1) := by decide +kernel
theorem d_Mod_isWord_I_0 : decode prog_13_method_140_code 0 = .ok (.aload_n 0, 1) := by decide +kernel
theorem d_Mod_isWord_I_1 : decode prog_13_method_140_code 1 = .ok (.getfield 709, 3) := by decide +kernel
theorem d_Mod_isWord_I_4 : decode prog_13_method_140_code 4 = .ok (.iconst 2, 1) := by decide +kernel
theorem d_Mod_isWord_I_5 : decode prog_13_method_140_code 5 = .ok (.if_icmp .ne 15, 3) := by decide +kernel
theorem d_Mod_isWord_I_20 : decode prog_13_method_140_code 20 = .ok (.iconst 0, 1) := by decide +kernel
theorem d_Mod_isWord_I_21 : decode prog_13_method_140_code 21 = .ok (.ireturn, 1) := by decide +kernel
theorem d_Mod_openStatement_72 : decode prog_13_method_153_code 72 = .ok (.invokevirtual 782, 3) := by decide +kernel
theorem d_Mod_openStatement_75 : decode prog_13_method_153_code 75 = .ok (.ifCond .ne 11, 3) := by decide +kernel
theorem d_Mod_openStatement_78 : decode prog_13_method_153_code 78 = .ok (.aload_n 0, 1) := by decide +kernel
theorem d_Mod_openStatement_79 : decode prog_13_method_153_code 79 = .ok (.iconst 2, 1) := by decide +kernel
theorem d_Mod_openStatement_80 : decode prog_13_method_153_code 80 = .ok (.invokevirtual 782, 3) := by decide +kernel
theorem d_Mod_openStatement_83 : decode prog_13_method_153_code 83 = .ok (.ifCond .eq 174, 3) := by decide +kernel
theorem d_Mod_openStatement_257 : decode prog_13_method_153_code 257 = .ok (.return_, 1) := by decide +kernel
theorem d_Mod_readStatement_6 : decode prog_13_method_158_code 6 = .ok (.invokevirtual 845, 3) := by decide +kernel
theorem d_Mod_readStatement_9 : decode prog_13_method_158_code 9 = .ok (.iconst 1, 1) := by decide +kernel
theorem d_Mod_readStatement_10 : decode prog_13_method_158_code 10 = .ok (.istore_n 1, 1) := by decide +kernel
theorem d_Mod_readStatement_11 : decode prog_13_method_158_code 11 = .ok (.iload_n 1, 1) := by decide +kernel
theorem d_Mod_readStatement_12 : decode prog_13_method_158_code 12 = .ok (.ifCond .eq 104, 3) := by decide +kernel
theorem d_Mod_readStatement_15 : decode prog_13_method_158_code 15 = .ok (.aload_n 0, 1) := by decide +kernel
theorem d_Mod_readStatement_16 : decode prog_13_method_158_code 16 = .ok (.getfield 697, 3) := by decide +kernel
theorem d_Mod_readStatement_19 : decode prog_13_method_158_code 19 = .ok (.ifCond .ne 97, 3) := by decide +kernel
theorem d_Mod_readStatement_22 : decode prog_13_method_158_code 22 = .ok (.aload_n 0, 1) := by decide +kernel
theorem d_Mod_readStatement_23 : decode prog_13_method_158_code 23 = .ok (.iconst 0, 1) := by decide +kernel
theorem d_Mod_readStatement_24 : decode prog_13_method_158_code 24 = .ok (.putfield 824, 3) := by decide +kernel
theorem d_Mod_readStatement_27 : decode prog_13_method_158_code 27 = .ok (.aload_n 0, 1) := by decide +kernel
theorem d_Mod_readOne_0 : decode prog_13_method_157_code 0 = .ok (.aload_n 0, 1) := by decide +kernel
theorem d_Mod_readOne_1 : decode prog_13_method_157_code 1 = .ok (.iconst 5, 1) := by decide +kernel
theorem d_Mod_readOne_2 : decode prog_13_method_157_code 2 = .ok (.invokevirtual 782, 3) := by decide +kernel
theorem d_Mod_readOne_5 : decode prog_13_method_157_code 5 = .ok (.ifCond .eq 23, 3) := by decide +kernel
theorem d_Mod_readOne_28 : decode prog_13_method_157_code 28 = .ok (.aload_n 0, 1) := by decide +kernel
theorem d_Mod_readOne_29 : decode prog_13_method_157_code 29 = .ok (.bipush 40, 2) := by decide +kernel
theorem d_Mod_isSign_I_0 : decode prog_13_method_139_code 0 = .ok (.aload_n 0, 1) := by decide +kernel
theorem d_Mod_isSign_I_1 : decode prog_13_method_139_code 1 = .ok (.getfield 709, 3) := by decide +kernel
theorem d_Mod_isSign_I_4 : decode prog_13_method_139_code 4 = .ok (.iconst 4, 1) := by decide +kernel
theorem d_Mod_isSign_I_5 : decode prog_13_method_139_code 5 = .ok (.if_icmp .ne 15, 3) := by decide +kernel
theorem d_Mod_isSign_I_20 : decode prog_13_method_139_code 20 = .ok (.iconst 0, 1) := by decide +kernel
theorem d_Mod_isSign_I_21 : decode prog_13_method_139_code 21 = .ok (.ireturn, 1) := by decide +kernel
theorem d_Mod_readOne_31 : decode prog_13_method_157_code 31 = .ok (.invokevirtual 757, 3) := by decide +kernel
theorem d_Mod_readOne_34 : decode prog_13_method_157_code 34 = .ok (.ifCond .eq 21, 3) := by decide +kernel
theorem d_Mod_readOne_55 : decode prog_13_method_157_code 55 = .ok (.aload_n 0, 1) := by decide +kernel
theorem d_Mod_readOne_56 : decode prog_13_method_157_code 56 = .ok (.bipush 6, 2) := by decide +kernel
theorem d_Mod_readOne_58 : decode prog_13_method_157_code 58 = .ok (.invokevirtual 782, 3) := by decide +kernel
theorem d_Mod_readOne_61 : decode prog_13_method_157_code 61 = .ok (.ifCond .ne 12, 3) := by decide +kernel
theorem d_Mod_readOne_64 : decode prog_13_method_157_code 64 = .ok (.aload_n 0, 1) := by decide +kernel
theorem d_Mod_readOne_65 : decode prog_13_method_157_code 65 = .ok (.bipush 7, 2) := by decide +kernel
theorem d_Mod_readOne_67 : decode prog_13_method_157_code 67 = .ok (.invokevirtual 782, 3) := by decide +kernel
theorem d_Mod_readOne_70 : decode prog_13_method_157_code 70 = .ok (.ifCond .eq 47, 3) := by decide +kernel
theorem d_Mod_readOne_117 : decode prog_13_method_157_code 117 = .ok (.aload_n 0, 1) := by decide +kernel
theorem d_Mod_readComparison_0 : decode prog_13_method_156_code 0 = .ok (.aload_n 0, 1) := by decide +kernel
theorem d_Mod_readComparison_1 : decode prog_13_method_156_code 1 = .ok (.iconst 0, 1) := by decide +kernel
theorem d_Mod_readComparison_2 : decode prog_13_method_156_code 2 = .ok (.putfield 769, 3) := by decide +kernel
theorem d_Mod_readComparison_5 : decode prog_13_method_156_code 5 = .ok (.aload_n 0, 1) := by decide +kernel
theorem d_Mod_readSum_0 : decode prog_13_method_149_code 0 = .ok (.iconst 0, 1) := by decide +kernel
theorem d_Mod_readSum_1 : decode prog_13_method_149_code 1 = .ok (.istore_n 1, 1) := by decide +kernel
theorem d_Mod_readSum_2 : decode prog_13_method_149_code 2 = .ok (.aload_n 0, 1) := by decide +kernel
theorem d_Mod_readSum_3 : decode prog_13_method_149_code 3 = .ok (.iconst 0, 1) := by decide +kernel
theorem d_Mod_beginSum_I_0 : decode prog_13_method_147_code 0 = .ok (.iconst 0, 1) := by decide +kernel
theorem d_Mod_beginSum_I_1 : decode prog_13_method_147_code 1 = .ok (.istore_n 2, 1) := by decide +kernel
theorem d_Mod_beginSum_I_2 : decode prog_13_method_147_code 2 = .ok (.iload_n 2, 1) := by decide +kernel
theorem d_Mod_beginSum_I_3 : decode prog_13_method_147_code 3 = .ok (.bipush 49, 2) := by decide +kernel
theorem d_Mod_beginSum_I_5 : decode prog_13_method_147_code 5 = .ok (.if_icmp .ge 21, 3) := by decide +kernel
theorem d_Mod_beginSum_I_8 : decode prog_13_method_147_code 8 = .ok (.aload_n 0, 1) := by decide +kernel
theorem d_Mod_beginSum_I_9 : decode prog_13_method_147_code 9 = .ok (.getfield 135, 3) := by decide +kernel
theorem d_Mod_beginSum_I_12 : decode prog_13_method_147_code 12 = .ok (.bipush 49, 2) := by decide +kernel
theorem d_Mod_beginSum_I_14 : decode prog_13_method_147_code 14 = .ok (.iload_n 1, 1) := by decide +kernel
theorem d_Mod_beginSum_I_15 : decode prog_13_method_147_code 15 = .ok (.imul, 1) := by decide +kernel
theorem d_Mod_beginSum_I_16 : decode prog_13_method_147_code 16 = .ok (.iload_n 2, 1) := by decide +kernel
theorem d_Mod_beginSum_I_17 : decode prog_13_method_147_code 17 = .ok (.iadd, 1) := by decide +kernel
theorem d_Mod_beginSum_I_18 : decode prog_13_method_147_code 18 = .ok (.lconst 0, 1) := by decide +kernel
theorem d_Mod_beginSum_I_19 : decode prog_13_method_147_code 19 = .ok (.lastore, 1) := by decide +kernel
theorem d_Mod_beginSum_I_20 : decode prog_13_method_147_code 20 = .ok (.iinc 2 1, 3) := by decide +kernel
theorem d_Mod_beginSum_I_23 : decode prog_13_method_147_code 23 = .ok (.goto (-21), 3) := by decide +kernel
theorem d_Mod_beginSum_I_26 : decode prog_13_method_147_code 26 = .ok (.aload_n 0, 1) := by decide +kernel
theorem d_Mod_beginSum_I_27 : decode prog_13_method_147_code 27 = .ok (.getfield 141, 3) := by decide +kernel
theorem d_Mod_beginSum_I_30 : decode prog_13_method_147_code 30 = .ok (.iload_n 1, 1) := by decide +kernel
theorem d_Mod_beginSum_I_31 : decode prog_13_method_147_code 31 = .ok (.iconst 0, 1) := by decide +kernel
theorem d_Mod_beginSum_I_32 : decode prog_13_method_147_code 32 = .ok (.bastore, 1) := by decide +kernel
theorem d_Mod_beginSum_I_33 : decode prog_13_method_147_code 33 = .ok (.aload_n 0, 1) := by decide +kernel
theorem d_Mod_beginSum_I_34 : decode prog_13_method_147_code 34 = .ok (.getfield 144, 3) := by decide +kernel
theorem d_Mod_beginSum_I_37 : decode prog_13_method_147_code 37 = .ok (.iload_n 1, 1) := by decide +kernel
theorem d_Mod_beginSum_I_38 : decode prog_13_method_147_code 38 = .ok (.aload_n 0, 1) := by decide +kernel
theorem d_Mod_beginSum_I_39 : decode prog_13_method_147_code 39 = .ok (.bipush 45, 2) := by decide +kernel
theorem d_Mod_beginSum_I_41 : decode prog_13_method_147_code 41 = .ok (.invokevirtual 757, 3) := by decide +kernel
theorem d_Mod_beginSum_I_44 : decode prog_13_method_147_code 44 = .ok (.ifCond .eq 7, 3) := by decide +kernel
theorem d_Mod_beginSum_I_51 : decode prog_13_method_147_code 51 = .ok (.iconst 1, 1) := by decide +kernel
theorem d_Mod_beginSum_I_52 : decode prog_13_method_147_code 52 = .ok (.iastore, 1) := by decide +kernel
theorem d_Mod_beginSum_I_53 : decode prog_13_method_147_code 53 = .ok (.aload_n 0, 1) := by decide +kernel
theorem d_Mod_beginSum_I_54 : decode prog_13_method_147_code 54 = .ok (.bipush 45, 2) := by decide +kernel
theorem d_Mod_beginSum_I_56 : decode prog_13_method_147_code 56 = .ok (.invokevirtual 757, 3) := by decide +kernel
theorem d_Mod_beginSum_I_59 : decode prog_13_method_147_code 59 = .ok (.ifCond .eq 7, 3) := by decide +kernel
theorem d_Mod_beginSum_I_66 : decode prog_13_method_147_code 66 = .ok (.return_, 1) := by decide +kernel
theorem d_Mod_readSum_4 : decode prog_13_method_149_code 4 = .ok (.invokevirtual 785, 3) := by decide +kernel
theorem d_Mod_readSum_7 : decode prog_13_method_149_code 7 = .ok (.iconst 1, 1) := by decide +kernel
theorem d_Mod_readSum_8 : decode prog_13_method_149_code 8 = .ok (.istore_n 2, 1) := by decide +kernel
theorem d_Mod_readSum_9 : decode prog_13_method_149_code 9 = .ok (.iload_n 2, 1) := by decide +kernel
theorem d_Mod_readSum_10 : decode prog_13_method_149_code 10 = .ok (.ifCond .eq 231, 3) := by decide +kernel
theorem d_Mod_readSum_13 : decode prog_13_method_149_code 13 = .ok (.aload_n 0, 1) := by decide +kernel
theorem d_Mod_readSum_14 : decode prog_13_method_149_code 14 = .ok (.getfield 697, 3) := by decide +kernel
theorem d_Mod_readSum_17 : decode prog_13_method_149_code 17 = .ok (.ifCond .ne 224, 3) := by decide +kernel
theorem d_Mod_readSum_20 : decode prog_13_method_149_code 20 = .ok (.aload_n 0, 1) := by decide +kernel
theorem d_Mod_readSum_21 : decode prog_13_method_149_code 21 = .ok (.bipush 91, 2) := by decide +kernel
theorem d_Mod_readSum_23 : decode prog_13_method_149_code 23 = .ok (.invokevirtual 757, 3) := by decide +kernel
theorem d_Mod_readSum_26 : decode prog_13_method_149_code 26 = .ok (.ifCond .eq 25, 3) := by decide +kernel
theorem d_Mod_readSum_51 : decode prog_13_method_149_code 51 = .ok (.aload_n 0, 1) := by decide +kernel
theorem d_Mod_readAtom_0 : decode prog_13_method_148_code 0 = .ok (.iconst 0, 1) := by decide +kernel
theorem d_Mod_readAtom_1 : decode prog_13_method_148_code 1 = .ok (.istore_n 1, 1) := by decide +kernel
theorem d_Mod_readAtom_2 : decode prog_13_method_148_code 2 = .ok (.iload_n 1, 1) := by decide +kernel
theorem d_Mod_readAtom_3 : decode prog_13_method_148_code 3 = .ok (.bipush 49, 2) := by decide +kernel
theorem d_Mod_readAtom_5 : decode prog_13_method_148_code 5 = .ok (.if_icmp .ge 16, 3) := by decide +kernel
theorem d_Mod_readAtom_8 : decode prog_13_method_148_code 8 = .ok (.aload_n 0, 1) := by decide +kernel
theorem d_Mod_readAtom_9 : decode prog_13_method_148_code 9 = .ok (.getfield 147, 3) := by decide +kernel
theorem d_Mod_readAtom_12 : decode prog_13_method_148_code 12 = .ok (.iload_n 1, 1) := by decide +kernel
theorem d_Mod_readAtom_13 : decode prog_13_method_148_code 13 = .ok (.lconst 0, 1) := by decide +kernel
theorem d_Mod_readAtom_14 : decode prog_13_method_148_code 14 = .ok (.lastore, 1) := by decide +kernel
theorem d_Mod_readAtom_15 : decode prog_13_method_148_code 15 = .ok (.iinc 1 1, 3) := by decide +kernel
theorem d_Mod_readAtom_18 : decode prog_13_method_148_code 18 = .ok (.goto (-16), 3) := by decide +kernel
theorem d_Mod_readAtom_21 : decode prog_13_method_148_code 21 = .ok (.aload_n 0, 1) := by decide +kernel
theorem d_Mod_readAtom_22 : decode prog_13_method_148_code 22 = .ok (.getfield 709, 3) := by decide +kernel
theorem d_Mod_readAtom_25 : decode prog_13_method_148_code 25 = .ok (.iconst 3, 1) := by decide +kernel
theorem d_Mod_readAtom_26 : decode prog_13_method_148_code 26 = .ok (.if_icmp .ne 17, 3) := by decide +kernel
theorem d_Mod_readAtom_43 : decode prog_13_method_148_code 43 = .ok (.aload_n 0, 1) := by decide +kernel
theorem d_Mod_readAtom_44 : decode prog_13_method_148_code 44 = .ok (.bipush 8, 2) := by decide +kernel
theorem d_Mod_readAtom_46 : decode prog_13_method_148_code 46 = .ok (.invokevirtual 782, 3) := by decide +kernel
theorem d_Mod_readAtom_49 : decode prog_13_method_148_code 49 = .ok (.ifCond .ne 12, 3) := by decide +kernel
theorem d_Mod_readAtom_52 : decode prog_13_method_148_code 52 = .ok (.aload_n 0, 1) := by decide +kernel
theorem d_Mod_readAtom_53 : decode prog_13_method_148_code 53 = .ok (.bipush 9, 2) := by decide +kernel
theorem d_Mod_readAtom_55 : decode prog_13_method_148_code 55 = .ok (.invokevirtual 782, 3) := by decide +kernel
theorem d_Mod_readAtom_58 : decode prog_13_method_148_code 58 = .ok (.ifCond .eq 66, 3) := by decide +kernel
theorem d_Mod_readAtom_124 : decode prog_13_method_148_code 124 = .ok (.aload_n 0, 1) := by decide +kernel
theorem d_Mod_cannot_0 : decode prog_13_method_135_code 0 = .ok (.aload_n 0, 1) := by decide +kernel
theorem d_Mod_cannot_1 : decode prog_13_method_135_code 1 = .ok (.aload_n 0, 1) := by decide +kernel
theorem d_Mod_cannot_2 : decode prog_13_method_135_code 2 = .ok (.getfield 709, 3) := by decide +kernel
theorem d_Mod_cannot_5 : decode prog_13_method_135_code 5 = .ok (.iconst 1, 1) := by decide +kernel
theorem d_Mod_cannot_6 : decode prog_13_method_135_code 6 = .ok (.if_icmp .ne 7, 3) := by decide +kernel
theorem d_Mod_cannot_13 : decode prog_13_method_135_code 13 = .ok (.iconst 2, 1) := by decide +kernel
theorem d_Mod_fail_I_0 : decode prog_13_method_134_code 0 = .ok (.aload_n 0, 1) := by decide +kernel
theorem d_Mod_fail_I_1 : decode prog_13_method_134_code 1 = .ok (.getfield 697, 3) := by decide +kernel
theorem d_Mod_fail_I_4 : decode prog_13_method_134_code 4 = .ok (.ifCond .ne 21, 3) := by decide +kernel
theorem d_Mod_fail_I_7 : decode prog_13_method_134_code 7 = .ok (.aload_n 0, 1) := by decide +kernel
theorem d_Mod_fail_I_8 : decode prog_13_method_134_code 8 = .ok (.iconst 1, 1) := by decide +kernel
theorem d_Mod_fail_I_9 : decode prog_13_method_134_code 9 = .ok (.putfield 697, 3) := by decide +kernel
theorem d_Mod_fail_I_12 : decode prog_13_method_134_code 12 = .ok (.aload_n 0, 1) := by decide +kernel
theorem d_Mod_fail_I_13 : decode prog_13_method_134_code 13 = .ok (.iload_n 1, 1) := by decide +kernel
theorem d_Mod_fail_I_14 : decode prog_13_method_134_code 14 = .ok (.putfield 700, 3) := by decide +kernel
theorem d_Mod_fail_I_17 : decode prog_13_method_134_code 17 = .ok (.aload_n 0, 1) := by decide +kernel
theorem d_Mod_fail_I_18 : decode prog_13_method_134_code 18 = .ok (.aload_n 0, 1) := by decide +kernel
theorem d_Mod_fail_I_19 : decode prog_13_method_134_code 19 = .ok (.getfield 703, 3) := by decide +kernel
theorem d_Mod_fail_I_22 : decode prog_13_method_134_code 22 = .ok (.putfield 706, 3) := by decide +kernel
theorem d_Mod_fail_I_25 : decode prog_13_method_134_code 25 = .ok (.return_, 1) := by decide +kernel
theorem d_Mod_cannot_14 : decode prog_13_method_135_code 14 = .ok (.invokevirtual 712, 3) := by decide +kernel
theorem d_Mod_cannot_17 : decode prog_13_method_135_code 17 = .ok (.return_, 1) := by decide +kernel
theorem d_Mod_readAtom_125 : decode prog_13_method_148_code 125 = .ok (.invokevirtual 763, 3) := by decide +kernel
theorem d_Mod_readAtom_128 : decode prog_13_method_148_code 128 = .ok (.return_, 1) := by decide +kernel
theorem d_Mod_readSum_52 : decode prog_13_method_149_code 52 = .ok (.invokevirtual 791, 3) := by decide +kernel
theorem d_Mod_readSum_55 : decode prog_13_method_149_code 55 = .ok (.iconst 1, 1) := by decide +kernel
theorem d_Mod_readSum_56 : decode prog_13_method_149_code 56 = .ok (.istore_n 3, 1) := by decide +kernel
theorem d_Mod_readSum_57 : decode prog_13_method_149_code 57 = .ok (.iload_n 3, 1) := by decide +kernel
theorem d_Mod_readSum_58 : decode prog_13_method_149_code 58 = .ok (.ifCond .eq 180, 3) := by decide +kernel
theorem d_Mod_readSum_61 : decode prog_13_method_149_code 61 = .ok (.aload_n 0, 1) := by decide +kernel
theorem d_Mod_readSum_62 : decode prog_13_method_149_code 62 = .ok (.getfield 697, 3) := by decide +kernel
theorem d_Mod_readSum_65 : decode prog_13_method_149_code 65 = .ok (.ifCond .ne 173, 3) := by decide +kernel
theorem d_Mod_readSum_238 : decode prog_13_method_149_code 238 = .ok (.goto (-229), 3) := by decide +kernel
theorem d_Mod_readSum_241 : decode prog_13_method_149_code 241 = .ok (.return_, 1) := by decide +kernel
theorem d_Mod_readComparison_6 : decode prog_13_method_156_code 6 = .ok (.invokevirtual 827, 3) := by decide +kernel
theorem d_Mod_readComparison_9 : decode prog_13_method_156_code 9 = .ok (.aload_n 0, 1) := by decide +kernel
theorem d_Mod_readComparison_10 : decode prog_13_method_156_code 10 = .ok (.getfield 697, 3) := by decide +kernel
theorem d_Mod_readComparison_13 : decode prog_13_method_156_code 13 = .ok (.ifCond .eq 4, 3) := by decide +kernel
theorem d_Mod_readComparison_16 : decode prog_13_method_156_code 16 = .ok (.return_, 1) := by decide +kernel
theorem d_Mod_readOne_118 : decode prog_13_method_157_code 118 = .ok (.invokevirtual 848, 3) := by decide +kernel
theorem d_Mod_readOne_121 : decode prog_13_method_157_code 121 = .ok (.return_, 1) := by decide +kernel
theorem d_Mod_readStatement_28 : decode prog_13_method_158_code 28 = .ok (.invokevirtual 851, 3) := by decide +kernel
theorem d_Mod_readStatement_31 : decode prog_13_method_158_code 31 = .ok (.aload_n 0, 1) := by decide +kernel
theorem d_Mod_readStatement_32 : decode prog_13_method_158_code 32 = .ok (.getfield 824, 3) := by decide +kernel
theorem d_Mod_readStatement_35 : decode prog_13_method_158_code 35 = .ok (.ifCond .eq (-24), 3) := by decide +kernel
theorem d_Mod_readStatement_116 : decode prog_13_method_158_code 116 = .ok (.aload_n 0, 1) := by decide +kernel
theorem d_Mod_readStatement_117 : decode prog_13_method_158_code 117 = .ok (.getfield 697, 3) := by decide +kernel
theorem d_Mod_readStatement_120 : decode prog_13_method_158_code 120 = .ok (.ifCond .ne 14, 3) := by decide +kernel
theorem d_Mod_readStatement_134 : decode prog_13_method_158_code 134 = .ok (.return_, 1) := by decide +kernel
theorem d_Mod_read_35 : decode prog_13_method_162_code 35 = .ok (.invokevirtual 869, 3) := by decide +kernel
theorem d_Mod_read_38 : decode prog_13_method_162_code 38 = .ok (.aload_n 0, 1) := by decide +kernel
theorem d_Mod_read_39 : decode prog_13_method_162_code 39 = .ok (.getfield 697, 3) := by decide +kernel
theorem d_Mod_read_42 : decode prog_13_method_162_code 42 = .ok (.ifCond .ne 91, 3) := by decide +kernel
theorem d_Mod_read_133 : decode prog_13_method_162_code 133 = .ok (.aload_n 0, 1) := by decide +kernel
theorem d_Mod_read_134 : decode prog_13_method_162_code 134 = .ok (.getfield 697, 3) := by decide +kernel
theorem d_Mod_read_137 : decode prog_13_method_162_code 137 = .ok (.ifCond .eq 8, 3) := by decide +kernel
theorem d_Mod_read_140 : decode prog_13_method_162_code 140 = .ok (.aload_n 0, 1) := by decide +kernel
theorem d_Mod_told_0 : decode prog_13_method_160_code 0 = .ok (.aload_n 0, 1) := by decide +kernel
theorem d_Mod_told_1 : decode prog_13_method_160_code 1 = .ok (.aload_n 0, 1) := by decide +kernel
theorem d_Mod_told_2 : decode prog_13_method_160_code 2 = .ok (.getfield 700, 3) := by decide +kernel
theorem d_Mod_told_5 : decode prog_13_method_160_code 5 = .ok (.putfield 860, 3) := by decide +kernel
theorem d_Mod_told_8 : decode prog_13_method_160_code 8 = .ok (.sipush (-1000), 3) := by decide +kernel
theorem d_Mod_told_11 : decode prog_13_method_160_code 11 = .ok (.aload_n 0, 1) := by decide +kernel
theorem d_Mod_told_12 : decode prog_13_method_160_code 12 = .ok (.getfield 706, 3) := by decide +kernel
theorem d_Mod_told_15 : decode prog_13_method_160_code 15 = .ok (.isub, 1) := by decide +kernel
theorem d_Mod_told_16 : decode prog_13_method_160_code 16 = .ok (.ireturn, 1) := by decide +kernel
theorem d_Mod_read_141 : decode prog_13_method_162_code 141 = .ok (.invokevirtual 875, 3) := by decide +kernel
theorem d_Mod_read_144 : decode prog_13_method_162_code 144 = .ok (.ireturn, 1) := by decide +kernel
theorem d_Mod_meet_0 : decode prog_13_method_179_code 0 = .ok (.aload_n 0, 1) := by decide +kernel
theorem d_Mod_meet_1 : decode prog_13_method_179_code 1 = .ok (.iconst 0, 1) := by decide +kernel
theorem d_Mod_meet_2 : decode prog_13_method_179_code 2 = .ok (.putfield 217, 3) := by decide +kernel
theorem d_Mod_meet_5 : decode prog_13_method_179_code 5 = .ok (.aload_n 0, 1) := by decide +kernel
theorem d_Mod_meet_6 : decode prog_13_method_179_code 6 = .ok (.invokevirtual 863, 3) := by decide +kernel
theorem d_Mod_meet_9 : decode prog_13_method_179_code 9 = .ok (.aload_n 0, 1) := by decide +kernel
theorem d_Mod_meet_10 : decode prog_13_method_179_code 10 = .ok (.iconst 0, 1) := by decide +kernel
theorem d_Mod_meet_11 : decode prog_13_method_179_code 11 = .ok (.putfield 860, 3) := by decide +kernel
theorem d_Mod_meet_14 : decode prog_13_method_179_code 14 = .ok (.aload_n 0, 1) := by decide +kernel
theorem d_Mod_meet_15 : decode prog_13_method_179_code 15 = .ok (.iconst 0, 1) := by decide +kernel
theorem d_Mod_readCurve_I_0 : decode prog_13_method_174_code 0 = .ok (.aload_n 0, 1) := by decide +kernel
theorem d_Mod_readCurve_I_1 : decode prog_13_method_174_code 1 = .ok (.iconst 0, 1) := by decide +kernel
theorem d_Mod_readCurve_I_2 : decode prog_13_method_174_code 2 = .ok (.putfield 769, 3) := by decide +kernel
theorem d_Mod_readCurve_I_5 : decode prog_13_method_174_code 5 = .ok (.aload_n 0, 1) := by decide +kernel
theorem d_Mod_readCurve_I_6 : decode prog_13_method_174_code 6 = .ok (.invokevirtual 827, 3) := by decide +kernel
theorem d_Mod_readCurve_I_9 : decode prog_13_method_174_code 9 = .ok (.aload_n 0, 1) := by decide +kernel
theorem d_Mod_readCurve_I_10 : decode prog_13_method_174_code 10 = .ok (.getfield 697, 3) := by decide +kernel
theorem d_Mod_readCurve_I_13 : decode prog_13_method_174_code 13 = .ok (.ifCond .eq 4, 3) := by decide +kernel
theorem d_Mod_readCurve_I_16 : decode prog_13_method_174_code 16 = .ok (.return_, 1) := by decide +kernel
theorem d_Mod_meet_16 : decode prog_13_method_179_code 16 = .ok (.invokevirtual 921, 3) := by decide +kernel
theorem d_Mod_meet_19 : decode prog_13_method_179_code 19 = .ok (.aload_n 0, 1) := by decide +kernel
theorem d_Mod_meet_20 : decode prog_13_method_179_code 20 = .ok (.bipush 59, 2) := by decide +kernel
theorem d_Mod_take_I_0 : decode prog_13_method_142_code 0 = .ok (.aload_n 0, 1) := by decide +kernel
theorem d_Mod_take_I_1 : decode prog_13_method_142_code 1 = .ok (.getfield 697, 3) := by decide +kernel
theorem d_Mod_take_I_4 : decode prog_13_method_142_code 4 = .ok (.ifCond .eq 4, 3) := by decide +kernel
theorem d_Mod_take_I_7 : decode prog_13_method_142_code 7 = .ok (.return_, 1) := by decide +kernel
theorem d_Mod_meet_22 : decode prog_13_method_179_code 22 = .ok (.invokevirtual 800, 3) := by decide +kernel
theorem d_Mod_meet_25 : decode prog_13_method_179_code 25 = .ok (.aload_n 0, 1) := by decide +kernel
theorem d_Mod_meet_26 : decode prog_13_method_179_code 26 = .ok (.getfield 697, 3) := by decide +kernel
theorem d_Mod_meet_29 : decode prog_13_method_179_code 29 = .ok (.ifCond .ne 8, 3) := by decide +kernel
theorem d_Mod_meet_37 : decode prog_13_method_179_code 37 = .ok (.aload_n 0, 1) := by decide +kernel
theorem d_Mod_meet_38 : decode prog_13_method_179_code 38 = .ok (.getfield 697, 3) := by decide +kernel
theorem d_Mod_meet_41 : decode prog_13_method_179_code 41 = .ok (.ifCond .ne 14, 3) := by decide +kernel
theorem d_Mod_meet_55 : decode prog_13_method_179_code 55 = .ok (.aload_n 0, 1) := by decide +kernel
theorem d_Mod_meet_56 : decode prog_13_method_179_code 56 = .ok (.getfield 697, 3) := by decide +kernel
theorem d_Mod_meet_59 : decode prog_13_method_179_code 59 = .ok (.ifCond .ne 21, 3) := by decide +kernel
theorem d_Mod_meet_80 : decode prog_13_method_179_code 80 = .ok (.aload_n 0, 1) := by decide +kernel
theorem d_Mod_meet_81 : decode prog_13_method_179_code 81 = .ok (.getfield 697, 3) := by decide +kernel
theorem d_Mod_meet_84 : decode prog_13_method_179_code 84 = .ok (.ifCond .eq 8, 3) := by decide +kernel
theorem d_Mod_meet_87 : decode prog_13_method_179_code 87 = .ok (.aload_n 0, 1) := by decide +kernel
theorem d_Mod_meet_88 : decode prog_13_method_179_code 88 = .ok (.invokevirtual 875, 3) := by decide +kernel
theorem d_Mod_meet_91 : decode prog_13_method_179_code 91 = .ok (.ireturn, 1) := by decide +kernel
