theorem d_CD_feed_IIIII_0 : decode prog_1_method_2_code 0 = .ok (.aload_n 0, 1) := by decide +kernel
theorem d_CD_feed_IIIII_1 : decode prog_1_method_2_code 1 = .ok (.getfield 111, 3) := by decide +kernel
theorem d_CD_feed_IIIII_4 : decode prog_1_method_2_code 4 = .ok (.bipush 20, 2) := by decide +kernel
theorem d_CD_feed_IIIII_6 : decode prog_1_method_2_code 6 = .ok (.iadd, 1) := by decide +kernel
theorem d_CD_feed_IIIII_7 : decode prog_1_method_2_code 7 = .ok (.sipush 600, 3) := by decide +kernel
theorem d_CD_feed_IIIII_10 : decode prog_1_method_2_code 10 = .ok (.if_icmp .le 13, 3) := by decide +kernel
theorem d_CD_feed_IIIII_23 : decode prog_1_method_2_code 23 = .ok (.aload_n 0, 1) := by decide +kernel
theorem d_CD_feed_IIIII_24 : decode prog_1_method_2_code 24 = .ok (.iload_n 1, 1) := by decide +kernel
theorem d_CD_putBytes_I_0 : decode prog_1_method_3_code 0 = .ok (.bipush 24, 2) := by decide +kernel
theorem d_CD_putBytes_I_2 : decode prog_1_method_3_code 2 = .ok (.istore_n 2, 1) := by decide +kernel
theorem d_CD_putBytes_I_3 : decode prog_1_method_3_code 3 = .ok (.iload_n 2, 1) := by decide +kernel
theorem d_CD_putBytes_I_4 : decode prog_1_method_3_code 4 = .ok (.ifCond .lt 42, 3) := by decide +kernel
theorem d_CD_putBytes_I_7 : decode prog_1_method_3_code 7 = .ok (.aload_n 0, 1) := by decide +kernel
theorem d_CD_putBytes_I_8 : decode prog_1_method_3_code 8 = .ok (.getfield 111, 3) := by decide +kernel
theorem d_CD_putBytes_I_11 : decode prog_1_method_3_code 11 = .ok (.sipush 600, 3) := by decide +kernel
theorem d_CD_putBytes_I_14 : decode prog_1_method_3_code 14 = .ok (.if_icmp .ge 32, 3) := by decide +kernel
theorem d_CD_putBytes_I_17 : decode prog_1_method_3_code 17 = .ok (.aload_n 0, 1) := by decide +kernel
theorem d_CD_putBytes_I_18 : decode prog_1_method_3_code 18 = .ok (.getfield 9, 3) := by decide +kernel
theorem d_CD_putBytes_I_21 : decode prog_1_method_3_code 21 = .ok (.aload_n 0, 1) := by decide +kernel
theorem d_CD_putBytes_I_22 : decode prog_1_method_3_code 22 = .ok (.getfield 111, 3) := by decide +kernel
theorem d_CD_putBytes_I_25 : decode prog_1_method_3_code 25 = .ok (.iload_n 1, 1) := by decide +kernel
theorem d_CD_putBytes_I_26 : decode prog_1_method_3_code 26 = .ok (.iload_n 2, 1) := by decide +kernel
theorem d_CD_putBytes_I_27 : decode prog_1_method_3_code 27 = .ok (.ishr, 1) := by decide +kernel
theorem d_CD_putBytes_I_28 : decode prog_1_method_3_code 28 = .ok (.i2b, 1) := by decide +kernel
theorem d_CD_putBytes_I_29 : decode prog_1_method_3_code 29 = .ok (.bastore, 1) := by decide +kernel
theorem d_CD_putBytes_I_30 : decode prog_1_method_3_code 30 = .ok (.aload_n 0, 1) := by decide +kernel
theorem d_CD_putBytes_I_31 : decode prog_1_method_3_code 31 = .ok (.dup, 1) := by decide +kernel
theorem d_CD_putBytes_I_32 : decode prog_1_method_3_code 32 = .ok (.getfield 111, 3) := by decide +kernel
theorem d_CD_putBytes_I_35 : decode prog_1_method_3_code 35 = .ok (.iconst 1, 1) := by decide +kernel
theorem d_CD_putBytes_I_36 : decode prog_1_method_3_code 36 = .ok (.iadd, 1) := by decide +kernel
theorem d_CD_putBytes_I_37 : decode prog_1_method_3_code 37 = .ok (.putfield 111, 3) := by decide +kernel
theorem d_CD_putBytes_I_40 : decode prog_1_method_3_code 40 = .ok (.iinc 2 (-8), 3) := by decide +kernel
theorem d_CD_putBytes_I_43 : decode prog_1_method_3_code 43 = .ok (.goto (-40), 3) := by decide +kernel
theorem d_CD_putBytes_I_46 : decode prog_1_method_3_code 46 = .ok (.return_, 1) := by decide +kernel
theorem d_CD_feed_IIIII_25 : decode prog_1_method_2_code 25 = .ok (.invokevirtual 121, 3) := by decide +kernel
theorem d_CD_feed_IIIII_28 : decode prog_1_method_2_code 28 = .ok (.aload_n 0, 1) := by decide +kernel
theorem d_CD_feed_IIIII_29 : decode prog_1_method_2_code 29 = .ok (.iload_n 2, 1) := by decide +kernel
theorem d_CD_feed_IIIII_30 : decode prog_1_method_2_code 30 = .ok (.invokevirtual 121, 3) := by decide +kernel
theorem d_CD_feed_IIIII_33 : decode prog_1_method_2_code 33 = .ok (.aload_n 0, 1) := by decide +kernel
theorem d_CD_feed_IIIII_34 : decode prog_1_method_2_code 34 = .ok (.iload_n 3, 1) := by decide +kernel
theorem d_CD_feed_IIIII_35 : decode prog_1_method_2_code 35 = .ok (.invokevirtual 121, 3) := by decide +kernel
theorem d_CD_feed_IIIII_38 : decode prog_1_method_2_code 38 = .ok (.aload_n 0, 1) := by decide +kernel
theorem d_CD_feed_IIIII_39 : decode prog_1_method_2_code 39 = .ok (.iload 4, 2) := by decide +kernel
theorem d_CD_feed_IIIII_41 : decode prog_1_method_2_code 41 = .ok (.invokevirtual 121, 3) := by decide +kernel
theorem d_CD_feed_IIIII_44 : decode prog_1_method_2_code 44 = .ok (.aload_n 0, 1) := by decide +kernel
theorem d_CD_feed_IIIII_45 : decode prog_1_method_2_code 45 = .ok (.iload 5, 2) := by decide +kernel
theorem d_CD_feed_IIIII_47 : decode prog_1_method_2_code 47 = .ok (.invokevirtual 121, 3) := by decide +kernel
theorem d_CD_feed_IIIII_50 : decode prog_1_method_2_code 50 = .ok (.aload_n 0, 1) := by decide +kernel
theorem d_CD_feed_IIIII_51 : decode prog_1_method_2_code 51 = .ok (.getfield 111, 3) := by decide +kernel
theorem d_CD_feed_IIIII_54 : decode prog_1_method_2_code 54 = .ok (.ireturn, 1) := by decide +kernel
theorem d_Mod_feed_IIIII_0 : decode prog_13_method_191_code 0 = .ok (.aload_n 0, 1) := by decide +kernel
theorem d_Mod_feed_IIIII_1 : decode prog_13_method_191_code 1 = .ok (.aload_n 0, 1) := by decide +kernel
theorem d_Mod_feed_IIIII_2 : decode prog_13_method_191_code 2 = .ok (.getfield 857, 3) := by decide +kernel
theorem d_Mod_feed_IIIII_5 : decode prog_13_method_191_code 5 = .ok (.bipush 20, 2) := by decide +kernel
theorem d_Mod_feed_IIIII_7 : decode prog_13_method_191_code 7 = .ok (.iadd, 1) := by decide +kernel
theorem d_Mod_feed_IIIII_8 : decode prog_13_method_191_code 8 = .ok (.sipush 600, 3) := by decide +kernel
theorem d_Mod_feed_IIIII_11 : decode prog_13_method_191_code 11 = .ok (.if_icmp .le 7, 3) := by decide +kernel
theorem d_Mod_feed_IIIII_18 : decode prog_13_method_191_code 18 = .ok (.iconst 0, 1) := by decide +kernel
theorem d_Mod_feed_IIIII_19 : decode prog_13_method_191_code 19 = .ok (.putfield 217, 3) := by decide +kernel
theorem d_Mod_feed_IIIII_22 : decode prog_13_method_191_code 22 = .ok (.aload_n 0, 1) := by decide +kernel
theorem d_Mod_feed_IIIII_23 : decode prog_13_method_191_code 23 = .ok (.getfield 217, 3) := by decide +kernel
theorem d_Mod_feed_IIIII_26 : decode prog_13_method_191_code 26 = .ok (.ifCond .le 5, 3) := by decide +kernel
theorem d_Mod_feed_IIIII_31 : decode prog_13_method_191_code 31 = .ok (.iconst 0, 1) := by decide +kernel
theorem d_Mod_feed_IIIII_32 : decode prog_13_method_191_code 32 = .ok (.istore 6, 2) := by decide +kernel
theorem d_Mod_feed_IIIII_34 : decode prog_13_method_191_code 34 = .ok (.iload 6, 2) := by decide +kernel
theorem d_Mod_feed_IIIII_36 : decode prog_13_method_191_code 36 = .ok (.bipush 20, 2) := by decide +kernel
theorem d_Mod_feed_IIIII_38 : decode prog_13_method_191_code 38 = .ok (.if_icmp .ge 90, 3) := by decide +kernel
theorem d_Mod_feed_IIIII_41 : decode prog_13_method_191_code 41 = .ok (.iload 6, 2) := by decide +kernel
theorem d_Mod_feed_IIIII_43 : decode prog_13_method_191_code 43 = .ok (.iconst 4, 1) := by decide +kernel
theorem d_Mod_feed_IIIII_44 : decode prog_13_method_191_code 44 = .ok (.if_icmp .ge 7, 3) := by decide +kernel
theorem d_Mod_feed_IIIII_47 : decode prog_13_method_191_code 47 = .ok (.iload_n 1, 1) := by decide +kernel
theorem d_Mod_feed_IIIII_48 : decode prog_13_method_191_code 48 = .ok (.goto 39, 3) := by decide +kernel
theorem d_Mod_feed_IIIII_87 : decode prog_13_method_191_code 87 = .ok (.istore 7, 2) := by decide +kernel
theorem d_Mod_feed_IIIII_89 : decode prog_13_method_191_code 89 = .ok (.aload_n 0, 1) := by decide +kernel
theorem d_Mod_feed_IIIII_90 : decode prog_13_method_191_code 90 = .ok (.getfield 128, 3) := by decide +kernel
theorem d_Mod_feed_IIIII_93 : decode prog_13_method_191_code 93 = .ok (.aload_n 0, 1) := by decide +kernel
theorem d_Mod_feed_IIIII_94 : decode prog_13_method_191_code 94 = .ok (.getfield 857, 3) := by decide +kernel
theorem d_Mod_feed_IIIII_97 : decode prog_13_method_191_code 97 = .ok (.iload 7, 2) := by decide +kernel
theorem d_Mod_feed_IIIII_99 : decode prog_13_method_191_code 99 = .ok (.bipush 24, 2) := by decide +kernel
theorem d_Mod_feed_IIIII_101 : decode prog_13_method_191_code 101 = .ok (.bipush 8, 2) := by decide +kernel
theorem d_Mod_feed_IIIII_103 : decode prog_13_method_191_code 103 = .ok (.iload 6, 2) := by decide +kernel
theorem d_Mod_feed_IIIII_105 : decode prog_13_method_191_code 105 = .ok (.iconst 4, 1) := by decide +kernel
theorem d_Mod_feed_IIIII_106 : decode prog_13_method_191_code 106 = .ok (.irem, 1) := by decide +kernel
theorem d_Mod_feed_IIIII_107 : decode prog_13_method_191_code 107 = .ok (.imul, 1) := by decide +kernel
theorem d_Mod_feed_IIIII_108 : decode prog_13_method_191_code 108 = .ok (.isub, 1) := by decide +kernel
theorem d_Mod_feed_IIIII_109 : decode prog_13_method_191_code 109 = .ok (.ishr, 1) := by decide +kernel
theorem d_Mod_feed_IIIII_110 : decode prog_13_method_191_code 110 = .ok (.i2b, 1) := by decide +kernel
theorem d_Mod_feed_IIIII_111 : decode prog_13_method_191_code 111 = .ok (.bastore, 1) := by decide +kernel
theorem d_Mod_feed_IIIII_112 : decode prog_13_method_191_code 112 = .ok (.aload_n 0, 1) := by decide +kernel
theorem d_Mod_feed_IIIII_113 : decode prog_13_method_191_code 113 = .ok (.dup, 1) := by decide +kernel
theorem d_Mod_feed_IIIII_114 : decode prog_13_method_191_code 114 = .ok (.getfield 857, 3) := by decide +kernel
theorem d_Mod_feed_IIIII_117 : decode prog_13_method_191_code 117 = .ok (.iconst 1, 1) := by decide +kernel
theorem d_Mod_feed_IIIII_118 : decode prog_13_method_191_code 118 = .ok (.iadd, 1) := by decide +kernel
theorem d_Mod_feed_IIIII_119 : decode prog_13_method_191_code 119 = .ok (.putfield 857, 3) := by decide +kernel
theorem d_Mod_feed_IIIII_122 : decode prog_13_method_191_code 122 = .ok (.iinc 6 1, 3) := by decide +kernel
theorem d_Mod_feed_IIIII_125 : decode prog_13_method_191_code 125 = .ok (.goto (-91), 3) := by decide +kernel
theorem d_Mod_feed_IIIII_51 : decode prog_13_method_191_code 51 = .ok (.iload 6, 2) := by decide +kernel
theorem d_Mod_feed_IIIII_53 : decode prog_13_method_191_code 53 = .ok (.bipush 8, 2) := by decide +kernel
theorem d_Mod_feed_IIIII_55 : decode prog_13_method_191_code 55 = .ok (.if_icmp .ge 7, 3) := by decide +kernel
theorem d_Mod_feed_IIIII_58 : decode prog_13_method_191_code 58 = .ok (.iload_n 2, 1) := by decide +kernel
theorem d_Mod_feed_IIIII_59 : decode prog_13_method_191_code 59 = .ok (.goto 28, 3) := by decide +kernel
theorem d_Mod_feed_IIIII_62 : decode prog_13_method_191_code 62 = .ok (.iload 6, 2) := by decide +kernel
theorem d_Mod_feed_IIIII_64 : decode prog_13_method_191_code 64 = .ok (.bipush 12, 2) := by decide +kernel
theorem d_Mod_feed_IIIII_66 : decode prog_13_method_191_code 66 = .ok (.if_icmp .ge 7, 3) := by decide +kernel
theorem d_Mod_feed_IIIII_69 : decode prog_13_method_191_code 69 = .ok (.iload_n 3, 1) := by decide +kernel
theorem d_Mod_feed_IIIII_70 : decode prog_13_method_191_code 70 = .ok (.goto 17, 3) := by decide +kernel
theorem d_Mod_feed_IIIII_73 : decode prog_13_method_191_code 73 = .ok (.iload 6, 2) := by decide +kernel
theorem d_Mod_feed_IIIII_75 : decode prog_13_method_191_code 75 = .ok (.bipush 16, 2) := by decide +kernel
theorem d_Mod_feed_IIIII_77 : decode prog_13_method_191_code 77 = .ok (.if_icmp .ge 8, 3) := by decide +kernel
theorem d_Mod_feed_IIIII_80 : decode prog_13_method_191_code 80 = .ok (.iload 4, 2) := by decide +kernel
theorem d_Mod_feed_IIIII_82 : decode prog_13_method_191_code 82 = .ok (.goto 5, 3) := by decide +kernel
theorem d_Mod_feed_IIIII_85 : decode prog_13_method_191_code 85 = .ok (.iload 5, 2) := by decide +kernel
theorem d_Mod_feed_IIIII_128 : decode prog_13_method_191_code 128 = .ok (.aload_n 0, 1) := by decide +kernel
theorem d_Mod_feed_IIIII_129 : decode prog_13_method_191_code 129 = .ok (.getfield 857, 3) := by decide +kernel
theorem d_Mod_feed_IIIII_132 : decode prog_13_method_191_code 132 = .ok (.ireturn, 1) := by decide +kernel
