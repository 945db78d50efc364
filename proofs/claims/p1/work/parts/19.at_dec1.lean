theorem d_CD_at_I_0 : decode prog_1_method_24_code 0 = .ok (.iload_n 1, 1) := by decide +kernel
theorem d_CD_at_I_1 : decode prog_1_method_24_code 1 = .ok (.ifCond .lt 25, 3) := by decide +kernel
theorem d_CD_at_I_26 : decode prog_1_method_24_code 26 = .ok (.iconst (-1), 1) := by decide +kernel
theorem d_CD_at_I_27 : decode prog_1_method_24_code 27 = .ok (.ireturn, 1) := by decide +kernel
theorem d_CD_at_I_4 : decode prog_1_method_24_code 4 = .ok (.iload_n 1, 1) := by decide +kernel
theorem d_CD_at_I_5 : decode prog_1_method_24_code 5 = .ok (.aload_n 0, 1) := by decide +kernel
theorem d_CD_at_I_6 : decode prog_1_method_24_code 6 = .ok (.getfield 107, 3) := by decide +kernel
theorem d_StringBuilder_length_0 : decode prog_25_method_93_code 0 = .ok (.aload_n 0, 1) := by decide +kernel
theorem d_AbstractStringBuilder_length_0 : decode prog_15_method_6_code 0 = .ok (.aload_n 0, 1) := by decide +kernel
theorem d_AbstractStringBuilder_length_1 : decode prog_15_method_6_code 1 = .ok (.getfield 79, 3) := by decide +kernel
theorem d_AbstractStringBuilder_length_4 : decode prog_15_method_6_code 4 = .ok (.ireturn, 1) := by decide +kernel
theorem d_StringBuilder_length_1 : decode prog_25_method_93_code 1 = .ok (.invokespecial 343, 3) := by decide +kernel
theorem d_StringBuilder_length_4 : decode prog_25_method_93_code 4 = .ok (.ireturn, 1) := by decide +kernel
theorem d_CD_at_I_9 : decode prog_1_method_24_code 9 = .ok (.invokevirtual 353, 3) := by decide +kernel
theorem d_CD_at_I_12 : decode prog_1_method_24_code 12 = .ok (.if_icmp .ge 14, 3) := by decide +kernel
theorem d_Mod_at_I_0 : decode prog_13_method_190_code 0 = .ok (.aload_n 0, 1) := by decide +kernel
theorem d_Mod_at_I_1 : decode prog_13_method_190_code 1 = .ok (.iconst 0, 1) := by decide +kernel
theorem d_Mod_at_I_2 : decode prog_13_method_190_code 2 = .ok (.putfield 217, 3) := by decide +kernel
theorem d_Mod_at_I_5 : decode prog_13_method_190_code 5 = .ok (.iload_n 1, 1) := by decide +kernel
theorem d_Mod_at_I_6 : decode prog_13_method_190_code 6 = .ok (.i2l, 1) := by decide +kernel
theorem d_Mod_at_I_7 : decode prog_13_method_190_code 7 = .ok (.lconst 0, 1) := by decide +kernel
theorem d_Mod_at_I_8 : decode prog_13_method_190_code 8 = .ok (.aload_n 0, 1) := by decide +kernel
theorem d_Mod_at_I_9 : decode prog_13_method_190_code 9 = .ok (.getfield 935, 3) := by decide +kernel
theorem d_Mod_at_I_12 : decode prog_13_method_190_code 12 = .ok (.iconst 1, 1) := by decide +kernel
theorem d_Mod_at_I_13 : decode prog_13_method_190_code 13 = .ok (.isub, 1) := by decide +kernel
theorem d_Mod_at_I_14 : decode prog_13_method_190_code 14 = .ok (.i2l, 1) := by decide +kernel
theorem d_Mod_in_JJJ_0 : decode prog_13_method_3_code 0 = .ok (.lload_n 0, 1) := by decide +kernel
theorem d_Mod_in_JJJ_1 : decode prog_13_method_3_code 1 = .ok (.lload_n 2, 1) := by decide +kernel
theorem d_Mod_in_JJJ_2 : decode prog_13_method_3_code 2 = .ok (.lcmp, 1) := by decide +kernel
theorem d_Mod_in_JJJ_3 : decode prog_13_method_3_code 3 = .ok (.ifCond .lt 14, 3) := by decide +kernel
theorem d_Mod_in_JJJ_17 : decode prog_13_method_3_code 17 = .ok (.iconst 0, 1) := by decide +kernel
theorem d_Mod_in_JJJ_18 : decode prog_13_method_3_code 18 = .ok (.ireturn, 1) := by decide +kernel
theorem d_Mod_at_I_15 : decode prog_13_method_190_code 15 = .ok (.invokestatic 689, 3) := by decide +kernel
theorem d_Mod_at_I_18 : decode prog_13_method_190_code 18 = .ok (.ifCond .eq 16, 3) := by decide +kernel
theorem d_Mod_at_I_34 : decode prog_13_method_190_code 34 = .ok (.iconst (-1), 1) := by decide +kernel
theorem d_Mod_at_I_35 : decode prog_13_method_190_code 35 = .ok (.ireturn, 1) := by decide +kernel
theorem d_Mod_in_JJJ_6 : decode prog_13_method_3_code 6 = .ok (.lload_n 0, 1) := by decide +kernel
theorem d_Mod_in_JJJ_7 : decode prog_13_method_3_code 7 = .ok (.lload 4, 2) := by decide +kernel
theorem d_Mod_in_JJJ_9 : decode prog_13_method_3_code 9 = .ok (.lcmp, 1) := by decide +kernel
theorem d_Mod_in_JJJ_10 : decode prog_13_method_3_code 10 = .ok (.ifCond .gt 7, 3) := by decide +kernel
