theorem d_CD_fault_0 : decode prog_1_method_6_code 0 = .ok (.aload_n 0, 1) := by decide +kernel
theorem d_CD_fault_1 : decode prog_1_method_6_code 1 = .ok (.getfield 135, 3) := by decide +kernel
theorem d_CD_fault_4 : decode prog_1_method_6_code 4 = .ok (.ireturn, 1) := by decide +kernel
theorem d_CD_decide_0 : decode prog_1_method_7_code 0 = .ok (.aload_n 0, 1) := by decide +kernel
theorem d_CD_decide_1 : decode prog_1_method_7_code 1 = .ok (.getfield 16, 3) := by decide +kernel
theorem d_CD_decide_4 : decode prog_1_method_7_code 4 = .ok (.getfield 144, 3) := by decide +kernel
theorem d_CD_decide_7 : decode prog_1_method_7_code 7 = .ok (.ifCond .eq 13, 3) := by decide +kernel
theorem d_CD_decide_20 : decode prog_1_method_7_code 20 = .ok (.bipush (-101), 2) := by decide +kernel
theorem d_CD_decide_22 : decode prog_1_method_7_code 22 = .ok (.ireturn, 1) := by decide +kernel
theorem d_CD_holds_IIII_0 : decode prog_1_method_8_code 0 = .ok (.aload_n 0, 1) := by decide +kernel
theorem d_CD_holds_IIII_1 : decode prog_1_method_8_code 1 = .ok (.getfield 16, 3) := by decide +kernel
theorem d_CD_holds_IIII_4 : decode prog_1_method_8_code 4 = .ok (.getfield 144, 3) := by decide +kernel
theorem d_CD_holds_IIII_7 : decode prog_1_method_8_code 7 = .ok (.ifCond .ne 6, 3) := by decide +kernel
theorem d_CD_holds_IIII_10 : decode prog_1_method_8_code 10 = .ok (.bipush (-101), 2) := by decide +kernel
theorem d_CD_holds_IIII_12 : decode prog_1_method_8_code 12 = .ok (.ireturn, 1) := by decide +kernel
theorem d_CD_solve_0 : decode prog_1_method_11_code 0 = .ok (.aload_n 0, 1) := by decide +kernel
theorem d_CD_solve_1 : decode prog_1_method_11_code 1 = .ok (.getfield 16, 3) := by decide +kernel
theorem d_CD_solve_4 : decode prog_1_method_11_code 4 = .ok (.getfield 144, 3) := by decide +kernel
theorem d_CD_solve_7 : decode prog_1_method_11_code 7 = .ok (.ifCond .eq 25, 3) := by decide +kernel
theorem d_CD_solve_32 : decode prog_1_method_11_code 32 = .ok (.bipush (-101), 2) := by decide +kernel
theorem d_CD_solve_34 : decode prog_1_method_11_code 34 = .ok (.ireturn, 1) := by decide +kernel
theorem d_CD_interval_II_0 : decode prog_1_method_13_code 0 = .ok (.aload_n 0, 1) := by decide +kernel
theorem d_CD_interval_II_1 : decode prog_1_method_13_code 1 = .ok (.getfield 97, 3) := by decide +kernel
theorem d_CD_interval_II_4 : decode prog_1_method_13_code 4 = .ok (.iconst (-1), 1) := by decide +kernel
theorem d_CD_interval_II_5 : decode prog_1_method_13_code 5 = .ok (.if_icmp .ne 6, 3) := by decide +kernel
theorem d_CD_interval_II_8 : decode prog_1_method_13_code 8 = .ok (.bipush (-101), 2) := by decide +kernel
theorem d_CD_interval_II_10 : decode prog_1_method_13_code 10 = .ok (.ireturn, 1) := by decide +kernel
theorem d_CD_members_0 : decode prog_1_method_14_code 0 = .ok (.aload_n 0, 1) := by decide +kernel
theorem d_CD_members_1 : decode prog_1_method_14_code 1 = .ok (.getfield 97, 3) := by decide +kernel
theorem d_CD_members_4 : decode prog_1_method_14_code 4 = .ok (.iconst (-1), 1) := by decide +kernel
theorem d_CD_members_5 : decode prog_1_method_14_code 5 = .ok (.if_icmp .ne 6, 3) := by decide +kernel
theorem d_CD_members_8 : decode prog_1_method_14_code 8 = .ok (.bipush (-101), 2) := by decide +kernel
theorem d_CD_members_10 : decode prog_1_method_14_code 10 = .ok (.ireturn, 1) := by decide +kernel
theorem d_CD_point_II_0 : decode prog_1_method_19_code 0 = .ok (.aload_n 0, 1) := by decide +kernel
theorem d_CD_point_II_1 : decode prog_1_method_19_code 1 = .ok (.getfield 101, 3) := by decide +kernel
theorem d_CD_point_II_4 : decode prog_1_method_19_code 4 = .ok (.iconst (-1), 1) := by decide +kernel
theorem d_CD_point_II_5 : decode prog_1_method_19_code 5 = .ok (.if_icmp .ne 6, 3) := by decide +kernel
theorem d_CD_point_II_8 : decode prog_1_method_19_code 8 = .ok (.bipush (-101), 2) := by decide +kernel
theorem d_CD_point_II_10 : decode prog_1_method_19_code 10 = .ok (.ireturn, 1) := by decide +kernel
theorem d_CD_write_III_0 : decode prog_1_method_20_code 0 = .ok (.aload_n 0, 1) := by decide +kernel
theorem d_CD_write_III_1 : decode prog_1_method_20_code 1 = .ok (.getfield 97, 3) := by decide +kernel
theorem d_CD_write_III_4 : decode prog_1_method_20_code 4 = .ok (.iconst (-1), 1) := by decide +kernel
theorem d_CD_write_III_5 : decode prog_1_method_20_code 5 = .ok (.if_icmp .ne 6, 3) := by decide +kernel
theorem d_CD_write_III_8 : decode prog_1_method_20_code 8 = .ok (.bipush (-101), 2) := by decide +kernel
theorem d_CD_write_III_10 : decode prog_1_method_20_code 10 = .ok (.ireturn, 1) := by decide +kernel
theorem d_CD_writeLeast_II_0 : decode prog_1_method_21_code 0 = .ok (.aload_n 0, 1) := by decide +kernel
theorem d_CD_writeLeast_II_1 : decode prog_1_method_21_code 1 = .ok (.getfield 97, 3) := by decide +kernel
theorem d_CD_writeLeast_II_4 : decode prog_1_method_21_code 4 = .ok (.iconst (-1), 1) := by decide +kernel
theorem d_CD_writeLeast_II_5 : decode prog_1_method_21_code 5 = .ok (.if_icmp .ne 6, 3) := by decide +kernel
theorem d_CD_writeLeast_II_8 : decode prog_1_method_21_code 8 = .ok (.bipush (-101), 2) := by decide +kernel
theorem d_CD_writeLeast_II_10 : decode prog_1_method_21_code 10 = .ok (.ireturn, 1) := by decide +kernel
theorem d_CD_writePoint_III_0 : decode prog_1_method_22_code 0 = .ok (.aload_n 0, 1) := by decide +kernel
theorem d_CD_writePoint_III_1 : decode prog_1_method_22_code 1 = .ok (.getfield 101, 3) := by decide +kernel
theorem d_CD_writePoint_III_4 : decode prog_1_method_22_code 4 = .ok (.iconst (-1), 1) := by decide +kernel
theorem d_CD_writePoint_III_5 : decode prog_1_method_22_code 5 = .ok (.if_icmp .ne 6, 3) := by decide +kernel
theorem d_CD_writePoint_III_8 : decode prog_1_method_22_code 8 = .ok (.bipush (-101), 2) := by decide +kernel
theorem d_CD_writePoint_III_10 : decode prog_1_method_22_code 10 = .ok (.ireturn, 1) := by decide +kernel
theorem d_CD_writePointLeast_II_0 : decode prog_1_method_23_code 0 = .ok (.aload_n 0, 1) := by decide +kernel
theorem d_CD_writePointLeast_II_1 : decode prog_1_method_23_code 1 = .ok (.getfield 101, 3) := by decide +kernel
theorem d_CD_writePointLeast_II_4 : decode prog_1_method_23_code 4 = .ok (.iconst (-1), 1) := by decide +kernel
theorem d_CD_writePointLeast_II_5 : decode prog_1_method_23_code 5 = .ok (.if_icmp .ne 6, 3) := by decide +kernel
theorem d_CD_writePointLeast_II_8 : decode prog_1_method_23_code 8 = .ok (.bipush (-101), 2) := by decide +kernel
theorem d_CD_writePointLeast_II_10 : decode prog_1_method_23_code 10 = .ok (.ireturn, 1) := by decide +kernel
theorem d_Mod_fault_0 : decode prog_13_method_163_code 0 = .ok (.aload_n 0, 1) := by decide +kernel
theorem d_Mod_fault_1 : decode prog_13_method_163_code 1 = .ok (.iconst 0, 1) := by decide +kernel
theorem d_Mod_fault_2 : decode prog_13_method_163_code 2 = .ok (.putfield 217, 3) := by decide +kernel
theorem d_Mod_fault_5 : decode prog_13_method_163_code 5 = .ok (.aload_n 0, 1) := by decide +kernel
theorem d_Mod_fault_6 : decode prog_13_method_163_code 6 = .ok (.getfield 860, 3) := by decide +kernel
theorem d_Mod_fault_9 : decode prog_13_method_163_code 9 = .ok (.ireturn, 1) := by decide +kernel
theorem d_Mod_decide_0 : decode prog_13_method_165_code 0 = .ok (.aload_n 0, 1) := by decide +kernel
theorem d_Mod_decide_1 : decode prog_13_method_165_code 1 = .ok (.iconst 0, 1) := by decide +kernel
theorem d_Mod_decide_2 : decode prog_13_method_165_code 2 = .ok (.putfield 217, 3) := by decide +kernel
theorem d_Mod_decide_5 : decode prog_13_method_165_code 5 = .ok (.aload_n 0, 1) := by decide +kernel
theorem d_Mod_decide_6 : decode prog_13_method_165_code 6 = .ok (.getfield 866, 3) := by decide +kernel
theorem d_Mod_decide_9 : decode prog_13_method_165_code 9 = .ok (.ifCond .eq 10, 3) := by decide +kernel
theorem d_Mod_decide_19 : decode prog_13_method_165_code 19 = .ok (.bipush (-101), 2) := by decide +kernel
theorem d_Mod_decide_21 : decode prog_13_method_165_code 21 = .ok (.ireturn, 1) := by decide +kernel
theorem d_Mod_holds_IIII_0 : decode prog_13_method_168_code 0 = .ok (.aload_n 0, 1) := by decide +kernel
theorem d_Mod_holds_IIII_1 : decode prog_13_method_168_code 1 = .ok (.iconst 0, 1) := by decide +kernel
theorem d_Mod_holds_IIII_2 : decode prog_13_method_168_code 2 = .ok (.putfield 217, 3) := by decide +kernel
theorem d_Mod_holds_IIII_5 : decode prog_13_method_168_code 5 = .ok (.aload_n 0, 1) := by decide +kernel
theorem d_Mod_holds_IIII_6 : decode prog_13_method_168_code 6 = .ok (.getfield 866, 3) := by decide +kernel
theorem d_Mod_holds_IIII_9 : decode prog_13_method_168_code 9 = .ok (.ifCond .ne 6, 3) := by decide +kernel
theorem d_Mod_holds_IIII_12 : decode prog_13_method_168_code 12 = .ok (.bipush (-101), 2) := by decide +kernel
theorem d_Mod_holds_IIII_14 : decode prog_13_method_168_code 14 = .ok (.ireturn, 1) := by decide +kernel
theorem d_Mod_solve_0 : decode prog_13_method_170_code 0 = .ok (.aload_n 0, 1) := by decide +kernel
theorem d_Mod_solve_1 : decode prog_13_method_170_code 1 = .ok (.iconst 0, 1) := by decide +kernel
theorem d_Mod_solve_2 : decode prog_13_method_170_code 2 = .ok (.putfield 217, 3) := by decide +kernel
theorem d_Mod_solve_5 : decode prog_13_method_170_code 5 = .ok (.aload_n 0, 1) := by decide +kernel
theorem d_Mod_solve_6 : decode prog_13_method_170_code 6 = .ok (.getfield 866, 3) := by decide +kernel
theorem d_Mod_solve_9 : decode prog_13_method_170_code 9 = .ok (.ifCond .eq 19, 3) := by decide +kernel
theorem d_Mod_solve_28 : decode prog_13_method_170_code 28 = .ok (.bipush (-101), 2) := by decide +kernel
theorem d_Mod_solve_30 : decode prog_13_method_170_code 30 = .ok (.ireturn, 1) := by decide +kernel
theorem d_Mod_interval_II_0 : decode prog_13_method_172_code 0 = .ok (.aload_n 0, 1) := by decide +kernel
theorem d_Mod_interval_II_1 : decode prog_13_method_172_code 1 = .ok (.iconst 0, 1) := by decide +kernel
theorem d_Mod_interval_II_2 : decode prog_13_method_172_code 2 = .ok (.putfield 217, 3) := by decide +kernel
theorem d_Mod_interval_II_5 : decode prog_13_method_172_code 5 = .ok (.aload_n 0, 1) := by decide +kernel
theorem d_Mod_interval_II_6 : decode prog_13_method_172_code 6 = .ok (.getfield 195, 3) := by decide +kernel
theorem d_Mod_interval_II_9 : decode prog_13_method_172_code 9 = .ok (.iconst (-1), 1) := by decide +kernel
theorem d_Mod_interval_II_10 : decode prog_13_method_172_code 10 = .ok (.if_icmp .ne 6, 3) := by decide +kernel
theorem d_Mod_interval_II_13 : decode prog_13_method_172_code 13 = .ok (.bipush (-101), 2) := by decide +kernel
theorem d_Mod_interval_II_15 : decode prog_13_method_172_code 15 = .ok (.ireturn, 1) := by decide +kernel
theorem d_Mod_members_0 : decode prog_13_method_173_code 0 = .ok (.aload_n 0, 1) := by decide +kernel
theorem d_Mod_members_1 : decode prog_13_method_173_code 1 = .ok (.iconst 0, 1) := by decide +kernel
theorem d_Mod_members_2 : decode prog_13_method_173_code 2 = .ok (.putfield 217, 3) := by decide +kernel
theorem d_Mod_members_5 : decode prog_13_method_173_code 5 = .ok (.aload_n 0, 1) := by decide +kernel
theorem d_Mod_members_6 : decode prog_13_method_173_code 6 = .ok (.getfield 195, 3) := by decide +kernel
theorem d_Mod_members_9 : decode prog_13_method_173_code 9 = .ok (.iconst (-1), 1) := by decide +kernel
theorem d_Mod_members_10 : decode prog_13_method_173_code 10 = .ok (.if_icmp .ne 6, 3) := by decide +kernel
theorem d_Mod_members_13 : decode prog_13_method_173_code 13 = .ok (.bipush (-101), 2) := by decide +kernel
theorem d_Mod_members_15 : decode prog_13_method_173_code 15 = .ok (.ireturn, 1) := by decide +kernel
theorem d_Mod_point_II_0 : decode prog_13_method_180_code 0 = .ok (.aload_n 0, 1) := by decide +kernel
theorem d_Mod_point_II_1 : decode prog_13_method_180_code 1 = .ok (.iconst 0, 1) := by decide +kernel
theorem d_Mod_point_II_2 : decode prog_13_method_180_code 2 = .ok (.putfield 217, 3) := by decide +kernel
theorem d_Mod_point_II_5 : decode prog_13_method_180_code 5 = .ok (.aload_n 0, 1) := by decide +kernel
theorem d_Mod_point_II_6 : decode prog_13_method_180_code 6 = .ok (.getfield 205, 3) := by decide +kernel
theorem d_Mod_point_II_9 : decode prog_13_method_180_code 9 = .ok (.iconst (-1), 1) := by decide +kernel
theorem d_Mod_point_II_10 : decode prog_13_method_180_code 10 = .ok (.if_icmp .ne 6, 3) := by decide +kernel
theorem d_Mod_point_II_13 : decode prog_13_method_180_code 13 = .ok (.bipush (-101), 2) := by decide +kernel
theorem d_Mod_point_II_15 : decode prog_13_method_180_code 15 = .ok (.ireturn, 1) := by decide +kernel
theorem d_Mod_write_III_0 : decode prog_13_method_186_code 0 = .ok (.aload_n 0, 1) := by decide +kernel
theorem d_Mod_write_III_1 : decode prog_13_method_186_code 1 = .ok (.iconst 0, 1) := by decide +kernel
theorem d_Mod_write_III_2 : decode prog_13_method_186_code 2 = .ok (.putfield 217, 3) := by decide +kernel
theorem d_Mod_write_III_5 : decode prog_13_method_186_code 5 = .ok (.aload_n 0, 1) := by decide +kernel
theorem d_Mod_write_III_6 : decode prog_13_method_186_code 6 = .ok (.getfield 195, 3) := by decide +kernel
theorem d_Mod_write_III_9 : decode prog_13_method_186_code 9 = .ok (.iconst (-1), 1) := by decide +kernel
theorem d_Mod_write_III_10 : decode prog_13_method_186_code 10 = .ok (.if_icmp .ne 6, 3) := by decide +kernel
theorem d_Mod_write_III_13 : decode prog_13_method_186_code 13 = .ok (.bipush (-101), 2) := by decide +kernel
theorem d_Mod_write_III_15 : decode prog_13_method_186_code 15 = .ok (.ireturn, 1) := by decide +kernel
theorem d_Mod_writeLeast_II_0 : decode prog_13_method_187_code 0 = .ok (.aload_n 0, 1) := by decide +kernel
theorem d_Mod_writeLeast_II_1 : decode prog_13_method_187_code 1 = .ok (.iconst 0, 1) := by decide +kernel
theorem d_Mod_writeLeast_II_2 : decode prog_13_method_187_code 2 = .ok (.putfield 217, 3) := by decide +kernel
theorem d_Mod_writeLeast_II_5 : decode prog_13_method_187_code 5 = .ok (.aload_n 0, 1) := by decide +kernel
theorem d_Mod_writeLeast_II_6 : decode prog_13_method_187_code 6 = .ok (.getfield 195, 3) := by decide +kernel
theorem d_Mod_writeLeast_II_9 : decode prog_13_method_187_code 9 = .ok (.iconst (-1), 1) := by decide +kernel
theorem d_Mod_writeLeast_II_10 : decode prog_13_method_187_code 10 = .ok (.if_icmp .ne 6, 3) := by decide +kernel
theorem d_Mod_writeLeast_II_13 : decode prog_13_method_187_code 13 = .ok (.bipush (-101), 2) := by decide +kernel
theorem d_Mod_writeLeast_II_15 : decode prog_13_method_187_code 15 = .ok (.ireturn, 1) := by decide +kernel
theorem d_Mod_writePoint_III_0 : decode prog_13_method_188_code 0 = .ok (.aload_n 0, 1) := by decide +kernel
theorem d_Mod_writePoint_III_1 : decode prog_13_method_188_code 1 = .ok (.iconst 0, 1) := by decide +kernel
theorem d_Mod_writePoint_III_2 : decode prog_13_method_188_code 2 = .ok (.putfield 217, 3) := by decide +kernel
theorem d_Mod_writePoint_III_5 : decode prog_13_method_188_code 5 = .ok (.aload_n 0, 1) := by decide +kernel
theorem d_Mod_writePoint_III_6 : decode prog_13_method_188_code 6 = .ok (.getfield 205, 3) := by decide +kernel
theorem d_Mod_writePoint_III_9 : decode prog_13_method_188_code 9 = .ok (.iconst (-1), 1) := by decide +kernel
theorem d_Mod_writePoint_III_10 : decode prog_13_method_188_code 10 = .ok (.if_icmp .ne 6, 3) := by decide +kernel
theorem d_Mod_writePoint_III_13 : decode prog_13_method_188_code 13 = .ok (.bipush (-101), 2) := by decide +kernel
theorem d_Mod_writePoint_III_15 : decode prog_13_method_188_code 15 = .ok (.ireturn, 1) := by decide +kernel
theorem d_Mod_writePointLeast_II_0 : decode prog_13_method_189_code 0 = .ok (.aload_n 0, 1) := by decide +kernel
theorem d_Mod_writePointLeast_II_1 : decode prog_13_method_189_code 1 = .ok (.iconst 0, 1) := by decide +kernel
theorem d_Mod_writePointLeast_II_2 : decode prog_13_method_189_code 2 = .ok (.putfield 217, 3) := by decide +kernel
theorem d_Mod_writePointLeast_II_5 : decode prog_13_method_189_code 5 = .ok (.aload_n 0, 1) := by decide +kernel
theorem d_Mod_writePointLeast_II_6 : decode prog_13_method_189_code 6 = .ok (.getfield 205, 3) := by decide +kernel
theorem d_Mod_writePointLeast_II_9 : decode prog_13_method_189_code 9 = .ok (.iconst (-1), 1) := by decide +kernel
theorem d_Mod_writePointLeast_II_10 : decode prog_13_method_189_code 10 = .ok (.if_icmp .ne 6, 3) := by decide +kernel
theorem d_Mod_writePointLeast_II_13 : decode prog_13_method_189_code 13 = .ok (.bipush (-101), 2) := by decide +kernel
theorem d_Mod_writePointLeast_II_15 : decode prog_13_method_189_code 15 = .ok (.ireturn, 1) := by decide +kernel
