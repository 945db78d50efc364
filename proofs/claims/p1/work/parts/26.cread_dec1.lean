theorem d_CD_read_0 : decode prog_1_method_5_code 0 = .ok (.aload_n 0, 1) := by decide +kernel
theorem d_CD_read_1 : decode prog_1_method_5_code 1 = .ok (.getfield 25, 3) := by decide +kernel
theorem d_CD_read_4 : decode prog_1_method_5_code 4 = .ok (.aload_n 0, 1) := by decide +kernel
theorem d_CD_read_5 : decode prog_1_method_5_code 5 = .ok (.getfield 111, 3) := by decide +kernel
theorem d_C_Reader_takeStatement_I_0 : decode prog_6_method_2_code 0 = .ok (.aload_n 0, 1) := by decide +kernel
theorem d_C_Reader_takeStatement_I_1 : decode prog_6_method_2_code 1 = .ok (.iload_n 1, 1) := by decide +kernel
theorem d_C_Reader_start_I_0 : decode prog_6_method_4_code 0 = .ok (.aload_n 0, 1) := by decide +kernel
theorem d_C_Reader_start_I_1 : decode prog_6_method_4_code 1 = .ok (.iload_n 1, 1) := by decide +kernel
theorem d_C_Reader_start_I_2 : decode prog_6_method_4_code 2 = .ok (.putfield 95, 3) := by decide +kernel
theorem d_C_Reader_start_I_5 : decode prog_6_method_4_code 5 = .ok (.aload_n 0, 1) := by decide +kernel
theorem d_C_Reader_start_I_6 : decode prog_6_method_4_code 6 = .ok (.iconst 0, 1) := by decide +kernel
theorem d_C_Reader_start_I_7 : decode prog_6_method_4_code 7 = .ok (.putfield 98, 3) := by decide +kernel
theorem d_C_Reader_start_I_10 : decode prog_6_method_4_code 10 = .ok (.aload_n 0, 1) := by decide +kernel
theorem d_C_Reader_start_I_11 : decode prog_6_method_4_code 11 = .ok (.iconst 0, 1) := by decide +kernel
theorem d_C_Reader_start_I_12 : decode prog_6_method_4_code 12 = .ok (.putfield 101, 3) := by decide +kernel
theorem d_C_Reader_start_I_15 : decode prog_6_method_4_code 15 = .ok (.aload_n 0, 1) := by decide +kernel
theorem d_C_Reader_start_I_16 : decode prog_6_method_4_code 16 = .ok (.iconst 0, 1) := by decide +kernel
theorem d_C_Reader_start_I_17 : decode prog_6_method_4_code 17 = .ok (.putfield 58, 3) := by decide +kernel
theorem d_C_Reader_start_I_20 : decode prog_6_method_4_code 20 = .ok (.aload_n 0, 1) := by decide +kernel
theorem d_C_Reader_start_I_21 : decode prog_6_method_4_code 21 = .ok (.iconst 0, 1) := by decide +kernel
theorem d_C_Reader_start_I_22 : decode prog_6_method_4_code 22 = .ok (.putfield 104, 3) := by decide +kernel
theorem d_C_Reader_start_I_25 : decode prog_6_method_4_code 25 = .ok (.aload_n 0, 1) := by decide +kernel
theorem d_C_Reader_start_I_26 : decode prog_6_method_4_code 26 = .ok (.iconst 0, 1) := by decide +kernel
theorem d_C_Reader_start_I_27 : decode prog_6_method_4_code 27 = .ok (.putfield 107, 3) := by decide +kernel
theorem d_C_Reader_start_I_30 : decode prog_6_method_4_code 30 = .ok (.aload_n 0, 1) := by decide +kernel
theorem d_C_Reader_start_I_31 : decode prog_6_method_4_code 31 = .ok (.iconst 0, 1) := by decide +kernel
theorem d_C_Reader_start_I_32 : decode prog_6_method_4_code 32 = .ok (.putfield 86, 3) := by decide +kernel
theorem d_C_Reader_start_I_35 : decode prog_6_method_4_code 35 = .ok (.aload_n 0, 1) := by decide +kernel
theorem d_C_Reader_start_I_36 : decode prog_6_method_4_code 36 = .ok (.iconst (-1), 1) := by decide +kernel
theorem d_C_Reader_start_I_37 : decode prog_6_method_4_code 37 = .ok (.putfield 64, 3) := by decide +kernel
theorem d_C_Reader_start_I_40 : decode prog_6_method_4_code 40 = .ok (.aload_n 0, 1) := by decide +kernel
theorem d_C_Reader_start_I_41 : decode prog_6_method_4_code 41 = .ok (.iconst (-1), 1) := by decide +kernel
theorem d_C_Reader_start_I_42 : decode prog_6_method_4_code 42 = .ok (.putfield 110, 3) := by decide +kernel
theorem d_C_Reader_start_I_45 : decode prog_6_method_4_code 45 = .ok (.aload_n 0, 1) := by decide +kernel
theorem d_C_Reader_start_I_46 : decode prog_6_method_4_code 46 = .ok (.iconst 0, 1) := by decide +kernel
theorem d_C_Reader_start_I_47 : decode prog_6_method_4_code 47 = .ok (.putfield 54, 3) := by decide +kernel
theorem d_C_Reader_start_I_50 : decode prog_6_method_4_code 50 = .ok (.aload_n 0, 1) := by decide +kernel
theorem d_C_Reader_start_I_51 : decode prog_6_method_4_code 51 = .ok (.getfield 11, 3) := by decide +kernel
theorem d_C_Reader_start_I_54 : decode prog_6_method_4_code 54 = .ok (.iconst 0, 1) := by decide +kernel
theorem d_C_Reader_start_I_55 : decode prog_6_method_4_code 55 = .ok (.iconst 0, 1) := by decide +kernel
theorem d_C_Reader_start_I_56 : decode prog_6_method_4_code 56 = .ok (.bastore, 1) := by decide +kernel
theorem d_C_Reader_start_I_57 : decode prog_6_method_4_code 57 = .ok (.aload_n 0, 1) := by decide +kernel
theorem d_C_Reader_start_I_58 : decode prog_6_method_4_code 58 = .ok (.getfield 11, 3) := by decide +kernel
theorem d_C_Reader_start_I_61 : decode prog_6_method_4_code 61 = .ok (.iconst 1, 1) := by decide +kernel
theorem d_C_Reader_start_I_62 : decode prog_6_method_4_code 62 = .ok (.iconst 0, 1) := by decide +kernel
theorem d_C_Reader_start_I_63 : decode prog_6_method_4_code 63 = .ok (.bastore, 1) := by decide +kernel
theorem d_C_Reader_start_I_64 : decode prog_6_method_4_code 64 = .ok (.aload_n 0, 1) := by decide +kernel
theorem d_C_Reader_findToken_0 : decode prog_6_method_11_code 0 = .ok (.aload_n 0, 1) := by decide +kernel
theorem d_C_Reader_findToken_1 : decode prog_6_method_11_code 1 = .ok (.getfield 98, 3) := by decide +kernel
theorem d_C_Reader_findToken_4 : decode prog_6_method_11_code 4 = .ok (.istore_n 1, 1) := by decide +kernel
theorem d_C_Reader_findToken_5 : decode prog_6_method_11_code 5 = .ok (.iload_n 1, 1) := by decide +kernel
theorem d_C_Reader_findToken_6 : decode prog_6_method_11_code 6 = .ok (.aload_n 0, 1) := by decide +kernel
theorem d_C_Reader_findToken_7 : decode prog_6_method_11_code 7 = .ok (.getfield 95, 3) := by decide +kernel
theorem d_C_Reader_findToken_10 : decode prog_6_method_11_code 10 = .ok (.if_icmp .ge 31, 3) := by decide +kernel
theorem d_C_Reader_findToken_41 : decode prog_6_method_11_code 41 = .ok (.aload_n 0, 1) := by decide +kernel
theorem d_C_Reader_findToken_42 : decode prog_6_method_11_code 42 = .ok (.iload_n 1, 1) := by decide +kernel
theorem d_C_Reader_findToken_43 : decode prog_6_method_11_code 43 = .ok (.putfield 89, 3) := by decide +kernel
theorem d_C_Reader_findToken_46 : decode prog_6_method_11_code 46 = .ok (.aload_n 0, 1) := by decide +kernel
theorem d_C_Reader_findToken_47 : decode prog_6_method_11_code 47 = .ok (.iload_n 1, 1) := by decide +kernel
theorem d_C_Reader_findToken_48 : decode prog_6_method_11_code 48 = .ok (.iconst 1, 1) := by decide +kernel
theorem d_C_Reader_findToken_49 : decode prog_6_method_11_code 49 = .ok (.iadd, 1) := by decide +kernel
theorem d_C_Reader_findToken_50 : decode prog_6_method_11_code 50 = .ok (.putfield 98, 3) := by decide +kernel
theorem d_C_Reader_findToken_53 : decode prog_6_method_11_code 53 = .ok (.iload_n 1, 1) := by decide +kernel
theorem d_C_Reader_findToken_54 : decode prog_6_method_11_code 54 = .ok (.aload_n 0, 1) := by decide +kernel
theorem d_C_Reader_findToken_55 : decode prog_6_method_11_code 55 = .ok (.getfield 95, 3) := by decide +kernel
theorem d_C_Reader_findToken_58 : decode prog_6_method_11_code 58 = .ok (.if_icmp .lt 9, 3) := by decide +kernel
theorem d_C_Reader_findToken_61 : decode prog_6_method_11_code 61 = .ok (.aload_n 0, 1) := by decide +kernel
theorem d_C_Reader_findToken_62 : decode prog_6_method_11_code 62 = .ok (.iconst 1, 1) := by decide +kernel
theorem d_C_Reader_findToken_63 : decode prog_6_method_11_code 63 = .ok (.putfield 47, 3) := by decide +kernel
theorem d_C_Reader_findToken_66 : decode prog_6_method_11_code 66 = .ok (.return_, 1) := by decide +kernel
theorem d_C_Reader_start_I_65 : decode prog_6_method_4_code 65 = .ok (.invokevirtual 113, 3) := by decide +kernel
theorem d_C_Reader_start_I_68 : decode prog_6_method_4_code 68 = .ok (.return_, 1) := by decide +kernel
theorem d_C_Reader_takeStatement_I_2 : decode prog_6_method_2_code 2 = .ok (.invokevirtual 35, 3) := by decide +kernel
theorem d_C_Reader_takeStatement_I_5 : decode prog_6_method_2_code 5 = .ok (.aload_n 0, 1) := by decide +kernel
theorem d_C_Reader_takeStatement_I_6 : decode prog_6_method_2_code 6 = .ok (.getfield 31, 3) := by decide +kernel
theorem d_C_Statement_clear_0 : decode prog_11_method_2_code 0 = .ok (.aload_n 0, 1) := by decide +kernel
theorem d_C_Statement_clear_1 : decode prog_11_method_2_code 1 = .ok (.iconst 0, 1) := by decide +kernel
theorem d_C_Statement_clear_2 : decode prog_11_method_2_code 2 = .ok (.putfield 60, 3) := by decide +kernel
theorem d_C_Statement_clear_5 : decode prog_11_method_2_code 5 = .ok (.aload_n 0, 1) := by decide +kernel
theorem d_C_Statement_clear_6 : decode prog_11_method_2_code 6 = .ok (.iconst 0, 1) := by decide +kernel
theorem d_C_Statement_clear_7 : decode prog_11_method_2_code 7 = .ok (.putfield 64, 3) := by decide +kernel
theorem d_C_Statement_clear_10 : decode prog_11_method_2_code 10 = .ok (.aload_n 0, 1) := by decide +kernel
theorem d_C_Statement_clear_11 : decode prog_11_method_2_code 11 = .ok (.iconst (-1), 1) := by decide +kernel
theorem d_C_Statement_clear_12 : decode prog_11_method_2_code 12 = .ok (.putfield 9, 3) := by decide +kernel
theorem d_C_Statement_clear_15 : decode prog_11_method_2_code 15 = .ok (.aload_n 0, 1) := by decide +kernel
theorem d_C_Statement_clear_16 : decode prog_11_method_2_code 16 = .ok (.iconst 0, 1) := by decide +kernel
theorem d_C_Statement_clear_17 : decode prog_11_method_2_code 17 = .ok (.putfield 67, 3) := by decide +kernel
theorem d_C_Statement_clear_20 : decode prog_11_method_2_code 20 = .ok (.aload_n 0, 1) := by decide +kernel
theorem d_C_Statement_clear_21 : decode prog_11_method_2_code 21 = .ok (.iconst 0, 1) := by decide +kernel
theorem d_C_Statement_clear_22 : decode prog_11_method_2_code 22 = .ok (.putfield 70, 3) := by decide +kernel
theorem d_C_Statement_clear_25 : decode prog_11_method_2_code 25 = .ok (.aload_n 0, 1) := by decide +kernel
theorem d_C_Statement_clear_26 : decode prog_11_method_2_code 26 = .ok (.iconst 0, 1) := by decide +kernel
theorem d_C_Statement_clear_27 : decode prog_11_method_2_code 27 = .ok (.putfield 73, 3) := by decide +kernel
theorem d_C_Statement_clear_30 : decode prog_11_method_2_code 30 = .ok (.return_, 1) := by decide +kernel
theorem d_C_Reader_takeStatement_I_9 : decode prog_6_method_2_code 9 = .ok (.invokevirtual 39, 3) := by decide +kernel
theorem d_C_Reader_takeStatement_I_12 : decode prog_6_method_2_code 12 = .ok (.aload_n 0, 1) := by decide +kernel
theorem d_C_Reader_statementRule_0 : decode prog_6_method_18_code 0 = .ok (.aload_n 0, 1) := by decide +kernel
theorem d_C_Reader_statementRule_1 : decode prog_6_method_18_code 1 = .ok (.getfield 47, 3) := by decide +kernel
theorem d_C_Reader_statementRule_4 : decode prog_6_method_18_code 4 = .ok (.bipush 23, 2) := by decide +kernel
theorem d_C_Reader_statementRule_6 : decode prog_6_method_18_code 6 = .ok (.if_icmp .eq 12, 3) := by decide +kernel
theorem d_C_Reader_statementRule_9 : decode prog_6_method_18_code 9 = .ok (.aload_n 0, 1) := by decide +kernel
theorem d_C_Reader_statementRule_10 : decode prog_6_method_18_code 10 = .ok (.getfield 47, 3) := by decide +kernel
theorem d_C_Reader_statementRule_13 : decode prog_6_method_18_code 13 = .ok (.bipush 24, 2) := by decide +kernel
theorem d_C_Reader_statementRule_15 : decode prog_6_method_18_code 15 = .ok (.if_icmp .ne 8, 3) := by decide +kernel
theorem d_C_Reader_statementRule_23 : decode prog_6_method_18_code 23 = .ok (.aload_n 0, 1) := by decide +kernel
theorem d_C_Reader_sideRule_0 : decode prog_6_method_20_code 0 = .ok (.aload_n 0, 1) := by decide +kernel
theorem d_C_Reader_bothRule_0 : decode prog_6_method_21_code 0 = .ok (.aload_n 0, 1) := by decide +kernel
theorem d_C_Reader_oneRule_0 : decode prog_6_method_22_code 0 = .ok (.aload_n 0, 1) := by decide +kernel
theorem d_C_Reader_oneRule_1 : decode prog_6_method_22_code 1 = .ok (.getfield 47, 3) := by decide +kernel
theorem d_C_Reader_oneRule_4 : decode prog_6_method_22_code 4 = .ok (.bipush 25, 2) := by decide +kernel
theorem d_C_Reader_oneRule_6 : decode prog_6_method_22_code 6 = .ok (.if_icmp .ne 37, 3) := by decide +kernel
theorem d_C_Reader_oneRule_43 : decode prog_6_method_22_code 43 = .ok (.aload_n 0, 1) := by decide +kernel
theorem d_C_Reader_oneRule_44 : decode prog_6_method_22_code 44 = .ok (.getfield 47, 3) := by decide +kernel
theorem d_C_Reader_oneRule_47 : decode prog_6_method_22_code 47 = .ok (.iconst 5, 1) := by decide +kernel
theorem d_C_Reader_oneRule_48 : decode prog_6_method_22_code 48 = .ok (.if_icmp .ne 24, 3) := by decide +kernel
theorem d_C_Reader_oneRule_72 : decode prog_6_method_22_code 72 = .ok (.aload_n 0, 1) := by decide +kernel
theorem d_C_Reader_oneRule_73 : decode prog_6_method_22_code 73 = .ok (.getfield 47, 3) := by decide +kernel
theorem d_C_Reader_oneRule_76 : decode prog_6_method_22_code 76 = .ok (.bipush 28, 2) := by decide +kernel
theorem d_C_Reader_oneRule_78 : decode prog_6_method_22_code 78 = .ok (.if_icmp .eq 12, 3) := by decide +kernel
theorem d_C_Reader_oneRule_81 : decode prog_6_method_22_code 81 = .ok (.aload_n 0, 1) := by decide +kernel
theorem d_C_Reader_oneRule_82 : decode prog_6_method_22_code 82 = .ok (.getfield 47, 3) := by decide +kernel
theorem d_C_Reader_oneRule_85 : decode prog_6_method_22_code 85 = .ok (.bipush 29, 2) := by decide +kernel
theorem d_C_Reader_oneRule_87 : decode prog_6_method_22_code 87 = .ok (.if_icmp .ne 32, 3) := by decide +kernel
theorem d_C_Reader_oneRule_119 : decode prog_6_method_22_code 119 = .ok (.aload_n 0, 1) := by decide +kernel
theorem d_C_Reader_comparisonRule_0 : decode prog_6_method_23_code 0 = .ok (.aload_n 0, 1) := by decide +kernel
theorem d_C_Reader_comparisonRule_1 : decode prog_6_method_23_code 1 = .ok (.iconst 0, 1) := by decide +kernel
theorem d_C_Reader_comparisonRule_2 : decode prog_6_method_23_code 2 = .ok (.putfield 86, 3) := by decide +kernel
theorem d_C_Reader_comparisonRule_5 : decode prog_6_method_23_code 5 = .ok (.aload_n 0, 1) := by decide +kernel
theorem d_C_Reader_comparisonRule_6 : decode prog_6_method_23_code 6 = .ok (.iconst 0, 1) := by decide +kernel
theorem d_C_Reader_sumRule_I_0 : decode prog_6_method_25_code 0 = .ok (.iload_n 1, 1) := by decide +kernel
theorem d_C_Reader_sumRule_I_1 : decode prog_6_method_25_code 1 = .ok (.bipush 10, 2) := by decide +kernel
theorem d_C_Reader_sumRule_I_3 : decode prog_6_method_25_code 3 = .ok (.if_icmp .le 4, 3) := by decide +kernel
theorem d_C_Reader_sumRule_I_7 : decode prog_6_method_25_code 7 = .ok (.aload_n 0, 1) := by decide +kernel
theorem d_C_Reader_sumRule_I_8 : decode prog_6_method_25_code 8 = .ok (.getfield 17, 3) := by decide +kernel
theorem d_C_Reader_sumRule_I_11 : decode prog_6_method_25_code 11 = .ok (.iconst 3, 1) := by decide +kernel
theorem d_C_Reader_sumRule_I_12 : decode prog_6_method_25_code 12 = .ok (.iload_n 1, 1) := by decide +kernel
theorem d_C_Reader_sumRule_I_13 : decode prog_6_method_25_code 13 = .ok (.imul, 1) := by decide +kernel
theorem d_C_Reader_sumRule_I_14 : decode prog_6_method_25_code 14 = .ok (.aaload, 1) := by decide +kernel
theorem d_C_Reader_sumRule_I_15 : decode prog_6_method_25_code 15 = .ok (.astore_n 2, 1) := by decide +kernel
theorem d_C_Reader_sumRule_I_16 : decode prog_6_method_25_code 16 = .ok (.aload_n 0, 1) := by decide +kernel
theorem d_C_Reader_sumRule_I_17 : decode prog_6_method_25_code 17 = .ok (.getfield 17, 3) := by decide +kernel
theorem d_C_Reader_sumRule_I_20 : decode prog_6_method_25_code 20 = .ok (.iconst 3, 1) := by decide +kernel
theorem d_C_Reader_sumRule_I_21 : decode prog_6_method_25_code 21 = .ok (.iload_n 1, 1) := by decide +kernel
theorem d_C_Reader_sumRule_I_22 : decode prog_6_method_25_code 22 = .ok (.imul, 1) := by decide +kernel
theorem d_C_Reader_sumRule_I_23 : decode prog_6_method_25_code 23 = .ok (.iconst 1, 1) := by decide +kernel
theorem d_C_Reader_sumRule_I_24 : decode prog_6_method_25_code 24 = .ok (.iadd, 1) := by decide +kernel
theorem d_C_Reader_sumRule_I_25 : decode prog_6_method_25_code 25 = .ok (.aaload, 1) := by decide +kernel
theorem d_C_Reader_sumRule_I_26 : decode prog_6_method_25_code 26 = .ok (.astore_n 3, 1) := by decide +kernel
theorem d_C_Reader_sumRule_I_27 : decode prog_6_method_25_code 27 = .ok (.aload_n 2, 1) := by decide +kernel
theorem d_C_Reader_sumRule_I_28 : decode prog_6_method_25_code 28 = .ok (.iconst 0, 1) := by decide +kernel
theorem d_Arrays_fill_II_0 : decode prog_33_method_103_code 0 = .ok (.iconst 0, 1) := by decide +kernel
theorem d_Arrays_fill_II_1 : decode prog_33_method_103_code 1 = .ok (.istore_n 2, 1) := by decide +kernel
theorem d_Arrays_fill_II_2 : decode prog_33_method_103_code 2 = .ok (.aload_n 0, 1) := by decide +kernel
theorem d_Arrays_fill_II_3 : decode prog_33_method_103_code 3 = .ok (.arraylength, 1) := by decide +kernel
theorem d_Arrays_fill_II_4 : decode prog_33_method_103_code 4 = .ok (.istore_n 3, 1) := by decide +kernel
theorem d_Arrays_fill_II_5 : decode prog_33_method_103_code 5 = .ok (.iload_n 2, 1) := by decide +kernel
theorem d_Arrays_fill_II_6 : decode prog_33_method_103_code 6 = .ok (.iload_n 3, 1) := by decide +kernel
theorem d_Arrays_fill_II_7 : decode prog_33_method_103_code 7 = .ok (.if_icmp .ge 13, 3) := by decide +kernel
theorem d_Arrays_fill_II_10 : decode prog_33_method_103_code 10 = .ok (.aload_n 0, 1) := by decide +kernel
theorem d_Arrays_fill_II_11 : decode prog_33_method_103_code 11 = .ok (.iload_n 2, 1) := by decide +kernel
theorem d_Arrays_fill_II_12 : decode prog_33_method_103_code 12 = .ok (.iload_n 1, 1) := by decide +kernel
theorem d_Arrays_fill_II_13 : decode prog_33_method_103_code 13 = .ok (.iastore, 1) := by decide +kernel
theorem d_Arrays_fill_II_14 : decode prog_33_method_103_code 14 = .ok (.iinc 2 1, 3) := by decide +kernel
theorem d_Arrays_fill_II_17 : decode prog_33_method_103_code 17 = .ok (.goto (-12), 3) := by decide +kernel
theorem d_Arrays_fill_II_20 : decode prog_33_method_103_code 20 = .ok (.return_, 1) := by decide +kernel
theorem d_C_Reader_sumRule_I_29 : decode prog_6_method_25_code 29 = .ok (.invokestatic 198, 3) := by decide +kernel
theorem d_C_Reader_sumRule_I_32 : decode prog_6_method_25_code 32 = .ok (.iconst 1, 1) := by decide +kernel
theorem d_C_Reader_sumRule_I_33 : decode prog_6_method_25_code 33 = .ok (.istore 4, 2) := by decide +kernel
theorem d_C_Reader_sumRule_I_35 : decode prog_6_method_25_code 35 = .ok (.aload_n 0, 1) := by decide +kernel
theorem d_C_Reader_sumRule_I_36 : decode prog_6_method_25_code 36 = .ok (.getfield 47, 3) := by decide +kernel
theorem d_C_Reader_sumRule_I_39 : decode prog_6_method_25_code 39 = .ok (.bipush 12, 2) := by decide +kernel
theorem d_C_Reader_sumRule_I_41 : decode prog_6_method_25_code 41 = .ok (.if_icmp .ne 10, 3) := by decide +kernel
theorem d_C_Reader_sumRule_I_51 : decode prog_6_method_25_code 51 = .ok (.aload_n 0, 1) := by decide +kernel
theorem d_C_Reader_sumRule_I_52 : decode prog_6_method_25_code 52 = .ok (.iload_n 1, 1) := by decide +kernel
theorem d_C_Reader_productRule_I_0 : decode prog_6_method_26_code 0 = .ok (.aload_n 0, 1) := by decide +kernel
theorem d_C_Reader_productRule_I_1 : decode prog_6_method_26_code 1 = .ok (.getfield 17, 3) := by decide +kernel
theorem d_C_Reader_productRule_I_4 : decode prog_6_method_26_code 4 = .ok (.iconst 3, 1) := by decide +kernel
theorem d_C_Reader_productRule_I_5 : decode prog_6_method_26_code 5 = .ok (.iload_n 1, 1) := by decide +kernel
theorem d_C_Reader_productRule_I_6 : decode prog_6_method_26_code 6 = .ok (.imul, 1) := by decide +kernel
theorem d_C_Reader_productRule_I_7 : decode prog_6_method_26_code 7 = .ok (.iconst 1, 1) := by decide +kernel
theorem d_C_Reader_productRule_I_8 : decode prog_6_method_26_code 8 = .ok (.iadd, 1) := by decide +kernel
theorem d_C_Reader_productRule_I_9 : decode prog_6_method_26_code 9 = .ok (.aaload, 1) := by decide +kernel
theorem d_C_Reader_productRule_I_10 : decode prog_6_method_26_code 10 = .ok (.astore_n 2, 1) := by decide +kernel
theorem d_C_Reader_productRule_I_11 : decode prog_6_method_26_code 11 = .ok (.aload_n 0, 1) := by decide +kernel
theorem d_C_Reader_productRule_I_12 : decode prog_6_method_26_code 12 = .ok (.getfield 17, 3) := by decide +kernel
theorem d_C_Reader_productRule_I_15 : decode prog_6_method_26_code 15 = .ok (.iconst 3, 1) := by decide +kernel
theorem d_C_Reader_productRule_I_16 : decode prog_6_method_26_code 16 = .ok (.iload_n 1, 1) := by decide +kernel
theorem d_C_Reader_productRule_I_17 : decode prog_6_method_26_code 17 = .ok (.imul, 1) := by decide +kernel
theorem d_C_Reader_productRule_I_18 : decode prog_6_method_26_code 18 = .ok (.iconst 2, 1) := by decide +kernel
theorem d_C_Reader_productRule_I_19 : decode prog_6_method_26_code 19 = .ok (.iadd, 1) := by decide +kernel
theorem d_C_Reader_productRule_I_20 : decode prog_6_method_26_code 20 = .ok (.aaload, 1) := by decide +kernel
theorem d_C_Reader_productRule_I_21 : decode prog_6_method_26_code 21 = .ok (.astore_n 3, 1) := by decide +kernel
theorem d_C_Reader_productRule_I_22 : decode prog_6_method_26_code 22 = .ok (.aload_n 0, 1) := by decide +kernel
theorem d_C_Reader_productRule_I_23 : decode prog_6_method_26_code 23 = .ok (.iload_n 1, 1) := by decide +kernel
theorem d_C_Reader_powerRule_I_0 : decode prog_6_method_27_code 0 = .ok (.aload_n 0, 1) := by decide +kernel
theorem d_C_Reader_powerRule_I_1 : decode prog_6_method_27_code 1 = .ok (.getfield 17, 3) := by decide +kernel
theorem d_C_Reader_powerRule_I_4 : decode prog_6_method_27_code 4 = .ok (.iconst 3, 1) := by decide +kernel
theorem d_C_Reader_powerRule_I_5 : decode prog_6_method_27_code 5 = .ok (.iload_n 1, 1) := by decide +kernel
theorem d_C_Reader_powerRule_I_6 : decode prog_6_method_27_code 6 = .ok (.imul, 1) := by decide +kernel
theorem d_C_Reader_powerRule_I_7 : decode prog_6_method_27_code 7 = .ok (.iconst 2, 1) := by decide +kernel
theorem d_C_Reader_powerRule_I_8 : decode prog_6_method_27_code 8 = .ok (.iadd, 1) := by decide +kernel
theorem d_C_Reader_powerRule_I_9 : decode prog_6_method_27_code 9 = .ok (.aaload, 1) := by decide +kernel
theorem d_C_Reader_powerRule_I_10 : decode prog_6_method_27_code 10 = .ok (.astore_n 2, 1) := by decide +kernel
theorem d_C_Reader_powerRule_I_11 : decode prog_6_method_27_code 11 = .ok (.aload_n 0, 1) := by decide +kernel
theorem d_C_Reader_powerRule_I_12 : decode prog_6_method_27_code 12 = .ok (.iload_n 1, 1) := by decide +kernel
theorem d_C_Reader_powerRule_I_13 : decode prog_6_method_27_code 13 = .ok (.aload_n 2, 1) := by decide +kernel
theorem d_C_Reader_atomRule_II_0 : decode prog_6_method_28_code 0 = .ok (.aload_n 0, 1) := by decide +kernel
theorem d_C_Reader_atomRule_II_1 : decode prog_6_method_28_code 1 = .ok (.getfield 47, 3) := by decide +kernel
theorem d_C_Reader_atomRule_II_4 : decode prog_6_method_28_code 4 = .ok (.iconst 2, 1) := by decide +kernel
theorem d_C_Reader_atomRule_II_5 : decode prog_6_method_28_code 5 = .ok (.if_icmp .ne 19, 3) := by decide +kernel
theorem d_C_Reader_atomRule_II_24 : decode prog_6_method_28_code 24 = .ok (.aload_n 0, 1) := by decide +kernel
theorem d_C_Reader_atomRule_II_25 : decode prog_6_method_28_code 25 = .ok (.getfield 47, 3) := by decide +kernel
theorem d_C_Reader_atomRule_II_28 : decode prog_6_method_28_code 28 = .ok (.iconst 3, 1) := by decide +kernel
theorem d_C_Reader_atomRule_II_29 : decode prog_6_method_28_code 29 = .ok (.if_icmp .eq 11, 3) := by decide +kernel
theorem d_C_Reader_atomRule_II_32 : decode prog_6_method_28_code 32 = .ok (.aload_n 0, 1) := by decide +kernel
theorem d_C_Reader_atomRule_II_33 : decode prog_6_method_28_code 33 = .ok (.getfield 47, 3) := by decide +kernel
theorem d_C_Reader_atomRule_II_36 : decode prog_6_method_28_code 36 = .ok (.iconst 4, 1) := by decide +kernel
theorem d_C_Reader_atomRule_II_37 : decode prog_6_method_28_code 37 = .ok (.if_icmp .ne 59, 3) := by decide +kernel
theorem d_C_Reader_atomRule_II_96 : decode prog_6_method_28_code 96 = .ok (.aload_n 0, 1) := by decide +kernel
theorem d_C_Reader_atomRule_II_97 : decode prog_6_method_28_code 97 = .ok (.getfield 47, 3) := by decide +kernel
theorem d_C_Reader_atomRule_II_100 : decode prog_6_method_28_code 100 = .ok (.bipush 7, 2) := by decide +kernel
theorem d_C_Reader_atomRule_II_102 : decode prog_6_method_28_code 102 = .ok (.if_icmp .ne 41, 3) := by decide +kernel
theorem d_C_Reader_atomRule_II_143 : decode prog_6_method_28_code 143 = .ok (.aload_n 0, 1) := by decide +kernel
theorem d_C_Reader_misplaced_0 : decode prog_6_method_7_code 0 = .ok (.aload_n 0, 1) := by decide +kernel
theorem d_C_Reader_misplaced_1 : decode prog_6_method_7_code 1 = .ok (.iconst 2, 1) := by decide +kernel
theorem d_C_Reader_misplaced_2 : decode prog_6_method_7_code 2 = .ok (.aload_n 0, 1) := by decide +kernel
theorem d_C_Reader_misplaced_3 : decode prog_6_method_7_code 3 = .ok (.getfield 89, 3) := by decide +kernel
theorem d_C_Reader_fail_II_0 : decode prog_6_method_6_code 0 = .ok (.aload_n 0, 1) := by decide +kernel
theorem d_C_Reader_fail_II_1 : decode prog_6_method_6_code 1 = .ok (.getfield 58, 3) := by decide +kernel
theorem d_C_Reader_fail_II_4 : decode prog_6_method_6_code 4 = .ok (.ifCond .ne 13, 3) := by decide +kernel
theorem d_C_Reader_fail_II_7 : decode prog_6_method_6_code 7 = .ok (.aload_n 0, 1) := by decide +kernel
theorem d_C_Reader_fail_II_8 : decode prog_6_method_6_code 8 = .ok (.iload_n 1, 1) := by decide +kernel
theorem d_C_Reader_fail_II_9 : decode prog_6_method_6_code 9 = .ok (.putfield 58, 3) := by decide +kernel
theorem d_C_Reader_fail_II_12 : decode prog_6_method_6_code 12 = .ok (.aload_n 0, 1) := by decide +kernel
theorem d_C_Reader_fail_II_13 : decode prog_6_method_6_code 13 = .ok (.iload_n 2, 1) := by decide +kernel
theorem d_C_Reader_fail_II_14 : decode prog_6_method_6_code 14 = .ok (.putfield 104, 3) := by decide +kernel
theorem d_C_Reader_fail_II_17 : decode prog_6_method_6_code 17 = .ok (.aload_n 0, 1) := by decide +kernel
theorem d_C_Reader_fail_II_18 : decode prog_6_method_6_code 18 = .ok (.iconst 0, 1) := by decide +kernel
theorem d_C_Reader_fail_II_19 : decode prog_6_method_6_code 19 = .ok (.putfield 47, 3) := by decide +kernel
theorem d_C_Reader_fail_II_22 : decode prog_6_method_6_code 22 = .ok (.return_, 1) := by decide +kernel
theorem d_C_Reader_misplaced_6 : decode prog_6_method_7_code 6 = .ok (.invokevirtual 67, 3) := by decide +kernel
theorem d_C_Reader_misplaced_9 : decode prog_6_method_7_code 9 = .ok (.return_, 1) := by decide +kernel
theorem d_C_Reader_atomRule_II_144 : decode prog_6_method_28_code 144 = .ok (.invokevirtual 51, 3) := by decide +kernel
theorem d_C_Reader_atomRule_II_147 : decode prog_6_method_28_code 147 = .ok (.return_, 1) := by decide +kernel
theorem d_C_Reader_powerRule_I_14 : decode prog_6_method_27_code 14 = .ok (.invokevirtual 213, 3) := by decide +kernel
theorem d_C_Reader_powerRule_I_17 : decode prog_6_method_27_code 17 = .ok (.aload_n 0, 1) := by decide +kernel
theorem d_C_Reader_powerRule_I_18 : decode prog_6_method_27_code 18 = .ok (.getfield 47, 3) := by decide +kernel
theorem d_C_Reader_powerRule_I_21 : decode prog_6_method_27_code 21 = .ok (.bipush 14, 2) := by decide +kernel
theorem d_C_Reader_powerRule_I_23 : decode prog_6_method_27_code 23 = .ok (.if_icmp .eq 4, 3) := by decide +kernel
theorem d_C_Reader_powerRule_I_26 : decode prog_6_method_27_code 26 = .ok (.return_, 1) := by decide +kernel
theorem d_C_Reader_productRule_I_24 : decode prog_6_method_26_code 24 = .ok (.invokevirtual 207, 3) := by decide +kernel
theorem d_C_Reader_productRule_I_27 : decode prog_6_method_26_code 27 = .ok (.aload_n 3, 1) := by decide +kernel
theorem d_C_Reader_productRule_I_28 : decode prog_6_method_26_code 28 = .ok (.aload_n 2, 1) := by decide +kernel
theorem d_C_Reader_copy_II_0 : decode prog_6_method_31_code 0 = .ok (.aload_n 0, 1) := by decide +kernel
theorem d_C_Reader_copy_II_1 : decode prog_6_method_31_code 1 = .ok (.iconst 0, 1) := by decide +kernel
theorem d_C_Reader_copy_II_2 : decode prog_6_method_31_code 2 = .ok (.aload_n 1, 1) := by decide +kernel
theorem d_C_Reader_copy_II_3 : decode prog_6_method_31_code 3 = .ok (.iconst 0, 1) := by decide +kernel
theorem d_C_Reader_copy_II_4 : decode prog_6_method_31_code 4 = .ok (.bipush 16, 2) := by decide +kernel
theorem d_C_Reader_copy_II_6 : decode prog_6_method_31_code 6 = .ok (.invokestatic 229, 3) := by decide +kernel
theorem d_C_Reader_copy_II_9 : decode prog_6_method_31_code 9 = .ok (.return_, 1) := by decide +kernel
theorem d_C_Reader_productRule_I_29 : decode prog_6_method_26_code 29 = .ok (.invokestatic 82, 3) := by decide +kernel
theorem d_C_Reader_productRule_I_32 : decode prog_6_method_26_code 32 = .ok (.iconst 0, 1) := by decide +kernel
theorem d_C_Reader_productRule_I_33 : decode prog_6_method_26_code 33 = .ok (.istore 4, 2) := by decide +kernel
theorem d_C_Reader_productRule_I_35 : decode prog_6_method_26_code 35 = .ok (.iload 4, 2) := by decide +kernel
theorem d_C_Reader_productRule_I_37 : decode prog_6_method_26_code 37 = .ok (.bipush 120, 2) := by decide +kernel
theorem d_C_Reader_productRule_I_39 : decode prog_6_method_26_code 39 = .ok (.if_icmp .ge 33, 3) := by decide +kernel
theorem d_C_Reader_productRule_I_42 : decode prog_6_method_26_code 42 = .ok (.aload_n 0, 1) := by decide +kernel
theorem d_C_Reader_productRule_I_43 : decode prog_6_method_26_code 43 = .ok (.getfield 47, 3) := by decide +kernel
theorem d_C_Reader_productRule_I_46 : decode prog_6_method_26_code 46 = .ok (.bipush 13, 2) := by decide +kernel
theorem d_C_Reader_productRule_I_48 : decode prog_6_method_26_code 48 = .ok (.if_icmp .ne 24, 3) := by decide +kernel
theorem d_C_Reader_productRule_I_72 : decode prog_6_method_26_code 72 = .ok (.return_, 1) := by decide +kernel
theorem d_C_Reader_sumRule_I_53 : decode prog_6_method_25_code 53 = .ok (.invokevirtual 203, 3) := by decide +kernel
theorem d_C_Reader_sumRule_I_56 : decode prog_6_method_25_code 56 = .ok (.aload_n 2, 1) := by decide +kernel
theorem d_C_Reader_sumRule_I_57 : decode prog_6_method_25_code 57 = .ok (.aload_n 3, 1) := by decide +kernel
theorem d_C_Reader_sumRule_I_58 : decode prog_6_method_25_code 58 = .ok (.iload 4, 2) := by decide +kernel
theorem d_C_Reader_addTo_III_0 : decode prog_6_method_32_code 0 = .ok (.iconst 0, 1) := by decide +kernel
theorem d_C_Reader_addTo_III_1 : decode prog_6_method_32_code 1 = .ok (.istore_n 3, 1) := by decide +kernel
theorem d_C_Reader_addTo_III_2 : decode prog_6_method_32_code 2 = .ok (.iload_n 3, 1) := by decide +kernel
theorem d_C_Reader_addTo_III_3 : decode prog_6_method_32_code 3 = .ok (.bipush 16, 2) := by decide +kernel
theorem d_C_Reader_addTo_III_5 : decode prog_6_method_32_code 5 = .ok (.if_icmp .ge 20, 3) := by decide +kernel
theorem d_C_Reader_addTo_III_8 : decode prog_6_method_32_code 8 = .ok (.aload_n 0, 1) := by decide +kernel
theorem d_C_Reader_addTo_III_9 : decode prog_6_method_32_code 9 = .ok (.iload_n 3, 1) := by decide +kernel
theorem d_C_Reader_addTo_III_10 : decode prog_6_method_32_code 10 = .ok (.dup2, 1) := by decide +kernel
theorem d_C_Reader_addTo_III_11 : decode prog_6_method_32_code 11 = .ok (.iaload, 1) := by decide +kernel
theorem d_C_Reader_addTo_III_12 : decode prog_6_method_32_code 12 = .ok (.iload_n 2, 1) := by decide +kernel
theorem d_C_Reader_addTo_III_13 : decode prog_6_method_32_code 13 = .ok (.aload_n 1, 1) := by decide +kernel
theorem d_C_Reader_addTo_III_14 : decode prog_6_method_32_code 14 = .ok (.iload_n 3, 1) := by decide +kernel
theorem d_C_Reader_addTo_III_15 : decode prog_6_method_32_code 15 = .ok (.iaload, 1) := by decide +kernel
theorem d_C_Reader_addTo_III_16 : decode prog_6_method_32_code 16 = .ok (.imul, 1) := by decide +kernel
theorem d_C_Reader_addTo_III_17 : decode prog_6_method_32_code 17 = .ok (.iadd, 1) := by decide +kernel
theorem d_C_Reader_addTo_III_18 : decode prog_6_method_32_code 18 = .ok (.iastore, 1) := by decide +kernel
theorem d_C_Reader_addTo_III_19 : decode prog_6_method_32_code 19 = .ok (.iinc 3 1, 3) := by decide +kernel
theorem d_C_Reader_addTo_III_22 : decode prog_6_method_32_code 22 = .ok (.goto (-20), 3) := by decide +kernel
theorem d_C_Reader_addTo_III_25 : decode prog_6_method_32_code 25 = .ok (.return_, 1) := by decide +kernel
theorem d_C_Reader_sumRule_I_60 : decode prog_6_method_25_code 60 = .ok (.invokestatic 194, 3) := by decide +kernel
theorem d_C_Reader_sumRule_I_63 : decode prog_6_method_25_code 63 = .ok (.iconst 0, 1) := by decide +kernel
theorem d_C_Reader_sumRule_I_64 : decode prog_6_method_25_code 64 = .ok (.istore 5, 2) := by decide +kernel
theorem d_C_Reader_sumRule_I_66 : decode prog_6_method_25_code 66 = .ok (.iload 5, 2) := by decide +kernel
theorem d_C_Reader_sumRule_I_68 : decode prog_6_method_25_code 68 = .ok (.bipush 120, 2) := by decide +kernel
theorem d_C_Reader_sumRule_I_70 : decode prog_6_method_25_code 70 = .ok (.if_icmp .ge 59, 3) := by decide +kernel
theorem d_C_Reader_sumRule_I_73 : decode prog_6_method_25_code 73 = .ok (.aload_n 0, 1) := by decide +kernel
theorem d_C_Reader_sumRule_I_74 : decode prog_6_method_25_code 74 = .ok (.getfield 47, 3) := by decide +kernel
theorem d_C_Reader_sumRule_I_77 : decode prog_6_method_25_code 77 = .ok (.bipush 11, 2) := by decide +kernel
theorem d_C_Reader_sumRule_I_79 : decode prog_6_method_25_code 79 = .ok (.if_icmp .eq 12, 3) := by decide +kernel
theorem d_C_Reader_sumRule_I_82 : decode prog_6_method_25_code 82 = .ok (.aload_n 0, 1) := by decide +kernel
theorem d_C_Reader_sumRule_I_83 : decode prog_6_method_25_code 83 = .ok (.getfield 47, 3) := by decide +kernel
theorem d_C_Reader_sumRule_I_86 : decode prog_6_method_25_code 86 = .ok (.bipush 12, 2) := by decide +kernel
theorem d_C_Reader_sumRule_I_88 : decode prog_6_method_25_code 88 = .ok (.if_icmp .ne 41, 3) := by decide +kernel
theorem d_C_Reader_sumRule_I_129 : decode prog_6_method_25_code 129 = .ok (.aload_n 0, 1) := by decide +kernel
theorem d_C_Reader_sumRule_I_130 : decode prog_6_method_25_code 130 = .ok (.aload_n 2, 1) := by decide +kernel
theorem d_C_Reader_sumRule_I_131 : decode prog_6_method_25_code 131 = .ok (.ldc 206, 2) := by decide +kernel
theorem d_C_Reader_limit_II_0 : decode prog_6_method_33_code 0 = .ok (.iconst 0, 1) := by decide +kernel
theorem d_C_Reader_limit_II_1 : decode prog_6_method_33_code 1 = .ok (.istore_n 3, 1) := by decide +kernel
theorem d_C_Reader_limit_II_2 : decode prog_6_method_33_code 2 = .ok (.iload_n 3, 1) := by decide +kernel
theorem d_C_Reader_limit_II_3 : decode prog_6_method_33_code 3 = .ok (.bipush 16, 2) := by decide +kernel
theorem d_C_Reader_limit_II_5 : decode prog_6_method_33_code 5 = .ok (.if_icmp .ge 29, 3) := by decide +kernel
theorem d_C_Reader_limit_II_8 : decode prog_6_method_33_code 8 = .ok (.aload_n 1, 1) := by decide +kernel
theorem d_C_Reader_limit_II_9 : decode prog_6_method_33_code 9 = .ok (.iload_n 3, 1) := by decide +kernel
theorem d_C_Reader_limit_II_10 : decode prog_6_method_33_code 10 = .ok (.iaload, 1) := by decide +kernel
theorem d_C_Reader_limit_II_11 : decode prog_6_method_33_code 11 = .ok (.iload_n 2, 1) := by decide +kernel
theorem d_C_Reader_limit_II_12 : decode prog_6_method_33_code 12 = .ok (.if_icmp .gt 11, 3) := by decide +kernel
theorem d_C_Reader_limit_II_15 : decode prog_6_method_33_code 15 = .ok (.aload_n 1, 1) := by decide +kernel
theorem d_C_Reader_limit_II_16 : decode prog_6_method_33_code 16 = .ok (.iload_n 3, 1) := by decide +kernel
theorem d_C_Reader_limit_II_17 : decode prog_6_method_33_code 17 = .ok (.iaload, 1) := by decide +kernel
theorem d_C_Reader_limit_II_18 : decode prog_6_method_33_code 18 = .ok (.iload_n 2, 1) := by decide +kernel
theorem d_C_Reader_limit_II_19 : decode prog_6_method_33_code 19 = .ok (.ineg, 1) := by decide +kernel
theorem d_C_Reader_limit_II_20 : decode prog_6_method_33_code 20 = .ok (.if_icmp .ge 8, 3) := by decide +kernel
theorem d_C_Reader_limit_II_28 : decode prog_6_method_33_code 28 = .ok (.iinc 3 1, 3) := by decide +kernel
theorem d_C_Reader_limit_II_31 : decode prog_6_method_33_code 31 = .ok (.goto (-29), 3) := by decide +kernel
theorem d_C_Reader_limit_II_34 : decode prog_6_method_33_code 34 = .ok (.aload_n 0, 1) := by decide +kernel
theorem d_C_Reader_limit_II_35 : decode prog_6_method_33_code 35 = .ok (.getfield 86, 3) := by decide +kernel
theorem d_C_Reader_limit_II_38 : decode prog_6_method_33_code 38 = .ok (.ifCond .eq 8, 3) := by decide +kernel
theorem d_C_Reader_limit_II_46 : decode prog_6_method_33_code 46 = .ok (.return_, 1) := by decide +kernel
theorem d_C_Reader_sumRule_I_133 : decode prog_6_method_25_code 133 = .ok (.invokevirtual 78, 3) := by decide +kernel
theorem d_C_Reader_sumRule_I_136 : decode prog_6_method_25_code 136 = .ok (.return_, 1) := by decide +kernel
theorem d_C_Reader_comparisonRule_7 : decode prog_6_method_23_code 7 = .ok (.invokevirtual 75, 3) := by decide +kernel
theorem d_C_Reader_comparisonRule_10 : decode prog_6_method_23_code 10 = .ok (.aload_n 0, 1) := by decide +kernel
theorem d_C_Reader_comparisonRule_11 : decode prog_6_method_23_code 11 = .ok (.getfield 47, 3) := by decide +kernel
theorem d_C_Reader_relationOf_I_0 : decode prog_6_method_24_code 0 = .ok (.iload_n 0, 1) := by decide +kernel
theorem d_C_Reader_relationOf_I_1 : decode prog_6_method_24_code 1 = .ok (.tableswitch 52 15 20 #[41, 39, 45, 43, 49, 47], 39) := by decide +kernel
theorem d_C_Reader_relationOf_I_53 : decode prog_6_method_24_code 53 = .ok (.iconst 0, 1) := by decide +kernel
theorem d_C_Reader_relationOf_I_54 : decode prog_6_method_24_code 54 = .ok (.ireturn, 1) := by decide +kernel
theorem d_C_Reader_comparisonRule_14 : decode prog_6_method_23_code 14 = .ok (.invokestatic 180, 3) := by decide +kernel
theorem d_C_Reader_comparisonRule_17 : decode prog_6_method_23_code 17 = .ok (.istore_n 1, 1) := by decide +kernel
theorem d_C_Reader_comparisonRule_18 : decode prog_6_method_23_code 18 = .ok (.iload_n 1, 1) := by decide +kernel
theorem d_C_Reader_comparisonRule_19 : decode prog_6_method_23_code 19 = .ok (.ifCond .ne 8, 3) := by decide +kernel
theorem d_C_Reader_comparisonRule_22 : decode prog_6_method_23_code 22 = .ok (.aload_n 0, 1) := by decide +kernel
theorem d_C_Reader_comparisonRule_23 : decode prog_6_method_23_code 23 = .ok (.invokevirtual 51, 3) := by decide +kernel
theorem d_C_Reader_comparisonRule_26 : decode prog_6_method_23_code 26 = .ok (.return_, 1) := by decide +kernel
theorem d_C_Reader_oneRule_120 : decode prog_6_method_22_code 120 = .ok (.invokevirtual 177, 3) := by decide +kernel
theorem d_C_Reader_oneRule_123 : decode prog_6_method_22_code 123 = .ok (.return_, 1) := by decide +kernel
theorem d_C_Reader_bothRule_1 : decode prog_6_method_21_code 1 = .ok (.invokevirtual 171, 3) := by decide +kernel
theorem d_C_Reader_bothRule_4 : decode prog_6_method_21_code 4 = .ok (.iconst 0, 1) := by decide +kernel
theorem d_C_Reader_bothRule_5 : decode prog_6_method_21_code 5 = .ok (.istore_n 1, 1) := by decide +kernel
theorem d_C_Reader_bothRule_6 : decode prog_6_method_21_code 6 = .ok (.iload_n 1, 1) := by decide +kernel
theorem d_C_Reader_bothRule_7 : decode prog_6_method_21_code 7 = .ok (.bipush 120, 2) := by decide +kernel
theorem d_C_Reader_bothRule_9 : decode prog_6_method_21_code 9 = .ok (.if_icmp .ge 35, 3) := by decide +kernel
theorem d_C_Reader_bothRule_12 : decode prog_6_method_21_code 12 = .ok (.aload_n 0, 1) := by decide +kernel
theorem d_C_Reader_bothRule_13 : decode prog_6_method_21_code 13 = .ok (.getfield 47, 3) := by decide +kernel
theorem d_C_Reader_bothRule_16 : decode prog_6_method_21_code 16 = .ok (.bipush 26, 2) := by decide +kernel
theorem d_C_Reader_bothRule_18 : decode prog_6_method_21_code 18 = .ok (.if_icmp .ne 26, 3) := by decide +kernel
theorem d_C_Reader_bothRule_44 : decode prog_6_method_21_code 44 = .ok (.return_, 1) := by decide +kernel
theorem d_C_Reader_sideRule_1 : decode prog_6_method_20_code 1 = .ok (.invokevirtual 168, 3) := by decide +kernel
theorem d_C_Reader_sideRule_4 : decode prog_6_method_20_code 4 = .ok (.iconst 0, 1) := by decide +kernel
theorem d_C_Reader_sideRule_5 : decode prog_6_method_20_code 5 = .ok (.istore_n 1, 1) := by decide +kernel
theorem d_C_Reader_sideRule_6 : decode prog_6_method_20_code 6 = .ok (.iload_n 1, 1) := by decide +kernel
theorem d_C_Reader_sideRule_7 : decode prog_6_method_20_code 7 = .ok (.bipush 120, 2) := by decide +kernel
theorem d_C_Reader_sideRule_9 : decode prog_6_method_20_code 9 = .ok (.if_icmp .ge 35, 3) := by decide +kernel
theorem d_C_Reader_sideRule_12 : decode prog_6_method_20_code 12 = .ok (.aload_n 0, 1) := by decide +kernel
theorem d_C_Reader_sideRule_13 : decode prog_6_method_20_code 13 = .ok (.getfield 47, 3) := by decide +kernel
theorem d_C_Reader_sideRule_16 : decode prog_6_method_20_code 16 = .ok (.bipush 27, 2) := by decide +kernel
theorem d_C_Reader_sideRule_18 : decode prog_6_method_20_code 18 = .ok (.if_icmp .ne 26, 3) := by decide +kernel
theorem d_C_Reader_sideRule_44 : decode prog_6_method_20_code 44 = .ok (.return_, 1) := by decide +kernel
theorem d_C_Reader_statementRule_24 : decode prog_6_method_18_code 24 = .ok (.invokevirtual 152, 3) := by decide +kernel
theorem d_C_Reader_statementRule_27 : decode prog_6_method_18_code 27 = .ok (.aload_n 0, 1) := by decide +kernel
theorem d_C_Reader_statementRule_28 : decode prog_6_method_18_code 28 = .ok (.getfield 47, 3) := by decide +kernel
theorem d_C_Reader_statementRule_31 : decode prog_6_method_18_code 31 = .ok (.bipush 21, 2) := by decide +kernel
theorem d_C_Reader_statementRule_33 : decode prog_6_method_18_code 33 = .ok (.if_icmp .eq 12, 3) := by decide +kernel
theorem d_C_Reader_statementRule_36 : decode prog_6_method_18_code 36 = .ok (.aload_n 0, 1) := by decide +kernel
theorem d_C_Reader_statementRule_37 : decode prog_6_method_18_code 37 = .ok (.getfield 47, 3) := by decide +kernel
theorem d_C_Reader_statementRule_40 : decode prog_6_method_18_code 40 = .ok (.bipush 22, 2) := by decide +kernel
theorem d_C_Reader_statementRule_42 : decode prog_6_method_18_code 42 = .ok (.if_icmp .ne 37, 3) := by decide +kernel
theorem d_C_Reader_statementRule_79 : decode prog_6_method_18_code 79 = .ok (.return_, 1) := by decide +kernel
theorem d_C_Reader_takeStatement_I_13 : decode prog_6_method_2_code 13 = .ok (.invokevirtual 44, 3) := by decide +kernel
theorem d_C_Reader_takeStatement_I_16 : decode prog_6_method_2_code 16 = .ok (.aload_n 0, 1) := by decide +kernel
theorem d_C_Reader_takeStatement_I_17 : decode prog_6_method_2_code 17 = .ok (.getfield 47, 3) := by decide +kernel
theorem d_C_Reader_takeStatement_I_20 : decode prog_6_method_2_code 20 = .ok (.iconst 1, 1) := by decide +kernel
theorem d_C_Reader_takeStatement_I_21 : decode prog_6_method_2_code 21 = .ok (.if_icmp .eq 7, 3) := by decide +kernel
theorem d_C_Reader_takeStatement_I_24 : decode prog_6_method_2_code 24 = .ok (.aload_n 0, 1) := by decide +kernel
theorem d_C_Reader_takeStatement_I_25 : decode prog_6_method_2_code 25 = .ok (.invokevirtual 51, 3) := by decide +kernel
theorem d_C_Reader_takeStatement_I_28 : decode prog_6_method_2_code 28 = .ok (.aload_n 0, 1) := by decide +kernel
theorem d_C_Reader_takeStatement_I_29 : decode prog_6_method_2_code 29 = .ok (.getfield 31, 3) := by decide +kernel
theorem d_C_Reader_takeStatement_I_32 : decode prog_6_method_2_code 32 = .ok (.aload_n 0, 1) := by decide +kernel
theorem d_C_Reader_takeStatement_I_33 : decode prog_6_method_2_code 33 = .ok (.getfield 54, 3) := by decide +kernel
theorem d_C_Reader_takeStatement_I_36 : decode prog_6_method_2_code 36 = .ok (.putfield 57, 3) := by decide +kernel
theorem d_C_Reader_takeStatement_I_39 : decode prog_6_method_2_code 39 = .ok (.aload_n 0, 1) := by decide +kernel
theorem d_C_Reader_takeStatement_I_40 : decode prog_6_method_2_code 40 = .ok (.getfield 58, 3) := by decide +kernel
theorem d_C_Reader_takeStatement_I_43 : decode prog_6_method_2_code 43 = .ok (.ifCond .ne 7, 3) := by decide +kernel
theorem d_C_Reader_takeStatement_I_50 : decode prog_6_method_2_code 50 = .ok (.aload_n 0, 1) := by decide +kernel
theorem d_C_Reader_takeStatement_I_51 : decode prog_6_method_2_code 51 = .ok (.getfield 58, 3) := by decide +kernel
theorem d_C_Reader_takeStatement_I_54 : decode prog_6_method_2_code 54 = .ok (.ifCond .ne 21, 3) := by decide +kernel
theorem d_C_Reader_takeStatement_I_75 : decode prog_6_method_2_code 75 = .ok (.aload_n 0, 1) := by decide +kernel
theorem d_C_Reader_takeStatement_I_76 : decode prog_6_method_2_code 76 = .ok (.getfield 31, 3) := by decide +kernel
theorem d_C_Reader_takeStatement_I_79 : decode prog_6_method_2_code 79 = .ok (.aload_n 0, 1) := by decide +kernel
theorem d_C_Reader_takeStatement_I_80 : decode prog_6_method_2_code 80 = .ok (.getfield 58, 3) := by decide +kernel
theorem d_C_Reader_takeStatement_I_83 : decode prog_6_method_2_code 83 = .ok (.ifCond .ne 7, 3) := by decide +kernel
theorem d_C_Reader_takeStatement_I_90 : decode prog_6_method_2_code 90 = .ok (.iconst 0, 1) := by decide +kernel
theorem d_C_Reader_takeStatement_I_91 : decode prog_6_method_2_code 91 = .ok (.putfield 71, 3) := by decide +kernel
theorem d_C_Reader_takeStatement_I_94 : decode prog_6_method_2_code 94 = .ok (.return_, 1) := by decide +kernel
theorem d_CD_read_8 : decode prog_1_method_5_code 8 = .ok (.invokevirtual 129, 3) := by decide +kernel
theorem d_CD_read_11 : decode prog_1_method_5_code 11 = .ok (.aload_n 0, 1) := by decide +kernel
theorem d_CD_read_12 : decode prog_1_method_5_code 12 = .ok (.iconst 0, 1) := by decide +kernel
theorem d_CD_read_13 : decode prog_1_method_5_code 13 = .ok (.putfield 111, 3) := by decide +kernel
theorem d_CD_read_16 : decode prog_1_method_5_code 16 = .ok (.aload_n 0, 1) := by decide +kernel
theorem d_CD_read_17 : decode prog_1_method_5_code 17 = .ok (.aload_n 0, 1) := by decide +kernel
theorem d_CD_read_18 : decode prog_1_method_5_code 18 = .ok (.getfield 25, 3) := by decide +kernel
theorem d_CD_read_21 : decode prog_1_method_5_code 21 = .ok (.getfield 132, 3) := by decide +kernel
theorem d_CD_read_24 : decode prog_1_method_5_code 24 = .ok (.putfield 135, 3) := by decide +kernel
theorem d_CD_read_27 : decode prog_1_method_5_code 27 = .ok (.aload_n 0, 1) := by decide +kernel
theorem d_CD_read_28 : decode prog_1_method_5_code 28 = .ok (.getfield 135, 3) := by decide +kernel
theorem d_CD_read_31 : decode prog_1_method_5_code 31 = .ok (.ifCond .ne 13, 3) := by decide +kernel
theorem d_CD_read_44 : decode prog_1_method_5_code 44 = .ok (.sipush (-1000), 3) := by decide +kernel
theorem d_CD_read_47 : decode prog_1_method_5_code 47 = .ok (.aload_n 0, 1) := by decide +kernel
theorem d_CD_read_48 : decode prog_1_method_5_code 48 = .ok (.getfield 25, 3) := by decide +kernel
theorem d_CD_read_51 : decode prog_1_method_5_code 51 = .ok (.getfield 141, 3) := by decide +kernel
theorem d_CD_read_54 : decode prog_1_method_5_code 54 = .ok (.isub, 1) := by decide +kernel
theorem d_CD_read_55 : decode prog_1_method_5_code 55 = .ok (.ireturn, 1) := by decide +kernel
theorem d_CD_meet_0 : decode prog_1_method_15_code 0 = .ok (.aload_n 0, 1) := by decide +kernel
theorem d_CD_meet_1 : decode prog_1_method_15_code 1 = .ok (.getfield 25, 3) := by decide +kernel
theorem d_CD_meet_4 : decode prog_1_method_15_code 4 = .ok (.aload_n 0, 1) := by decide +kernel
theorem d_CD_meet_5 : decode prog_1_method_15_code 5 = .ok (.getfield 111, 3) := by decide +kernel
theorem d_C_Reader_takeCurves_I_0 : decode prog_6_method_3_code 0 = .ok (.aload_n 0, 1) := by decide +kernel
theorem d_C_Reader_takeCurves_I_1 : decode prog_6_method_3_code 1 = .ok (.iload_n 1, 1) := by decide +kernel
theorem d_C_Reader_takeCurves_I_2 : decode prog_6_method_3_code 2 = .ok (.invokevirtual 35, 3) := by decide +kernel
theorem d_C_Reader_takeCurves_I_5 : decode prog_6_method_3_code 5 = .ok (.aload_n 0, 1) := by decide +kernel
theorem d_C_Reader_takeCurves_I_6 : decode prog_6_method_3_code 6 = .ok (.iconst 0, 1) := by decide +kernel
theorem d_C_Reader_takeCurves_I_7 : decode prog_6_method_3_code 7 = .ok (.invokevirtual 75, 3) := by decide +kernel
theorem d_C_Reader_takeCurves_I_10 : decode prog_6_method_3_code 10 = .ok (.aload_n 0, 1) := by decide +kernel
theorem d_C_Reader_takeCurves_I_11 : decode prog_6_method_3_code 11 = .ok (.aload_n 0, 1) := by decide +kernel
theorem d_C_Reader_takeCurves_I_12 : decode prog_6_method_3_code 12 = .ok (.getfield 17, 3) := by decide +kernel
theorem d_C_Reader_takeCurves_I_15 : decode prog_6_method_3_code 15 = .ok (.iconst 0, 1) := by decide +kernel
theorem d_C_Reader_takeCurves_I_16 : decode prog_6_method_3_code 16 = .ok (.aaload, 1) := by decide +kernel
theorem d_C_Reader_takeCurves_I_17 : decode prog_6_method_3_code 17 = .ok (.sipush 999, 3) := by decide +kernel
theorem d_C_Reader_takeCurves_I_20 : decode prog_6_method_3_code 20 = .ok (.invokevirtual 78, 3) := by decide +kernel
theorem d_C_Reader_takeCurves_I_23 : decode prog_6_method_3_code 23 = .ok (.aload_n 0, 1) := by decide +kernel
theorem d_C_Reader_takeCurves_I_24 : decode prog_6_method_3_code 24 = .ok (.getfield 17, 3) := by decide +kernel
theorem d_C_Reader_takeCurves_I_27 : decode prog_6_method_3_code 27 = .ok (.iconst 0, 1) := by decide +kernel
theorem d_C_Reader_takeCurves_I_28 : decode prog_6_method_3_code 28 = .ok (.aaload, 1) := by decide +kernel
theorem d_C_Reader_takeCurves_I_29 : decode prog_6_method_3_code 29 = .ok (.aload_n 0, 1) := by decide +kernel
theorem d_C_Reader_takeCurves_I_30 : decode prog_6_method_3_code 30 = .ok (.getfield 24, 3) := by decide +kernel
theorem d_C_Reader_takeCurves_I_33 : decode prog_6_method_3_code 33 = .ok (.iconst 0, 1) := by decide +kernel
theorem d_C_Reader_takeCurves_I_34 : decode prog_6_method_3_code 34 = .ok (.aaload, 1) := by decide +kernel
theorem d_C_Reader_takeCurves_I_35 : decode prog_6_method_3_code 35 = .ok (.invokestatic 82, 3) := by decide +kernel
theorem d_C_Reader_takeCurves_I_38 : decode prog_6_method_3_code 38 = .ok (.aload_n 0, 1) := by decide +kernel
theorem d_C_Reader_takeCurves_I_39 : decode prog_6_method_3_code 39 = .ok (.getfield 47, 3) := by decide +kernel
theorem d_C_Reader_takeCurves_I_42 : decode prog_6_method_3_code 42 = .ok (.bipush 10, 2) := by decide +kernel
theorem d_C_Reader_takeCurves_I_44 : decode prog_6_method_3_code 44 = .ok (.if_icmp .eq 7, 3) := by decide +kernel
theorem d_C_Reader_takeCurves_I_47 : decode prog_6_method_3_code 47 = .ok (.aload_n 0, 1) := by decide +kernel
theorem d_C_Reader_takeCurves_I_48 : decode prog_6_method_3_code 48 = .ok (.invokevirtual 51, 3) := by decide +kernel
theorem d_C_Reader_takeCurves_I_51 : decode prog_6_method_3_code 51 = .ok (.aload_n 0, 1) := by decide +kernel
theorem d_C_Reader_takeCurves_I_52 : decode prog_6_method_3_code 52 = .ok (.getfield 86, 3) := by decide +kernel
theorem d_C_Reader_takeCurves_I_55 : decode prog_6_method_3_code 55 = .ok (.ifCond .eq 11, 3) := by decide +kernel
theorem d_C_Reader_takeCurves_I_66 : decode prog_6_method_3_code 66 = .ok (.aload_n 0, 1) := by decide +kernel
theorem d_C_Reader_accept_0 : decode prog_6_method_8_code 0 = .ok (.aload_n 0, 1) := by decide +kernel
theorem d_C_Reader_accept_1 : decode prog_6_method_8_code 1 = .ok (.getfield 47, 3) := by decide +kernel
theorem d_C_Reader_accept_4 : decode prog_6_method_8_code 4 = .ok (.ifCond .ne 4, 3) := by decide +kernel
theorem d_C_Reader_accept_7 : decode prog_6_method_8_code 7 = .ok (.return_, 1) := by decide +kernel
theorem d_C_Reader_takeCurves_I_67 : decode prog_6_method_3_code 67 = .ok (.invokevirtual 92, 3) := by decide +kernel
theorem d_C_Reader_takeCurves_I_70 : decode prog_6_method_3_code 70 = .ok (.aload_n 0, 1) := by decide +kernel
theorem d_C_Reader_takeCurves_I_71 : decode prog_6_method_3_code 71 = .ok (.iconst 0, 1) := by decide +kernel
theorem d_C_Reader_takeCurves_I_72 : decode prog_6_method_3_code 72 = .ok (.putfield 86, 3) := by decide +kernel
theorem d_C_Reader_takeCurves_I_75 : decode prog_6_method_3_code 75 = .ok (.aload_n 0, 1) := by decide +kernel
theorem d_C_Reader_takeCurves_I_76 : decode prog_6_method_3_code 76 = .ok (.iconst 0, 1) := by decide +kernel
theorem d_C_Reader_takeCurves_I_77 : decode prog_6_method_3_code 77 = .ok (.invokevirtual 75, 3) := by decide +kernel
theorem d_C_Reader_takeCurves_I_80 : decode prog_6_method_3_code 80 = .ok (.aload_n 0, 1) := by decide +kernel
theorem d_C_Reader_takeCurves_I_81 : decode prog_6_method_3_code 81 = .ok (.aload_n 0, 1) := by decide +kernel
theorem d_C_Reader_takeCurves_I_82 : decode prog_6_method_3_code 82 = .ok (.getfield 17, 3) := by decide +kernel
theorem d_C_Reader_takeCurves_I_85 : decode prog_6_method_3_code 85 = .ok (.iconst 0, 1) := by decide +kernel
theorem d_C_Reader_takeCurves_I_86 : decode prog_6_method_3_code 86 = .ok (.aaload, 1) := by decide +kernel
theorem d_C_Reader_takeCurves_I_87 : decode prog_6_method_3_code 87 = .ok (.sipush 999, 3) := by decide +kernel
theorem d_C_Reader_takeCurves_I_90 : decode prog_6_method_3_code 90 = .ok (.invokevirtual 78, 3) := by decide +kernel
theorem d_C_Reader_takeCurves_I_93 : decode prog_6_method_3_code 93 = .ok (.aload_n 0, 1) := by decide +kernel
theorem d_C_Reader_takeCurves_I_94 : decode prog_6_method_3_code 94 = .ok (.getfield 17, 3) := by decide +kernel
theorem d_C_Reader_takeCurves_I_97 : decode prog_6_method_3_code 97 = .ok (.iconst 0, 1) := by decide +kernel
theorem d_C_Reader_takeCurves_I_98 : decode prog_6_method_3_code 98 = .ok (.aaload, 1) := by decide +kernel
theorem d_C_Reader_takeCurves_I_99 : decode prog_6_method_3_code 99 = .ok (.aload_n 0, 1) := by decide +kernel
theorem d_C_Reader_takeCurves_I_100 : decode prog_6_method_3_code 100 = .ok (.getfield 24, 3) := by decide +kernel
theorem d_C_Reader_takeCurves_I_103 : decode prog_6_method_3_code 103 = .ok (.iconst 1, 1) := by decide +kernel
theorem d_C_Reader_takeCurves_I_104 : decode prog_6_method_3_code 104 = .ok (.aaload, 1) := by decide +kernel
theorem d_C_Reader_takeCurves_I_105 : decode prog_6_method_3_code 105 = .ok (.invokestatic 82, 3) := by decide +kernel
theorem d_C_Reader_takeCurves_I_108 : decode prog_6_method_3_code 108 = .ok (.aload_n 0, 1) := by decide +kernel
theorem d_C_Reader_takeCurves_I_109 : decode prog_6_method_3_code 109 = .ok (.getfield 47, 3) := by decide +kernel
theorem d_C_Reader_takeCurves_I_112 : decode prog_6_method_3_code 112 = .ok (.iconst 1, 1) := by decide +kernel
theorem d_C_Reader_takeCurves_I_113 : decode prog_6_method_3_code 113 = .ok (.if_icmp .eq 7, 3) := by decide +kernel
theorem d_C_Reader_takeCurves_I_116 : decode prog_6_method_3_code 116 = .ok (.aload_n 0, 1) := by decide +kernel
theorem d_C_Reader_takeCurves_I_117 : decode prog_6_method_3_code 117 = .ok (.invokevirtual 51, 3) := by decide +kernel
theorem d_C_Reader_takeCurves_I_120 : decode prog_6_method_3_code 120 = .ok (.aload_n 0, 1) := by decide +kernel
theorem d_C_Reader_takeCurves_I_121 : decode prog_6_method_3_code 121 = .ok (.getfield 86, 3) := by decide +kernel
theorem d_C_Reader_takeCurves_I_124 : decode prog_6_method_3_code 124 = .ok (.ifCond .eq 19, 3) := by decide +kernel
theorem d_C_Reader_takeCurves_I_143 : decode prog_6_method_3_code 143 = .ok (.aload_n 0, 1) := by decide +kernel
theorem d_C_Reader_takeCurves_I_144 : decode prog_6_method_3_code 144 = .ok (.getfield 58, 3) := by decide +kernel
theorem d_C_Reader_takeCurves_I_147 : decode prog_6_method_3_code 147 = .ok (.ifCond .ne 21, 3) := by decide +kernel
theorem d_C_Reader_takeCurves_I_168 : decode prog_6_method_3_code 168 = .ok (.return_, 1) := by decide +kernel
theorem d_CD_meet_8 : decode prog_1_method_15_code 8 = .ok (.invokevirtual 263, 3) := by decide +kernel
theorem d_CD_meet_11 : decode prog_1_method_15_code 11 = .ok (.aload_n 0, 1) := by decide +kernel
theorem d_CD_meet_12 : decode prog_1_method_15_code 12 = .ok (.iconst 0, 1) := by decide +kernel
theorem d_CD_meet_13 : decode prog_1_method_15_code 13 = .ok (.putfield 111, 3) := by decide +kernel
theorem d_CD_meet_16 : decode prog_1_method_15_code 16 = .ok (.aload_n 0, 1) := by decide +kernel
theorem d_CD_meet_17 : decode prog_1_method_15_code 17 = .ok (.aload_n 0, 1) := by decide +kernel
theorem d_CD_meet_18 : decode prog_1_method_15_code 18 = .ok (.getfield 25, 3) := by decide +kernel
theorem d_CD_meet_21 : decode prog_1_method_15_code 21 = .ok (.getfield 132, 3) := by decide +kernel
theorem d_CD_meet_24 : decode prog_1_method_15_code 24 = .ok (.putfield 135, 3) := by decide +kernel
theorem d_CD_meet_27 : decode prog_1_method_15_code 27 = .ok (.aload_n 0, 1) := by decide +kernel
theorem d_CD_meet_28 : decode prog_1_method_15_code 28 = .ok (.getfield 135, 3) := by decide +kernel
theorem d_CD_meet_31 : decode prog_1_method_15_code 31 = .ok (.ifCond .eq 15, 3) := by decide +kernel
theorem d_CD_meet_34 : decode prog_1_method_15_code 34 = .ok (.sipush (-1000), 3) := by decide +kernel
theorem d_CD_meet_37 : decode prog_1_method_15_code 37 = .ok (.aload_n 0, 1) := by decide +kernel
theorem d_CD_meet_38 : decode prog_1_method_15_code 38 = .ok (.getfield 25, 3) := by decide +kernel
theorem d_CD_meet_41 : decode prog_1_method_15_code 41 = .ok (.getfield 141, 3) := by decide +kernel
theorem d_CD_meet_44 : decode prog_1_method_15_code 44 = .ok (.isub, 1) := by decide +kernel
theorem d_CD_meet_45 : decode prog_1_method_15_code 45 = .ok (.ireturn, 1) := by decide +kernel
