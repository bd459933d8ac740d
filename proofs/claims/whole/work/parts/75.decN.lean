theorem d_F_init_0 : decode prog_2_method_1_code 0 = .ok (.aload_n 0, 1) := by decide +kernel
theorem d_F_init_1 : decode prog_2_method_1_code 1 = .ok (.invokespecial 5, 3) := by decide +kernel
theorem d_F_init_4 : decode prog_2_method_1_code 4 = .ok (.aload_n 0, 1) := by decide +kernel
theorem d_F_init_5 : decode prog_2_method_1_code 5 = .ok (.bipush 18, 2) := by decide +kernel
theorem d_F_init_7 : decode prog_2_method_1_code 7 = .ok (.newarray .int, 2) := by decide +kernel
theorem d_F_init_9 : decode prog_2_method_1_code 9 = .ok (.putfield 11, 3) := by decide +kernel
theorem d_F_init_12 : decode prog_2_method_1_code 12 = .ok (.return_, 1) := by decide +kernel
theorem d_F_empty_0 : decode prog_2_method_2_code 0 = .ok (.aload_n 0, 1) := by decide +kernel
theorem d_F_empty_1 : decode prog_2_method_2_code 1 = .ok (.iconst 0, 1) := by decide +kernel
theorem d_F_empty_2 : decode prog_2_method_2_code 2 = .ok (.putfield 15, 3) := by decide +kernel
theorem d_F_empty_5 : decode prog_2_method_2_code 5 = .ok (.return_, 1) := by decide +kernel
theorem d_F_planSpoiling_0 : decode prog_2_method_3_code 0 = .ok (.aload_n 0, 1) := by decide +kernel
theorem d_F_planSpoiling_1 : decode prog_2_method_3_code 1 = .ok (.iload_n 1, 1) := by decide +kernel
theorem d_F_planSpoiling_2 : decode prog_2_method_3_code 2 = .ok (.putfield 19, 3) := by decide +kernel
theorem d_F_planSpoiling_5 : decode prog_2_method_3_code 5 = .ok (.aload_n 0, 1) := by decide +kernel
theorem d_F_planSpoiling_6 : decode prog_2_method_3_code 6 = .ok (.iload_n 2, 1) := by decide +kernel
theorem d_F_planSpoiling_7 : decode prog_2_method_3_code 7 = .ok (.putfield 22, 3) := by decide +kernel
theorem d_F_planSpoiling_10 : decode prog_2_method_3_code 10 = .ok (.return_, 1) := by decide +kernel
theorem d_F_forgetSpoiling_0 : decode prog_2_method_4_code 0 = .ok (.aload_n 0, 1) := by decide +kernel
theorem d_F_forgetSpoiling_1 : decode prog_2_method_4_code 1 = .ok (.iconst 0, 1) := by decide +kernel
theorem d_F_forgetSpoiling_2 : decode prog_2_method_4_code 2 = .ok (.putfield 22, 3) := by decide +kernel
theorem d_F_forgetSpoiling_5 : decode prog_2_method_4_code 5 = .ok (.return_, 1) := by decide +kernel
theorem d_F_writeHeader_0 : decode prog_2_method_5_code 0 = .ok (.aload_n 0, 1) := by decide +kernel
theorem d_F_writeHeader_1 : decode prog_2_method_5_code 1 = .ok (.getfield 11, 3) := by decide +kernel
theorem d_F_writeHeader_4 : decode prog_2_method_5_code 4 = .ok (.iconst 0, 1) := by decide +kernel
theorem d_F_writeHeader_5 : decode prog_2_method_5_code 5 = .ok (.bipush 85, 2) := by decide +kernel
theorem d_F_writeHeader_7 : decode prog_2_method_5_code 7 = .ok (.iastore, 1) := by decide +kernel
theorem d_F_writeHeader_8 : decode prog_2_method_5_code 8 = .ok (.aload_n 0, 1) := by decide +kernel
theorem d_F_writeHeader_9 : decode prog_2_method_5_code 9 = .ok (.getfield 11, 3) := by decide +kernel
theorem d_F_writeHeader_12 : decode prog_2_method_5_code 12 = .ok (.iconst 1, 1) := by decide +kernel
theorem d_F_writeHeader_13 : decode prog_2_method_5_code 13 = .ok (.sipush 255, 3) := by decide +kernel
theorem d_F_writeHeader_16 : decode prog_2_method_5_code 16 = .ok (.iastore, 1) := by decide +kernel
theorem d_F_writeHeader_17 : decode prog_2_method_5_code 17 = .ok (.aload_n 0, 1) := by decide +kernel
theorem d_F_writeHeader_18 : decode prog_2_method_5_code 18 = .ok (.getfield 11, 3) := by decide +kernel
theorem d_F_writeHeader_21 : decode prog_2_method_5_code 21 = .ok (.iconst 2, 1) := by decide +kernel
theorem d_F_writeHeader_22 : decode prog_2_method_5_code 22 = .ok (.iload_n 1, 1) := by decide +kernel
theorem d_F_writeHeader_23 : decode prog_2_method_5_code 23 = .ok (.iastore, 1) := by decide +kernel
theorem d_F_writeHeader_24 : decode prog_2_method_5_code 24 = .ok (.aload_n 0, 1) := by decide +kernel
theorem d_F_writeHeader_25 : decode prog_2_method_5_code 25 = .ok (.getfield 11, 3) := by decide +kernel
theorem d_F_writeHeader_28 : decode prog_2_method_5_code 28 = .ok (.iconst 3, 1) := by decide +kernel
theorem d_F_writeHeader_29 : decode prog_2_method_5_code 29 = .ok (.iload_n 2, 1) := by decide +kernel
theorem d_F_writeHeader_30 : decode prog_2_method_5_code 30 = .ok (.iastore, 1) := by decide +kernel
theorem d_F_writeHeader_31 : decode prog_2_method_5_code 31 = .ok (.aload_n 0, 1) := by decide +kernel
theorem d_F_writeHeader_32 : decode prog_2_method_5_code 32 = .ok (.getfield 11, 3) := by decide +kernel
theorem d_F_writeHeader_35 : decode prog_2_method_5_code 35 = .ok (.iconst 4, 1) := by decide +kernel
theorem d_F_writeHeader_36 : decode prog_2_method_5_code 36 = .ok (.iload_n 3, 1) := by decide +kernel
theorem d_F_writeHeader_37 : decode prog_2_method_5_code 37 = .ok (.iastore, 1) := by decide +kernel
theorem d_F_writeHeader_38 : decode prog_2_method_5_code 38 = .ok (.aload_n 0, 1) := by decide +kernel
theorem d_F_writeHeader_39 : decode prog_2_method_5_code 39 = .ok (.getfield 11, 3) := by decide +kernel
theorem d_F_writeHeader_42 : decode prog_2_method_5_code 42 = .ok (.iconst 5, 1) := by decide +kernel
theorem d_F_writeHeader_43 : decode prog_2_method_5_code 43 = .ok (.iconst 0, 1) := by decide +kernel
theorem d_F_writeHeader_44 : decode prog_2_method_5_code 44 = .ok (.iastore, 1) := by decide +kernel
theorem d_F_writeHeader_45 : decode prog_2_method_5_code 45 = .ok (.aload_n 0, 1) := by decide +kernel
theorem d_F_writeHeader_46 : decode prog_2_method_5_code 46 = .ok (.getfield 11, 3) := by decide +kernel
theorem d_F_writeHeader_49 : decode prog_2_method_5_code 49 = .ok (.bipush 6, 2) := by decide +kernel
theorem d_F_writeHeader_51 : decode prog_2_method_5_code 51 = .ok (.iload 4, 2) := by decide +kernel
theorem d_F_writeHeader_53 : decode prog_2_method_5_code 53 = .ok (.iastore, 1) := by decide +kernel
theorem d_F_writeHeader_54 : decode prog_2_method_5_code 54 = .ok (.aload_n 0, 1) := by decide +kernel
theorem d_F_writeHeader_55 : decode prog_2_method_5_code 55 = .ok (.getfield 11, 3) := by decide +kernel
theorem d_F_writeHeader_58 : decode prog_2_method_5_code 58 = .ok (.bipush 7, 2) := by decide +kernel
theorem d_F_writeHeader_60 : decode prog_2_method_5_code 60 = .ok (.aload_n 0, 1) := by decide +kernel
theorem d_F_writeHeader_61 : decode prog_2_method_5_code 61 = .ok (.invokevirtual 25, 3) := by decide +kernel
theorem d_F_writeHeader_64 : decode prog_2_method_5_code 64 = .ok (.iastore, 1) := by decide +kernel
theorem d_F_writeHeader_65 : decode prog_2_method_5_code 65 = .ok (.aload_n 0, 1) := by decide +kernel
theorem d_F_writeHeader_66 : decode prog_2_method_5_code 66 = .ok (.bipush 8, 2) := by decide +kernel
theorem d_F_writeHeader_68 : decode prog_2_method_5_code 68 = .ok (.putfield 15, 3) := by decide +kernel
theorem d_F_writeHeader_71 : decode prog_2_method_5_code 71 = .ok (.return_, 1) := by decide +kernel
theorem d_F_writeData_0 : decode prog_2_method_6_code 0 = .ok (.aload_n 0, 1) := by decide +kernel
theorem d_F_writeData_1 : decode prog_2_method_6_code 1 = .ok (.getfield 11, 3) := by decide +kernel
theorem d_F_writeData_4 : decode prog_2_method_6_code 4 = .ok (.bipush 8, 2) := by decide +kernel
theorem d_F_writeData_6 : decode prog_2_method_6_code 6 = .ok (.iload_n 1, 1) := by decide +kernel
theorem d_F_writeData_7 : decode prog_2_method_6_code 7 = .ok (.iastore, 1) := by decide +kernel
theorem d_F_writeData_8 : decode prog_2_method_6_code 8 = .ok (.aload_n 0, 1) := by decide +kernel
theorem d_F_writeData_9 : decode prog_2_method_6_code 9 = .ok (.getfield 11, 3) := by decide +kernel
theorem d_F_writeData_12 : decode prog_2_method_6_code 12 = .ok (.bipush 9, 2) := by decide +kernel
theorem d_F_writeData_14 : decode prog_2_method_6_code 14 = .ok (.iload_n 2, 1) := by decide +kernel
theorem d_F_writeData_15 : decode prog_2_method_6_code 15 = .ok (.iastore, 1) := by decide +kernel
theorem d_F_writeData_16 : decode prog_2_method_6_code 16 = .ok (.aload_n 0, 1) := by decide +kernel
theorem d_F_writeData_17 : decode prog_2_method_6_code 17 = .ok (.getfield 11, 3) := by decide +kernel
theorem d_F_writeData_20 : decode prog_2_method_6_code 20 = .ok (.bipush 10, 2) := by decide +kernel
theorem d_F_writeData_22 : decode prog_2_method_6_code 22 = .ok (.iload_n 3, 1) := by decide +kernel
theorem d_F_writeData_23 : decode prog_2_method_6_code 23 = .ok (.iastore, 1) := by decide +kernel
theorem d_F_writeData_24 : decode prog_2_method_6_code 24 = .ok (.aload_n 0, 1) := by decide +kernel
theorem d_F_writeData_25 : decode prog_2_method_6_code 25 = .ok (.getfield 11, 3) := by decide +kernel
theorem d_F_writeData_28 : decode prog_2_method_6_code 28 = .ok (.bipush 11, 2) := by decide +kernel
theorem d_F_writeData_30 : decode prog_2_method_6_code 30 = .ok (.iload 4, 2) := by decide +kernel
theorem d_F_writeData_32 : decode prog_2_method_6_code 32 = .ok (.iastore, 1) := by decide +kernel
theorem d_F_writeData_33 : decode prog_2_method_6_code 33 = .ok (.aload_n 0, 1) := by decide +kernel
theorem d_F_writeData_34 : decode prog_2_method_6_code 34 = .ok (.getfield 11, 3) := by decide +kernel
theorem d_F_writeData_37 : decode prog_2_method_6_code 37 = .ok (.bipush 12, 2) := by decide +kernel
theorem d_F_writeData_39 : decode prog_2_method_6_code 39 = .ok (.iload 5, 2) := by decide +kernel
theorem d_F_writeData_41 : decode prog_2_method_6_code 41 = .ok (.bipush 24, 2) := by decide +kernel
theorem d_F_writeData_43 : decode prog_2_method_6_code 43 = .ok (.ishr, 1) := by decide +kernel
theorem d_F_writeData_44 : decode prog_2_method_6_code 44 = .ok (.sipush 255, 3) := by decide +kernel
theorem d_F_writeData_47 : decode prog_2_method_6_code 47 = .ok (.iand, 1) := by decide +kernel
theorem d_F_writeData_48 : decode prog_2_method_6_code 48 = .ok (.iastore, 1) := by decide +kernel
theorem d_F_writeData_49 : decode prog_2_method_6_code 49 = .ok (.aload_n 0, 1) := by decide +kernel
theorem d_F_writeData_50 : decode prog_2_method_6_code 50 = .ok (.getfield 11, 3) := by decide +kernel
theorem d_F_writeData_53 : decode prog_2_method_6_code 53 = .ok (.bipush 13, 2) := by decide +kernel
theorem d_F_writeData_55 : decode prog_2_method_6_code 55 = .ok (.iload 5, 2) := by decide +kernel
theorem d_F_writeData_57 : decode prog_2_method_6_code 57 = .ok (.bipush 16, 2) := by decide +kernel
theorem d_F_writeData_59 : decode prog_2_method_6_code 59 = .ok (.ishr, 1) := by decide +kernel
theorem d_F_writeData_60 : decode prog_2_method_6_code 60 = .ok (.sipush 255, 3) := by decide +kernel
theorem d_F_writeData_63 : decode prog_2_method_6_code 63 = .ok (.iand, 1) := by decide +kernel
theorem d_F_writeData_64 : decode prog_2_method_6_code 64 = .ok (.iastore, 1) := by decide +kernel
theorem d_F_writeData_65 : decode prog_2_method_6_code 65 = .ok (.aload_n 0, 1) := by decide +kernel
theorem d_F_writeData_66 : decode prog_2_method_6_code 66 = .ok (.getfield 11, 3) := by decide +kernel
theorem d_F_writeData_69 : decode prog_2_method_6_code 69 = .ok (.bipush 14, 2) := by decide +kernel
theorem d_F_writeData_71 : decode prog_2_method_6_code 71 = .ok (.iload 5, 2) := by decide +kernel
theorem d_F_writeData_73 : decode prog_2_method_6_code 73 = .ok (.bipush 8, 2) := by decide +kernel
theorem d_F_writeData_75 : decode prog_2_method_6_code 75 = .ok (.ishr, 1) := by decide +kernel
theorem d_F_writeData_76 : decode prog_2_method_6_code 76 = .ok (.sipush 255, 3) := by decide +kernel
theorem d_F_writeData_79 : decode prog_2_method_6_code 79 = .ok (.iand, 1) := by decide +kernel
theorem d_F_writeData_80 : decode prog_2_method_6_code 80 = .ok (.iastore, 1) := by decide +kernel
theorem d_F_writeData_81 : decode prog_2_method_6_code 81 = .ok (.aload_n 0, 1) := by decide +kernel
theorem d_F_writeData_82 : decode prog_2_method_6_code 82 = .ok (.getfield 11, 3) := by decide +kernel
theorem d_F_writeData_85 : decode prog_2_method_6_code 85 = .ok (.bipush 15, 2) := by decide +kernel
theorem d_F_writeData_87 : decode prog_2_method_6_code 87 = .ok (.iload 5, 2) := by decide +kernel
theorem d_F_writeData_89 : decode prog_2_method_6_code 89 = .ok (.sipush 255, 3) := by decide +kernel
theorem d_F_writeData_92 : decode prog_2_method_6_code 92 = .ok (.iand, 1) := by decide +kernel
theorem d_F_writeData_93 : decode prog_2_method_6_code 93 = .ok (.iastore, 1) := by decide +kernel
theorem d_F_writeData_94 : decode prog_2_method_6_code 94 = .ok (.aload_n 0, 1) := by decide +kernel
theorem d_F_writeData_95 : decode prog_2_method_6_code 95 = .ok (.invokevirtual 29, 3) := by decide +kernel
theorem d_F_writeData_98 : decode prog_2_method_6_code 98 = .ok (.istore 6, 2) := by decide +kernel
theorem d_F_writeData_100 : decode prog_2_method_6_code 100 = .ok (.aload_n 0, 1) := by decide +kernel
theorem d_F_writeData_101 : decode prog_2_method_6_code 101 = .ok (.getfield 11, 3) := by decide +kernel
theorem d_F_writeData_104 : decode prog_2_method_6_code 104 = .ok (.bipush 16, 2) := by decide +kernel
theorem d_F_writeData_106 : decode prog_2_method_6_code 106 = .ok (.iload 6, 2) := by decide +kernel
theorem d_F_writeData_108 : decode prog_2_method_6_code 108 = .ok (.sipush 255, 3) := by decide +kernel
theorem d_F_writeData_111 : decode prog_2_method_6_code 111 = .ok (.iand, 1) := by decide +kernel
theorem d_F_writeData_112 : decode prog_2_method_6_code 112 = .ok (.iastore, 1) := by decide +kernel
theorem d_F_writeData_113 : decode prog_2_method_6_code 113 = .ok (.aload_n 0, 1) := by decide +kernel
theorem d_F_writeData_114 : decode prog_2_method_6_code 114 = .ok (.getfield 11, 3) := by decide +kernel
theorem d_F_writeData_117 : decode prog_2_method_6_code 117 = .ok (.bipush 17, 2) := by decide +kernel
theorem d_F_writeData_119 : decode prog_2_method_6_code 119 = .ok (.iload 6, 2) := by decide +kernel
theorem d_F_writeData_121 : decode prog_2_method_6_code 121 = .ok (.bipush 8, 2) := by decide +kernel
theorem d_F_writeData_123 : decode prog_2_method_6_code 123 = .ok (.ishr, 1) := by decide +kernel
theorem d_F_writeData_124 : decode prog_2_method_6_code 124 = .ok (.iastore, 1) := by decide +kernel
theorem d_F_writeData_125 : decode prog_2_method_6_code 125 = .ok (.aload_n 0, 1) := by decide +kernel
theorem d_F_writeData_126 : decode prog_2_method_6_code 126 = .ok (.bipush 18, 2) := by decide +kernel
theorem d_F_writeData_128 : decode prog_2_method_6_code 128 = .ok (.putfield 15, 3) := by decide +kernel
theorem d_F_writeData_131 : decode prog_2_method_6_code 131 = .ok (.return_, 1) := by decide +kernel
theorem d_F_spoilAsPlanned_0 : decode prog_2_method_7_code 0 = .ok (.aload_n 0, 1) := by decide +kernel
theorem d_F_spoilAsPlanned_1 : decode prog_2_method_7_code 1 = .ok (.getfield 22, 3) := by decide +kernel
theorem d_F_spoilAsPlanned_4 : decode prog_2_method_7_code 4 = .ok (.ifCond .eq 30, 3) := by decide +kernel
theorem d_F_spoilAsPlanned_7 : decode prog_2_method_7_code 7 = .ok (.aload_n 0, 1) := by decide +kernel
theorem d_F_spoilAsPlanned_8 : decode prog_2_method_7_code 8 = .ok (.getfield 19, 3) := by decide +kernel
theorem d_F_spoilAsPlanned_11 : decode prog_2_method_7_code 11 = .ok (.aload_n 0, 1) := by decide +kernel
theorem d_F_spoilAsPlanned_12 : decode prog_2_method_7_code 12 = .ok (.getfield 15, 3) := by decide +kernel
theorem d_F_spoilAsPlanned_15 : decode prog_2_method_7_code 15 = .ok (.if_icmp .ge 19, 3) := by decide +kernel
theorem d_F_spoilAsPlanned_18 : decode prog_2_method_7_code 18 = .ok (.aload_n 0, 1) := by decide +kernel
theorem d_F_spoilAsPlanned_19 : decode prog_2_method_7_code 19 = .ok (.getfield 11, 3) := by decide +kernel
theorem d_F_spoilAsPlanned_22 : decode prog_2_method_7_code 22 = .ok (.aload_n 0, 1) := by decide +kernel
theorem d_F_spoilAsPlanned_23 : decode prog_2_method_7_code 23 = .ok (.getfield 19, 3) := by decide +kernel
theorem d_F_spoilAsPlanned_26 : decode prog_2_method_7_code 26 = .ok (.dup2, 1) := by decide +kernel
theorem d_F_spoilAsPlanned_27 : decode prog_2_method_7_code 27 = .ok (.iaload, 1) := by decide +kernel
theorem d_F_spoilAsPlanned_28 : decode prog_2_method_7_code 28 = .ok (.aload_n 0, 1) := by decide +kernel
theorem d_F_spoilAsPlanned_29 : decode prog_2_method_7_code 29 = .ok (.getfield 22, 3) := by decide +kernel
theorem d_F_spoilAsPlanned_32 : decode prog_2_method_7_code 32 = .ok (.ixor, 1) := by decide +kernel
theorem d_F_spoilAsPlanned_33 : decode prog_2_method_7_code 33 = .ok (.iastore, 1) := by decide +kernel
theorem d_F_spoilAsPlanned_34 : decode prog_2_method_7_code 34 = .ok (.return_, 1) := by decide +kernel
theorem d_F_isRight_0 : decode prog_2_method_8_code 0 = .ok (.aload_n 0, 1) := by decide +kernel
theorem d_F_isRight_1 : decode prog_2_method_8_code 1 = .ok (.getfield 11, 3) := by decide +kernel
theorem d_F_isRight_4 : decode prog_2_method_8_code 4 = .ok (.iconst 0, 1) := by decide +kernel
theorem d_F_isRight_5 : decode prog_2_method_8_code 5 = .ok (.iaload, 1) := by decide +kernel
theorem d_F_isRight_6 : decode prog_2_method_8_code 6 = .ok (.bipush 85, 2) := by decide +kernel
theorem d_F_isRight_8 : decode prog_2_method_8_code 8 = .ok (.if_icmp .ne 29, 3) := by decide +kernel
theorem d_F_isRight_11 : decode prog_2_method_8_code 11 = .ok (.aload_n 0, 1) := by decide +kernel
theorem d_F_isRight_12 : decode prog_2_method_8_code 12 = .ok (.getfield 11, 3) := by decide +kernel
theorem d_F_isRight_15 : decode prog_2_method_8_code 15 = .ok (.iconst 1, 1) := by decide +kernel
theorem d_F_isRight_16 : decode prog_2_method_8_code 16 = .ok (.iaload, 1) := by decide +kernel
theorem d_F_isRight_17 : decode prog_2_method_8_code 17 = .ok (.sipush 255, 3) := by decide +kernel
theorem d_F_isRight_20 : decode prog_2_method_8_code 20 = .ok (.if_icmp .ne 17, 3) := by decide +kernel
theorem d_F_isRight_23 : decode prog_2_method_8_code 23 = .ok (.aload_n 0, 1) := by decide +kernel
theorem d_F_isRight_24 : decode prog_2_method_8_code 24 = .ok (.getfield 11, 3) := by decide +kernel
theorem d_F_isRight_27 : decode prog_2_method_8_code 27 = .ok (.bipush 7, 2) := by decide +kernel
theorem d_F_isRight_29 : decode prog_2_method_8_code 29 = .ok (.iaload, 1) := by decide +kernel
theorem d_F_isRight_30 : decode prog_2_method_8_code 30 = .ok (.aload_n 0, 1) := by decide +kernel
theorem d_F_isRight_31 : decode prog_2_method_8_code 31 = .ok (.invokevirtual 25, 3) := by decide +kernel
theorem d_F_isRight_34 : decode prog_2_method_8_code 34 = .ok (.if_icmp .eq 5, 3) := by decide +kernel
theorem d_F_isRight_37 : decode prog_2_method_8_code 37 = .ok (.iconst 0, 1) := by decide +kernel
theorem d_F_isRight_38 : decode prog_2_method_8_code 38 = .ok (.ireturn, 1) := by decide +kernel
theorem d_F_isRight_39 : decode prog_2_method_8_code 39 = .ok (.aload_n 0, 1) := by decide +kernel
theorem d_F_isRight_40 : decode prog_2_method_8_code 40 = .ok (.getfield 11, 3) := by decide +kernel
theorem d_F_isRight_43 : decode prog_2_method_8_code 43 = .ok (.bipush 6, 2) := by decide +kernel
theorem d_F_isRight_45 : decode prog_2_method_8_code 45 = .ok (.iaload, 1) := by decide +kernel
theorem d_F_isRight_46 : decode prog_2_method_8_code 46 = .ok (.ifCond .ne 5, 3) := by decide +kernel
theorem d_F_isRight_49 : decode prog_2_method_8_code 49 = .ok (.iconst 1, 1) := by decide +kernel
theorem d_F_isRight_50 : decode prog_2_method_8_code 50 = .ok (.ireturn, 1) := by decide +kernel
theorem d_F_isRight_51 : decode prog_2_method_8_code 51 = .ok (.aload_n 0, 1) := by decide +kernel
theorem d_F_isRight_52 : decode prog_2_method_8_code 52 = .ok (.getfield 11, 3) := by decide +kernel
theorem d_F_isRight_55 : decode prog_2_method_8_code 55 = .ok (.bipush 6, 2) := by decide +kernel
theorem d_F_isRight_57 : decode prog_2_method_8_code 57 = .ok (.iaload, 1) := by decide +kernel
theorem d_F_isRight_58 : decode prog_2_method_8_code 58 = .ok (.bipush 8, 2) := by decide +kernel
theorem d_F_isRight_60 : decode prog_2_method_8_code 60 = .ok (.if_icmp .ne 41, 3) := by decide +kernel
theorem d_F_isRight_63 : decode prog_2_method_8_code 63 = .ok (.aload_n 0, 1) := by decide +kernel
theorem d_F_isRight_64 : decode prog_2_method_8_code 64 = .ok (.getfield 15, 3) := by decide +kernel
theorem d_F_isRight_67 : decode prog_2_method_8_code 67 = .ok (.bipush 18, 2) := by decide +kernel
theorem d_F_isRight_69 : decode prog_2_method_8_code 69 = .ok (.if_icmp .ne 32, 3) := by decide +kernel
theorem d_F_isRight_72 : decode prog_2_method_8_code 72 = .ok (.aload_n 0, 1) := by decide +kernel
theorem d_F_isRight_73 : decode prog_2_method_8_code 73 = .ok (.getfield 11, 3) := by decide +kernel
theorem d_F_isRight_76 : decode prog_2_method_8_code 76 = .ok (.bipush 16, 2) := by decide +kernel
theorem d_F_isRight_78 : decode prog_2_method_8_code 78 = .ok (.iaload, 1) := by decide +kernel
theorem d_F_isRight_79 : decode prog_2_method_8_code 79 = .ok (.aload_n 0, 1) := by decide +kernel
theorem d_F_isRight_80 : decode prog_2_method_8_code 80 = .ok (.getfield 11, 3) := by decide +kernel
theorem d_F_isRight_83 : decode prog_2_method_8_code 83 = .ok (.bipush 17, 2) := by decide +kernel
theorem d_F_isRight_85 : decode prog_2_method_8_code 85 = .ok (.iaload, 1) := by decide +kernel
theorem d_F_isRight_86 : decode prog_2_method_8_code 86 = .ok (.bipush 8, 2) := by decide +kernel
theorem d_F_isRight_88 : decode prog_2_method_8_code 88 = .ok (.ishl, 1) := by decide +kernel
theorem d_F_isRight_89 : decode prog_2_method_8_code 89 = .ok (.iadd, 1) := by decide +kernel
theorem d_F_isRight_90 : decode prog_2_method_8_code 90 = .ok (.aload_n 0, 1) := by decide +kernel
theorem d_F_isRight_91 : decode prog_2_method_8_code 91 = .ok (.invokevirtual 29, 3) := by decide +kernel
theorem d_F_isRight_94 : decode prog_2_method_8_code 94 = .ok (.if_icmp .ne 7, 3) := by decide +kernel
theorem d_F_isRight_97 : decode prog_2_method_8_code 97 = .ok (.iconst 1, 1) := by decide +kernel
theorem d_F_isRight_98 : decode prog_2_method_8_code 98 = .ok (.goto 4, 3) := by decide +kernel
theorem d_F_isRight_101 : decode prog_2_method_8_code 101 = .ok (.iconst 0, 1) := by decide +kernel
theorem d_F_isRight_102 : decode prog_2_method_8_code 102 = .ok (.ireturn, 1) := by decide +kernel
theorem d_F_destination_0 : decode prog_2_method_9_code 0 = .ok (.aload_n 0, 1) := by decide +kernel
theorem d_F_destination_1 : decode prog_2_method_9_code 1 = .ok (.getfield 11, 3) := by decide +kernel
theorem d_F_destination_4 : decode prog_2_method_9_code 4 = .ok (.iconst 3, 1) := by decide +kernel
theorem d_F_destination_5 : decode prog_2_method_9_code 5 = .ok (.iaload, 1) := by decide +kernel
theorem d_F_destination_6 : decode prog_2_method_9_code 6 = .ok (.ireturn, 1) := by decide +kernel
theorem d_F_byteOrSize_0 : decode prog_2_method_10_code 0 = .ok (.iload_n 1, 1) := by decide +kernel
theorem d_F_byteOrSize_1 : decode prog_2_method_10_code 1 = .ok (.iconst (-1), 1) := by decide +kernel
theorem d_F_byteOrSize_2 : decode prog_2_method_10_code 2 = .ok (.if_icmp .ne 8, 3) := by decide +kernel
theorem d_F_byteOrSize_5 : decode prog_2_method_10_code 5 = .ok (.aload_n 0, 1) := by decide +kernel
theorem d_F_byteOrSize_6 : decode prog_2_method_10_code 6 = .ok (.getfield 15, 3) := by decide +kernel
theorem d_F_byteOrSize_9 : decode prog_2_method_10_code 9 = .ok (.ireturn, 1) := by decide +kernel
theorem d_F_byteOrSize_10 : decode prog_2_method_10_code 10 = .ok (.iload_n 1, 1) := by decide +kernel
theorem d_F_byteOrSize_11 : decode prog_2_method_10_code 11 = .ok (.ifCond .lt 20, 3) := by decide +kernel
theorem d_F_byteOrSize_14 : decode prog_2_method_10_code 14 = .ok (.iload_n 1, 1) := by decide +kernel
theorem d_F_byteOrSize_15 : decode prog_2_method_10_code 15 = .ok (.aload_n 0, 1) := by decide +kernel
theorem d_F_byteOrSize_16 : decode prog_2_method_10_code 16 = .ok (.getfield 15, 3) := by decide +kernel
theorem d_F_byteOrSize_19 : decode prog_2_method_10_code 19 = .ok (.if_icmp .ge 12, 3) := by decide +kernel
theorem d_F_byteOrSize_22 : decode prog_2_method_10_code 22 = .ok (.aload_n 0, 1) := by decide +kernel
theorem d_F_byteOrSize_23 : decode prog_2_method_10_code 23 = .ok (.getfield 11, 3) := by decide +kernel
theorem d_F_byteOrSize_26 : decode prog_2_method_10_code 26 = .ok (.iload_n 1, 1) := by decide +kernel
theorem d_F_byteOrSize_27 : decode prog_2_method_10_code 27 = .ok (.iaload, 1) := by decide +kernel
theorem d_F_byteOrSize_28 : decode prog_2_method_10_code 28 = .ok (.goto 4, 3) := by decide +kernel
theorem d_F_byteOrSize_31 : decode prog_2_method_10_code 31 = .ok (.iconst (-1), 1) := by decide +kernel
theorem d_F_byteOrSize_32 : decode prog_2_method_10_code 32 = .ok (.ireturn, 1) := by decide +kernel
theorem d_F_headerCheck_0 : decode prog_2_method_11_code 0 = .ok (.aload_n 0, 1) := by decide +kernel
theorem d_F_headerCheck_1 : decode prog_2_method_11_code 1 = .ok (.iconst 2, 1) := by decide +kernel
theorem d_F_headerCheck_2 : decode prog_2_method_11_code 2 = .ok (.bipush 7, 2) := by decide +kernel
theorem d_F_headerCheck_4 : decode prog_2_method_11_code 4 = .ok (.sipush 255, 3) := by decide +kernel
theorem d_F_headerCheck_7 : decode prog_2_method_11_code 7 = .ok (.sipush 129, 3) := by decide +kernel
theorem d_F_headerCheck_10 : decode prog_2_method_11_code 10 = .ok (.invokevirtual 32, 3) := by decide +kernel
theorem d_F_headerCheck_13 : decode prog_2_method_11_code 13 = .ok (.ireturn, 1) := by decide +kernel
theorem d_F_dataCheck_0 : decode prog_2_method_12_code 0 = .ok (.aload_n 0, 1) := by decide +kernel
theorem d_F_dataCheck_1 : decode prog_2_method_12_code 1 = .ok (.bipush 8, 2) := by decide +kernel
theorem d_F_dataCheck_3 : decode prog_2_method_12_code 3 = .ok (.bipush 16, 2) := by decide +kernel
theorem d_F_dataCheck_5 : decode prog_2_method_12_code 5 = .ok (.ldc 36, 2) := by decide +kernel
theorem d_F_dataCheck_7 : decode prog_2_method_12_code 7 = .ok (.ldc 37, 2) := by decide +kernel
theorem d_F_dataCheck_9 : decode prog_2_method_12_code 9 = .ok (.invokevirtual 32, 3) := by decide +kernel
theorem d_F_dataCheck_12 : decode prog_2_method_12_code 12 = .ok (.ireturn, 1) := by decide +kernel
theorem d_F_checkOf_0 : decode prog_2_method_13_code 0 = .ok (.iload_n 3, 1) := by decide +kernel
theorem d_F_checkOf_1 : decode prog_2_method_13_code 1 = .ok (.istore 5, 2) := by decide +kernel
theorem d_F_checkOf_3 : decode prog_2_method_13_code 3 = .ok (.iload_n 1, 1) := by decide +kernel
theorem d_F_checkOf_4 : decode prog_2_method_13_code 4 = .ok (.istore 6, 2) := by decide +kernel
theorem d_F_checkOf_6 : decode prog_2_method_13_code 6 = .ok (.iload 6, 2) := by decide +kernel
theorem d_F_checkOf_8 : decode prog_2_method_13_code 8 = .ok (.iload_n 2, 1) := by decide +kernel
theorem d_F_checkOf_9 : decode prog_2_method_13_code 9 = .ok (.if_icmp .ge 71, 3) := by decide +kernel
theorem d_F_checkOf_12 : decode prog_2_method_13_code 12 = .ok (.iconst 0, 1) := by decide +kernel
theorem d_F_checkOf_13 : decode prog_2_method_13_code 13 = .ok (.istore 7, 2) := by decide +kernel
theorem d_F_checkOf_15 : decode prog_2_method_13_code 15 = .ok (.iload 7, 2) := by decide +kernel
theorem d_F_checkOf_17 : decode prog_2_method_13_code 17 = .ok (.bipush 8, 2) := by decide +kernel
theorem d_F_checkOf_19 : decode prog_2_method_13_code 19 = .ok (.if_icmp .ge 55, 3) := by decide +kernel
theorem d_F_checkOf_22 : decode prog_2_method_13_code 22 = .ok (.iload 5, 2) := by decide +kernel
theorem d_F_checkOf_24 : decode prog_2_method_13_code 24 = .ok (.aload_n 0, 1) := by decide +kernel
theorem d_F_checkOf_25 : decode prog_2_method_13_code 25 = .ok (.getfield 11, 3) := by decide +kernel
theorem d_F_checkOf_28 : decode prog_2_method_13_code 28 = .ok (.iload 6, 2) := by decide +kernel
theorem d_F_checkOf_30 : decode prog_2_method_13_code 30 = .ok (.iaload, 1) := by decide +kernel
theorem d_F_checkOf_31 : decode prog_2_method_13_code 31 = .ok (.iload 7, 2) := by decide +kernel
theorem d_F_checkOf_33 : decode prog_2_method_13_code 33 = .ok (.ishr, 1) := by decide +kernel
theorem d_F_checkOf_34 : decode prog_2_method_13_code 34 = .ok (.ixor, 1) := by decide +kernel
theorem d_F_checkOf_35 : decode prog_2_method_13_code 35 = .ok (.iconst 1, 1) := by decide +kernel
theorem d_F_checkOf_36 : decode prog_2_method_13_code 36 = .ok (.iand, 1) := by decide +kernel
theorem d_F_checkOf_37 : decode prog_2_method_13_code 37 = .ok (.ifCond .eq 7, 3) := by decide +kernel
theorem d_F_checkOf_40 : decode prog_2_method_13_code 40 = .ok (.iconst 1, 1) := by decide +kernel
theorem d_F_checkOf_41 : decode prog_2_method_13_code 41 = .ok (.goto 4, 3) := by decide +kernel
theorem d_F_checkOf_44 : decode prog_2_method_13_code 44 = .ok (.iconst 0, 1) := by decide +kernel
theorem d_F_checkOf_45 : decode prog_2_method_13_code 45 = .ok (.istore 8, 2) := by decide +kernel
theorem d_F_checkOf_47 : decode prog_2_method_13_code 47 = .ok (.iload 8, 2) := by decide +kernel
theorem d_F_checkOf_49 : decode prog_2_method_13_code 49 = .ok (.ifCond .eq 13, 3) := by decide +kernel
theorem d_F_checkOf_52 : decode prog_2_method_13_code 52 = .ok (.iload 5, 2) := by decide +kernel
theorem d_F_checkOf_54 : decode prog_2_method_13_code 54 = .ok (.iconst 1, 1) := by decide +kernel
theorem d_F_checkOf_55 : decode prog_2_method_13_code 55 = .ok (.ishr, 1) := by decide +kernel
theorem d_F_checkOf_56 : decode prog_2_method_13_code 56 = .ok (.iload 4, 2) := by decide +kernel
theorem d_F_checkOf_58 : decode prog_2_method_13_code 58 = .ok (.ixor, 1) := by decide +kernel
theorem d_F_checkOf_59 : decode prog_2_method_13_code 59 = .ok (.goto 7, 3) := by decide +kernel
theorem d_F_checkOf_62 : decode prog_2_method_13_code 62 = .ok (.iload 5, 2) := by decide +kernel
theorem d_F_checkOf_64 : decode prog_2_method_13_code 64 = .ok (.iconst 1, 1) := by decide +kernel
theorem d_F_checkOf_65 : decode prog_2_method_13_code 65 = .ok (.ishr, 1) := by decide +kernel
theorem d_F_checkOf_66 : decode prog_2_method_13_code 66 = .ok (.istore 5, 2) := by decide +kernel
theorem d_F_checkOf_68 : decode prog_2_method_13_code 68 = .ok (.iinc 7 1, 3) := by decide +kernel
theorem d_F_checkOf_71 : decode prog_2_method_13_code 71 = .ok (.goto (-56), 3) := by decide +kernel
theorem d_F_checkOf_74 : decode prog_2_method_13_code 74 = .ok (.iinc 6 1, 3) := by decide +kernel
theorem d_F_checkOf_77 : decode prog_2_method_13_code 77 = .ok (.goto (-71), 3) := by decide +kernel
theorem d_F_checkOf_80 : decode prog_2_method_13_code 80 = .ok (.iload_n 3, 1) := by decide +kernel
theorem d_F_checkOf_81 : decode prog_2_method_13_code 81 = .ok (.iload 5, 2) := by decide +kernel
theorem d_F_checkOf_83 : decode prog_2_method_13_code 83 = .ok (.isub, 1) := by decide +kernel
theorem d_F_checkOf_84 : decode prog_2_method_13_code 84 = .ok (.ireturn, 1) := by decide +kernel
theorem d_L_init_0 : decode prog_3_method_1_code 0 = .ok (.aload_n 0, 1) := by decide +kernel
theorem d_L_init_1 : decode prog_3_method_1_code 1 = .ok (.invokespecial 3, 3) := by decide +kernel
theorem d_L_init_4 : decode prog_3_method_1_code 4 = .ok (.return_, 1) := by decide +kernel
theorem d_L_tune_0 : decode prog_3_method_2_code 0 = .ok (.aload_n 0, 1) := by decide +kernel
theorem d_L_tune_1 : decode prog_3_method_2_code 1 = .ok (.iload_n 1, 1) := by decide +kernel
theorem d_L_tune_2 : decode prog_3_method_2_code 2 = .ok (.putfield 9, 3) := by decide +kernel
theorem d_L_tune_5 : decode prog_3_method_2_code 5 = .ok (.aload_n 0, 1) := by decide +kernel
theorem d_L_tune_6 : decode prog_3_method_2_code 6 = .ok (.iload_n 2, 1) := by decide +kernel
theorem d_L_tune_7 : decode prog_3_method_2_code 7 = .ok (.putfield 15, 3) := by decide +kernel
theorem d_L_tune_10 : decode prog_3_method_2_code 10 = .ok (.aload_n 0, 1) := by decide +kernel
theorem d_L_tune_11 : decode prog_3_method_2_code 11 = .ok (.iconst 0, 1) := by decide +kernel
theorem d_L_tune_12 : decode prog_3_method_2_code 12 = .ok (.putfield 18, 3) := by decide +kernel
theorem d_L_tune_15 : decode prog_3_method_2_code 15 = .ok (.return_, 1) := by decide +kernel
theorem d_L_aim_0 : decode prog_3_method_3_code 0 = .ok (.iload_n 1, 1) := by decide +kernel
theorem d_L_aim_1 : decode prog_3_method_3_code 1 = .ok (.sipush (-10000), 3) := by decide +kernel
theorem d_L_aim_4 : decode prog_3_method_3_code 4 = .ok (.sipush 10000, 3) := by decide +kernel
theorem d_L_aim_7 : decode prog_3_method_3_code 7 = .ok (.invokestatic 21, 3) := by decide +kernel
theorem d_L_aim_10 : decode prog_3_method_3_code 10 = .ok (.ifCond .ne 5, 3) := by decide +kernel
theorem d_L_aim_13 : decode prog_3_method_3_code 13 = .ok (.iconst 0, 1) := by decide +kernel
theorem d_L_aim_14 : decode prog_3_method_3_code 14 = .ok (.ireturn, 1) := by decide +kernel
theorem d_L_aim_15 : decode prog_3_method_3_code 15 = .ok (.aload_n 0, 1) := by decide +kernel
theorem d_L_aim_16 : decode prog_3_method_3_code 16 = .ok (.iload_n 1, 1) := by decide +kernel
theorem d_L_aim_17 : decode prog_3_method_3_code 17 = .ok (.putfield 25, 3) := by decide +kernel
theorem d_L_aim_20 : decode prog_3_method_3_code 20 = .ok (.iconst 1, 1) := by decide +kernel
theorem d_L_aim_21 : decode prog_3_method_3_code 21 = .ok (.ireturn, 1) := by decide +kernel
theorem d_L_isOff_0 : decode prog_3_method_4_code 0 = .ok (.aload_n 0, 1) := by decide +kernel
theorem d_L_isOff_1 : decode prog_3_method_4_code 1 = .ok (.getfield 9, 3) := by decide +kernel
theorem d_L_isOff_4 : decode prog_3_method_4_code 4 = .ok (.ifCond .ne 14, 3) := by decide +kernel
theorem d_L_isOff_7 : decode prog_3_method_4_code 7 = .ok (.aload_n 0, 1) := by decide +kernel
theorem d_L_isOff_8 : decode prog_3_method_4_code 8 = .ok (.getfield 15, 3) := by decide +kernel
theorem d_L_isOff_11 : decode prog_3_method_4_code 11 = .ok (.ifCond .ne 7, 3) := by decide +kernel
theorem d_L_isOff_14 : decode prog_3_method_4_code 14 = .ok (.iconst 1, 1) := by decide +kernel
theorem d_L_isOff_15 : decode prog_3_method_4_code 15 = .ok (.goto 4, 3) := by decide +kernel
theorem d_L_isOff_18 : decode prog_3_method_4_code 18 = .ok (.iconst 0, 1) := by decide +kernel
theorem d_L_isOff_19 : decode prog_3_method_4_code 19 = .ok (.ireturn, 1) := by decide +kernel
theorem d_L_control_0 : decode prog_3_method_5_code 0 = .ok (.aload_n 0, 1) := by decide +kernel
theorem d_L_control_1 : decode prog_3_method_5_code 1 = .ok (.getfield 25, 3) := by decide +kernel
theorem d_L_control_4 : decode prog_3_method_5_code 4 = .ok (.iload_n 1, 1) := by decide +kernel
theorem d_L_control_5 : decode prog_3_method_5_code 5 = .ok (.isub, 1) := by decide +kernel
theorem d_L_control_6 : decode prog_3_method_5_code 6 = .ok (.istore_n 2, 1) := by decide +kernel
theorem d_L_control_7 : decode prog_3_method_5_code 7 = .ok (.aload_n 0, 1) := by decide +kernel
theorem d_L_control_8 : decode prog_3_method_5_code 8 = .ok (.aload_n 0, 1) := by decide +kernel
theorem d_L_control_9 : decode prog_3_method_5_code 9 = .ok (.getfield 18, 3) := by decide +kernel
theorem d_L_control_12 : decode prog_3_method_5_code 12 = .ok (.iload_n 2, 1) := by decide +kernel
theorem d_L_control_13 : decode prog_3_method_5_code 13 = .ok (.iadd, 1) := by decide +kernel
theorem d_L_control_14 : decode prog_3_method_5_code 14 = .ok (.sipush 10000, 3) := by decide +kernel
theorem d_L_control_17 : decode prog_3_method_5_code 17 = .ok (.invokestatic 28, 3) := by decide +kernel
theorem d_L_control_20 : decode prog_3_method_5_code 20 = .ok (.putfield 18, 3) := by decide +kernel
theorem d_L_control_23 : decode prog_3_method_5_code 23 = .ok (.aload_n 0, 1) := by decide +kernel
theorem d_L_control_24 : decode prog_3_method_5_code 24 = .ok (.getfield 9, 3) := by decide +kernel
theorem d_L_control_27 : decode prog_3_method_5_code 27 = .ok (.iload_n 2, 1) := by decide +kernel
theorem d_L_control_28 : decode prog_3_method_5_code 28 = .ok (.imul, 1) := by decide +kernel
theorem d_L_control_29 : decode prog_3_method_5_code 29 = .ok (.aload_n 0, 1) := by decide +kernel
theorem d_L_control_30 : decode prog_3_method_5_code 30 = .ok (.getfield 15, 3) := by decide +kernel
theorem d_L_control_33 : decode prog_3_method_5_code 33 = .ok (.aload_n 0, 1) := by decide +kernel
theorem d_L_control_34 : decode prog_3_method_5_code 34 = .ok (.getfield 18, 3) := by decide +kernel
theorem d_L_control_37 : decode prog_3_method_5_code 37 = .ok (.imul, 1) := by decide +kernel
theorem d_L_control_38 : decode prog_3_method_5_code 38 = .ok (.iadd, 1) := by decide +kernel
theorem d_L_control_39 : decode prog_3_method_5_code 39 = .ok (.bipush 16, 2) := by decide +kernel
theorem d_L_control_41 : decode prog_3_method_5_code 41 = .ok (.invokestatic 32, 3) := by decide +kernel
theorem d_L_control_44 : decode prog_3_method_5_code 44 = .ok (.sipush 1000, 3) := by decide +kernel
theorem d_L_control_47 : decode prog_3_method_5_code 47 = .ok (.invokestatic 28, 3) := by decide +kernel
theorem d_L_control_50 : decode prog_3_method_5_code 50 = .ok (.ireturn, 1) := by decide +kernel
theorem d_N_init_0 : decode prog_4_method_1_code 0 = .ok (.aload_n 0, 1) := by decide +kernel
theorem d_N_init_1 : decode prog_4_method_1_code 1 = .ok (.invokespecial 3, 3) := by decide +kernel
theorem d_N_init_4 : decode prog_4_method_1_code 4 = .ok (.aload_n 0, 1) := by decide +kernel
theorem d_N_init_5 : decode prog_4_method_1_code 5 = .ok (.new 9, 3) := by decide +kernel
theorem d_N_init_8 : decode prog_4_method_1_code 8 = .ok (.dup, 1) := by decide +kernel
theorem d_N_init_9 : decode prog_4_method_1_code 9 = .ok (.invokespecial 11, 3) := by decide +kernel
theorem d_N_init_12 : decode prog_4_method_1_code 12 = .ok (.putfield 12, 3) := by decide +kernel
theorem d_N_init_15 : decode prog_4_method_1_code 15 = .ok (.aload_n 0, 1) := by decide +kernel
theorem d_N_init_16 : decode prog_4_method_1_code 16 = .ok (.new 18, 3) := by decide +kernel
theorem d_N_init_19 : decode prog_4_method_1_code 19 = .ok (.dup, 1) := by decide +kernel
theorem d_N_init_20 : decode prog_4_method_1_code 20 = .ok (.invokespecial 20, 3) := by decide +kernel
theorem d_N_init_23 : decode prog_4_method_1_code 23 = .ok (.putfield 21, 3) := by decide +kernel
theorem d_N_init_26 : decode prog_4_method_1_code 26 = .ok (.aload_n 0, 1) := by decide +kernel
theorem d_N_init_27 : decode prog_4_method_1_code 27 = .ok (.iconst 4, 1) := by decide +kernel
theorem d_N_init_28 : decode prog_4_method_1_code 28 = .ok (.anewarray 25, 3) := by decide +kernel
theorem d_N_init_31 : decode prog_4_method_1_code 31 = .ok (.putfield 27, 3) := by decide +kernel
theorem d_N_init_34 : decode prog_4_method_1_code 34 = .ok (.aload_n 0, 1) := by decide +kernel
theorem d_N_init_35 : decode prog_4_method_1_code 35 = .ok (.iconst 3, 1) := by decide +kernel
theorem d_N_init_36 : decode prog_4_method_1_code 36 = .ok (.anewarray 31, 3) := by decide +kernel
theorem d_N_init_39 : decode prog_4_method_1_code 39 = .ok (.putfield 33, 3) := by decide +kernel
theorem d_N_init_42 : decode prog_4_method_1_code 42 = .ok (.aload_n 0, 1) := by decide +kernel
theorem d_N_init_43 : decode prog_4_method_1_code 43 = .ok (.iload_n 1, 1) := by decide +kernel
theorem d_N_init_44 : decode prog_4_method_1_code 44 = .ok (.putfield 37, 3) := by decide +kernel
theorem d_N_init_47 : decode prog_4_method_1_code 47 = .ok (.aload_n 0, 1) := by decide +kernel
theorem d_N_init_48 : decode prog_4_method_1_code 48 = .ok (.iload_n 1, 1) := by decide +kernel
theorem d_N_init_49 : decode prog_4_method_1_code 49 = .ok (.putfield 41, 3) := by decide +kernel
theorem d_N_init_52 : decode prog_4_method_1_code 52 = .ok (.aload_n 0, 1) := by decide +kernel
theorem d_N_init_53 : decode prog_4_method_1_code 53 = .ok (.iload_n 1, 1) := by decide +kernel
theorem d_N_init_54 : decode prog_4_method_1_code 54 = .ok (.putfield 44, 3) := by decide +kernel
theorem d_N_init_57 : decode prog_4_method_1_code 57 = .ok (.iconst 0, 1) := by decide +kernel
theorem d_N_init_58 : decode prog_4_method_1_code 58 = .ok (.istore_n 2, 1) := by decide +kernel
theorem d_N_init_59 : decode prog_4_method_1_code 59 = .ok (.iload_n 2, 1) := by decide +kernel
theorem d_N_init_60 : decode prog_4_method_1_code 60 = .ok (.iconst 3, 1) := by decide +kernel
theorem d_N_init_61 : decode prog_4_method_1_code 61 = .ok (.if_icmp .ge 22, 3) := by decide +kernel
theorem d_N_init_64 : decode prog_4_method_1_code 64 = .ok (.aload_n 0, 1) := by decide +kernel
theorem d_N_init_65 : decode prog_4_method_1_code 65 = .ok (.getfield 33, 3) := by decide +kernel
theorem d_N_init_68 : decode prog_4_method_1_code 68 = .ok (.iload_n 2, 1) := by decide +kernel
theorem d_N_init_69 : decode prog_4_method_1_code 69 = .ok (.new 31, 3) := by decide +kernel
theorem d_N_init_72 : decode prog_4_method_1_code 72 = .ok (.dup, 1) := by decide +kernel
theorem d_N_init_73 : decode prog_4_method_1_code 73 = .ok (.invokespecial 47, 3) := by decide +kernel
theorem d_N_init_76 : decode prog_4_method_1_code 76 = .ok (.aastore, 1) := by decide +kernel
theorem d_N_init_77 : decode prog_4_method_1_code 77 = .ok (.iinc 2 1, 3) := by decide +kernel
theorem d_N_init_80 : decode prog_4_method_1_code 80 = .ok (.goto (-21), 3) := by decide +kernel
theorem d_N_init_83 : decode prog_4_method_1_code 83 = .ok (.return_, 1) := by decide +kernel
theorem d_N_getPower_0 : decode prog_4_method_2_code 0 = .ok (.aload_n 0, 1) := by decide +kernel
theorem d_N_getPower_1 : decode prog_4_method_2_code 1 = .ok (.iconst 1, 1) := by decide +kernel
theorem d_N_getPower_2 : decode prog_4_method_2_code 2 = .ok (.putfield 48, 3) := by decide +kernel
theorem d_N_getPower_5 : decode prog_4_method_2_code 5 = .ok (.aload_n 0, 1) := by decide +kernel
theorem d_N_getPower_6 : decode prog_4_method_2_code 6 = .ok (.invokevirtual 52, 3) := by decide +kernel
theorem d_N_getPower_9 : decode prog_4_method_2_code 9 = .ok (.aload_n 0, 1) := by decide +kernel
theorem d_N_getPower_10 : decode prog_4_method_2_code 10 = .ok (.iconst 0, 1) := by decide +kernel
theorem d_N_getPower_11 : decode prog_4_method_2_code 11 = .ok (.putfield 55, 3) := by decide +kernel
theorem d_N_getPower_14 : decode prog_4_method_2_code 14 = .ok (.aload_n 0, 1) := by decide +kernel
theorem d_N_getPower_15 : decode prog_4_method_2_code 15 = .ok (.getfield 21, 3) := by decide +kernel
theorem d_N_getPower_18 : decode prog_4_method_2_code 18 = .ok (.iconst 0, 1) := by decide +kernel
theorem d_N_getPower_19 : decode prog_4_method_2_code 19 = .ok (.putfield 58, 3) := by decide +kernel
theorem d_N_getPower_22 : decode prog_4_method_2_code 22 = .ok (.aload_n 0, 1) := by decide +kernel
theorem d_N_getPower_23 : decode prog_4_method_2_code 23 = .ok (.iconst 0, 1) := by decide +kernel
theorem d_N_getPower_24 : decode prog_4_method_2_code 24 = .ok (.putfield 61, 3) := by decide +kernel
theorem d_N_getPower_27 : decode prog_4_method_2_code 27 = .ok (.return_, 1) := by decide +kernel
theorem d_N_forgetOthers_0 : decode prog_4_method_3_code 0 = .ok (.aload_n 0, 1) := by decide +kernel
theorem d_N_forgetOthers_1 : decode prog_4_method_3_code 1 = .ok (.aload_n 0, 1) := by decide +kernel
theorem d_N_forgetOthers_2 : decode prog_4_method_3_code 2 = .ok (.getfield 37, 3) := by decide +kernel
theorem d_N_forgetOthers_5 : decode prog_4_method_3_code 5 = .ok (.putfield 41, 3) := by decide +kernel
theorem d_N_forgetOthers_8 : decode prog_4_method_3_code 8 = .ok (.aload_n 0, 1) := by decide +kernel
theorem d_N_forgetOthers_9 : decode prog_4_method_3_code 9 = .ok (.aload_n 0, 1) := by decide +kernel
theorem d_N_forgetOthers_10 : decode prog_4_method_3_code 10 = .ok (.getfield 37, 3) := by decide +kernel
theorem d_N_forgetOthers_13 : decode prog_4_method_3_code 13 = .ok (.putfield 44, 3) := by decide +kernel
theorem d_N_forgetOthers_16 : decode prog_4_method_3_code 16 = .ok (.return_, 1) := by decide +kernel
theorem d_N_getToken_0 : decode prog_4_method_4_code 0 = .ok (.aload_n 0, 1) := by decide +kernel
theorem d_N_getToken_1 : decode prog_4_method_4_code 1 = .ok (.dup, 1) := by decide +kernel
theorem d_N_getToken_2 : decode prog_4_method_4_code 2 = .ok (.getfield 55, 3) := by decide +kernel
theorem d_N_getToken_5 : decode prog_4_method_4_code 5 = .ok (.iconst 1, 1) := by decide +kernel
theorem d_N_getToken_6 : decode prog_4_method_4_code 6 = .ok (.iadd, 1) := by decide +kernel
theorem d_N_getToken_7 : decode prog_4_method_4_code 7 = .ok (.putfield 55, 3) := by decide +kernel
theorem d_N_getToken_10 : decode prog_4_method_4_code 10 = .ok (.aload_n 0, 1) := by decide +kernel
theorem d_N_getToken_11 : decode prog_4_method_4_code 11 = .ok (.dup, 1) := by decide +kernel
theorem d_N_getToken_12 : decode prog_4_method_4_code 12 = .ok (.getfield 64, 3) := by decide +kernel
theorem d_N_getToken_15 : decode prog_4_method_4_code 15 = .ok (.iconst 1, 1) := by decide +kernel
theorem d_N_getToken_16 : decode prog_4_method_4_code 16 = .ok (.iadd, 1) := by decide +kernel
theorem d_N_getToken_17 : decode prog_4_method_4_code 17 = .ok (.putfield 64, 3) := by decide +kernel
theorem d_N_getToken_20 : decode prog_4_method_4_code 20 = .ok (.return_, 1) := by decide +kernel
theorem d_N_enqueue_0 : decode prog_4_method_5_code 0 = .ok (.aload_n 0, 1) := by decide +kernel
theorem d_N_enqueue_1 : decode prog_4_method_5_code 1 = .ok (.getfield 67, 3) := by decide +kernel
theorem d_N_enqueue_4 : decode prog_4_method_5_code 4 = .ok (.iconst 4, 1) := by decide +kernel
theorem d_N_enqueue_5 : decode prog_4_method_5_code 5 = .ok (.if_icmp .ge 23, 3) := by decide +kernel
theorem d_N_enqueue_8 : decode prog_4_method_5_code 8 = .ok (.aload_n 0, 1) := by decide +kernel
theorem d_N_enqueue_9 : decode prog_4_method_5_code 9 = .ok (.getfield 27, 3) := by decide +kernel
theorem d_N_enqueue_12 : decode prog_4_method_5_code 12 = .ok (.aload_n 0, 1) := by decide +kernel
theorem d_N_enqueue_13 : decode prog_4_method_5_code 13 = .ok (.getfield 67, 3) := by decide +kernel
theorem d_N_enqueue_16 : decode prog_4_method_5_code 16 = .ok (.aload_n 1, 1) := by decide +kernel
theorem d_N_enqueue_17 : decode prog_4_method_5_code 17 = .ok (.aastore, 1) := by decide +kernel
theorem d_N_enqueue_18 : decode prog_4_method_5_code 18 = .ok (.aload_n 0, 1) := by decide +kernel
theorem d_N_enqueue_19 : decode prog_4_method_5_code 19 = .ok (.dup, 1) := by decide +kernel
theorem d_N_enqueue_20 : decode prog_4_method_5_code 20 = .ok (.getfield 67, 3) := by decide +kernel
theorem d_N_enqueue_23 : decode prog_4_method_5_code 23 = .ok (.iconst 1, 1) := by decide +kernel
theorem d_N_enqueue_24 : decode prog_4_method_5_code 24 = .ok (.iadd, 1) := by decide +kernel
theorem d_N_enqueue_25 : decode prog_4_method_5_code 25 = .ok (.putfield 67, 3) := by decide +kernel
theorem d_N_enqueue_28 : decode prog_4_method_5_code 28 = .ok (.return_, 1) := by decide +kernel
theorem d_N_dequeue_0 : decode prog_4_method_6_code 0 = .ok (.aload_n 0, 1) := by decide +kernel
theorem d_N_dequeue_1 : decode prog_4_method_6_code 1 = .ok (.getfield 67, 3) := by decide +kernel
theorem d_N_dequeue_4 : decode prog_4_method_6_code 4 = .ok (.ifCond .le 43, 3) := by decide +kernel
theorem d_N_dequeue_7 : decode prog_4_method_6_code 7 = .ok (.aload_n 0, 1) := by decide +kernel
theorem d_N_dequeue_8 : decode prog_4_method_6_code 8 = .ok (.dup, 1) := by decide +kernel
theorem d_N_dequeue_9 : decode prog_4_method_6_code 9 = .ok (.getfield 67, 3) := by decide +kernel
theorem d_N_dequeue_12 : decode prog_4_method_6_code 12 = .ok (.iconst 1, 1) := by decide +kernel
theorem d_N_dequeue_13 : decode prog_4_method_6_code 13 = .ok (.isub, 1) := by decide +kernel
theorem d_N_dequeue_14 : decode prog_4_method_6_code 14 = .ok (.putfield 67, 3) := by decide +kernel
theorem d_N_dequeue_17 : decode prog_4_method_6_code 17 = .ok (.iconst 0, 1) := by decide +kernel
theorem d_N_dequeue_18 : decode prog_4_method_6_code 18 = .ok (.istore_n 1, 1) := by decide +kernel
theorem d_N_dequeue_19 : decode prog_4_method_6_code 19 = .ok (.iload_n 1, 1) := by decide +kernel
theorem d_N_dequeue_20 : decode prog_4_method_6_code 20 = .ok (.aload_n 0, 1) := by decide +kernel
theorem d_N_dequeue_21 : decode prog_4_method_6_code 21 = .ok (.getfield 67, 3) := by decide +kernel
theorem d_N_dequeue_24 : decode prog_4_method_6_code 24 = .ok (.if_icmp .ge 23, 3) := by decide +kernel
theorem d_N_dequeue_27 : decode prog_4_method_6_code 27 = .ok (.aload_n 0, 1) := by decide +kernel
theorem d_N_dequeue_28 : decode prog_4_method_6_code 28 = .ok (.getfield 27, 3) := by decide +kernel
theorem d_N_dequeue_31 : decode prog_4_method_6_code 31 = .ok (.iload_n 1, 1) := by decide +kernel
theorem d_N_dequeue_32 : decode prog_4_method_6_code 32 = .ok (.aload_n 0, 1) := by decide +kernel
theorem d_N_dequeue_33 : decode prog_4_method_6_code 33 = .ok (.getfield 27, 3) := by decide +kernel
theorem d_N_dequeue_36 : decode prog_4_method_6_code 36 = .ok (.iload_n 1, 1) := by decide +kernel
theorem d_N_dequeue_37 : decode prog_4_method_6_code 37 = .ok (.iconst 1, 1) := by decide +kernel
theorem d_N_dequeue_38 : decode prog_4_method_6_code 38 = .ok (.iadd, 1) := by decide +kernel
theorem d_N_dequeue_39 : decode prog_4_method_6_code 39 = .ok (.aaload, 1) := by decide +kernel
theorem d_N_dequeue_40 : decode prog_4_method_6_code 40 = .ok (.aastore, 1) := by decide +kernel
theorem d_N_dequeue_41 : decode prog_4_method_6_code 41 = .ok (.iinc 1 1, 3) := by decide +kernel
theorem d_N_dequeue_44 : decode prog_4_method_6_code 44 = .ok (.goto (-25), 3) := by decide +kernel
theorem d_N_dequeue_47 : decode prog_4_method_6_code 47 = .ok (.return_, 1) := by decide +kernel
theorem d_N_objectValue_0 : decode prog_4_method_7_code 0 = .ok (.iload_n 1, 1) := by decide +kernel
theorem d_N_objectValue_1 : decode prog_4_method_7_code 1 = .ok (.tableswitch 48 0 2 #[27, 32, 40], 27) := by decide +kernel
theorem d_N_objectValue_28 : decode prog_4_method_7_code 28 = .ok (.aload_n 0, 1) := by decide +kernel
theorem d_N_objectValue_29 : decode prog_4_method_7_code 29 = .ok (.getfield 70, 3) := by decide +kernel
theorem d_N_objectValue_32 : decode prog_4_method_7_code 32 = .ok (.ireturn, 1) := by decide +kernel
theorem d_N_objectValue_33 : decode prog_4_method_7_code 33 = .ok (.aload_n 0, 1) := by decide +kernel
theorem d_N_objectValue_34 : decode prog_4_method_7_code 34 = .ok (.getfield 12, 3) := by decide +kernel
theorem d_N_objectValue_37 : decode prog_4_method_7_code 37 = .ok (.invokevirtual 73, 3) := by decide +kernel
theorem d_N_objectValue_40 : decode prog_4_method_7_code 40 = .ok (.ireturn, 1) := by decide +kernel
theorem d_N_objectValue_41 : decode prog_4_method_7_code 41 = .ok (.aload_n 0, 1) := by decide +kernel
theorem d_N_objectValue_42 : decode prog_4_method_7_code 42 = .ok (.getfield 21, 3) := by decide +kernel
theorem d_N_objectValue_45 : decode prog_4_method_7_code 45 = .ok (.getfield 77, 3) := by decide +kernel
theorem d_N_objectValue_48 : decode prog_4_method_7_code 48 = .ok (.ireturn, 1) := by decide +kernel
theorem d_N_objectValue_49 : decode prog_4_method_7_code 49 = .ok (.iconst 0, 1) := by decide +kernel
theorem d_N_objectValue_50 : decode prog_4_method_7_code 50 = .ok (.ireturn, 1) := by decide +kernel
theorem d_N_carryOut_0 : decode prog_4_method_8_code 0 = .ok (.aload_n 1, 1) := by decide +kernel
theorem d_N_carryOut_1 : decode prog_4_method_8_code 1 = .ok (.getfield 80, 3) := by decide +kernel
theorem d_N_carryOut_4 : decode prog_4_method_8_code 4 = .ok (.tableswitch 150 1 4 #[32, 56, 72, 110], 32) := by decide +kernel
theorem d_N_carryOut_36 : decode prog_4_method_8_code 36 = .ok (.aload_n 1, 1) := by decide +kernel
theorem d_N_carryOut_37 : decode prog_4_method_8_code 37 = .ok (.aload_n 1, 1) := by decide +kernel
theorem d_N_carryOut_38 : decode prog_4_method_8_code 38 = .ok (.getfield 83, 3) := by decide +kernel
theorem d_N_carryOut_41 : decode prog_4_method_8_code 41 = .ok (.iconst 0, 1) := by decide +kernel
theorem d_N_carryOut_42 : decode prog_4_method_8_code 42 = .ok (.iconst 2, 1) := by decide +kernel
theorem d_N_carryOut_43 : decode prog_4_method_8_code 43 = .ok (.invokestatic 86, 3) := by decide +kernel
theorem d_N_carryOut_46 : decode prog_4_method_8_code 46 = .ok (.aload_n 0, 1) := by decide +kernel
theorem d_N_carryOut_47 : decode prog_4_method_8_code 47 = .ok (.aload_n 1, 1) := by decide +kernel
theorem d_N_carryOut_48 : decode prog_4_method_8_code 48 = .ok (.getfield 83, 3) := by decide +kernel
theorem d_N_carryOut_51 : decode prog_4_method_8_code 51 = .ok (.invokevirtual 90, 3) := by decide +kernel
theorem d_N_carryOut_54 : decode prog_4_method_8_code 54 = .ok (.invokevirtual 94, 3) := by decide +kernel
theorem d_N_carryOut_57 : decode prog_4_method_8_code 57 = .ok (.goto 103, 3) := by decide +kernel
theorem d_N_carryOut_60 : decode prog_4_method_8_code 60 = .ok (.aload_n 1, 1) := by decide +kernel
theorem d_N_carryOut_61 : decode prog_4_method_8_code 61 = .ok (.aload_n 0, 1) := by decide +kernel
theorem d_N_carryOut_62 : decode prog_4_method_8_code 62 = .ok (.aload_n 1, 1) := by decide +kernel
theorem d_N_carryOut_63 : decode prog_4_method_8_code 63 = .ok (.invokevirtual 98, 3) := by decide +kernel
theorem d_N_carryOut_66 : decode prog_4_method_8_code 66 = .ok (.aload_n 1, 1) := by decide +kernel
theorem d_N_carryOut_67 : decode prog_4_method_8_code 67 = .ok (.getfield 102, 3) := by decide +kernel
theorem d_N_carryOut_70 : decode prog_4_method_8_code 70 = .ok (.invokevirtual 94, 3) := by decide +kernel
theorem d_N_carryOut_73 : decode prog_4_method_8_code 73 = .ok (.goto 87, 3) := by decide +kernel
theorem d_N_carryOut_76 : decode prog_4_method_8_code 76 = .ok (.aload_n 1, 1) := by decide +kernel
theorem d_N_carryOut_77 : decode prog_4_method_8_code 77 = .ok (.aload_n 1, 1) := by decide +kernel
theorem d_N_carryOut_78 : decode prog_4_method_8_code 78 = .ok (.getfield 83, 3) := by decide +kernel
theorem d_N_carryOut_81 : decode prog_4_method_8_code 81 = .ok (.iconst 1, 1) := by decide +kernel
theorem d_N_carryOut_82 : decode prog_4_method_8_code 82 = .ok (.if_icmp .ne 21, 3) := by decide +kernel
theorem d_N_carryOut_85 : decode prog_4_method_8_code 85 = .ok (.aload_n 0, 1) := by decide +kernel
theorem d_N_carryOut_86 : decode prog_4_method_8_code 86 = .ok (.getfield 12, 3) := by decide +kernel
theorem d_N_carryOut_89 : decode prog_4_method_8_code 89 = .ok (.aload_n 1, 1) := by decide +kernel
theorem d_N_carryOut_90 : decode prog_4_method_8_code 90 = .ok (.getfield 103, 3) := by decide +kernel
theorem d_N_carryOut_93 : decode prog_4_method_8_code 93 = .ok (.invokevirtual 106, 3) := by decide +kernel
theorem d_N_carryOut_96 : decode prog_4_method_8_code 96 = .ok (.ifCond .eq 7, 3) := by decide +kernel
theorem d_N_carryOut_99 : decode prog_4_method_8_code 99 = .ok (.iconst 1, 1) := by decide +kernel
theorem d_N_carryOut_100 : decode prog_4_method_8_code 100 = .ok (.goto 4, 3) := by decide +kernel
theorem d_N_carryOut_103 : decode prog_4_method_8_code 103 = .ok (.iconst 0, 1) := by decide +kernel
theorem d_N_carryOut_104 : decode prog_4_method_8_code 104 = .ok (.aload_n 1, 1) := by decide +kernel
theorem d_N_carryOut_105 : decode prog_4_method_8_code 105 = .ok (.getfield 102, 3) := by decide +kernel
theorem d_N_carryOut_108 : decode prog_4_method_8_code 108 = .ok (.invokevirtual 94, 3) := by decide +kernel
theorem d_N_carryOut_111 : decode prog_4_method_8_code 111 = .ok (.goto 49, 3) := by decide +kernel
theorem d_N_carryOut_114 : decode prog_4_method_8_code 114 = .ok (.aload_n 1, 1) := by decide +kernel
theorem d_N_carryOut_115 : decode prog_4_method_8_code 115 = .ok (.aload_n 1, 1) := by decide +kernel
theorem d_N_carryOut_116 : decode prog_4_method_8_code 116 = .ok (.getfield 83, 3) := by decide +kernel
theorem d_N_carryOut_119 : decode prog_4_method_8_code 119 = .ok (.iconst 0, 1) := by decide +kernel
theorem d_N_carryOut_120 : decode prog_4_method_8_code 120 = .ok (.iconst 1, 1) := by decide +kernel
theorem d_N_carryOut_121 : decode prog_4_method_8_code 121 = .ok (.invokestatic 86, 3) := by decide +kernel
theorem d_N_carryOut_124 : decode prog_4_method_8_code 124 = .ok (.ifCond .eq 19, 3) := by decide +kernel
theorem d_N_carryOut_127 : decode prog_4_method_8_code 127 = .ok (.aload_n 0, 1) := by decide +kernel
theorem d_N_carryOut_128 : decode prog_4_method_8_code 128 = .ok (.iload_n 2, 1) := by decide +kernel
theorem d_N_carryOut_129 : decode prog_4_method_8_code 129 = .ok (.aload_n 1, 1) := by decide +kernel
theorem d_N_carryOut_130 : decode prog_4_method_8_code 130 = .ok (.getfield 83, 3) := by decide +kernel
theorem d_N_carryOut_133 : decode prog_4_method_8_code 133 = .ok (.invokevirtual 110, 3) := by decide +kernel
theorem d_N_carryOut_136 : decode prog_4_method_8_code 136 = .ok (.ifCond .eq 7, 3) := by decide +kernel
theorem d_N_carryOut_139 : decode prog_4_method_8_code 139 = .ok (.iconst 1, 1) := by decide +kernel
theorem d_N_carryOut_140 : decode prog_4_method_8_code 140 = .ok (.goto 4, 3) := by decide +kernel
theorem d_N_carryOut_143 : decode prog_4_method_8_code 143 = .ok (.iconst 0, 1) := by decide +kernel
theorem d_N_carryOut_144 : decode prog_4_method_8_code 144 = .ok (.aload_n 1, 1) := by decide +kernel
theorem d_N_carryOut_145 : decode prog_4_method_8_code 145 = .ok (.getfield 102, 3) := by decide +kernel
theorem d_N_carryOut_148 : decode prog_4_method_8_code 148 = .ok (.invokevirtual 94, 3) := by decide +kernel
theorem d_N_carryOut_151 : decode prog_4_method_8_code 151 = .ok (.goto 9, 3) := by decide +kernel
theorem d_N_carryOut_154 : decode prog_4_method_8_code 154 = .ok (.aload_n 1, 1) := by decide +kernel
theorem d_N_carryOut_155 : decode prog_4_method_8_code 155 = .ok (.iconst 0, 1) := by decide +kernel
theorem d_N_carryOut_156 : decode prog_4_method_8_code 156 = .ok (.iconst 0, 1) := by decide +kernel
theorem d_N_carryOut_157 : decode prog_4_method_8_code 157 = .ok (.invokevirtual 94, 3) := by decide +kernel
theorem d_N_carryOut_160 : decode prog_4_method_8_code 160 = .ok (.return_, 1) := by decide +kernel
theorem d_N_write_0 : decode prog_4_method_9_code 0 = .ok (.aload_n 1, 1) := by decide +kernel
theorem d_N_write_1 : decode prog_4_method_9_code 1 = .ok (.getfield 83, 3) := by decide +kernel
theorem d_N_write_4 : decode prog_4_method_9_code 4 = .ok (.iconst 1, 1) := by decide +kernel
theorem d_N_write_5 : decode prog_4_method_9_code 5 = .ok (.if_icmp .ne 19, 3) := by decide +kernel
theorem d_N_write_8 : decode prog_4_method_9_code 8 = .ok (.aload_n 0, 1) := by decide +kernel
theorem d_N_write_9 : decode prog_4_method_9_code 9 = .ok (.getfield 12, 3) := by decide +kernel
theorem d_N_write_12 : decode prog_4_method_9_code 12 = .ok (.aload_n 1, 1) := by decide +kernel
theorem d_N_write_13 : decode prog_4_method_9_code 13 = .ok (.getfield 103, 3) := by decide +kernel
theorem d_N_write_16 : decode prog_4_method_9_code 16 = .ok (.aload_n 1, 1) := by decide +kernel
theorem d_N_write_17 : decode prog_4_method_9_code 17 = .ok (.getfield 102, 3) := by decide +kernel
theorem d_N_write_20 : decode prog_4_method_9_code 20 = .ok (.invokevirtual 114, 3) := by decide +kernel
theorem d_N_write_23 : decode prog_4_method_9_code 23 = .ok (.ireturn, 1) := by decide +kernel
theorem d_N_write_24 : decode prog_4_method_9_code 24 = .ok (.aload_n 1, 1) := by decide +kernel
theorem d_N_write_25 : decode prog_4_method_9_code 25 = .ok (.getfield 83, 3) := by decide +kernel
theorem d_N_write_28 : decode prog_4_method_9_code 28 = .ok (.iconst 2, 1) := by decide +kernel
theorem d_N_write_29 : decode prog_4_method_9_code 29 = .ok (.if_icmp .ne 28, 3) := by decide +kernel
theorem d_N_write_32 : decode prog_4_method_9_code 32 = .ok (.aload_n 1, 1) := by decide +kernel
theorem d_N_write_33 : decode prog_4_method_9_code 33 = .ok (.getfield 103, 3) := by decide +kernel
theorem d_N_write_36 : decode prog_4_method_9_code 36 = .ok (.ifCond .ne 21, 3) := by decide +kernel
theorem d_N_write_39 : decode prog_4_method_9_code 39 = .ok (.aload_n 0, 1) := by decide +kernel
theorem d_N_write_40 : decode prog_4_method_9_code 40 = .ok (.getfield 21, 3) := by decide +kernel
theorem d_N_write_43 : decode prog_4_method_9_code 43 = .ok (.aload_n 1, 1) := by decide +kernel
theorem d_N_write_44 : decode prog_4_method_9_code 44 = .ok (.getfield 102, 3) := by decide +kernel
theorem d_N_write_47 : decode prog_4_method_9_code 47 = .ok (.invokevirtual 117, 3) := by decide +kernel
theorem d_N_write_50 : decode prog_4_method_9_code 50 = .ok (.ifCond .eq 7, 3) := by decide +kernel
theorem d_N_write_53 : decode prog_4_method_9_code 53 = .ok (.iconst 1, 1) := by decide +kernel
theorem d_N_write_54 : decode prog_4_method_9_code 54 = .ok (.goto 4, 3) := by decide +kernel
theorem d_N_write_57 : decode prog_4_method_9_code 57 = .ok (.iconst 0, 1) := by decide +kernel
theorem d_N_write_58 : decode prog_4_method_9_code 58 = .ok (.ireturn, 1) := by decide +kernel
theorem d_N_subscribe_0 : decode prog_4_method_10_code 0 = .ok (.aload_n 0, 1) := by decide +kernel
theorem d_N_subscribe_1 : decode prog_4_method_10_code 1 = .ok (.iload_n 2, 1) := by decide +kernel
theorem d_N_subscribe_2 : decode prog_4_method_10_code 2 = .ok (.invokevirtual 90, 3) := by decide +kernel
theorem d_N_subscribe_5 : decode prog_4_method_10_code 5 = .ok (.istore_n 3, 1) := by decide +kernel
theorem d_N_subscribe_6 : decode prog_4_method_10_code 6 = .ok (.iconst 0, 1) := by decide +kernel
theorem d_N_subscribe_7 : decode prog_4_method_10_code 7 = .ok (.istore 4, 2) := by decide +kernel
theorem d_N_subscribe_9 : decode prog_4_method_10_code 9 = .ok (.iload 4, 2) := by decide +kernel
theorem d_N_subscribe_11 : decode prog_4_method_10_code 11 = .ok (.aload_n 0, 1) := by decide +kernel
theorem d_N_subscribe_12 : decode prog_4_method_10_code 12 = .ok (.getfield 61, 3) := by decide +kernel
theorem d_N_subscribe_15 : decode prog_4_method_10_code 15 = .ok (.if_icmp .ge 50, 3) := by decide +kernel
theorem d_N_subscribe_18 : decode prog_4_method_10_code 18 = .ok (.aload_n 0, 1) := by decide +kernel
theorem d_N_subscribe_19 : decode prog_4_method_10_code 19 = .ok (.getfield 33, 3) := by decide +kernel
theorem d_N_subscribe_22 : decode prog_4_method_10_code 22 = .ok (.iload 4, 2) := by decide +kernel
theorem d_N_subscribe_24 : decode prog_4_method_10_code 24 = .ok (.aaload, 1) := by decide +kernel
theorem d_N_subscribe_25 : decode prog_4_method_10_code 25 = .ok (.getfield 120, 3) := by decide +kernel
theorem d_N_subscribe_28 : decode prog_4_method_10_code 28 = .ok (.iload_n 1, 1) := by decide +kernel
theorem d_N_subscribe_29 : decode prog_4_method_10_code 29 = .ok (.if_icmp .ne 30, 3) := by decide +kernel
theorem d_N_subscribe_32 : decode prog_4_method_10_code 32 = .ok (.aload_n 0, 1) := by decide +kernel
theorem d_N_subscribe_33 : decode prog_4_method_10_code 33 = .ok (.getfield 33, 3) := by decide +kernel
theorem d_N_subscribe_36 : decode prog_4_method_10_code 36 = .ok (.iload 4, 2) := by decide +kernel
theorem d_N_subscribe_38 : decode prog_4_method_10_code 38 = .ok (.aaload, 1) := by decide +kernel
theorem d_N_subscribe_39 : decode prog_4_method_10_code 39 = .ok (.getfield 123, 3) := by decide +kernel
theorem d_N_subscribe_42 : decode prog_4_method_10_code 42 = .ok (.iload_n 2, 1) := by decide +kernel
theorem d_N_subscribe_43 : decode prog_4_method_10_code 43 = .ok (.if_icmp .ne 16, 3) := by decide +kernel
theorem d_N_subscribe_46 : decode prog_4_method_10_code 46 = .ok (.aload_n 0, 1) := by decide +kernel
theorem d_N_subscribe_47 : decode prog_4_method_10_code 47 = .ok (.getfield 33, 3) := by decide +kernel
theorem d_N_subscribe_50 : decode prog_4_method_10_code 50 = .ok (.iload 4, 2) := by decide +kernel
theorem d_N_subscribe_52 : decode prog_4_method_10_code 52 = .ok (.aaload, 1) := by decide +kernel
theorem d_N_subscribe_53 : decode prog_4_method_10_code 53 = .ok (.iload_n 3, 1) := by decide +kernel
theorem d_N_subscribe_54 : decode prog_4_method_10_code 54 = .ok (.invokevirtual 124, 3) := by decide +kernel
theorem d_N_subscribe_57 : decode prog_4_method_10_code 57 = .ok (.iconst 1, 1) := by decide +kernel
theorem d_N_subscribe_58 : decode prog_4_method_10_code 58 = .ok (.ireturn, 1) := by decide +kernel
theorem d_N_subscribe_59 : decode prog_4_method_10_code 59 = .ok (.iinc 4 1, 3) := by decide +kernel
theorem d_N_subscribe_62 : decode prog_4_method_10_code 62 = .ok (.goto (-53), 3) := by decide +kernel
theorem d_N_subscribe_65 : decode prog_4_method_10_code 65 = .ok (.aload_n 0, 1) := by decide +kernel
theorem d_N_subscribe_66 : decode prog_4_method_10_code 66 = .ok (.getfield 61, 3) := by decide +kernel
theorem d_N_subscribe_69 : decode prog_4_method_10_code 69 = .ok (.iconst 3, 1) := by decide +kernel
theorem d_N_subscribe_70 : decode prog_4_method_10_code 70 = .ok (.if_icmp .lt 5, 3) := by decide +kernel
theorem d_N_subscribe_73 : decode prog_4_method_10_code 73 = .ok (.iconst 0, 1) := by decide +kernel
theorem d_N_subscribe_74 : decode prog_4_method_10_code 74 = .ok (.ireturn, 1) := by decide +kernel
theorem d_N_subscribe_75 : decode prog_4_method_10_code 75 = .ok (.aload_n 0, 1) := by decide +kernel
theorem d_N_subscribe_76 : decode prog_4_method_10_code 76 = .ok (.getfield 33, 3) := by decide +kernel
theorem d_N_subscribe_79 : decode prog_4_method_10_code 79 = .ok (.aload_n 0, 1) := by decide +kernel
theorem d_N_subscribe_80 : decode prog_4_method_10_code 80 = .ok (.getfield 61, 3) := by decide +kernel
theorem d_N_subscribe_83 : decode prog_4_method_10_code 83 = .ok (.aaload, 1) := by decide +kernel
theorem d_N_subscribe_84 : decode prog_4_method_10_code 84 = .ok (.iload_n 1, 1) := by decide +kernel
theorem d_N_subscribe_85 : decode prog_4_method_10_code 85 = .ok (.iload_n 2, 1) := by decide +kernel
theorem d_N_subscribe_86 : decode prog_4_method_10_code 86 = .ok (.iload_n 3, 1) := by decide +kernel
theorem d_N_subscribe_87 : decode prog_4_method_10_code 87 = .ok (.invokevirtual 128, 3) := by decide +kernel
theorem d_N_subscribe_90 : decode prog_4_method_10_code 90 = .ok (.aload_n 0, 1) := by decide +kernel
theorem d_N_subscribe_91 : decode prog_4_method_10_code 91 = .ok (.dup, 1) := by decide +kernel
theorem d_N_subscribe_92 : decode prog_4_method_10_code 92 = .ok (.getfield 61, 3) := by decide +kernel
theorem d_N_subscribe_95 : decode prog_4_method_10_code 95 = .ok (.iconst 1, 1) := by decide +kernel
theorem d_N_subscribe_96 : decode prog_4_method_10_code 96 = .ok (.iadd, 1) := by decide +kernel
theorem d_N_subscribe_97 : decode prog_4_method_10_code 97 = .ok (.putfield 61, 3) := by decide +kernel
theorem d_N_subscribe_100 : decode prog_4_method_10_code 100 = .ok (.iconst 1, 1) := by decide +kernel
theorem d_N_subscribe_101 : decode prog_4_method_10_code 101 = .ok (.ireturn, 1) := by decide +kernel
theorem d_N_firstDue_0 : decode prog_4_method_11_code 0 = .ok (.iconst 0, 1) := by decide +kernel
theorem d_N_firstDue_1 : decode prog_4_method_11_code 1 = .ok (.istore_n 1, 1) := by decide +kernel
theorem d_N_firstDue_2 : decode prog_4_method_11_code 2 = .ok (.iload_n 1, 1) := by decide +kernel
theorem d_N_firstDue_3 : decode prog_4_method_11_code 3 = .ok (.aload_n 0, 1) := by decide +kernel
theorem d_N_firstDue_4 : decode prog_4_method_11_code 4 = .ok (.getfield 61, 3) := by decide +kernel
theorem d_N_firstDue_7 : decode prog_4_method_11_code 7 = .ok (.if_icmp .ge 28, 3) := by decide +kernel
theorem d_N_firstDue_10 : decode prog_4_method_11_code 10 = .ok (.aload_n 0, 1) := by decide +kernel
theorem d_N_firstDue_11 : decode prog_4_method_11_code 11 = .ok (.getfield 33, 3) := by decide +kernel
theorem d_N_firstDue_14 : decode prog_4_method_11_code 14 = .ok (.iload_n 1, 1) := by decide +kernel
theorem d_N_firstDue_15 : decode prog_4_method_11_code 15 = .ok (.aaload, 1) := by decide +kernel
theorem d_N_firstDue_16 : decode prog_4_method_11_code 16 = .ok (.getfield 132, 3) := by decide +kernel
theorem d_N_firstDue_19 : decode prog_4_method_11_code 19 = .ok (.ifCond .eq 10, 3) := by decide +kernel
theorem d_N_firstDue_22 : decode prog_4_method_11_code 22 = .ok (.aload_n 0, 1) := by decide +kernel
theorem d_N_firstDue_23 : decode prog_4_method_11_code 23 = .ok (.getfield 33, 3) := by decide +kernel
theorem d_N_firstDue_26 : decode prog_4_method_11_code 26 = .ok (.iload_n 1, 1) := by decide +kernel
theorem d_N_firstDue_27 : decode prog_4_method_11_code 27 = .ok (.aaload, 1) := by decide +kernel
theorem d_N_firstDue_28 : decode prog_4_method_11_code 28 = .ok (.areturn, 1) := by decide +kernel
theorem d_N_firstDue_29 : decode prog_4_method_11_code 29 = .ok (.iinc 1 1, 3) := by decide +kernel
theorem d_N_firstDue_32 : decode prog_4_method_11_code 32 = .ok (.goto (-30), 3) := by decide +kernel
theorem d_N_firstDue_35 : decode prog_4_method_11_code 35 = .ok (.aconst_null, 1) := by decide +kernel
theorem d_N_firstDue_36 : decode prog_4_method_11_code 36 = .ok (.areturn, 1) := by decide +kernel
theorem d_N_note_0 : decode prog_4_method_12_code 0 = .ok (.aload_n 0, 1) := by decide +kernel
theorem d_N_note_1 : decode prog_4_method_12_code 1 = .ok (.iload_n 1, 1) := by decide +kernel
theorem d_N_note_2 : decode prog_4_method_12_code 2 = .ok (.putfield 135, 3) := by decide +kernel
theorem d_N_note_5 : decode prog_4_method_12_code 5 = .ok (.aload_n 0, 1) := by decide +kernel
theorem d_N_note_6 : decode prog_4_method_12_code 6 = .ok (.iload_n 2, 1) := by decide +kernel
theorem d_N_note_7 : decode prog_4_method_12_code 7 = .ok (.putfield 138, 3) := by decide +kernel
theorem d_N_note_10 : decode prog_4_method_12_code 10 = .ok (.aload_n 0, 1) := by decide +kernel
theorem d_N_note_11 : decode prog_4_method_12_code 11 = .ok (.iload_n 3, 1) := by decide +kernel
theorem d_N_note_12 : decode prog_4_method_12_code 12 = .ok (.putfield 141, 3) := by decide +kernel
theorem d_N_note_15 : decode prog_4_method_12_code 15 = .ok (.aload_n 0, 1) := by decide +kernel
theorem d_N_note_16 : decode prog_4_method_12_code 16 = .ok (.dup, 1) := by decide +kernel
theorem d_N_note_17 : decode prog_4_method_12_code 17 = .ok (.getfield 144, 3) := by decide +kernel
theorem d_N_note_20 : decode prog_4_method_12_code 20 = .ok (.iconst 1, 1) := by decide +kernel
theorem d_N_note_21 : decode prog_4_method_12_code 21 = .ok (.iadd, 1) := by decide +kernel
theorem d_N_note_22 : decode prog_4_method_12_code 22 = .ok (.putfield 144, 3) := by decide +kernel
theorem d_N_note_25 : decode prog_4_method_12_code 25 = .ok (.return_, 1) := by decide +kernel
theorem d_N_runLoop_0 : decode prog_4_method_13_code 0 = .ok (.aload_n 0, 1) := by decide +kernel
theorem d_N_runLoop_1 : decode prog_4_method_13_code 1 = .ok (.getfield 21, 3) := by decide +kernel
theorem d_N_runLoop_4 : decode prog_4_method_13_code 4 = .ok (.invokevirtual 147, 3) := by decide +kernel
theorem d_N_runLoop_7 : decode prog_4_method_13_code 7 = .ok (.ifCond .ne 24, 3) := by decide +kernel
theorem d_N_runLoop_10 : decode prog_4_method_13_code 10 = .ok (.aload_n 0, 1) := by decide +kernel
theorem d_N_runLoop_11 : decode prog_4_method_13_code 11 = .ok (.getfield 12, 3) := by decide +kernel
theorem d_N_runLoop_14 : decode prog_4_method_13_code 14 = .ok (.bipush 15, 2) := by decide +kernel
theorem d_N_runLoop_16 : decode prog_4_method_13_code 16 = .ok (.aload_n 0, 1) := by decide +kernel
theorem d_N_runLoop_17 : decode prog_4_method_13_code 17 = .ok (.getfield 21, 3) := by decide +kernel
theorem d_N_runLoop_20 : decode prog_4_method_13_code 20 = .ok (.aload_n 0, 1) := by decide +kernel
theorem d_N_runLoop_21 : decode prog_4_method_13_code 21 = .ok (.getfield 70, 3) := by decide +kernel
theorem d_N_runLoop_24 : decode prog_4_method_13_code 24 = .ok (.invokevirtual 151, 3) := by decide +kernel
theorem d_N_runLoop_27 : decode prog_4_method_13_code 27 = .ok (.invokevirtual 114, 3) := by decide +kernel
theorem d_N_runLoop_30 : decode prog_4_method_13_code 30 = .ok (.pop, 1) := by decide +kernel
theorem d_N_runLoop_31 : decode prog_4_method_13_code 31 = .ok (.return_, 1) := by decide +kernel
theorem d_N_findDue_0 : decode prog_4_method_14_code 0 = .ok (.iconst 0, 1) := by decide +kernel
theorem d_N_findDue_1 : decode prog_4_method_14_code 1 = .ok (.istore_n 1, 1) := by decide +kernel
theorem d_N_findDue_2 : decode prog_4_method_14_code 2 = .ok (.iload_n 1, 1) := by decide +kernel
theorem d_N_findDue_3 : decode prog_4_method_14_code 3 = .ok (.aload_n 0, 1) := by decide +kernel
theorem d_N_findDue_4 : decode prog_4_method_14_code 4 = .ok (.getfield 61, 3) := by decide +kernel
theorem d_N_findDue_7 : decode prog_4_method_14_code 7 = .ok (.if_icmp .ge 31, 3) := by decide +kernel
theorem d_N_findDue_10 : decode prog_4_method_14_code 10 = .ok (.aload_n 0, 1) := by decide +kernel
theorem d_N_findDue_11 : decode prog_4_method_14_code 11 = .ok (.getfield 33, 3) := by decide +kernel
theorem d_N_findDue_14 : decode prog_4_method_14_code 14 = .ok (.iload_n 1, 1) := by decide +kernel
theorem d_N_findDue_15 : decode prog_4_method_14_code 15 = .ok (.aaload, 1) := by decide +kernel
theorem d_N_findDue_16 : decode prog_4_method_14_code 16 = .ok (.aload_n 0, 1) := by decide +kernel
theorem d_N_findDue_17 : decode prog_4_method_14_code 17 = .ok (.aload_n 0, 1) := by decide +kernel
theorem d_N_findDue_18 : decode prog_4_method_14_code 18 = .ok (.getfield 33, 3) := by decide +kernel
theorem d_N_findDue_21 : decode prog_4_method_14_code 21 = .ok (.iload_n 1, 1) := by decide +kernel
theorem d_N_findDue_22 : decode prog_4_method_14_code 22 = .ok (.aaload, 1) := by decide +kernel
theorem d_N_findDue_23 : decode prog_4_method_14_code 23 = .ok (.getfield 123, 3) := by decide +kernel
theorem d_N_findDue_26 : decode prog_4_method_14_code 26 = .ok (.invokevirtual 90, 3) := by decide +kernel
theorem d_N_findDue_29 : decode prog_4_method_14_code 29 = .ok (.invokevirtual 154, 3) := by decide +kernel
theorem d_N_findDue_32 : decode prog_4_method_14_code 32 = .ok (.iinc 1 1, 3) := by decide +kernel
theorem d_N_findDue_35 : decode prog_4_method_14_code 35 = .ok (.goto (-33), 3) := by decide +kernel
theorem d_N_findDue_38 : decode prog_4_method_14_code 38 = .ok (.return_, 1) := by decide +kernel
theorem d_N_fact_0 : decode prog_4_method_15_code 0 = .ok (.iload_n 1, 1) := by decide +kernel
theorem d_N_fact_1 : decode prog_4_method_15_code 1 = .ok (.tableswitch 98 0 7 #[47, 60, 65, 70, 75, 80, 85, 90], 47) := by decide +kernel
theorem d_N_fact_48 : decode prog_4_method_15_code 48 = .ok (.aload_n 0, 1) := by decide +kernel
theorem d_N_fact_49 : decode prog_4_method_15_code 49 = .ok (.getfield 48, 3) := by decide +kernel
theorem d_N_fact_52 : decode prog_4_method_15_code 52 = .ok (.ifCond .eq 7, 3) := by decide +kernel
theorem d_N_fact_55 : decode prog_4_method_15_code 55 = .ok (.iconst 1, 1) := by decide +kernel
theorem d_N_fact_56 : decode prog_4_method_15_code 56 = .ok (.goto 4, 3) := by decide +kernel
theorem d_N_fact_59 : decode prog_4_method_15_code 59 = .ok (.iconst 0, 1) := by decide +kernel
theorem d_N_fact_60 : decode prog_4_method_15_code 60 = .ok (.ireturn, 1) := by decide +kernel
theorem d_N_fact_61 : decode prog_4_method_15_code 61 = .ok (.aload_n 0, 1) := by decide +kernel
theorem d_N_fact_62 : decode prog_4_method_15_code 62 = .ok (.getfield 41, 3) := by decide +kernel
theorem d_N_fact_65 : decode prog_4_method_15_code 65 = .ok (.ireturn, 1) := by decide +kernel
theorem d_N_fact_66 : decode prog_4_method_15_code 66 = .ok (.aload_n 0, 1) := by decide +kernel
theorem d_N_fact_67 : decode prog_4_method_15_code 67 = .ok (.getfield 44, 3) := by decide +kernel
theorem d_N_fact_70 : decode prog_4_method_15_code 70 = .ok (.ireturn, 1) := by decide +kernel
theorem d_N_fact_71 : decode prog_4_method_15_code 71 = .ok (.aload_n 0, 1) := by decide +kernel
theorem d_N_fact_72 : decode prog_4_method_15_code 72 = .ok (.getfield 55, 3) := by decide +kernel
theorem d_N_fact_75 : decode prog_4_method_15_code 75 = .ok (.ireturn, 1) := by decide +kernel
theorem d_N_fact_76 : decode prog_4_method_15_code 76 = .ok (.aload_n 0, 1) := by decide +kernel
theorem d_N_fact_77 : decode prog_4_method_15_code 77 = .ok (.getfield 67, 3) := by decide +kernel
theorem d_N_fact_80 : decode prog_4_method_15_code 80 = .ok (.ireturn, 1) := by decide +kernel
theorem d_N_fact_81 : decode prog_4_method_15_code 81 = .ok (.aload_n 0, 1) := by decide +kernel
theorem d_N_fact_82 : decode prog_4_method_15_code 82 = .ok (.getfield 64, 3) := by decide +kernel
theorem d_N_fact_85 : decode prog_4_method_15_code 85 = .ok (.ireturn, 1) := by decide +kernel
theorem d_N_fact_86 : decode prog_4_method_15_code 86 = .ok (.aload_n 0, 1) := by decide +kernel
theorem d_N_fact_87 : decode prog_4_method_15_code 87 = .ok (.getfield 61, 3) := by decide +kernel
theorem d_N_fact_90 : decode prog_4_method_15_code 90 = .ok (.ireturn, 1) := by decide +kernel
theorem d_N_fact_91 : decode prog_4_method_15_code 91 = .ok (.aload_n 0, 1) := by decide +kernel
theorem d_N_fact_92 : decode prog_4_method_15_code 92 = .ok (.getfield 21, 3) := by decide +kernel
theorem d_N_fact_95 : decode prog_4_method_15_code 95 = .ok (.getfield 58, 3) := by decide +kernel
theorem d_N_fact_98 : decode prog_4_method_15_code 98 = .ok (.ireturn, 1) := by decide +kernel
theorem d_N_fact_99 : decode prog_4_method_15_code 99 = .ok (.iconst (-1), 1) := by decide +kernel
theorem d_N_fact_100 : decode prog_4_method_15_code 100 = .ok (.ireturn, 1) := by decide +kernel
theorem d_N_notedFact_0 : decode prog_4_method_16_code 0 = .ok (.iload_n 1, 1) := by decide +kernel
theorem d_N_notedFact_1 : decode prog_4_method_16_code 1 = .ok (.iconst 3, 1) := by decide +kernel
theorem d_N_notedFact_2 : decode prog_4_method_16_code 2 = .ok (.if_icmp .ne 8, 3) := by decide +kernel
theorem d_N_notedFact_5 : decode prog_4_method_16_code 5 = .ok (.aload_n 0, 1) := by decide +kernel
theorem d_N_notedFact_6 : decode prog_4_method_16_code 6 = .ok (.getfield 144, 3) := by decide +kernel
theorem d_N_notedFact_9 : decode prog_4_method_16_code 9 = .ok (.ireturn, 1) := by decide +kernel
theorem d_N_notedFact_10 : decode prog_4_method_16_code 10 = .ok (.aload_n 0, 1) := by decide +kernel
theorem d_N_notedFact_11 : decode prog_4_method_16_code 11 = .ok (.getfield 144, 3) := by decide +kernel
theorem d_N_notedFact_14 : decode prog_4_method_16_code 14 = .ok (.ifCond .ne 5, 3) := by decide +kernel
theorem d_N_notedFact_17 : decode prog_4_method_16_code 17 = .ok (.iconst (-1), 1) := by decide +kernel
theorem d_N_notedFact_18 : decode prog_4_method_16_code 18 = .ok (.ireturn, 1) := by decide +kernel
theorem d_N_notedFact_19 : decode prog_4_method_16_code 19 = .ok (.iload_n 1, 1) := by decide +kernel
theorem d_N_notedFact_20 : decode prog_4_method_16_code 20 = .ok (.tableswitch 43 0 2 #[28, 33, 38], 28) := by decide +kernel
theorem d_N_notedFact_48 : decode prog_4_method_16_code 48 = .ok (.aload_n 0, 1) := by decide +kernel
theorem d_N_notedFact_49 : decode prog_4_method_16_code 49 = .ok (.getfield 135, 3) := by decide +kernel
theorem d_N_notedFact_52 : decode prog_4_method_16_code 52 = .ok (.ireturn, 1) := by decide +kernel
theorem d_N_notedFact_53 : decode prog_4_method_16_code 53 = .ok (.aload_n 0, 1) := by decide +kernel
theorem d_N_notedFact_54 : decode prog_4_method_16_code 54 = .ok (.getfield 138, 3) := by decide +kernel
theorem d_N_notedFact_57 : decode prog_4_method_16_code 57 = .ok (.ireturn, 1) := by decide +kernel
theorem d_N_notedFact_58 : decode prog_4_method_16_code 58 = .ok (.aload_n 0, 1) := by decide +kernel
theorem d_N_notedFact_59 : decode prog_4_method_16_code 59 = .ok (.getfield 141, 3) := by decide +kernel
theorem d_N_notedFact_62 : decode prog_4_method_16_code 62 = .ok (.ireturn, 1) := by decide +kernel
theorem d_N_notedFact_63 : decode prog_4_method_16_code 63 = .ok (.iconst (-1), 1) := by decide +kernel
theorem d_N_notedFact_64 : decode prog_4_method_16_code 64 = .ok (.ireturn, 1) := by decide +kernel
theorem d_O_init_0 : decode prog_5_method_1_code 0 = .ok (.aload_n 0, 1) := by decide +kernel
theorem d_O_init_1 : decode prog_5_method_1_code 1 = .ok (.invokespecial 3, 3) := by decide +kernel
theorem d_O_init_4 : decode prog_5_method_1_code 4 = .ok (.aload_n 0, 1) := by decide +kernel
theorem d_O_init_5 : decode prog_5_method_1_code 5 = .ok (.bipush 16, 2) := by decide +kernel
theorem d_O_init_7 : decode prog_5_method_1_code 7 = .ok (.newarray .int, 2) := by decide +kernel
theorem d_O_init_9 : decode prog_5_method_1_code 9 = .ok (.putfield 9, 3) := by decide +kernel
theorem d_O_init_12 : decode prog_5_method_1_code 12 = .ok (.aload_n 0, 1) := by decide +kernel
theorem d_O_init_13 : decode prog_5_method_1_code 13 = .ok (.bipush 16, 2) := by decide +kernel
theorem d_O_init_15 : decode prog_5_method_1_code 15 = .ok (.newarray .boolean, 2) := by decide +kernel
theorem d_O_init_17 : decode prog_5_method_1_code 17 = .ok (.putfield 15, 3) := by decide +kernel
theorem d_O_init_20 : decode prog_5_method_1_code 20 = .ok (.return_, 1) := by decide +kernel
theorem d_O_isFilled_0 : decode prog_5_method_2_code 0 = .ok (.iload_n 1, 1) := by decide +kernel
theorem d_O_isFilled_1 : decode prog_5_method_2_code 1 = .ok (.iconst 1, 1) := by decide +kernel
theorem d_O_isFilled_2 : decode prog_5_method_2_code 2 = .ok (.bipush 16, 2) := by decide +kernel
theorem d_O_isFilled_4 : decode prog_5_method_2_code 4 = .ok (.invokestatic 19, 3) := by decide +kernel
theorem d_O_isFilled_7 : decode prog_5_method_2_code 7 = .ok (.ifCond .eq 18, 3) := by decide +kernel
theorem d_O_isFilled_10 : decode prog_5_method_2_code 10 = .ok (.aload_n 0, 1) := by decide +kernel
theorem d_O_isFilled_11 : decode prog_5_method_2_code 11 = .ok (.getfield 15, 3) := by decide +kernel
theorem d_O_isFilled_14 : decode prog_5_method_2_code 14 = .ok (.iload_n 1, 1) := by decide +kernel
theorem d_O_isFilled_15 : decode prog_5_method_2_code 15 = .ok (.iconst 1, 1) := by decide +kernel
theorem d_O_isFilled_16 : decode prog_5_method_2_code 16 = .ok (.isub, 1) := by decide +kernel
theorem d_O_isFilled_17 : decode prog_5_method_2_code 17 = .ok (.baload, 1) := by decide +kernel
theorem d_O_isFilled_18 : decode prog_5_method_2_code 18 = .ok (.ifCond .eq 7, 3) := by decide +kernel
theorem d_O_isFilled_21 : decode prog_5_method_2_code 21 = .ok (.iconst 1, 1) := by decide +kernel
theorem d_O_isFilled_22 : decode prog_5_method_2_code 22 = .ok (.goto 4, 3) := by decide +kernel
theorem d_O_isFilled_25 : decode prog_5_method_2_code 25 = .ok (.iconst 0, 1) := by decide +kernel
theorem d_O_isFilled_26 : decode prog_5_method_2_code 26 = .ok (.ireturn, 1) := by decide +kernel
theorem d_O_numberAt_0 : decode prog_5_method_3_code 0 = .ok (.aload_n 0, 1) := by decide +kernel
theorem d_O_numberAt_1 : decode prog_5_method_3_code 1 = .ok (.iload_n 1, 1) := by decide +kernel
theorem d_O_numberAt_2 : decode prog_5_method_3_code 2 = .ok (.invokevirtual 23, 3) := by decide +kernel
theorem d_O_numberAt_5 : decode prog_5_method_3_code 5 = .ok (.ifCond .eq 14, 3) := by decide +kernel
theorem d_O_numberAt_8 : decode prog_5_method_3_code 8 = .ok (.aload_n 0, 1) := by decide +kernel
theorem d_O_numberAt_9 : decode prog_5_method_3_code 9 = .ok (.getfield 9, 3) := by decide +kernel
theorem d_O_numberAt_12 : decode prog_5_method_3_code 12 = .ok (.iload_n 1, 1) := by decide +kernel
theorem d_O_numberAt_13 : decode prog_5_method_3_code 13 = .ok (.iconst 1, 1) := by decide +kernel
theorem d_O_numberAt_14 : decode prog_5_method_3_code 14 = .ok (.isub, 1) := by decide +kernel
theorem d_O_numberAt_15 : decode prog_5_method_3_code 15 = .ok (.iaload, 1) := by decide +kernel
theorem d_O_numberAt_16 : decode prog_5_method_3_code 16 = .ok (.goto 4, 3) := by decide +kernel
theorem d_O_numberAt_19 : decode prog_5_method_3_code 19 = .ok (.iconst 0, 1) := by decide +kernel
theorem d_O_numberAt_20 : decode prog_5_method_3_code 20 = .ok (.ireturn, 1) := by decide +kernel
theorem d_O_fill_0 : decode prog_5_method_4_code 0 = .ok (.iload_n 1, 1) := by decide +kernel
theorem d_O_fill_1 : decode prog_5_method_4_code 1 = .ok (.iconst 1, 1) := by decide +kernel
theorem d_O_fill_2 : decode prog_5_method_4_code 2 = .ok (.bipush 16, 2) := by decide +kernel
theorem d_O_fill_4 : decode prog_5_method_4_code 4 = .ok (.invokestatic 19, 3) := by decide +kernel
theorem d_O_fill_7 : decode prog_5_method_4_code 7 = .ok (.ifCond .ne 5, 3) := by decide +kernel
theorem d_O_fill_10 : decode prog_5_method_4_code 10 = .ok (.iconst 0, 1) := by decide +kernel
theorem d_O_fill_11 : decode prog_5_method_4_code 11 = .ok (.ireturn, 1) := by decide +kernel
theorem d_O_fill_12 : decode prog_5_method_4_code 12 = .ok (.aload_n 0, 1) := by decide +kernel
theorem d_O_fill_13 : decode prog_5_method_4_code 13 = .ok (.getfield 9, 3) := by decide +kernel
theorem d_O_fill_16 : decode prog_5_method_4_code 16 = .ok (.iload_n 1, 1) := by decide +kernel
theorem d_O_fill_17 : decode prog_5_method_4_code 17 = .ok (.iconst 1, 1) := by decide +kernel
theorem d_O_fill_18 : decode prog_5_method_4_code 18 = .ok (.isub, 1) := by decide +kernel
theorem d_O_fill_19 : decode prog_5_method_4_code 19 = .ok (.iload_n 2, 1) := by decide +kernel
theorem d_O_fill_20 : decode prog_5_method_4_code 20 = .ok (.iastore, 1) := by decide +kernel
theorem d_O_fill_21 : decode prog_5_method_4_code 21 = .ok (.aload_n 0, 1) := by decide +kernel
theorem d_O_fill_22 : decode prog_5_method_4_code 22 = .ok (.getfield 15, 3) := by decide +kernel
theorem d_O_fill_25 : decode prog_5_method_4_code 25 = .ok (.iload_n 1, 1) := by decide +kernel
theorem d_O_fill_26 : decode prog_5_method_4_code 26 = .ok (.iconst 1, 1) := by decide +kernel
theorem d_O_fill_27 : decode prog_5_method_4_code 27 = .ok (.isub, 1) := by decide +kernel
theorem d_O_fill_28 : decode prog_5_method_4_code 28 = .ok (.iconst 1, 1) := by decide +kernel
theorem d_O_fill_29 : decode prog_5_method_4_code 29 = .ok (.bastore, 1) := by decide +kernel
theorem d_O_fill_30 : decode prog_5_method_4_code 30 = .ok (.iconst 1, 1) := by decide +kernel
theorem d_O_fill_31 : decode prog_5_method_4_code 31 = .ok (.ireturn, 1) := by decide +kernel
theorem d_O_release_0 : decode prog_5_method_5_code 0 = .ok (.iload_n 1, 1) := by decide +kernel
theorem d_O_release_1 : decode prog_5_method_5_code 1 = .ok (.iconst 1, 1) := by decide +kernel
theorem d_O_release_2 : decode prog_5_method_5_code 2 = .ok (.bipush 16, 2) := by decide +kernel
theorem d_O_release_4 : decode prog_5_method_5_code 4 = .ok (.invokestatic 19, 3) := by decide +kernel
theorem d_O_release_7 : decode prog_5_method_5_code 7 = .ok (.ifCond .ne 5, 3) := by decide +kernel
theorem d_O_release_10 : decode prog_5_method_5_code 10 = .ok (.iconst 0, 1) := by decide +kernel
theorem d_O_release_11 : decode prog_5_method_5_code 11 = .ok (.ireturn, 1) := by decide +kernel
theorem d_O_release_12 : decode prog_5_method_5_code 12 = .ok (.aload_n 0, 1) := by decide +kernel
theorem d_O_release_13 : decode prog_5_method_5_code 13 = .ok (.getfield 15, 3) := by decide +kernel
theorem d_O_release_16 : decode prog_5_method_5_code 16 = .ok (.iload_n 1, 1) := by decide +kernel
theorem d_O_release_17 : decode prog_5_method_5_code 17 = .ok (.iconst 1, 1) := by decide +kernel
theorem d_O_release_18 : decode prog_5_method_5_code 18 = .ok (.isub, 1) := by decide +kernel
theorem d_O_release_19 : decode prog_5_method_5_code 19 = .ok (.iconst 0, 1) := by decide +kernel
theorem d_O_release_20 : decode prog_5_method_5_code 20 = .ok (.bastore, 1) := by decide +kernel
theorem d_O_release_21 : decode prog_5_method_5_code 21 = .ok (.iconst 1, 1) := by decide +kernel
theorem d_O_release_22 : decode prog_5_method_5_code 22 = .ok (.ireturn, 1) := by decide +kernel
theorem d_O_current_0 : decode prog_5_method_6_code 0 = .ok (.iconst 0, 1) := by decide +kernel
theorem d_O_current_1 : decode prog_5_method_6_code 1 = .ok (.istore_n 1, 1) := by decide +kernel
theorem d_O_current_2 : decode prog_5_method_6_code 2 = .ok (.iload_n 1, 1) := by decide +kernel
theorem d_O_current_3 : decode prog_5_method_6_code 3 = .ok (.bipush 16, 2) := by decide +kernel
theorem d_O_current_5 : decode prog_5_method_6_code 5 = .ok (.if_icmp .ge 25, 3) := by decide +kernel
theorem d_O_current_8 : decode prog_5_method_6_code 8 = .ok (.aload_n 0, 1) := by decide +kernel
theorem d_O_current_9 : decode prog_5_method_6_code 9 = .ok (.getfield 15, 3) := by decide +kernel
theorem d_O_current_12 : decode prog_5_method_6_code 12 = .ok (.iload_n 1, 1) := by decide +kernel
theorem d_O_current_13 : decode prog_5_method_6_code 13 = .ok (.baload, 1) := by decide +kernel
theorem d_O_current_14 : decode prog_5_method_6_code 14 = .ok (.ifCond .eq 10, 3) := by decide +kernel
theorem d_O_current_17 : decode prog_5_method_6_code 17 = .ok (.aload_n 0, 1) := by decide +kernel
theorem d_O_current_18 : decode prog_5_method_6_code 18 = .ok (.getfield 9, 3) := by decide +kernel
theorem d_O_current_21 : decode prog_5_method_6_code 21 = .ok (.iload_n 1, 1) := by decide +kernel
theorem d_O_current_22 : decode prog_5_method_6_code 22 = .ok (.iaload, 1) := by decide +kernel
theorem d_O_current_23 : decode prog_5_method_6_code 23 = .ok (.ireturn, 1) := by decide +kernel
theorem d_O_current_24 : decode prog_5_method_6_code 24 = .ok (.iinc 1 1, 3) := by decide +kernel
theorem d_O_current_27 : decode prog_5_method_6_code 27 = .ok (.goto (-25), 3) := by decide +kernel
theorem d_O_current_30 : decode prog_5_method_6_code 30 = .ok (.iconst 0, 1) := by decide +kernel
theorem d_O_current_31 : decode prog_5_method_6_code 31 = .ok (.ireturn, 1) := by decide +kernel
theorem d_R_init_0 : decode prog_6_method_1_code 0 = .ok (.aload_n 0, 1) := by decide +kernel
theorem d_R_init_1 : decode prog_6_method_1_code 1 = .ok (.invokespecial 3, 3) := by decide +kernel
theorem d_R_init_4 : decode prog_6_method_1_code 4 = .ok (.aload_n 0, 1) := by decide +kernel
theorem d_R_init_5 : decode prog_6_method_1_code 5 = .ok (.iconst 0, 1) := by decide +kernel
theorem d_R_init_6 : decode prog_6_method_1_code 6 = .ok (.putfield 9, 3) := by decide +kernel
theorem d_R_init_9 : decode prog_6_method_1_code 9 = .ok (.aload_n 0, 1) := by decide +kernel
theorem d_R_init_10 : decode prog_6_method_1_code 10 = .ok (.iload_n 1, 1) := by decide +kernel
theorem d_R_init_11 : decode prog_6_method_1_code 11 = .ok (.putfield 15, 3) := by decide +kernel
theorem d_R_init_14 : decode prog_6_method_1_code 14 = .ok (.aload_n 0, 1) := by decide +kernel
theorem d_R_init_15 : decode prog_6_method_1_code 15 = .ok (.iload_n 2, 1) := by decide +kernel
theorem d_R_init_16 : decode prog_6_method_1_code 16 = .ok (.putfield 18, 3) := by decide +kernel
theorem d_R_init_19 : decode prog_6_method_1_code 19 = .ok (.aload_n 0, 1) := by decide +kernel
theorem d_R_init_20 : decode prog_6_method_1_code 20 = .ok (.iload_n 3, 1) := by decide +kernel
theorem d_R_init_21 : decode prog_6_method_1_code 21 = .ok (.bipush 8, 2) := by decide +kernel
theorem d_R_init_23 : decode prog_6_method_1_code 23 = .ok (.irem, 1) := by decide +kernel
theorem d_R_init_24 : decode prog_6_method_1_code 24 = .ok (.putfield 21, 3) := by decide +kernel
theorem d_R_init_27 : decode prog_6_method_1_code 27 = .ok (.aload_n 0, 1) := by decide +kernel
theorem d_R_init_28 : decode prog_6_method_1_code 28 = .ok (.iload_n 3, 1) := by decide +kernel
theorem d_R_init_29 : decode prog_6_method_1_code 29 = .ok (.bipush 8, 2) := by decide +kernel
theorem d_R_init_31 : decode prog_6_method_1_code 31 = .ok (.idiv, 1) := by decide +kernel
theorem d_R_init_32 : decode prog_6_method_1_code 32 = .ok (.bipush 8, 2) := by decide +kernel
theorem d_R_init_34 : decode prog_6_method_1_code 34 = .ok (.irem, 1) := by decide +kernel
theorem d_R_init_35 : decode prog_6_method_1_code 35 = .ok (.putfield 24, 3) := by decide +kernel
theorem d_R_init_38 : decode prog_6_method_1_code 38 = .ok (.aload_n 0, 1) := by decide +kernel
theorem d_R_init_39 : decode prog_6_method_1_code 39 = .ok (.iload_n 3, 1) := by decide +kernel
theorem d_R_init_40 : decode prog_6_method_1_code 40 = .ok (.bipush 64, 2) := by decide +kernel
theorem d_R_init_42 : decode prog_6_method_1_code 42 = .ok (.idiv, 1) := by decide +kernel
theorem d_R_init_43 : decode prog_6_method_1_code 43 = .ok (.putfield 27, 3) := by decide +kernel
theorem d_R_init_46 : decode prog_6_method_1_code 46 = .ok (.aload_n 0, 1) := by decide +kernel
theorem d_R_init_47 : decode prog_6_method_1_code 47 = .ok (.iload 4, 2) := by decide +kernel
theorem d_R_init_49 : decode prog_6_method_1_code 49 = .ok (.putfield 30, 3) := by decide +kernel
theorem d_R_init_52 : decode prog_6_method_1_code 52 = .ok (.return_, 1) := by decide +kernel
theorem d_R_settle_0 : decode prog_6_method_2_code 0 = .ok (.aload_n 0, 1) := by decide +kernel
theorem d_R_settle_1 : decode prog_6_method_2_code 1 = .ok (.iconst 1, 1) := by decide +kernel
theorem d_R_settle_2 : decode prog_6_method_2_code 2 = .ok (.putfield 33, 3) := by decide +kernel
theorem d_R_settle_5 : decode prog_6_method_2_code 5 = .ok (.aload_n 0, 1) := by decide +kernel
theorem d_R_settle_6 : decode prog_6_method_2_code 6 = .ok (.iload_n 1, 1) := by decide +kernel
theorem d_R_settle_7 : decode prog_6_method_2_code 7 = .ok (.putfield 37, 3) := by decide +kernel
theorem d_R_settle_10 : decode prog_6_method_2_code 10 = .ok (.aload_n 0, 1) := by decide +kernel
theorem d_R_settle_11 : decode prog_6_method_2_code 11 = .ok (.iload_n 1, 1) := by decide +kernel
theorem d_R_settle_12 : decode prog_6_method_2_code 12 = .ok (.ifCond .eq 7, 3) := by decide +kernel
theorem d_R_settle_15 : decode prog_6_method_2_code 15 = .ok (.iload_n 2, 1) := by decide +kernel
theorem d_R_settle_16 : decode prog_6_method_2_code 16 = .ok (.goto 4, 3) := by decide +kernel
theorem d_R_settle_19 : decode prog_6_method_2_code 19 = .ok (.iconst 0, 1) := by decide +kernel
theorem d_R_settle_20 : decode prog_6_method_2_code 20 = .ok (.putfield 40, 3) := by decide +kernel
theorem d_R_settle_23 : decode prog_6_method_2_code 23 = .ok (.return_, 1) := by decide +kernel
theorem d_R_countTry_0 : decode prog_6_method_3_code 0 = .ok (.aload_n 0, 1) := by decide +kernel
theorem d_R_countTry_1 : decode prog_6_method_3_code 1 = .ok (.dup, 1) := by decide +kernel
theorem d_R_countTry_2 : decode prog_6_method_3_code 2 = .ok (.getfield 43, 3) := by decide +kernel
theorem d_R_countTry_5 : decode prog_6_method_3_code 5 = .ok (.iconst 1, 1) := by decide +kernel
theorem d_R_countTry_6 : decode prog_6_method_3_code 6 = .ok (.iadd, 1) := by decide +kernel
theorem d_R_countTry_7 : decode prog_6_method_3_code 7 = .ok (.putfield 43, 3) := by decide +kernel
theorem d_R_countTry_10 : decode prog_6_method_3_code 10 = .ok (.aload_n 0, 1) := by decide +kernel
theorem d_R_countTry_11 : decode prog_6_method_3_code 11 = .ok (.getfield 43, 3) := by decide +kernel
theorem d_R_countTry_14 : decode prog_6_method_3_code 14 = .ok (.iconst 3, 1) := by decide +kernel
theorem d_R_countTry_15 : decode prog_6_method_3_code 15 = .ok (.if_icmp .lt 8, 3) := by decide +kernel
theorem d_R_countTry_18 : decode prog_6_method_3_code 18 = .ok (.aload_n 0, 1) := by decide +kernel
theorem d_R_countTry_19 : decode prog_6_method_3_code 19 = .ok (.iconst 3, 1) := by decide +kernel
theorem d_R_countTry_20 : decode prog_6_method_3_code 20 = .ok (.putfield 9, 3) := by decide +kernel
theorem d_R_countTry_23 : decode prog_6_method_3_code 23 = .ok (.return_, 1) := by decide +kernel
theorem d_S_init_0 : decode prog_7_method_1_code 0 = .ok (.aload_n 0, 1) := by decide +kernel
theorem d_S_init_1 : decode prog_7_method_1_code 1 = .ok (.invokespecial 3, 3) := by decide +kernel
theorem d_S_init_4 : decode prog_7_method_1_code 4 = .ok (.return_, 1) := by decide +kernel
theorem d_S_begin_0 : decode prog_7_method_2_code 0 = .ok (.aload_n 0, 1) := by decide +kernel
theorem d_S_begin_1 : decode prog_7_method_2_code 1 = .ok (.iload_n 1, 1) := by decide +kernel
theorem d_S_begin_2 : decode prog_7_method_2_code 2 = .ok (.putfield 9, 3) := by decide +kernel
theorem d_S_begin_5 : decode prog_7_method_2_code 5 = .ok (.aload_n 0, 1) := by decide +kernel
theorem d_S_begin_6 : decode prog_7_method_2_code 6 = .ok (.iload_n 2, 1) := by decide +kernel
theorem d_S_begin_7 : decode prog_7_method_2_code 7 = .ok (.putfield 15, 3) := by decide +kernel
theorem d_S_begin_10 : decode prog_7_method_2_code 10 = .ok (.aload_n 0, 1) := by decide +kernel
theorem d_S_begin_11 : decode prog_7_method_2_code 11 = .ok (.iload_n 3, 1) := by decide +kernel
theorem d_S_begin_12 : decode prog_7_method_2_code 12 = .ok (.invokevirtual 18, 3) := by decide +kernel
theorem d_S_begin_15 : decode prog_7_method_2_code 15 = .ok (.return_, 1) := by decide +kernel
theorem d_S_renew_0 : decode prog_7_method_3_code 0 = .ok (.aload_n 0, 1) := by decide +kernel
theorem d_S_renew_1 : decode prog_7_method_3_code 1 = .ok (.iload_n 1, 1) := by decide +kernel
theorem d_S_renew_2 : decode prog_7_method_3_code 2 = .ok (.putfield 22, 3) := by decide +kernel
theorem d_S_renew_5 : decode prog_7_method_3_code 5 = .ok (.aload_n 0, 1) := by decide +kernel
theorem d_S_renew_6 : decode prog_7_method_3_code 6 = .ok (.iconst 0, 1) := by decide +kernel
theorem d_S_renew_7 : decode prog_7_method_3_code 7 = .ok (.putfield 25, 3) := by decide +kernel
theorem d_S_renew_10 : decode prog_7_method_3_code 10 = .ok (.return_, 1) := by decide +kernel
theorem d_S_compare_0 : decode prog_7_method_4_code 0 = .ok (.aload_n 0, 1) := by decide +kernel
theorem d_S_compare_1 : decode prog_7_method_4_code 1 = .ok (.iload_n 1, 1) := by decide +kernel
theorem d_S_compare_2 : decode prog_7_method_4_code 2 = .ok (.i2l, 1) := by decide +kernel
theorem d_S_compare_3 : decode prog_7_method_4_code 3 = .ok (.aload_n 0, 1) := by decide +kernel
theorem d_S_compare_4 : decode prog_7_method_4_code 4 = .ok (.getfield 22, 3) := by decide +kernel
theorem d_S_compare_7 : decode prog_7_method_4_code 7 = .ok (.i2l, 1) := by decide +kernel
theorem d_S_compare_8 : decode prog_7_method_4_code 8 = .ok (.lsub, 1) := by decide +kernel
theorem d_S_compare_9 : decode prog_7_method_4_code 9 = .ok (.invokestatic 29, 3) := by decide +kernel
theorem d_S_compare_12 : decode prog_7_method_4_code 12 = .ok (.ldc2_w 35, 3) := by decide +kernel
theorem d_S_compare_15 : decode prog_7_method_4_code 15 = .ok (.lcmp, 1) := by decide +kernel
theorem d_S_compare_16 : decode prog_7_method_4_code 16 = .ok (.ifCond .lt 7, 3) := by decide +kernel
theorem d_S_compare_19 : decode prog_7_method_4_code 19 = .ok (.iconst 1, 1) := by decide +kernel
theorem d_S_compare_20 : decode prog_7_method_4_code 20 = .ok (.goto 4, 3) := by decide +kernel
theorem d_S_compare_23 : decode prog_7_method_4_code 23 = .ok (.iconst 0, 1) := by decide +kernel
theorem d_S_compare_24 : decode prog_7_method_4_code 24 = .ok (.putfield 25, 3) := by decide +kernel
theorem d_S_compare_27 : decode prog_7_method_4_code 27 = .ok (.return_, 1) := by decide +kernel
theorem d_J_floorDiv_0 : decode prog_10_method_47_code 0 = .ok (.iload_n 0, 1) := by decide +kernel
theorem d_J_floorDiv_1 : decode prog_10_method_47_code 1 = .ok (.iload_n 1, 1) := by decide +kernel
theorem d_J_floorDiv_2 : decode prog_10_method_47_code 2 = .ok (.idiv, 1) := by decide +kernel
theorem d_J_floorDiv_3 : decode prog_10_method_47_code 3 = .ok (.istore_n 2, 1) := by decide +kernel
theorem d_J_floorDiv_4 : decode prog_10_method_47_code 4 = .ok (.iload_n 0, 1) := by decide +kernel
theorem d_J_floorDiv_5 : decode prog_10_method_47_code 5 = .ok (.iload_n 1, 1) := by decide +kernel
theorem d_J_floorDiv_6 : decode prog_10_method_47_code 6 = .ok (.ixor, 1) := by decide +kernel
theorem d_J_floorDiv_7 : decode prog_10_method_47_code 7 = .ok (.ifCond .ge 14, 3) := by decide +kernel
theorem d_J_floorDiv_10 : decode prog_10_method_47_code 10 = .ok (.iload_n 2, 1) := by decide +kernel
theorem d_J_floorDiv_11 : decode prog_10_method_47_code 11 = .ok (.iload_n 1, 1) := by decide +kernel
theorem d_J_floorDiv_12 : decode prog_10_method_47_code 12 = .ok (.imul, 1) := by decide +kernel
theorem d_J_floorDiv_13 : decode prog_10_method_47_code 13 = .ok (.iload_n 0, 1) := by decide +kernel
theorem d_J_floorDiv_14 : decode prog_10_method_47_code 14 = .ok (.if_icmp .eq 7, 3) := by decide +kernel
theorem d_J_floorDiv_17 : decode prog_10_method_47_code 17 = .ok (.iload_n 2, 1) := by decide +kernel
theorem d_J_floorDiv_18 : decode prog_10_method_47_code 18 = .ok (.iconst 1, 1) := by decide +kernel
theorem d_J_floorDiv_19 : decode prog_10_method_47_code 19 = .ok (.isub, 1) := by decide +kernel
theorem d_J_floorDiv_20 : decode prog_10_method_47_code 20 = .ok (.ireturn, 1) := by decide +kernel
theorem d_J_floorDiv_21 : decode prog_10_method_47_code 21 = .ok (.iload_n 2, 1) := by decide +kernel
theorem d_J_floorDiv_22 : decode prog_10_method_47_code 22 = .ok (.ireturn, 1) := by decide +kernel
