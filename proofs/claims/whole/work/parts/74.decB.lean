theorem d_B_init_0 : decode prog_1_method_1_code 0 = .ok (.aload_n 0, 1) := by decide +kernel
theorem d_B_init_1 : decode prog_1_method_1_code 1 = .ok (.invokespecial 1, 3) := by decide +kernel
theorem d_B_init_4 : decode prog_1_method_1_code 4 = .ok (.aload_n 0, 1) := by decide +kernel
theorem d_B_init_5 : decode prog_1_method_1_code 5 = .ok (.bipush 6, 2) := by decide +kernel
theorem d_B_init_7 : decode prog_1_method_1_code 7 = .ok (.anewarray 9, 3) := by decide +kernel
theorem d_B_init_10 : decode prog_1_method_1_code 10 = .ok (.putfield 11, 3) := by decide +kernel
theorem d_B_init_13 : decode prog_1_method_1_code 13 = .ok (.aload_n 0, 1) := by decide +kernel
theorem d_B_init_14 : decode prog_1_method_1_code 14 = .ok (.bipush 60, 2) := by decide +kernel
theorem d_B_init_16 : decode prog_1_method_1_code 16 = .ok (.anewarray 15, 3) := by decide +kernel
theorem d_B_init_19 : decode prog_1_method_1_code 19 = .ok (.putfield 17, 3) := by decide +kernel
theorem d_B_init_22 : decode prog_1_method_1_code 22 = .ok (.aload_n 0, 1) := by decide +kernel
theorem d_B_init_23 : decode prog_1_method_1_code 23 = .ok (.new 21, 3) := by decide +kernel
theorem d_B_init_26 : decode prog_1_method_1_code 26 = .ok (.dup, 1) := by decide +kernel
theorem d_B_init_27 : decode prog_1_method_1_code 27 = .ok (.invokespecial 23, 3) := by decide +kernel
theorem d_B_init_30 : decode prog_1_method_1_code 30 = .ok (.putfield 24, 3) := by decide +kernel
theorem d_B_init_33 : decode prog_1_method_1_code 33 = .ok (.aload_n 0, 1) := by decide +kernel
theorem d_B_init_34 : decode prog_1_method_1_code 34 = .ok (.new 21, 3) := by decide +kernel
theorem d_B_init_37 : decode prog_1_method_1_code 37 = .ok (.dup, 1) := by decide +kernel
theorem d_B_init_38 : decode prog_1_method_1_code 38 = .ok (.invokespecial 23, 3) := by decide +kernel
theorem d_B_init_41 : decode prog_1_method_1_code 41 = .ok (.putfield 28, 3) := by decide +kernel
theorem d_B_init_44 : decode prog_1_method_1_code 44 = .ok (.aload_n 0, 1) := by decide +kernel
theorem d_B_init_45 : decode prog_1_method_1_code 45 = .ok (.iconst (-1), 1) := by decide +kernel
theorem d_B_init_46 : decode prog_1_method_1_code 46 = .ok (.putfield 31, 3) := by decide +kernel
theorem d_B_init_49 : decode prog_1_method_1_code 49 = .ok (.iconst 0, 1) := by decide +kernel
theorem d_B_init_50 : decode prog_1_method_1_code 50 = .ok (.istore_n 1, 1) := by decide +kernel
theorem d_B_init_51 : decode prog_1_method_1_code 51 = .ok (.iload_n 1, 1) := by decide +kernel
theorem d_B_init_52 : decode prog_1_method_1_code 52 = .ok (.bipush 6, 2) := by decide +kernel
theorem d_B_init_54 : decode prog_1_method_1_code 54 = .ok (.if_icmp .ge 23, 3) := by decide +kernel
theorem d_B_init_57 : decode prog_1_method_1_code 57 = .ok (.aload_n 0, 1) := by decide +kernel
theorem d_B_init_58 : decode prog_1_method_1_code 58 = .ok (.getfield 11, 3) := by decide +kernel
theorem d_B_init_61 : decode prog_1_method_1_code 61 = .ok (.iload_n 1, 1) := by decide +kernel
theorem d_B_init_62 : decode prog_1_method_1_code 62 = .ok (.new 9, 3) := by decide +kernel
theorem d_B_init_65 : decode prog_1_method_1_code 65 = .ok (.dup, 1) := by decide +kernel
theorem d_B_init_66 : decode prog_1_method_1_code 66 = .ok (.iload_n 1, 1) := by decide +kernel
theorem d_B_init_67 : decode prog_1_method_1_code 67 = .ok (.invokespecial 35, 3) := by decide +kernel
theorem d_B_init_70 : decode prog_1_method_1_code 70 = .ok (.aastore, 1) := by decide +kernel
theorem d_B_init_71 : decode prog_1_method_1_code 71 = .ok (.iinc 1 1, 3) := by decide +kernel
theorem d_B_init_74 : decode prog_1_method_1_code 74 = .ok (.goto (-23), 3) := by decide +kernel
theorem d_B_init_77 : decode prog_1_method_1_code 77 = .ok (.return_, 1) := by decide +kernel
theorem d_B_power_0 : decode prog_1_method_2_code 0 = .ok (.iload_n 1, 1) := by decide +kernel
theorem d_B_power_1 : decode prog_1_method_2_code 1 = .ok (.invokestatic 38, 3) := by decide +kernel
theorem d_B_power_4 : decode prog_1_method_2_code 4 = .ok (.ifCond .eq 16, 3) := by decide +kernel
theorem d_B_power_7 : decode prog_1_method_2_code 7 = .ok (.aload_n 0, 1) := by decide +kernel
theorem d_B_power_8 : decode prog_1_method_2_code 8 = .ok (.getfield 11, 3) := by decide +kernel
theorem d_B_power_11 : decode prog_1_method_2_code 11 = .ok (.iload_n 1, 1) := by decide +kernel
theorem d_B_power_12 : decode prog_1_method_2_code 12 = .ok (.aaload, 1) := by decide +kernel
theorem d_B_power_13 : decode prog_1_method_2_code 13 = .ok (.getfield 42, 3) := by decide +kernel
theorem d_B_power_16 : decode prog_1_method_2_code 16 = .ok (.iload_n 2, 1) := by decide +kernel
theorem d_B_power_17 : decode prog_1_method_2_code 17 = .ok (.if_icmp .ne 5, 3) := by decide +kernel
theorem d_B_power_20 : decode prog_1_method_2_code 20 = .ok (.iconst 0, 1) := by decide +kernel
theorem d_B_power_21 : decode prog_1_method_2_code 21 = .ok (.ireturn, 1) := by decide +kernel
theorem d_B_power_22 : decode prog_1_method_2_code 22 = .ok (.iload_n 2, 1) := by decide +kernel
theorem d_B_power_23 : decode prog_1_method_2_code 23 = .ok (.ifCond .eq 15, 3) := by decide +kernel
theorem d_B_power_26 : decode prog_1_method_2_code 26 = .ok (.aload_n 0, 1) := by decide +kernel
theorem d_B_power_27 : decode prog_1_method_2_code 27 = .ok (.getfield 11, 3) := by decide +kernel
theorem d_B_power_30 : decode prog_1_method_2_code 30 = .ok (.iload_n 1, 1) := by decide +kernel
theorem d_B_power_31 : decode prog_1_method_2_code 31 = .ok (.aaload, 1) := by decide +kernel
theorem d_B_power_32 : decode prog_1_method_2_code 32 = .ok (.invokevirtual 46, 3) := by decide +kernel
theorem d_B_power_35 : decode prog_1_method_2_code 35 = .ok (.goto 18, 3) := by decide +kernel
theorem d_B_power_38 : decode prog_1_method_2_code 38 = .ok (.aload_n 0, 1) := by decide +kernel
theorem d_B_power_39 : decode prog_1_method_2_code 39 = .ok (.getfield 11, 3) := by decide +kernel
theorem d_B_power_42 : decode prog_1_method_2_code 42 = .ok (.iload_n 1, 1) := by decide +kernel
theorem d_B_power_43 : decode prog_1_method_2_code 43 = .ok (.aaload, 1) := by decide +kernel
theorem d_B_power_44 : decode prog_1_method_2_code 44 = .ok (.iconst 0, 1) := by decide +kernel
theorem d_B_power_45 : decode prog_1_method_2_code 45 = .ok (.putfield 42, 3) := by decide +kernel
theorem d_B_power_48 : decode prog_1_method_2_code 48 = .ok (.aload_n 0, 1) := by decide +kernel
theorem d_B_power_49 : decode prog_1_method_2_code 49 = .ok (.iload_n 1, 1) := by decide +kernel
theorem d_B_power_50 : decode prog_1_method_2_code 50 = .ok (.invokevirtual 49, 3) := by decide +kernel
theorem d_B_power_53 : decode prog_1_method_2_code 53 = .ok (.iconst 1, 1) := by decide +kernel
theorem d_B_power_54 : decode prog_1_method_2_code 54 = .ok (.ireturn, 1) := by decide +kernel
theorem d_B_sense_0 : decode prog_1_method_3_code 0 = .ok (.iload_n 1, 1) := by decide +kernel
theorem d_B_sense_1 : decode prog_1_method_3_code 1 = .ok (.invokestatic 38, 3) := by decide +kernel
theorem d_B_sense_4 : decode prog_1_method_3_code 4 = .ok (.ifCond .eq 16, 3) := by decide +kernel
theorem d_B_sense_7 : decode prog_1_method_3_code 7 = .ok (.iload_n 2, 1) := by decide +kernel
theorem d_B_sense_8 : decode prog_1_method_3_code 8 = .ok (.sipush (-10000), 3) := by decide +kernel
theorem d_B_sense_11 : decode prog_1_method_3_code 11 = .ok (.sipush 10000, 3) := by decide +kernel
theorem d_B_sense_14 : decode prog_1_method_3_code 14 = .ok (.invokestatic 52, 3) := by decide +kernel
theorem d_B_sense_17 : decode prog_1_method_3_code 17 = .ok (.ifCond .ne 5, 3) := by decide +kernel
theorem d_B_sense_20 : decode prog_1_method_3_code 20 = .ok (.iconst 0, 1) := by decide +kernel
theorem d_B_sense_21 : decode prog_1_method_3_code 21 = .ok (.ireturn, 1) := by decide +kernel
theorem d_B_sense_22 : decode prog_1_method_3_code 22 = .ok (.aload_n 0, 1) := by decide +kernel
theorem d_B_sense_23 : decode prog_1_method_3_code 23 = .ok (.getfield 11, 3) := by decide +kernel
theorem d_B_sense_26 : decode prog_1_method_3_code 26 = .ok (.iload_n 1, 1) := by decide +kernel
theorem d_B_sense_27 : decode prog_1_method_3_code 27 = .ok (.aaload, 1) := by decide +kernel
theorem d_B_sense_28 : decode prog_1_method_3_code 28 = .ok (.iload_n 2, 1) := by decide +kernel
theorem d_B_sense_29 : decode prog_1_method_3_code 29 = .ok (.putfield 56, 3) := by decide +kernel
theorem d_B_sense_32 : decode prog_1_method_3_code 32 = .ok (.iconst 1, 1) := by decide +kernel
theorem d_B_sense_33 : decode prog_1_method_3_code 33 = .ok (.ireturn, 1) := by decide +kernel
theorem d_B_gains_0 : decode prog_1_method_4_code 0 = .ok (.iload_n 1, 1) := by decide +kernel
theorem d_B_gains_1 : decode prog_1_method_4_code 1 = .ok (.invokestatic 38, 3) := by decide +kernel
theorem d_B_gains_4 : decode prog_1_method_4_code 4 = .ok (.ifCond .eq 23, 3) := by decide +kernel
theorem d_B_gains_7 : decode prog_1_method_4_code 7 = .ok (.iload_n 2, 1) := by decide +kernel
theorem d_B_gains_8 : decode prog_1_method_4_code 8 = .ok (.iconst 0, 1) := by decide +kernel
theorem d_B_gains_9 : decode prog_1_method_4_code 9 = .ok (.bipush 100, 2) := by decide +kernel
theorem d_B_gains_11 : decode prog_1_method_4_code 11 = .ok (.invokestatic 52, 3) := by decide +kernel
theorem d_B_gains_14 : decode prog_1_method_4_code 14 = .ok (.ifCond .eq 13, 3) := by decide +kernel
theorem d_B_gains_17 : decode prog_1_method_4_code 17 = .ok (.iload_n 3, 1) := by decide +kernel
theorem d_B_gains_18 : decode prog_1_method_4_code 18 = .ok (.iconst 0, 1) := by decide +kernel
theorem d_B_gains_19 : decode prog_1_method_4_code 19 = .ok (.bipush 100, 2) := by decide +kernel
theorem d_B_gains_21 : decode prog_1_method_4_code 21 = .ok (.invokestatic 52, 3) := by decide +kernel
theorem d_B_gains_24 : decode prog_1_method_4_code 24 = .ok (.ifCond .ne 5, 3) := by decide +kernel
theorem d_B_gains_27 : decode prog_1_method_4_code 27 = .ok (.iconst 0, 1) := by decide +kernel
theorem d_B_gains_28 : decode prog_1_method_4_code 28 = .ok (.ireturn, 1) := by decide +kernel
theorem d_B_gains_29 : decode prog_1_method_4_code 29 = .ok (.aload_n 0, 1) := by decide +kernel
theorem d_B_gains_30 : decode prog_1_method_4_code 30 = .ok (.getfield 11, 3) := by decide +kernel
theorem d_B_gains_33 : decode prog_1_method_4_code 33 = .ok (.iload_n 1, 1) := by decide +kernel
theorem d_B_gains_34 : decode prog_1_method_4_code 34 = .ok (.aaload, 1) := by decide +kernel
theorem d_B_gains_35 : decode prog_1_method_4_code 35 = .ok (.getfield 59, 3) := by decide +kernel
theorem d_B_gains_38 : decode prog_1_method_4_code 38 = .ok (.iload_n 2, 1) := by decide +kernel
theorem d_B_gains_39 : decode prog_1_method_4_code 39 = .ok (.iload_n 3, 1) := by decide +kernel
theorem d_B_gains_40 : decode prog_1_method_4_code 40 = .ok (.invokevirtual 63, 3) := by decide +kernel
theorem d_B_gains_43 : decode prog_1_method_4_code 43 = .ok (.iconst 1, 1) := by decide +kernel
theorem d_B_gains_44 : decode prog_1_method_4_code 44 = .ok (.ireturn, 1) := by decide +kernel
theorem d_B_request_0 : decode prog_1_method_5_code 0 = .ok (.iload_n 1, 1) := by decide +kernel
theorem d_B_request_1 : decode prog_1_method_5_code 1 = .ok (.invokestatic 38, 3) := by decide +kernel
theorem d_B_request_4 : decode prog_1_method_5_code 4 = .ok (.ifCond .eq 26, 3) := by decide +kernel
theorem d_B_request_7 : decode prog_1_method_5_code 7 = .ok (.iload_n 2, 1) := by decide +kernel
theorem d_B_request_8 : decode prog_1_method_5_code 8 = .ok (.invokestatic 38, 3) := by decide +kernel
theorem d_B_request_11 : decode prog_1_method_5_code 11 = .ok (.ifCond .eq 19, 3) := by decide +kernel
theorem d_B_request_14 : decode prog_1_method_5_code 14 = .ok (.iload_n 1, 1) := by decide +kernel
theorem d_B_request_15 : decode prog_1_method_5_code 15 = .ok (.iload_n 2, 1) := by decide +kernel
theorem d_B_request_16 : decode prog_1_method_5_code 16 = .ok (.if_icmp .eq 14, 3) := by decide +kernel
theorem d_B_request_19 : decode prog_1_method_5_code 19 = .ok (.iload_n 3, 1) := by decide +kernel
theorem d_B_request_20 : decode prog_1_method_5_code 20 = .ok (.iconst 0, 1) := by decide +kernel
theorem d_B_request_21 : decode prog_1_method_5_code 21 = .ok (.sipush 2047, 3) := by decide +kernel
theorem d_B_request_24 : decode prog_1_method_5_code 24 = .ok (.invokestatic 52, 3) := by decide +kernel
theorem d_B_request_27 : decode prog_1_method_5_code 27 = .ok (.ifCond .ne 5, 3) := by decide +kernel
theorem d_B_request_30 : decode prog_1_method_5_code 30 = .ok (.iconst (-1), 1) := by decide +kernel
theorem d_B_request_31 : decode prog_1_method_5_code 31 = .ok (.ireturn, 1) := by decide +kernel
theorem d_B_request_32 : decode prog_1_method_5_code 32 = .ok (.aload_n 0, 1) := by decide +kernel
theorem d_B_request_33 : decode prog_1_method_5_code 33 = .ok (.getfield 11, 3) := by decide +kernel
theorem d_B_request_36 : decode prog_1_method_5_code 36 = .ok (.iload_n 1, 1) := by decide +kernel
theorem d_B_request_37 : decode prog_1_method_5_code 37 = .ok (.aaload, 1) := by decide +kernel
theorem d_B_request_38 : decode prog_1_method_5_code 38 = .ok (.getfield 69, 3) := by decide +kernel
theorem d_B_request_41 : decode prog_1_method_5_code 41 = .ok (.iconst 4, 1) := by decide +kernel
theorem d_B_request_42 : decode prog_1_method_5_code 42 = .ok (.if_icmp .ge 12, 3) := by decide +kernel
theorem d_B_request_45 : decode prog_1_method_5_code 45 = .ok (.aload_n 0, 1) := by decide +kernel
theorem d_B_request_46 : decode prog_1_method_5_code 46 = .ok (.getfield 72, 3) := by decide +kernel
theorem d_B_request_49 : decode prog_1_method_5_code 49 = .ok (.bipush 60, 2) := by decide +kernel
theorem d_B_request_51 : decode prog_1_method_5_code 51 = .ok (.if_icmp .lt 6, 3) := by decide +kernel
theorem d_B_request_54 : decode prog_1_method_5_code 54 = .ok (.bipush (-2), 2) := by decide +kernel
theorem d_B_request_56 : decode prog_1_method_5_code 56 = .ok (.ireturn, 1) := by decide +kernel
theorem d_B_request_57 : decode prog_1_method_5_code 57 = .ok (.aload_n 0, 1) := by decide +kernel
theorem d_B_request_58 : decode prog_1_method_5_code 58 = .ok (.getfield 72, 3) := by decide +kernel
theorem d_B_request_61 : decode prog_1_method_5_code 61 = .ok (.istore 5, 2) := by decide +kernel
theorem d_B_request_63 : decode prog_1_method_5_code 63 = .ok (.aload_n 0, 1) := by decide +kernel
theorem d_B_request_64 : decode prog_1_method_5_code 64 = .ok (.getfield 17, 3) := by decide +kernel
theorem d_B_request_67 : decode prog_1_method_5_code 67 = .ok (.iload 5, 2) := by decide +kernel
theorem d_B_request_69 : decode prog_1_method_5_code 69 = .ok (.new 15, 3) := by decide +kernel
theorem d_B_request_72 : decode prog_1_method_5_code 72 = .ok (.dup, 1) := by decide +kernel
theorem d_B_request_73 : decode prog_1_method_5_code 73 = .ok (.iload 5, 2) := by decide +kernel
theorem d_B_request_75 : decode prog_1_method_5_code 75 = .ok (.iload_n 2, 1) := by decide +kernel
theorem d_B_request_76 : decode prog_1_method_5_code 76 = .ok (.iload_n 3, 1) := by decide +kernel
theorem d_B_request_77 : decode prog_1_method_5_code 77 = .ok (.iload 4, 2) := by decide +kernel
theorem d_B_request_79 : decode prog_1_method_5_code 79 = .ok (.invokespecial 75, 3) := by decide +kernel
theorem d_B_request_82 : decode prog_1_method_5_code 82 = .ok (.aastore, 1) := by decide +kernel
theorem d_B_request_83 : decode prog_1_method_5_code 83 = .ok (.aload_n 0, 1) := by decide +kernel
theorem d_B_request_84 : decode prog_1_method_5_code 84 = .ok (.iload 5, 2) := by decide +kernel
theorem d_B_request_86 : decode prog_1_method_5_code 86 = .ok (.iconst 1, 1) := by decide +kernel
theorem d_B_request_87 : decode prog_1_method_5_code 87 = .ok (.iadd, 1) := by decide +kernel
theorem d_B_request_88 : decode prog_1_method_5_code 88 = .ok (.putfield 72, 3) := by decide +kernel
theorem d_B_request_91 : decode prog_1_method_5_code 91 = .ok (.aload_n 0, 1) := by decide +kernel
theorem d_B_request_92 : decode prog_1_method_5_code 92 = .ok (.getfield 11, 3) := by decide +kernel
theorem d_B_request_95 : decode prog_1_method_5_code 95 = .ok (.iload_n 1, 1) := by decide +kernel
theorem d_B_request_96 : decode prog_1_method_5_code 96 = .ok (.aaload, 1) := by decide +kernel
theorem d_B_request_97 : decode prog_1_method_5_code 97 = .ok (.aload_n 0, 1) := by decide +kernel
theorem d_B_request_98 : decode prog_1_method_5_code 98 = .ok (.getfield 17, 3) := by decide +kernel
theorem d_B_request_101 : decode prog_1_method_5_code 101 = .ok (.iload 5, 2) := by decide +kernel
theorem d_B_request_103 : decode prog_1_method_5_code 103 = .ok (.aaload, 1) := by decide +kernel
theorem d_B_request_104 : decode prog_1_method_5_code 104 = .ok (.invokevirtual 78, 3) := by decide +kernel
theorem d_B_request_107 : decode prog_1_method_5_code 107 = .ok (.iload 5, 2) := by decide +kernel
theorem d_B_request_109 : decode prog_1_method_5_code 109 = .ok (.ireturn, 1) := by decide +kernel
theorem d_B_spoil_0 : decode prog_1_method_6_code 0 = .ok (.iload_n 1, 1) := by decide +kernel
theorem d_B_spoil_1 : decode prog_1_method_6_code 1 = .ok (.iconst 0, 1) := by decide +kernel
theorem d_B_spoil_2 : decode prog_1_method_6_code 2 = .ok (.iconst 1, 1) := by decide +kernel
theorem d_B_spoil_3 : decode prog_1_method_6_code 3 = .ok (.invokestatic 52, 3) := by decide +kernel
theorem d_B_spoil_6 : decode prog_1_method_6_code 6 = .ok (.ifCond .eq 24, 3) := by decide +kernel
theorem d_B_spoil_9 : decode prog_1_method_6_code 9 = .ok (.iload_n 2, 1) := by decide +kernel
theorem d_B_spoil_10 : decode prog_1_method_6_code 10 = .ok (.iconst 0, 1) := by decide +kernel
theorem d_B_spoil_11 : decode prog_1_method_6_code 11 = .ok (.bipush 17, 2) := by decide +kernel
theorem d_B_spoil_13 : decode prog_1_method_6_code 13 = .ok (.invokestatic 52, 3) := by decide +kernel
theorem d_B_spoil_16 : decode prog_1_method_6_code 16 = .ok (.ifCond .eq 14, 3) := by decide +kernel
theorem d_B_spoil_19 : decode prog_1_method_6_code 19 = .ok (.iload_n 3, 1) := by decide +kernel
theorem d_B_spoil_20 : decode prog_1_method_6_code 20 = .ok (.iconst 1, 1) := by decide +kernel
theorem d_B_spoil_21 : decode prog_1_method_6_code 21 = .ok (.sipush 255, 3) := by decide +kernel
theorem d_B_spoil_24 : decode prog_1_method_6_code 24 = .ok (.invokestatic 52, 3) := by decide +kernel
theorem d_B_spoil_27 : decode prog_1_method_6_code 27 = .ok (.ifCond .ne 5, 3) := by decide +kernel
theorem d_B_spoil_30 : decode prog_1_method_6_code 30 = .ok (.iconst 0, 1) := by decide +kernel
theorem d_B_spoil_31 : decode prog_1_method_6_code 31 = .ok (.ireturn, 1) := by decide +kernel
theorem d_B_spoil_32 : decode prog_1_method_6_code 32 = .ok (.aload_n 0, 1) := by decide +kernel
theorem d_B_spoil_33 : decode prog_1_method_6_code 33 = .ok (.invokevirtual 82, 3) := by decide +kernel
theorem d_B_spoil_36 : decode prog_1_method_6_code 36 = .ok (.aload_n 0, 1) := by decide +kernel
theorem d_B_spoil_37 : decode prog_1_method_6_code 37 = .ok (.iload_n 1, 1) := by decide +kernel
theorem d_B_spoil_38 : decode prog_1_method_6_code 38 = .ok (.invokevirtual 85, 3) := by decide +kernel
theorem d_B_spoil_41 : decode prog_1_method_6_code 41 = .ok (.iload_n 2, 1) := by decide +kernel
theorem d_B_spoil_42 : decode prog_1_method_6_code 42 = .ok (.iload_n 3, 1) := by decide +kernel
theorem d_B_spoil_43 : decode prog_1_method_6_code 43 = .ok (.invokevirtual 89, 3) := by decide +kernel
theorem d_B_spoil_46 : decode prog_1_method_6_code 46 = .ok (.iconst 1, 1) := by decide +kernel
theorem d_B_spoil_47 : decode prog_1_method_6_code 47 = .ok (.ireturn, 1) := by decide +kernel
theorem d_B_step_0 : decode prog_1_method_7_code 0 = .ok (.aload_n 0, 1) := by decide +kernel
theorem d_B_step_1 : decode prog_1_method_7_code 1 = .ok (.invokevirtual 92, 3) := by decide +kernel
theorem d_B_step_4 : decode prog_1_method_7_code 4 = .ok (.aload_n 0, 1) := by decide +kernel
theorem d_B_step_5 : decode prog_1_method_7_code 5 = .ok (.getfield 31, 3) := by decide +kernel
theorem d_B_step_8 : decode prog_1_method_7_code 8 = .ok (.iconst (-1), 1) := by decide +kernel
theorem d_B_step_9 : decode prog_1_method_7_code 9 = .ok (.if_icmp .ne 10, 3) := by decide +kernel
theorem d_B_step_12 : decode prog_1_method_7_code 12 = .ok (.aload_n 0, 1) := by decide +kernel
theorem d_B_step_13 : decode prog_1_method_7_code 13 = .ok (.invokevirtual 95, 3) := by decide +kernel
theorem d_B_step_16 : decode prog_1_method_7_code 16 = .ok (.goto 85, 3) := by decide +kernel
theorem d_B_step_19 : decode prog_1_method_7_code 19 = .ok (.aload_n 0, 1) := by decide +kernel
theorem d_B_step_20 : decode prog_1_method_7_code 20 = .ok (.getfield 98, 3) := by decide +kernel
theorem d_B_step_23 : decode prog_1_method_7_code 23 = .ok (.iconst 3, 1) := by decide +kernel
theorem d_B_step_24 : decode prog_1_method_7_code 24 = .ok (.if_icmp .ne 19, 3) := by decide +kernel
theorem d_B_step_27 : decode prog_1_method_7_code 27 = .ok (.aload_n 0, 1) := by decide +kernel
theorem d_B_step_28 : decode prog_1_method_7_code 28 = .ok (.aload_n 0, 1) := by decide +kernel
theorem d_B_step_29 : decode prog_1_method_7_code 29 = .ok (.getfield 11, 3) := by decide +kernel
theorem d_B_step_32 : decode prog_1_method_7_code 32 = .ok (.aload_n 0, 1) := by decide +kernel
theorem d_B_step_33 : decode prog_1_method_7_code 33 = .ok (.getfield 31, 3) := by decide +kernel
theorem d_B_step_36 : decode prog_1_method_7_code 36 = .ok (.aaload, 1) := by decide +kernel
theorem d_B_step_37 : decode prog_1_method_7_code 37 = .ok (.invokevirtual 101, 3) := by decide +kernel
theorem d_B_step_40 : decode prog_1_method_7_code 40 = .ok (.goto 61, 3) := by decide +kernel
theorem d_B_step_43 : decode prog_1_method_7_code 43 = .ok (.aload_n 0, 1) := by decide +kernel
theorem d_B_step_44 : decode prog_1_method_7_code 44 = .ok (.getfield 11, 3) := by decide +kernel
theorem d_B_step_47 : decode prog_1_method_7_code 47 = .ok (.aload_n 0, 1) := by decide +kernel
theorem d_B_step_48 : decode prog_1_method_7_code 48 = .ok (.getfield 31, 3) := by decide +kernel
theorem d_B_step_51 : decode prog_1_method_7_code 51 = .ok (.aaload, 1) := by decide +kernel
theorem d_B_step_52 : decode prog_1_method_7_code 52 = .ok (.astore_n 1, 1) := by decide +kernel
theorem d_B_step_53 : decode prog_1_method_7_code 53 = .ok (.aload_n 0, 1) := by decide +kernel
theorem d_B_step_54 : decode prog_1_method_7_code 54 = .ok (.getfield 98, 3) := by decide +kernel
theorem d_B_step_57 : decode prog_1_method_7_code 57 = .ok (.ifCond .ne 11, 3) := by decide +kernel
theorem d_B_step_60 : decode prog_1_method_7_code 60 = .ok (.aload_n 0, 1) := by decide +kernel
theorem d_B_step_61 : decode prog_1_method_7_code 61 = .ok (.aload_n 1, 1) := by decide +kernel
theorem d_B_step_62 : decode prog_1_method_7_code 62 = .ok (.invokevirtual 105, 3) := by decide +kernel
theorem d_B_step_65 : decode prog_1_method_7_code 65 = .ok (.ifCond .eq 7, 3) := by decide +kernel
theorem d_B_step_68 : decode prog_1_method_7_code 68 = .ok (.iconst 1, 1) := by decide +kernel
theorem d_B_step_69 : decode prog_1_method_7_code 69 = .ok (.goto 4, 3) := by decide +kernel
theorem d_B_step_72 : decode prog_1_method_7_code 72 = .ok (.iconst 0, 1) := by decide +kernel
theorem d_B_step_73 : decode prog_1_method_7_code 73 = .ok (.istore_n 2, 1) := by decide +kernel
theorem d_B_step_74 : decode prog_1_method_7_code 74 = .ok (.iload_n 2, 1) := by decide +kernel
theorem d_B_step_75 : decode prog_1_method_7_code 75 = .ok (.ifCond .eq 17, 3) := by decide +kernel
theorem d_B_step_78 : decode prog_1_method_7_code 78 = .ok (.aload_n 0, 1) := by decide +kernel
theorem d_B_step_79 : decode prog_1_method_7_code 79 = .ok (.getfield 98, 3) := by decide +kernel
theorem d_B_step_82 : decode prog_1_method_7_code 82 = .ok (.iconst 1, 1) := by decide +kernel
theorem d_B_step_83 : decode prog_1_method_7_code 83 = .ok (.if_icmp .ne 9, 3) := by decide +kernel
theorem d_B_step_86 : decode prog_1_method_7_code 86 = .ok (.aload_n 0, 1) := by decide +kernel
theorem d_B_step_87 : decode prog_1_method_7_code 87 = .ok (.aload_n 1, 1) := by decide +kernel
theorem d_B_step_88 : decode prog_1_method_7_code 88 = .ok (.invokevirtual 109, 3) := by decide +kernel
theorem d_B_step_91 : decode prog_1_method_7_code 91 = .ok (.istore_n 2, 1) := by decide +kernel
theorem d_B_step_92 : decode prog_1_method_7_code 92 = .ok (.iload_n 2, 1) := by decide +kernel
theorem d_B_step_93 : decode prog_1_method_7_code 93 = .ok (.ifCond .eq 8, 3) := by decide +kernel
theorem d_B_step_96 : decode prog_1_method_7_code 96 = .ok (.aload_n 0, 1) := by decide +kernel
theorem d_B_step_97 : decode prog_1_method_7_code 97 = .ok (.aload_n 1, 1) := by decide +kernel
theorem d_B_step_98 : decode prog_1_method_7_code 98 = .ok (.invokevirtual 112, 3) := by decide +kernel
theorem d_B_step_101 : decode prog_1_method_7_code 101 = .ok (.aload_n 0, 1) := by decide +kernel
theorem d_B_step_102 : decode prog_1_method_7_code 102 = .ok (.invokevirtual 115, 3) := by decide +kernel
theorem d_B_step_105 : decode prog_1_method_7_code 105 = .ok (.aload_n 0, 1) := by decide +kernel
theorem d_B_step_106 : decode prog_1_method_7_code 106 = .ok (.getfield 118, 3) := by decide +kernel
theorem d_B_step_109 : decode prog_1_method_7_code 109 = .ok (.ireturn, 1) := by decide +kernel
theorem d_B_holder_0 : decode prog_1_method_8_code 0 = .ok (.aload_n 0, 1) := by decide +kernel
theorem d_B_holder_1 : decode prog_1_method_8_code 1 = .ok (.getfield 31, 3) := by decide +kernel
theorem d_B_holder_4 : decode prog_1_method_8_code 4 = .ok (.ireturn, 1) := by decide +kernel
theorem d_B_phase_0 : decode prog_1_method_9_code 0 = .ok (.aload_n 0, 1) := by decide +kernel
theorem d_B_phase_1 : decode prog_1_method_9_code 1 = .ok (.getfield 31, 3) := by decide +kernel
theorem d_B_phase_4 : decode prog_1_method_9_code 4 = .ok (.iconst (-1), 1) := by decide +kernel
theorem d_B_phase_5 : decode prog_1_method_9_code 5 = .ok (.if_icmp .ne 7, 3) := by decide +kernel
theorem d_B_phase_8 : decode prog_1_method_9_code 8 = .ok (.iconst (-1), 1) := by decide +kernel
theorem d_B_phase_9 : decode prog_1_method_9_code 9 = .ok (.goto 7, 3) := by decide +kernel
theorem d_B_phase_12 : decode prog_1_method_9_code 12 = .ok (.aload_n 0, 1) := by decide +kernel
theorem d_B_phase_13 : decode prog_1_method_9_code 13 = .ok (.getfield 98, 3) := by decide +kernel
theorem d_B_phase_16 : decode prog_1_method_9_code 16 = .ok (.ireturn, 1) := by decide +kernel
theorem d_B_node_0 : decode prog_1_method_10_code 0 = .ok (.iload_n 1, 1) := by decide +kernel
theorem d_B_node_1 : decode prog_1_method_10_code 1 = .ok (.invokestatic 38, 3) := by decide +kernel
theorem d_B_node_4 : decode prog_1_method_10_code 4 = .ok (.ifCond .eq 16, 3) := by decide +kernel
theorem d_B_node_7 : decode prog_1_method_10_code 7 = .ok (.aload_n 0, 1) := by decide +kernel
theorem d_B_node_8 : decode prog_1_method_10_code 8 = .ok (.getfield 11, 3) := by decide +kernel
theorem d_B_node_11 : decode prog_1_method_10_code 11 = .ok (.iload_n 1, 1) := by decide +kernel
theorem d_B_node_12 : decode prog_1_method_10_code 12 = .ok (.aaload, 1) := by decide +kernel
theorem d_B_node_13 : decode prog_1_method_10_code 13 = .ok (.iload_n 2, 1) := by decide +kernel
theorem d_B_node_14 : decode prog_1_method_10_code 14 = .ok (.invokevirtual 121, 3) := by decide +kernel
theorem d_B_node_17 : decode prog_1_method_10_code 17 = .ok (.goto 4, 3) := by decide +kernel
theorem d_B_node_20 : decode prog_1_method_10_code 20 = .ok (.iconst (-1), 1) := by decide +kernel
theorem d_B_node_21 : decode prog_1_method_10_code 21 = .ok (.ireturn, 1) := by decide +kernel
theorem d_B_value_0 : decode prog_1_method_11_code 0 = .ok (.iload_n 1, 1) := by decide +kernel
theorem d_B_value_1 : decode prog_1_method_11_code 1 = .ok (.invokestatic 38, 3) := by decide +kernel
theorem d_B_value_4 : decode prog_1_method_11_code 4 = .ok (.ifCond .eq 16, 3) := by decide +kernel
theorem d_B_value_7 : decode prog_1_method_11_code 7 = .ok (.aload_n 0, 1) := by decide +kernel
theorem d_B_value_8 : decode prog_1_method_11_code 8 = .ok (.getfield 11, 3) := by decide +kernel
theorem d_B_value_11 : decode prog_1_method_11_code 11 = .ok (.iload_n 1, 1) := by decide +kernel
theorem d_B_value_12 : decode prog_1_method_11_code 12 = .ok (.aaload, 1) := by decide +kernel
theorem d_B_value_13 : decode prog_1_method_11_code 13 = .ok (.iload_n 2, 1) := by decide +kernel
theorem d_B_value_14 : decode prog_1_method_11_code 14 = .ok (.invokevirtual 125, 3) := by decide +kernel
theorem d_B_value_17 : decode prog_1_method_11_code 17 = .ok (.goto 4, 3) := by decide +kernel
theorem d_B_value_20 : decode prog_1_method_11_code 20 = .ok (.iconst 0, 1) := by decide +kernel
theorem d_B_value_21 : decode prog_1_method_11_code 21 = .ok (.ireturn, 1) := by decide +kernel
theorem d_B_level_0 : decode prog_1_method_12_code 0 = .ok (.iload_n 1, 1) := by decide +kernel
theorem d_B_level_1 : decode prog_1_method_12_code 1 = .ok (.invokestatic 38, 3) := by decide +kernel
theorem d_B_level_4 : decode prog_1_method_12_code 4 = .ok (.ifCond .eq 19, 3) := by decide +kernel
theorem d_B_level_7 : decode prog_1_method_12_code 7 = .ok (.aload_n 0, 1) := by decide +kernel
theorem d_B_level_8 : decode prog_1_method_12_code 8 = .ok (.getfield 11, 3) := by decide +kernel
theorem d_B_level_11 : decode prog_1_method_12_code 11 = .ok (.iload_n 1, 1) := by decide +kernel
theorem d_B_level_12 : decode prog_1_method_12_code 12 = .ok (.aaload, 1) := by decide +kernel
theorem d_B_level_13 : decode prog_1_method_12_code 13 = .ok (.getfield 128, 3) := by decide +kernel
theorem d_B_level_16 : decode prog_1_method_12_code 16 = .ok (.iload_n 2, 1) := by decide +kernel
theorem d_B_level_17 : decode prog_1_method_12_code 17 = .ok (.invokevirtual 132, 3) := by decide +kernel
theorem d_B_level_20 : decode prog_1_method_12_code 20 = .ok (.goto 4, 3) := by decide +kernel
theorem d_B_level_23 : decode prog_1_method_12_code 23 = .ok (.iconst 0, 1) := by decide +kernel
theorem d_B_level_24 : decode prog_1_method_12_code 24 = .ok (.ireturn, 1) := by decide +kernel
theorem d_B_set_0 : decode prog_1_method_13_code 0 = .ok (.iload_n 1, 1) := by decide +kernel
theorem d_B_set_1 : decode prog_1_method_13_code 1 = .ok (.invokestatic 38, 3) := by decide +kernel
theorem d_B_set_4 : decode prog_1_method_13_code 4 = .ok (.ifCond .eq 23, 3) := by decide +kernel
theorem d_B_set_7 : decode prog_1_method_13_code 7 = .ok (.aload_n 0, 1) := by decide +kernel
theorem d_B_set_8 : decode prog_1_method_13_code 8 = .ok (.getfield 11, 3) := by decide +kernel
theorem d_B_set_11 : decode prog_1_method_13_code 11 = .ok (.iload_n 1, 1) := by decide +kernel
theorem d_B_set_12 : decode prog_1_method_13_code 12 = .ok (.aaload, 1) := by decide +kernel
theorem d_B_set_13 : decode prog_1_method_13_code 13 = .ok (.getfield 128, 3) := by decide +kernel
theorem d_B_set_16 : decode prog_1_method_13_code 16 = .ok (.iload_n 2, 1) := by decide +kernel
theorem d_B_set_17 : decode prog_1_method_13_code 17 = .ok (.invokevirtual 137, 3) := by decide +kernel
theorem d_B_set_20 : decode prog_1_method_13_code 20 = .ok (.ifCond .eq 7, 3) := by decide +kernel
theorem d_B_set_23 : decode prog_1_method_13_code 23 = .ok (.iconst 1, 1) := by decide +kernel
theorem d_B_set_24 : decode prog_1_method_13_code 24 = .ok (.goto 4, 3) := by decide +kernel
theorem d_B_set_27 : decode prog_1_method_13_code 27 = .ok (.iconst 0, 1) := by decide +kernel
theorem d_B_set_28 : decode prog_1_method_13_code 28 = .ok (.ireturn, 1) := by decide +kernel
theorem d_B_state_0 : decode prog_1_method_14_code 0 = .ok (.aload_n 0, 1) := by decide +kernel
theorem d_B_state_1 : decode prog_1_method_14_code 1 = .ok (.iload_n 1, 1) := by decide +kernel
theorem d_B_state_2 : decode prog_1_method_14_code 2 = .ok (.invokevirtual 140, 3) := by decide +kernel
theorem d_B_state_5 : decode prog_1_method_14_code 5 = .ok (.ifCond .eq 15, 3) := by decide +kernel
theorem d_B_state_8 : decode prog_1_method_14_code 8 = .ok (.aload_n 0, 1) := by decide +kernel
theorem d_B_state_9 : decode prog_1_method_14_code 9 = .ok (.getfield 17, 3) := by decide +kernel
theorem d_B_state_12 : decode prog_1_method_14_code 12 = .ok (.iload_n 1, 1) := by decide +kernel
theorem d_B_state_13 : decode prog_1_method_14_code 13 = .ok (.aaload, 1) := by decide +kernel
theorem d_B_state_14 : decode prog_1_method_14_code 14 = .ok (.getfield 143, 3) := by decide +kernel
theorem d_B_state_17 : decode prog_1_method_14_code 17 = .ok (.goto 4, 3) := by decide +kernel
theorem d_B_state_20 : decode prog_1_method_14_code 20 = .ok (.iconst (-1), 1) := by decide +kernel
theorem d_B_state_21 : decode prog_1_method_14_code 21 = .ok (.ireturn, 1) := by decide +kernel
theorem d_B_answer_0 : decode prog_1_method_15_code 0 = .ok (.aload_n 0, 1) := by decide +kernel
theorem d_B_answer_1 : decode prog_1_method_15_code 1 = .ok (.iload_n 1, 1) := by decide +kernel
theorem d_B_answer_2 : decode prog_1_method_15_code 2 = .ok (.invokevirtual 140, 3) := by decide +kernel
theorem d_B_answer_5 : decode prog_1_method_15_code 5 = .ok (.ifCond .eq 28, 3) := by decide +kernel
theorem d_B_answer_8 : decode prog_1_method_15_code 8 = .ok (.aload_n 0, 1) := by decide +kernel
theorem d_B_answer_9 : decode prog_1_method_15_code 9 = .ok (.getfield 17, 3) := by decide +kernel
theorem d_B_answer_12 : decode prog_1_method_15_code 12 = .ok (.iload_n 1, 1) := by decide +kernel
theorem d_B_answer_13 : decode prog_1_method_15_code 13 = .ok (.aaload, 1) := by decide +kernel
theorem d_B_answer_14 : decode prog_1_method_15_code 14 = .ok (.getfield 143, 3) := by decide +kernel
theorem d_B_answer_17 : decode prog_1_method_15_code 17 = .ok (.iconst 1, 1) := by decide +kernel
theorem d_B_answer_18 : decode prog_1_method_15_code 18 = .ok (.if_icmp .ne 15, 3) := by decide +kernel
theorem d_B_answer_21 : decode prog_1_method_15_code 21 = .ok (.aload_n 0, 1) := by decide +kernel
theorem d_B_answer_22 : decode prog_1_method_15_code 22 = .ok (.getfield 17, 3) := by decide +kernel
theorem d_B_answer_25 : decode prog_1_method_15_code 25 = .ok (.iload_n 1, 1) := by decide +kernel
theorem d_B_answer_26 : decode prog_1_method_15_code 26 = .ok (.aaload, 1) := by decide +kernel
theorem d_B_answer_27 : decode prog_1_method_15_code 27 = .ok (.getfield 146, 3) := by decide +kernel
theorem d_B_answer_30 : decode prog_1_method_15_code 30 = .ok (.goto 4, 3) := by decide +kernel
theorem d_B_answer_33 : decode prog_1_method_15_code 33 = .ok (.iconst 0, 1) := by decide +kernel
theorem d_B_answer_34 : decode prog_1_method_15_code 34 = .ok (.ireturn, 1) := by decide +kernel
theorem d_B_noted_0 : decode prog_1_method_16_code 0 = .ok (.iload_n 1, 1) := by decide +kernel
theorem d_B_noted_1 : decode prog_1_method_16_code 1 = .ok (.invokestatic 38, 3) := by decide +kernel
theorem d_B_noted_4 : decode prog_1_method_16_code 4 = .ok (.ifCond .eq 16, 3) := by decide +kernel
theorem d_B_noted_7 : decode prog_1_method_16_code 7 = .ok (.aload_n 0, 1) := by decide +kernel
theorem d_B_noted_8 : decode prog_1_method_16_code 8 = .ok (.getfield 11, 3) := by decide +kernel
theorem d_B_noted_11 : decode prog_1_method_16_code 11 = .ok (.iload_n 1, 1) := by decide +kernel
theorem d_B_noted_12 : decode prog_1_method_16_code 12 = .ok (.aaload, 1) := by decide +kernel
theorem d_B_noted_13 : decode prog_1_method_16_code 13 = .ok (.iload_n 2, 1) := by decide +kernel
theorem d_B_noted_14 : decode prog_1_method_16_code 14 = .ok (.invokevirtual 149, 3) := by decide +kernel
theorem d_B_noted_17 : decode prog_1_method_16_code 17 = .ok (.goto 4, 3) := by decide +kernel
theorem d_B_noted_20 : decode prog_1_method_16_code 20 = .ok (.iconst (-1), 1) := by decide +kernel
theorem d_B_noted_21 : decode prog_1_method_16_code 21 = .ok (.ireturn, 1) := by decide +kernel
theorem d_B_frame_0 : decode prog_1_method_17_code 0 = .ok (.iload_n 1, 1) := by decide +kernel
theorem d_B_frame_1 : decode prog_1_method_17_code 1 = .ok (.iconst 0, 1) := by decide +kernel
theorem d_B_frame_2 : decode prog_1_method_17_code 2 = .ok (.iconst 1, 1) := by decide +kernel
theorem d_B_frame_3 : decode prog_1_method_17_code 3 = .ok (.invokestatic 52, 3) := by decide +kernel
theorem d_B_frame_6 : decode prog_1_method_17_code 6 = .ok (.ifCond .eq 15, 3) := by decide +kernel
theorem d_B_frame_9 : decode prog_1_method_17_code 9 = .ok (.aload_n 0, 1) := by decide +kernel
theorem d_B_frame_10 : decode prog_1_method_17_code 10 = .ok (.iload_n 1, 1) := by decide +kernel
theorem d_B_frame_11 : decode prog_1_method_17_code 11 = .ok (.invokevirtual 85, 3) := by decide +kernel
theorem d_B_frame_14 : decode prog_1_method_17_code 14 = .ok (.iload_n 2, 1) := by decide +kernel
theorem d_B_frame_15 : decode prog_1_method_17_code 15 = .ok (.invokevirtual 152, 3) := by decide +kernel
theorem d_B_frame_18 : decode prog_1_method_17_code 18 = .ok (.goto 4, 3) := by decide +kernel
theorem d_B_frame_21 : decode prog_1_method_17_code 21 = .ok (.iconst (-1), 1) := by decide +kernel
theorem d_B_frame_22 : decode prog_1_method_17_code 22 = .ok (.ireturn, 1) := by decide +kernel
theorem d_B_total_0 : decode prog_1_method_18_code 0 = .ok (.iload_n 1, 1) := by decide +kernel
theorem d_B_total_1 : decode prog_1_method_18_code 1 = .ok (.tableswitch 51 0 3 #[31, 36, 41, 46], 31) := by decide +kernel
theorem d_B_total_32 : decode prog_1_method_18_code 32 = .ok (.aload_n 0, 1) := by decide +kernel
theorem d_B_total_33 : decode prog_1_method_18_code 33 = .ok (.getfield 155, 3) := by decide +kernel
theorem d_B_total_36 : decode prog_1_method_18_code 36 = .ok (.ireturn, 1) := by decide +kernel
theorem d_B_total_37 : decode prog_1_method_18_code 37 = .ok (.aload_n 0, 1) := by decide +kernel
theorem d_B_total_38 : decode prog_1_method_18_code 38 = .ok (.getfield 158, 3) := by decide +kernel
theorem d_B_total_41 : decode prog_1_method_18_code 41 = .ok (.ireturn, 1) := by decide +kernel
theorem d_B_total_42 : decode prog_1_method_18_code 42 = .ok (.aload_n 0, 1) := by decide +kernel
theorem d_B_total_43 : decode prog_1_method_18_code 43 = .ok (.getfield 72, 3) := by decide +kernel
theorem d_B_total_46 : decode prog_1_method_18_code 46 = .ok (.ireturn, 1) := by decide +kernel
theorem d_B_total_47 : decode prog_1_method_18_code 47 = .ok (.aload_n 0, 1) := by decide +kernel
theorem d_B_total_48 : decode prog_1_method_18_code 48 = .ok (.getfield 161, 3) := by decide +kernel
theorem d_B_total_51 : decode prog_1_method_18_code 51 = .ok (.ireturn, 1) := by decide +kernel
theorem d_B_total_52 : decode prog_1_method_18_code 52 = .ok (.iconst (-1), 1) := by decide +kernel
theorem d_B_total_53 : decode prog_1_method_18_code 53 = .ok (.ireturn, 1) := by decide +kernel
theorem d_B_isWithin_0 : decode prog_1_method_19_code 0 = .ok (.iload_n 0, 1) := by decide +kernel
theorem d_B_isWithin_1 : decode prog_1_method_19_code 1 = .ok (.iload_n 1, 1) := by decide +kernel
theorem d_B_isWithin_2 : decode prog_1_method_19_code 2 = .ok (.if_icmp .lt 12, 3) := by decide +kernel
theorem d_B_isWithin_5 : decode prog_1_method_19_code 5 = .ok (.iload_n 0, 1) := by decide +kernel
theorem d_B_isWithin_6 : decode prog_1_method_19_code 6 = .ok (.iload_n 2, 1) := by decide +kernel
theorem d_B_isWithin_7 : decode prog_1_method_19_code 7 = .ok (.if_icmp .gt 7, 3) := by decide +kernel
theorem d_B_isWithin_10 : decode prog_1_method_19_code 10 = .ok (.iconst 1, 1) := by decide +kernel
theorem d_B_isWithin_11 : decode prog_1_method_19_code 11 = .ok (.goto 4, 3) := by decide +kernel
theorem d_B_isWithin_14 : decode prog_1_method_19_code 14 = .ok (.iconst 0, 1) := by decide +kernel
theorem d_B_isWithin_15 : decode prog_1_method_19_code 15 = .ok (.ireturn, 1) := by decide +kernel
theorem d_B_held_0 : decode prog_1_method_20_code 0 = .ok (.iload_n 1, 1) := by decide +kernel
theorem d_B_held_1 : decode prog_1_method_20_code 1 = .ok (.ineg, 1) := by decide +kernel
theorem d_B_held_2 : decode prog_1_method_20_code 2 = .ok (.iload_n 1, 1) := by decide +kernel
theorem d_B_held_3 : decode prog_1_method_20_code 3 = .ok (.iload_n 0, 1) := by decide +kernel
theorem d_B_held_4 : decode prog_1_method_20_code 4 = .ok (.invokestatic 164, 3) := by decide +kernel
theorem d_B_held_7 : decode prog_1_method_20_code 7 = .ok (.invokestatic 170, 3) := by decide +kernel
theorem d_B_held_10 : decode prog_1_method_20_code 10 = .ok (.ireturn, 1) := by decide +kernel
theorem d_B_isNode_0 : decode prog_1_method_21_code 0 = .ok (.iload_n 0, 1) := by decide +kernel
theorem d_B_isNode_1 : decode prog_1_method_21_code 1 = .ok (.iconst 0, 1) := by decide +kernel
theorem d_B_isNode_2 : decode prog_1_method_21_code 2 = .ok (.iconst 5, 1) := by decide +kernel
theorem d_B_isNode_3 : decode prog_1_method_21_code 3 = .ok (.invokestatic 52, 3) := by decide +kernel
theorem d_B_isNode_6 : decode prog_1_method_21_code 6 = .ok (.ireturn, 1) := by decide +kernel
theorem d_B_behind_0 : decode prog_1_method_22_code 0 = .ok (.iload_n 0, 1) := by decide +kernel
theorem d_B_behind_1 : decode prog_1_method_22_code 1 = .ok (.iconst 1, 1) := by decide +kernel
theorem d_B_behind_2 : decode prog_1_method_22_code 2 = .ok (.iadd, 1) := by decide +kernel
theorem d_B_behind_3 : decode prog_1_method_22_code 3 = .ok (.bipush 6, 2) := by decide +kernel
theorem d_B_behind_5 : decode prog_1_method_22_code 5 = .ok (.if_icmp .ge 9, 3) := by decide +kernel
theorem d_B_behind_8 : decode prog_1_method_22_code 8 = .ok (.iload_n 0, 1) := by decide +kernel
theorem d_B_behind_9 : decode prog_1_method_22_code 9 = .ok (.iconst 1, 1) := by decide +kernel
theorem d_B_behind_10 : decode prog_1_method_22_code 10 = .ok (.iadd, 1) := by decide +kernel
theorem d_B_behind_11 : decode prog_1_method_22_code 11 = .ok (.goto 4, 3) := by decide +kernel
theorem d_B_behind_14 : decode prog_1_method_22_code 14 = .ok (.iconst 0, 1) := by decide +kernel
theorem d_B_behind_15 : decode prog_1_method_22_code 15 = .ok (.ireturn, 1) := by decide +kernel
theorem d_B_isRequest_0 : decode prog_1_method_23_code 0 = .ok (.iload_n 1, 1) := by decide +kernel
theorem d_B_isRequest_1 : decode prog_1_method_23_code 1 = .ok (.ifCond .lt 15, 3) := by decide +kernel
theorem d_B_isRequest_4 : decode prog_1_method_23_code 4 = .ok (.iload_n 1, 1) := by decide +kernel
theorem d_B_isRequest_5 : decode prog_1_method_23_code 5 = .ok (.aload_n 0, 1) := by decide +kernel
theorem d_B_isRequest_6 : decode prog_1_method_23_code 6 = .ok (.getfield 72, 3) := by decide +kernel
theorem d_B_isRequest_9 : decode prog_1_method_23_code 9 = .ok (.if_icmp .ge 7, 3) := by decide +kernel
theorem d_B_isRequest_12 : decode prog_1_method_23_code 12 = .ok (.iconst 1, 1) := by decide +kernel
theorem d_B_isRequest_13 : decode prog_1_method_23_code 13 = .ok (.goto 4, 3) := by decide +kernel
theorem d_B_isRequest_16 : decode prog_1_method_23_code 16 = .ok (.iconst 0, 1) := by decide +kernel
theorem d_B_isRequest_17 : decode prog_1_method_23_code 17 = .ok (.ireturn, 1) := by decide +kernel
theorem d_B_numbered_0 : decode prog_1_method_24_code 0 = .ok (.iload_n 1, 1) := by decide +kernel
theorem d_B_numbered_1 : decode prog_1_method_24_code 1 = .ok (.ifCond .ne 10, 3) := by decide +kernel
theorem d_B_numbered_4 : decode prog_1_method_24_code 4 = .ok (.aload_n 0, 1) := by decide +kernel
theorem d_B_numbered_5 : decode prog_1_method_24_code 5 = .ok (.getfield 24, 3) := by decide +kernel
theorem d_B_numbered_8 : decode prog_1_method_24_code 8 = .ok (.goto 7, 3) := by decide +kernel
theorem d_B_numbered_11 : decode prog_1_method_24_code 11 = .ok (.aload_n 0, 1) := by decide +kernel
theorem d_B_numbered_12 : decode prog_1_method_24_code 12 = .ok (.getfield 28, 3) := by decide +kernel
theorem d_B_numbered_15 : decode prog_1_method_24_code 15 = .ok (.areturn, 1) := by decide +kernel
theorem d_B_forgetSpoiling_0 : decode prog_1_method_25_code 0 = .ok (.aload_n 0, 1) := by decide +kernel
theorem d_B_forgetSpoiling_1 : decode prog_1_method_25_code 1 = .ok (.getfield 24, 3) := by decide +kernel
theorem d_B_forgetSpoiling_4 : decode prog_1_method_25_code 4 = .ok (.invokevirtual 173, 3) := by decide +kernel
theorem d_B_forgetSpoiling_7 : decode prog_1_method_25_code 7 = .ok (.aload_n 0, 1) := by decide +kernel
theorem d_B_forgetSpoiling_8 : decode prog_1_method_25_code 8 = .ok (.getfield 28, 3) := by decide +kernel
theorem d_B_forgetSpoiling_11 : decode prog_1_method_25_code 11 = .ok (.invokevirtual 173, 3) := by decide +kernel
theorem d_B_forgetSpoiling_14 : decode prog_1_method_25_code 14 = .ok (.return_, 1) := by decide +kernel
theorem d_B_beginStep_0 : decode prog_1_method_26_code 0 = .ok (.aload_n 0, 1) := by decide +kernel
theorem d_B_beginStep_1 : decode prog_1_method_26_code 1 = .ok (.dup, 1) := by decide +kernel
theorem d_B_beginStep_2 : decode prog_1_method_26_code 2 = .ok (.getfield 155, 3) := by decide +kernel
theorem d_B_beginStep_5 : decode prog_1_method_26_code 5 = .ok (.iconst 1, 1) := by decide +kernel
theorem d_B_beginStep_6 : decode prog_1_method_26_code 6 = .ok (.iadd, 1) := by decide +kernel
theorem d_B_beginStep_7 : decode prog_1_method_26_code 7 = .ok (.putfield 155, 3) := by decide +kernel
theorem d_B_beginStep_10 : decode prog_1_method_26_code 10 = .ok (.aload_n 0, 1) := by decide +kernel
theorem d_B_beginStep_11 : decode prog_1_method_26_code 11 = .ok (.iconst 0, 1) := by decide +kernel
theorem d_B_beginStep_12 : decode prog_1_method_26_code 12 = .ok (.putfield 118, 3) := by decide +kernel
theorem d_B_beginStep_15 : decode prog_1_method_26_code 15 = .ok (.aload_n 0, 1) := by decide +kernel
theorem d_B_beginStep_16 : decode prog_1_method_26_code 16 = .ok (.getfield 24, 3) := by decide +kernel
theorem d_B_beginStep_19 : decode prog_1_method_26_code 19 = .ok (.invokevirtual 174, 3) := by decide +kernel
theorem d_B_beginStep_22 : decode prog_1_method_26_code 22 = .ok (.aload_n 0, 1) := by decide +kernel
theorem d_B_beginStep_23 : decode prog_1_method_26_code 23 = .ok (.getfield 28, 3) := by decide +kernel
theorem d_B_beginStep_26 : decode prog_1_method_26_code 26 = .ok (.invokevirtual 174, 3) := by decide +kernel
theorem d_B_beginStep_29 : decode prog_1_method_26_code 29 = .ok (.return_, 1) := by decide +kernel
theorem d_B_endStep_0 : decode prog_1_method_27_code 0 = .ok (.aload_n 0, 1) := by decide +kernel
theorem d_B_endStep_1 : decode prog_1_method_27_code 1 = .ok (.dup, 1) := by decide +kernel
theorem d_B_endStep_2 : decode prog_1_method_27_code 2 = .ok (.getfield 158, 3) := by decide +kernel
theorem d_B_endStep_5 : decode prog_1_method_27_code 5 = .ok (.aload_n 0, 1) := by decide +kernel
theorem d_B_endStep_6 : decode prog_1_method_27_code 6 = .ok (.getfield 118, 3) := by decide +kernel
theorem d_B_endStep_9 : decode prog_1_method_27_code 9 = .ok (.iadd, 1) := by decide +kernel
theorem d_B_endStep_10 : decode prog_1_method_27_code 10 = .ok (.putfield 158, 3) := by decide +kernel
theorem d_B_endStep_13 : decode prog_1_method_27_code 13 = .ok (.aload_n 0, 1) := by decide +kernel
theorem d_B_endStep_14 : decode prog_1_method_27_code 14 = .ok (.invokevirtual 82, 3) := by decide +kernel
theorem d_B_endStep_17 : decode prog_1_method_27_code 17 = .ok (.aload_n 0, 1) := by decide +kernel
theorem d_B_endStep_18 : decode prog_1_method_27_code 18 = .ok (.getfield 11, 3) := by decide +kernel
theorem d_B_endStep_21 : decode prog_1_method_27_code 21 = .ok (.astore_n 1, 1) := by decide +kernel
theorem d_B_endStep_22 : decode prog_1_method_27_code 22 = .ok (.aload_n 1, 1) := by decide +kernel
theorem d_B_endStep_23 : decode prog_1_method_27_code 23 = .ok (.arraylength, 1) := by decide +kernel
theorem d_B_endStep_24 : decode prog_1_method_27_code 24 = .ok (.istore_n 2, 1) := by decide +kernel
theorem d_B_endStep_25 : decode prog_1_method_27_code 25 = .ok (.iconst 0, 1) := by decide +kernel
theorem d_B_endStep_26 : decode prog_1_method_27_code 26 = .ok (.istore_n 3, 1) := by decide +kernel
theorem d_B_endStep_27 : decode prog_1_method_27_code 27 = .ok (.iload_n 3, 1) := by decide +kernel
theorem d_B_endStep_28 : decode prog_1_method_27_code 28 = .ok (.iload_n 2, 1) := by decide +kernel
theorem d_B_endStep_29 : decode prog_1_method_27_code 29 = .ok (.if_icmp .ge 32, 3) := by decide +kernel
theorem d_B_endStep_32 : decode prog_1_method_27_code 32 = .ok (.aload_n 1, 1) := by decide +kernel
theorem d_B_endStep_33 : decode prog_1_method_27_code 33 = .ok (.iload_n 3, 1) := by decide +kernel
theorem d_B_endStep_34 : decode prog_1_method_27_code 34 = .ok (.aaload, 1) := by decide +kernel
theorem d_B_endStep_35 : decode prog_1_method_27_code 35 = .ok (.astore 4, 2) := by decide +kernel
theorem d_B_endStep_37 : decode prog_1_method_27_code 37 = .ok (.aload 4, 2) := by decide +kernel
theorem d_B_endStep_39 : decode prog_1_method_27_code 39 = .ok (.getfield 42, 3) := by decide +kernel
theorem d_B_endStep_42 : decode prog_1_method_27_code 42 = .ok (.ifCond .eq 13, 3) := by decide +kernel
theorem d_B_endStep_45 : decode prog_1_method_27_code 45 = .ok (.aload 4, 2) := by decide +kernel
theorem d_B_endStep_47 : decode prog_1_method_27_code 47 = .ok (.invokevirtual 177, 3) := by decide +kernel
theorem d_B_endStep_50 : decode prog_1_method_27_code 50 = .ok (.aload 4, 2) := by decide +kernel
theorem d_B_endStep_52 : decode prog_1_method_27_code 52 = .ok (.invokevirtual 180, 3) := by decide +kernel
theorem d_B_endStep_55 : decode prog_1_method_27_code 55 = .ok (.iinc 3 1, 3) := by decide +kernel
theorem d_B_endStep_58 : decode prog_1_method_27_code 58 = .ok (.goto (-31), 3) := by decide +kernel
theorem d_B_endStep_61 : decode prog_1_method_27_code 61 = .ok (.return_, 1) := by decide +kernel
theorem d_B_loseTokenOf_0 : decode prog_1_method_28_code 0 = .ok (.aload_n 0, 1) := by decide +kernel
theorem d_B_loseTokenOf_1 : decode prog_1_method_28_code 1 = .ok (.getfield 31, 3) := by decide +kernel
theorem d_B_loseTokenOf_4 : decode prog_1_method_28_code 4 = .ok (.iload_n 1, 1) := by decide +kernel
theorem d_B_loseTokenOf_5 : decode prog_1_method_28_code 5 = .ok (.if_icmp .ne 13, 3) := by decide +kernel
theorem d_B_loseTokenOf_8 : decode prog_1_method_28_code 8 = .ok (.aload_n 0, 1) := by decide +kernel
theorem d_B_loseTokenOf_9 : decode prog_1_method_28_code 9 = .ok (.iconst (-1), 1) := by decide +kernel
theorem d_B_loseTokenOf_10 : decode prog_1_method_28_code 10 = .ok (.putfield 31, 3) := by decide +kernel
theorem d_B_loseTokenOf_13 : decode prog_1_method_28_code 13 = .ok (.aload_n 0, 1) := by decide +kernel
theorem d_B_loseTokenOf_14 : decode prog_1_method_28_code 14 = .ok (.iconst 0, 1) := by decide +kernel
theorem d_B_loseTokenOf_15 : decode prog_1_method_28_code 15 = .ok (.putfield 161, 3) := by decide +kernel
theorem d_B_loseTokenOf_18 : decode prog_1_method_28_code 18 = .ok (.return_, 1) := by decide +kernel
theorem d_B_waitInSilence_0 : decode prog_1_method_29_code 0 = .ok (.aload_n 0, 1) := by decide +kernel
theorem d_B_waitInSilence_1 : decode prog_1_method_29_code 1 = .ok (.dup, 1) := by decide +kernel
theorem d_B_waitInSilence_2 : decode prog_1_method_29_code 2 = .ok (.getfield 161, 3) := by decide +kernel
theorem d_B_waitInSilence_5 : decode prog_1_method_29_code 5 = .ok (.iconst 1, 1) := by decide +kernel
theorem d_B_waitInSilence_6 : decode prog_1_method_29_code 6 = .ok (.iadd, 1) := by decide +kernel
theorem d_B_waitInSilence_7 : decode prog_1_method_29_code 7 = .ok (.putfield 161, 3) := by decide +kernel
theorem d_B_waitInSilence_10 : decode prog_1_method_29_code 10 = .ok (.aload_n 0, 1) := by decide +kernel
theorem d_B_waitInSilence_11 : decode prog_1_method_29_code 11 = .ok (.invokevirtual 183, 3) := by decide +kernel
theorem d_B_waitInSilence_14 : decode prog_1_method_29_code 14 = .ok (.istore_n 1, 1) := by decide +kernel
theorem d_B_waitInSilence_15 : decode prog_1_method_29_code 15 = .ok (.iload_n 1, 1) := by decide +kernel
theorem d_B_waitInSilence_16 : decode prog_1_method_29_code 16 = .ok (.iconst (-1), 1) := by decide +kernel
theorem d_B_waitInSilence_17 : decode prog_1_method_29_code 17 = .ok (.if_icmp .eq 15, 3) := by decide +kernel
theorem d_B_waitInSilence_20 : decode prog_1_method_29_code 20 = .ok (.aload_n 0, 1) := by decide +kernel
theorem d_B_waitInSilence_21 : decode prog_1_method_29_code 21 = .ok (.getfield 161, 3) := by decide +kernel
theorem d_B_waitInSilence_24 : decode prog_1_method_29_code 24 = .ok (.iconst 4, 1) := by decide +kernel
theorem d_B_waitInSilence_25 : decode prog_1_method_29_code 25 = .ok (.iconst 2, 1) := by decide +kernel
theorem d_B_waitInSilence_26 : decode prog_1_method_29_code 26 = .ok (.iload_n 1, 1) := by decide +kernel
theorem d_B_waitInSilence_27 : decode prog_1_method_29_code 27 = .ok (.imul, 1) := by decide +kernel
theorem d_B_waitInSilence_28 : decode prog_1_method_29_code 28 = .ok (.iadd, 1) := by decide +kernel
theorem d_B_waitInSilence_29 : decode prog_1_method_29_code 29 = .ok (.if_icmp .ge 4, 3) := by decide +kernel
theorem d_B_waitInSilence_32 : decode prog_1_method_29_code 32 = .ok (.return_, 1) := by decide +kernel
theorem d_B_waitInSilence_33 : decode prog_1_method_29_code 33 = .ok (.aload_n 0, 1) := by decide +kernel
theorem d_B_waitInSilence_34 : decode prog_1_method_29_code 34 = .ok (.iload_n 1, 1) := by decide +kernel
theorem d_B_waitInSilence_35 : decode prog_1_method_29_code 35 = .ok (.putfield 31, 3) := by decide +kernel
theorem d_B_waitInSilence_38 : decode prog_1_method_29_code 38 = .ok (.aload_n 0, 1) := by decide +kernel
theorem d_B_waitInSilence_39 : decode prog_1_method_29_code 39 = .ok (.getfield 11, 3) := by decide +kernel
theorem d_B_waitInSilence_42 : decode prog_1_method_29_code 42 = .ok (.iload_n 1, 1) := by decide +kernel
theorem d_B_waitInSilence_43 : decode prog_1_method_29_code 43 = .ok (.aaload, 1) := by decide +kernel
theorem d_B_waitInSilence_44 : decode prog_1_method_29_code 44 = .ok (.invokevirtual 187, 3) := by decide +kernel
theorem d_B_waitInSilence_47 : decode prog_1_method_29_code 47 = .ok (.aload_n 0, 1) := by decide +kernel
theorem d_B_waitInSilence_48 : decode prog_1_method_29_code 48 = .ok (.iconst 3, 1) := by decide +kernel
theorem d_B_waitInSilence_49 : decode prog_1_method_29_code 49 = .ok (.putfield 98, 3) := by decide +kernel
theorem d_B_waitInSilence_52 : decode prog_1_method_29_code 52 = .ok (.aload_n 0, 1) := by decide +kernel
theorem d_B_waitInSilence_53 : decode prog_1_method_29_code 53 = .ok (.iconst 0, 1) := by decide +kernel
theorem d_B_waitInSilence_54 : decode prog_1_method_29_code 54 = .ok (.putfield 161, 3) := by decide +kernel
theorem d_B_waitInSilence_57 : decode prog_1_method_29_code 57 = .ok (.return_, 1) := by decide +kernel
theorem d_B_leastPowered_0 : decode prog_1_method_30_code 0 = .ok (.iconst 0, 1) := by decide +kernel
theorem d_B_leastPowered_1 : decode prog_1_method_30_code 1 = .ok (.istore_n 1, 1) := by decide +kernel
theorem d_B_leastPowered_2 : decode prog_1_method_30_code 2 = .ok (.iload_n 1, 1) := by decide +kernel
theorem d_B_leastPowered_3 : decode prog_1_method_30_code 3 = .ok (.bipush 6, 2) := by decide +kernel
theorem d_B_leastPowered_5 : decode prog_1_method_30_code 5 = .ok (.if_icmp .ge 23, 3) := by decide +kernel
theorem d_B_leastPowered_8 : decode prog_1_method_30_code 8 = .ok (.aload_n 0, 1) := by decide +kernel
theorem d_B_leastPowered_9 : decode prog_1_method_30_code 9 = .ok (.getfield 11, 3) := by decide +kernel
theorem d_B_leastPowered_12 : decode prog_1_method_30_code 12 = .ok (.iload_n 1, 1) := by decide +kernel
theorem d_B_leastPowered_13 : decode prog_1_method_30_code 13 = .ok (.aaload, 1) := by decide +kernel
theorem d_B_leastPowered_14 : decode prog_1_method_30_code 14 = .ok (.getfield 42, 3) := by decide +kernel
theorem d_B_leastPowered_17 : decode prog_1_method_30_code 17 = .ok (.ifCond .eq 5, 3) := by decide +kernel
theorem d_B_leastPowered_20 : decode prog_1_method_30_code 20 = .ok (.iload_n 1, 1) := by decide +kernel
theorem d_B_leastPowered_21 : decode prog_1_method_30_code 21 = .ok (.ireturn, 1) := by decide +kernel
theorem d_B_leastPowered_22 : decode prog_1_method_30_code 22 = .ok (.iinc 1 1, 3) := by decide +kernel
theorem d_B_leastPowered_25 : decode prog_1_method_30_code 25 = .ok (.goto (-23), 3) := by decide +kernel
theorem d_B_leastPowered_28 : decode prog_1_method_30_code 28 = .ok (.iconst (-1), 1) := by decide +kernel
theorem d_B_leastPowered_29 : decode prog_1_method_30_code 29 = .ok (.ireturn, 1) := by decide +kernel
theorem d_B_use_0 : decode prog_1_method_31_code 0 = .ok (.aload_n 1, 1) := by decide +kernel
theorem d_B_use_1 : decode prog_1_method_31_code 1 = .ok (.invokevirtual 190, 3) := by decide +kernel
theorem d_B_use_4 : decode prog_1_method_31_code 4 = .ok (.astore_n 2, 1) := by decide +kernel
theorem d_B_use_5 : decode prog_1_method_31_code 5 = .ok (.aload_n 0, 1) := by decide +kernel
theorem d_B_use_6 : decode prog_1_method_31_code 6 = .ok (.getfield 194, 3) := by decide +kernel
theorem d_B_use_9 : decode prog_1_method_31_code 9 = .ok (.iconst 2, 1) := by decide +kernel
theorem d_B_use_10 : decode prog_1_method_31_code 10 = .ok (.if_icmp .ge 50, 3) := by decide +kernel
theorem d_B_use_13 : decode prog_1_method_31_code 13 = .ok (.aload_n 2, 1) := by decide +kernel
theorem d_B_use_14 : decode prog_1_method_31_code 14 = .ok (.ifnonnull 10, 3) := by decide +kernel
theorem d_B_use_17 : decode prog_1_method_31_code 17 = .ok (.aload_n 1, 1) := by decide +kernel
theorem d_B_use_18 : decode prog_1_method_31_code 18 = .ok (.getfield 69, 3) := by decide +kernel
theorem d_B_use_21 : decode prog_1_method_31_code 21 = .ok (.ifCond .le 39, 3) := by decide +kernel
theorem d_B_use_24 : decode prog_1_method_31_code 24 = .ok (.aload_n 0, 1) := by decide +kernel
theorem d_B_use_25 : decode prog_1_method_31_code 25 = .ok (.dup, 1) := by decide +kernel
theorem d_B_use_26 : decode prog_1_method_31_code 26 = .ok (.getfield 194, 3) := by decide +kernel
theorem d_B_use_29 : decode prog_1_method_31_code 29 = .ok (.iconst 1, 1) := by decide +kernel
theorem d_B_use_30 : decode prog_1_method_31_code 30 = .ok (.iadd, 1) := by decide +kernel
theorem d_B_use_31 : decode prog_1_method_31_code 31 = .ok (.putfield 194, 3) := by decide +kernel
theorem d_B_use_34 : decode prog_1_method_31_code 34 = .ok (.aload_n 2, 1) := by decide +kernel
theorem d_B_use_35 : decode prog_1_method_31_code 35 = .ok (.ifnull 12, 3) := by decide +kernel
theorem d_B_use_38 : decode prog_1_method_31_code 38 = .ok (.aload_n 0, 1) := by decide +kernel
theorem d_B_use_39 : decode prog_1_method_31_code 39 = .ok (.aload_n 1, 1) := by decide +kernel
theorem d_B_use_40 : decode prog_1_method_31_code 40 = .ok (.aload_n 2, 1) := by decide +kernel
theorem d_B_use_41 : decode prog_1_method_31_code 41 = .ok (.invokevirtual 197, 3) := by decide +kernel
theorem d_B_use_44 : decode prog_1_method_31_code 44 = .ok (.goto 14, 3) := by decide +kernel
theorem d_B_use_47 : decode prog_1_method_31_code 47 = .ok (.aload_n 0, 1) := by decide +kernel
theorem d_B_use_48 : decode prog_1_method_31_code 48 = .ok (.aload_n 1, 1) := by decide +kernel
theorem d_B_use_49 : decode prog_1_method_31_code 49 = .ok (.aload_n 1, 1) := by decide +kernel
theorem d_B_use_50 : decode prog_1_method_31_code 50 = .ok (.getfield 201, 3) := by decide +kernel
theorem d_B_use_53 : decode prog_1_method_31_code 53 = .ok (.iconst 0, 1) := by decide +kernel
theorem d_B_use_54 : decode prog_1_method_31_code 54 = .ok (.aaload, 1) := by decide +kernel
theorem d_B_use_55 : decode prog_1_method_31_code 55 = .ok (.invokevirtual 204, 3) := by decide +kernel
theorem d_B_use_58 : decode prog_1_method_31_code 58 = .ok (.iconst 0, 1) := by decide +kernel
theorem d_B_use_59 : decode prog_1_method_31_code 59 = .ok (.ireturn, 1) := by decide +kernel
theorem d_B_use_60 : decode prog_1_method_31_code 60 = .ok (.aload_n 1, 1) := by decide +kernel
theorem d_B_use_61 : decode prog_1_method_31_code 61 = .ok (.getfield 208, 3) := by decide +kernel
theorem d_B_use_64 : decode prog_1_method_31_code 64 = .ok (.iconst 3, 1) := by decide +kernel
theorem d_B_use_65 : decode prog_1_method_31_code 65 = .ok (.if_icmp .ge 14, 3) := by decide +kernel
theorem d_B_use_68 : decode prog_1_method_31_code 68 = .ok (.aload_n 1, 1) := by decide +kernel
theorem d_B_use_69 : decode prog_1_method_31_code 69 = .ok (.getfield 211, 3) := by decide +kernel
theorem d_B_use_72 : decode prog_1_method_31_code 72 = .ok (.aload_n 1, 1) := by decide +kernel
theorem d_B_use_73 : decode prog_1_method_31_code 73 = .ok (.getfield 214, 3) := by decide +kernel
theorem d_B_use_76 : decode prog_1_method_31_code 76 = .ok (.if_icmp .ne 11, 3) := by decide +kernel
theorem d_B_use_79 : decode prog_1_method_31_code 79 = .ok (.aload_n 0, 1) := by decide +kernel
theorem d_B_use_80 : decode prog_1_method_31_code 80 = .ok (.iconst 1, 1) := by decide +kernel
theorem d_B_use_81 : decode prog_1_method_31_code 81 = .ok (.putfield 98, 3) := by decide +kernel
theorem d_B_use_84 : decode prog_1_method_31_code 84 = .ok (.goto 7, 3) := by decide +kernel
theorem d_B_use_87 : decode prog_1_method_31_code 87 = .ok (.aload_n 0, 1) := by decide +kernel
theorem d_B_use_88 : decode prog_1_method_31_code 88 = .ok (.invokevirtual 217, 3) := by decide +kernel
theorem d_B_use_91 : decode prog_1_method_31_code 91 = .ok (.iconst 1, 1) := by decide +kernel
theorem d_B_use_92 : decode prog_1_method_31_code 92 = .ok (.ireturn, 1) := by decide +kernel
theorem d_B_poll_0 : decode prog_1_method_32_code 0 = .ok (.aload_n 1, 1) := by decide +kernel
theorem d_B_poll_1 : decode prog_1_method_32_code 1 = .ok (.iconst 0, 1) := by decide +kernel
theorem d_B_poll_2 : decode prog_1_method_32_code 2 = .ok (.putfield 208, 3) := by decide +kernel
theorem d_B_poll_5 : decode prog_1_method_32_code 5 = .ok (.aload_n 1, 1) := by decide +kernel
theorem d_B_poll_6 : decode prog_1_method_32_code 6 = .ok (.getfield 220, 3) := by decide +kernel
theorem d_B_poll_9 : decode prog_1_method_32_code 9 = .ok (.invokestatic 223, 3) := by decide +kernel
theorem d_B_poll_12 : decode prog_1_method_32_code 12 = .ok (.istore_n 2, 1) := by decide +kernel
theorem d_B_poll_13 : decode prog_1_method_32_code 13 = .ok (.iload_n 2, 1) := by decide +kernel
theorem d_B_poll_14 : decode prog_1_method_32_code 14 = .ok (.aload_n 1, 1) := by decide +kernel
theorem d_B_poll_15 : decode prog_1_method_32_code 15 = .ok (.getfield 211, 3) := by decide +kernel
theorem d_B_poll_18 : decode prog_1_method_32_code 18 = .ok (.if_icmp .ne 11, 3) := by decide +kernel
theorem d_B_poll_21 : decode prog_1_method_32_code 21 = .ok (.aload_n 1, 1) := by decide +kernel
theorem d_B_poll_22 : decode prog_1_method_32_code 22 = .ok (.getfield 214, 3) := by decide +kernel
theorem d_B_poll_25 : decode prog_1_method_32_code 25 = .ok (.invokestatic 223, 3) := by decide +kernel
theorem d_B_poll_28 : decode prog_1_method_32_code 28 = .ok (.istore_n 2, 1) := by decide +kernel
theorem d_B_poll_29 : decode prog_1_method_32_code 29 = .ok (.iload_n 2, 1) := by decide +kernel
theorem d_B_poll_30 : decode prog_1_method_32_code 30 = .ok (.aload_n 1, 1) := by decide +kernel
theorem d_B_poll_31 : decode prog_1_method_32_code 31 = .ok (.getfield 211, 3) := by decide +kernel
theorem d_B_poll_34 : decode prog_1_method_32_code 34 = .ok (.if_icmp .ne 9, 3) := by decide +kernel
theorem d_B_poll_37 : decode prog_1_method_32_code 37 = .ok (.aload_n 0, 1) := by decide +kernel
theorem d_B_poll_38 : decode prog_1_method_32_code 38 = .ok (.invokevirtual 217, 3) := by decide +kernel
theorem d_B_poll_41 : decode prog_1_method_32_code 41 = .ok (.iconst 1, 1) := by decide +kernel
theorem d_B_poll_42 : decode prog_1_method_32_code 42 = .ok (.ireturn, 1) := by decide +kernel
theorem d_B_poll_43 : decode prog_1_method_32_code 43 = .ok (.aload_n 0, 1) := by decide +kernel
theorem d_B_poll_44 : decode prog_1_method_32_code 44 = .ok (.aload_n 1, 1) := by decide +kernel
theorem d_B_poll_45 : decode prog_1_method_32_code 45 = .ok (.iload_n 2, 1) := by decide +kernel
theorem d_B_poll_46 : decode prog_1_method_32_code 46 = .ok (.invokevirtual 226, 3) := by decide +kernel
theorem d_B_poll_49 : decode prog_1_method_32_code 49 = .ok (.aload_n 1, 1) := by decide +kernel
theorem d_B_poll_50 : decode prog_1_method_32_code 50 = .ok (.getfield 211, 3) := by decide +kernel
theorem d_B_poll_53 : decode prog_1_method_32_code 53 = .ok (.aload_n 1, 1) := by decide +kernel
theorem d_B_poll_54 : decode prog_1_method_32_code 54 = .ok (.getfield 214, 3) := by decide +kernel
theorem d_B_poll_57 : decode prog_1_method_32_code 57 = .ok (.if_icmp .ne 10, 3) := by decide +kernel
theorem d_B_poll_60 : decode prog_1_method_32_code 60 = .ok (.aload_n 0, 1) := by decide +kernel
theorem d_B_poll_61 : decode prog_1_method_32_code 61 = .ok (.invokevirtual 230, 3) := by decide +kernel
theorem d_B_poll_64 : decode prog_1_method_32_code 64 = .ok (.goto 7, 3) := by decide +kernel
theorem d_B_poll_67 : decode prog_1_method_32_code 67 = .ok (.aload_n 0, 1) := by decide +kernel
theorem d_B_poll_68 : decode prog_1_method_32_code 68 = .ok (.invokevirtual 217, 3) := by decide +kernel
theorem d_B_poll_71 : decode prog_1_method_32_code 71 = .ok (.iconst 0, 1) := by decide +kernel
theorem d_B_poll_72 : decode prog_1_method_32_code 72 = .ok (.ireturn, 1) := by decide +kernel
theorem d_B_pass_0 : decode prog_1_method_33_code 0 = .ok (.aload_n 0, 1) := by decide +kernel
theorem d_B_pass_1 : decode prog_1_method_33_code 1 = .ok (.getfield 24, 3) := by decide +kernel
theorem d_B_pass_4 : decode prog_1_method_33_code 4 = .ok (.iconst 0, 1) := by decide +kernel
theorem d_B_pass_5 : decode prog_1_method_33_code 5 = .ok (.aload_n 1, 1) := by decide +kernel
theorem d_B_pass_6 : decode prog_1_method_33_code 6 = .ok (.getfield 211, 3) := by decide +kernel
theorem d_B_pass_9 : decode prog_1_method_33_code 9 = .ok (.aload_n 1, 1) := by decide +kernel
theorem d_B_pass_10 : decode prog_1_method_33_code 10 = .ok (.getfield 214, 3) := by decide +kernel
theorem d_B_pass_13 : decode prog_1_method_33_code 13 = .ok (.iconst 0, 1) := by decide +kernel
theorem d_B_pass_14 : decode prog_1_method_33_code 14 = .ok (.invokevirtual 233, 3) := by decide +kernel
theorem d_B_pass_17 : decode prog_1_method_33_code 17 = .ok (.aload_n 0, 1) := by decide +kernel
theorem d_B_pass_18 : decode prog_1_method_33_code 18 = .ok (.aload_n 0, 1) := by decide +kernel
theorem d_B_pass_19 : decode prog_1_method_33_code 19 = .ok (.getfield 24, 3) := by decide +kernel
theorem d_B_pass_22 : decode prog_1_method_33_code 22 = .ok (.invokevirtual 236, 3) := by decide +kernel
theorem d_B_pass_25 : decode prog_1_method_33_code 25 = .ok (.ifCond .eq 28, 3) := by decide +kernel
theorem d_B_pass_28 : decode prog_1_method_33_code 28 = .ok (.aload_n 0, 1) := by decide +kernel
theorem d_B_pass_29 : decode prog_1_method_33_code 29 = .ok (.aload_n 1, 1) := by decide +kernel
theorem d_B_pass_30 : decode prog_1_method_33_code 30 = .ok (.getfield 211, 3) := by decide +kernel
theorem d_B_pass_33 : decode prog_1_method_33_code 33 = .ok (.putfield 31, 3) := by decide +kernel
theorem d_B_pass_36 : decode prog_1_method_33_code 36 = .ok (.aload_n 0, 1) := by decide +kernel
theorem d_B_pass_37 : decode prog_1_method_33_code 37 = .ok (.getfield 11, 3) := by decide +kernel
theorem d_B_pass_40 : decode prog_1_method_33_code 40 = .ok (.aload_n 1, 1) := by decide +kernel
theorem d_B_pass_41 : decode prog_1_method_33_code 41 = .ok (.getfield 211, 3) := by decide +kernel
theorem d_B_pass_44 : decode prog_1_method_33_code 44 = .ok (.aaload, 1) := by decide +kernel
theorem d_B_pass_45 : decode prog_1_method_33_code 45 = .ok (.invokevirtual 240, 3) := by decide +kernel
theorem d_B_pass_48 : decode prog_1_method_33_code 48 = .ok (.aload_n 0, 1) := by decide +kernel
theorem d_B_pass_49 : decode prog_1_method_33_code 49 = .ok (.invokevirtual 230, 3) := by decide +kernel
theorem d_B_pass_52 : decode prog_1_method_33_code 52 = .ok (.return_, 1) := by decide +kernel
theorem d_B_pass_53 : decode prog_1_method_33_code 53 = .ok (.aload_n 0, 1) := by decide +kernel
theorem d_B_pass_54 : decode prog_1_method_33_code 54 = .ok (.dup, 1) := by decide +kernel
theorem d_B_pass_55 : decode prog_1_method_33_code 55 = .ok (.getfield 243, 3) := by decide +kernel
theorem d_B_pass_58 : decode prog_1_method_33_code 58 = .ok (.iconst 1, 1) := by decide +kernel
theorem d_B_pass_59 : decode prog_1_method_33_code 59 = .ok (.iadd, 1) := by decide +kernel
theorem d_B_pass_60 : decode prog_1_method_33_code 60 = .ok (.putfield 243, 3) := by decide +kernel
theorem d_B_pass_63 : decode prog_1_method_33_code 63 = .ok (.aload_n 0, 1) := by decide +kernel
theorem d_B_pass_64 : decode prog_1_method_33_code 64 = .ok (.getfield 243, 3) := by decide +kernel
theorem d_B_pass_67 : decode prog_1_method_33_code 67 = .ok (.iconst 2, 1) := by decide +kernel
theorem d_B_pass_68 : decode prog_1_method_33_code 68 = .ok (.if_icmp .lt 24, 3) := by decide +kernel
theorem d_B_pass_71 : decode prog_1_method_33_code 71 = .ok (.aload_n 0, 1) := by decide +kernel
theorem d_B_pass_72 : decode prog_1_method_33_code 72 = .ok (.iconst 3, 1) := by decide +kernel
theorem d_B_pass_73 : decode prog_1_method_33_code 73 = .ok (.putfield 98, 3) := by decide +kernel
theorem d_B_pass_76 : decode prog_1_method_33_code 76 = .ok (.aload_n 1, 1) := by decide +kernel
theorem d_B_pass_77 : decode prog_1_method_33_code 77 = .ok (.aload_n 1, 1) := by decide +kernel
theorem d_B_pass_78 : decode prog_1_method_33_code 78 = .ok (.getfield 211, 3) := by decide +kernel
theorem d_B_pass_81 : decode prog_1_method_33_code 81 = .ok (.putfield 220, 3) := by decide +kernel
theorem d_B_pass_84 : decode prog_1_method_33_code 84 = .ok (.aload_n 1, 1) := by decide +kernel
theorem d_B_pass_85 : decode prog_1_method_33_code 85 = .ok (.aload_n 1, 1) := by decide +kernel
theorem d_B_pass_86 : decode prog_1_method_33_code 86 = .ok (.getfield 214, 3) := by decide +kernel
theorem d_B_pass_89 : decode prog_1_method_33_code 89 = .ok (.putfield 211, 3) := by decide +kernel
theorem d_B_pass_92 : decode prog_1_method_33_code 92 = .ok (.return_, 1) := by decide +kernel
theorem d_B_search_0 : decode prog_1_method_34_code 0 = .ok (.aload_n 1, 1) := by decide +kernel
theorem d_B_search_1 : decode prog_1_method_34_code 1 = .ok (.getfield 220, 3) := by decide +kernel
theorem d_B_search_4 : decode prog_1_method_34_code 4 = .ok (.invokestatic 223, 3) := by decide +kernel
theorem d_B_search_7 : decode prog_1_method_34_code 7 = .ok (.istore_n 2, 1) := by decide +kernel
theorem d_B_search_8 : decode prog_1_method_34_code 8 = .ok (.iload_n 2, 1) := by decide +kernel
theorem d_B_search_9 : decode prog_1_method_34_code 9 = .ok (.aload_n 1, 1) := by decide +kernel
theorem d_B_search_10 : decode prog_1_method_34_code 10 = .ok (.getfield 214, 3) := by decide +kernel
theorem d_B_search_13 : decode prog_1_method_34_code 13 = .ok (.if_icmp .ne 8, 3) := by decide +kernel
theorem d_B_search_16 : decode prog_1_method_34_code 16 = .ok (.aload_n 0, 1) := by decide +kernel
theorem d_B_search_17 : decode prog_1_method_34_code 17 = .ok (.invokevirtual 230, 3) := by decide +kernel
theorem d_B_search_20 : decode prog_1_method_34_code 20 = .ok (.return_, 1) := by decide +kernel
theorem d_B_search_21 : decode prog_1_method_34_code 21 = .ok (.aload_n 0, 1) := by decide +kernel
theorem d_B_search_22 : decode prog_1_method_34_code 22 = .ok (.aload_n 1, 1) := by decide +kernel
theorem d_B_search_23 : decode prog_1_method_34_code 23 = .ok (.iload_n 2, 1) := by decide +kernel
theorem d_B_search_24 : decode prog_1_method_34_code 24 = .ok (.invokevirtual 226, 3) := by decide +kernel
theorem d_B_search_27 : decode prog_1_method_34_code 27 = .ok (.aload_n 1, 1) := by decide +kernel
theorem d_B_search_28 : decode prog_1_method_34_code 28 = .ok (.getfield 211, 3) := by decide +kernel
theorem d_B_search_31 : decode prog_1_method_34_code 31 = .ok (.iload_n 2, 1) := by decide +kernel
theorem d_B_search_32 : decode prog_1_method_34_code 32 = .ok (.if_icmp .ne 7, 3) := by decide +kernel
theorem d_B_search_35 : decode prog_1_method_34_code 35 = .ok (.aload_n 0, 1) := by decide +kernel
theorem d_B_search_36 : decode prog_1_method_34_code 36 = .ok (.invokevirtual 217, 3) := by decide +kernel
theorem d_B_search_39 : decode prog_1_method_34_code 39 = .ok (.return_, 1) := by decide +kernel
theorem d_B_enterUse_0 : decode prog_1_method_35_code 0 = .ok (.aload_n 0, 1) := by decide +kernel
theorem d_B_enterUse_1 : decode prog_1_method_35_code 1 = .ok (.iconst 0, 1) := by decide +kernel
theorem d_B_enterUse_2 : decode prog_1_method_35_code 2 = .ok (.putfield 98, 3) := by decide +kernel
theorem d_B_enterUse_5 : decode prog_1_method_35_code 5 = .ok (.aload_n 0, 1) := by decide +kernel
theorem d_B_enterUse_6 : decode prog_1_method_35_code 6 = .ok (.iconst 0, 1) := by decide +kernel
theorem d_B_enterUse_7 : decode prog_1_method_35_code 7 = .ok (.putfield 194, 3) := by decide +kernel
theorem d_B_enterUse_10 : decode prog_1_method_35_code 10 = .ok (.return_, 1) := by decide +kernel
theorem d_B_enterPass_0 : decode prog_1_method_36_code 0 = .ok (.aload_n 0, 1) := by decide +kernel
theorem d_B_enterPass_1 : decode prog_1_method_36_code 1 = .ok (.iconst 2, 1) := by decide +kernel
theorem d_B_enterPass_2 : decode prog_1_method_36_code 2 = .ok (.putfield 98, 3) := by decide +kernel
theorem d_B_enterPass_5 : decode prog_1_method_36_code 5 = .ok (.aload_n 0, 1) := by decide +kernel
theorem d_B_enterPass_6 : decode prog_1_method_36_code 6 = .ok (.iconst 0, 1) := by decide +kernel
theorem d_B_enterPass_7 : decode prog_1_method_36_code 7 = .ok (.putfield 243, 3) := by decide +kernel
theorem d_B_enterPass_10 : decode prog_1_method_36_code 10 = .ok (.return_, 1) := by decide +kernel
theorem d_B_askToJoin_0 : decode prog_1_method_37_code 0 = .ok (.aload_n 1, 1) := by decide +kernel
theorem d_B_askToJoin_1 : decode prog_1_method_37_code 1 = .ok (.iload_n 2, 1) := by decide +kernel
theorem d_B_askToJoin_2 : decode prog_1_method_37_code 2 = .ok (.putfield 220, 3) := by decide +kernel
theorem d_B_askToJoin_5 : decode prog_1_method_37_code 5 = .ok (.aload_n 0, 1) := by decide +kernel
theorem d_B_askToJoin_6 : decode prog_1_method_37_code 6 = .ok (.getfield 24, 3) := by decide +kernel
theorem d_B_askToJoin_9 : decode prog_1_method_37_code 9 = .ok (.iconst 1, 1) := by decide +kernel
theorem d_B_askToJoin_10 : decode prog_1_method_37_code 10 = .ok (.iload_n 2, 1) := by decide +kernel
theorem d_B_askToJoin_11 : decode prog_1_method_37_code 11 = .ok (.aload_n 1, 1) := by decide +kernel
theorem d_B_askToJoin_12 : decode prog_1_method_37_code 12 = .ok (.getfield 214, 3) := by decide +kernel
theorem d_B_askToJoin_15 : decode prog_1_method_37_code 15 = .ok (.iconst 0, 1) := by decide +kernel
theorem d_B_askToJoin_16 : decode prog_1_method_37_code 16 = .ok (.invokevirtual 233, 3) := by decide +kernel
theorem d_B_askToJoin_19 : decode prog_1_method_37_code 19 = .ok (.aload_n 0, 1) := by decide +kernel
theorem d_B_askToJoin_20 : decode prog_1_method_37_code 20 = .ok (.aload_n 0, 1) := by decide +kernel
theorem d_B_askToJoin_21 : decode prog_1_method_37_code 21 = .ok (.getfield 24, 3) := by decide +kernel
theorem d_B_askToJoin_24 : decode prog_1_method_37_code 24 = .ok (.invokevirtual 236, 3) := by decide +kernel
theorem d_B_askToJoin_27 : decode prog_1_method_37_code 27 = .ok (.ifCond .ne 4, 3) := by decide +kernel
theorem d_B_askToJoin_30 : decode prog_1_method_37_code 30 = .ok (.return_, 1) := by decide +kernel
theorem d_B_askToJoin_31 : decode prog_1_method_37_code 31 = .ok (.aload_n 0, 1) := by decide +kernel
theorem d_B_askToJoin_32 : decode prog_1_method_37_code 32 = .ok (.getfield 28, 3) := by decide +kernel
theorem d_B_askToJoin_35 : decode prog_1_method_37_code 35 = .ok (.iconst 2, 1) := by decide +kernel
theorem d_B_askToJoin_36 : decode prog_1_method_37_code 36 = .ok (.aload_n 1, 1) := by decide +kernel
theorem d_B_askToJoin_37 : decode prog_1_method_37_code 37 = .ok (.getfield 214, 3) := by decide +kernel
theorem d_B_askToJoin_40 : decode prog_1_method_37_code 40 = .ok (.iload_n 2, 1) := by decide +kernel
theorem d_B_askToJoin_41 : decode prog_1_method_37_code 41 = .ok (.iconst 0, 1) := by decide +kernel
theorem d_B_askToJoin_42 : decode prog_1_method_37_code 42 = .ok (.invokevirtual 233, 3) := by decide +kernel
theorem d_B_askToJoin_45 : decode prog_1_method_37_code 45 = .ok (.aload_n 0, 1) := by decide +kernel
theorem d_B_askToJoin_46 : decode prog_1_method_37_code 46 = .ok (.aload_n 0, 1) := by decide +kernel
theorem d_B_askToJoin_47 : decode prog_1_method_37_code 47 = .ok (.getfield 28, 3) := by decide +kernel
theorem d_B_askToJoin_50 : decode prog_1_method_37_code 50 = .ok (.invokevirtual 236, 3) := by decide +kernel
theorem d_B_askToJoin_53 : decode prog_1_method_37_code 53 = .ok (.ifCond .eq 16, 3) := by decide +kernel
theorem d_B_askToJoin_56 : decode prog_1_method_37_code 56 = .ok (.aload_n 1, 1) := by decide +kernel
theorem d_B_askToJoin_57 : decode prog_1_method_37_code 57 = .ok (.iload_n 2, 1) := by decide +kernel
theorem d_B_askToJoin_58 : decode prog_1_method_37_code 58 = .ok (.putfield 211, 3) := by decide +kernel
theorem d_B_askToJoin_61 : decode prog_1_method_37_code 61 = .ok (.aload_n 1, 1) := by decide +kernel
theorem d_B_askToJoin_62 : decode prog_1_method_37_code 62 = .ok (.aload_n 1, 1) := by decide +kernel
theorem d_B_askToJoin_63 : decode prog_1_method_37_code 63 = .ok (.getfield 214, 3) := by decide +kernel
theorem d_B_askToJoin_66 : decode prog_1_method_37_code 66 = .ok (.putfield 220, 3) := by decide +kernel
theorem d_B_askToJoin_69 : decode prog_1_method_37_code 69 = .ok (.return_, 1) := by decide +kernel
theorem d_B_sendNotice_0 : decode prog_1_method_38_code 0 = .ok (.aload_n 1, 1) := by decide +kernel
theorem d_B_sendNotice_1 : decode prog_1_method_38_code 1 = .ok (.aload_n 2, 1) := by decide +kernel
theorem d_B_sendNotice_2 : decode prog_1_method_38_code 2 = .ok (.getfield 246, 3) := by decide +kernel
theorem d_B_sendNotice_5 : decode prog_1_method_38_code 5 = .ok (.invokevirtual 125, 3) := by decide +kernel
theorem d_B_sendNotice_8 : decode prog_1_method_38_code 8 = .ok (.istore_n 3, 1) := by decide +kernel
theorem d_B_sendNotice_9 : decode prog_1_method_38_code 9 = .ok (.aload_n 2, 1) := by decide +kernel
theorem d_B_sendNotice_10 : decode prog_1_method_38_code 10 = .ok (.iload_n 3, 1) := by decide +kernel
theorem d_B_sendNotice_11 : decode prog_1_method_38_code 11 = .ok (.invokevirtual 251, 3) := by decide +kernel
theorem d_B_sendNotice_14 : decode prog_1_method_38_code 14 = .ok (.aload_n 0, 1) := by decide +kernel
theorem d_B_sendNotice_15 : decode prog_1_method_38_code 15 = .ok (.getfield 24, 3) := by decide +kernel
theorem d_B_sendNotice_18 : decode prog_1_method_38_code 18 = .ok (.bipush 6, 2) := by decide +kernel
theorem d_B_sendNotice_20 : decode prog_1_method_38_code 20 = .ok (.aload_n 2, 1) := by decide +kernel
theorem d_B_sendNotice_21 : decode prog_1_method_38_code 21 = .ok (.getfield 254, 3) := by decide +kernel
theorem d_B_sendNotice_24 : decode prog_1_method_38_code 24 = .ok (.aload_n 1, 1) := by decide +kernel
theorem d_B_sendNotice_25 : decode prog_1_method_38_code 25 = .ok (.getfield 214, 3) := by decide +kernel
theorem d_B_sendNotice_28 : decode prog_1_method_38_code 28 = .ok (.bipush 8, 2) := by decide +kernel
theorem d_B_sendNotice_30 : decode prog_1_method_38_code 30 = .ok (.invokevirtual 233, 3) := by decide +kernel
theorem d_B_sendNotice_33 : decode prog_1_method_38_code 33 = .ok (.aload_n 0, 1) := by decide +kernel
theorem d_B_sendNotice_34 : decode prog_1_method_38_code 34 = .ok (.getfield 24, 3) := by decide +kernel
theorem d_B_sendNotice_37 : decode prog_1_method_38_code 37 = .ok (.iconst 5, 1) := by decide +kernel
theorem d_B_sendNotice_38 : decode prog_1_method_38_code 38 = .ok (.iconst 0, 1) := by decide +kernel
theorem d_B_sendNotice_39 : decode prog_1_method_38_code 39 = .ok (.aload_n 2, 1) := by decide +kernel
theorem d_B_sendNotice_40 : decode prog_1_method_38_code 40 = .ok (.getfield 246, 3) := by decide +kernel
theorem d_B_sendNotice_43 : decode prog_1_method_38_code 43 = .ok (.iconst 0, 1) := by decide +kernel
theorem d_B_sendNotice_44 : decode prog_1_method_38_code 44 = .ok (.iload_n 3, 1) := by decide +kernel
theorem d_B_sendNotice_45 : decode prog_1_method_38_code 45 = .ok (.invokevirtual 257, 3) := by decide +kernel
theorem d_B_sendNotice_48 : decode prog_1_method_38_code 48 = .ok (.aload_n 0, 1) := by decide +kernel
theorem d_B_sendNotice_49 : decode prog_1_method_38_code 49 = .ok (.aload_n 0, 1) := by decide +kernel
theorem d_B_sendNotice_50 : decode prog_1_method_38_code 50 = .ok (.getfield 24, 3) := by decide +kernel
theorem d_B_sendNotice_53 : decode prog_1_method_38_code 53 = .ok (.invokevirtual 236, 3) := by decide +kernel
theorem d_B_sendNotice_56 : decode prog_1_method_38_code 56 = .ok (.ifCond .eq 24, 3) := by decide +kernel
theorem d_B_sendNotice_59 : decode prog_1_method_38_code 59 = .ok (.aload_n 0, 1) := by decide +kernel
theorem d_B_sendNotice_60 : decode prog_1_method_38_code 60 = .ok (.getfield 11, 3) := by decide +kernel
theorem d_B_sendNotice_63 : decode prog_1_method_38_code 63 = .ok (.aload_n 2, 1) := by decide +kernel
theorem d_B_sendNotice_64 : decode prog_1_method_38_code 64 = .ok (.getfield 254, 3) := by decide +kernel
theorem d_B_sendNotice_67 : decode prog_1_method_38_code 67 = .ok (.aaload, 1) := by decide +kernel
theorem d_B_sendNotice_68 : decode prog_1_method_38_code 68 = .ok (.aload_n 1, 1) := by decide +kernel
theorem d_B_sendNotice_69 : decode prog_1_method_38_code 69 = .ok (.getfield 214, 3) := by decide +kernel
theorem d_B_sendNotice_72 : decode prog_1_method_38_code 72 = .ok (.aload_n 2, 1) := by decide +kernel
theorem d_B_sendNotice_73 : decode prog_1_method_38_code 73 = .ok (.getfield 246, 3) := by decide +kernel
theorem d_B_sendNotice_76 : decode prog_1_method_38_code 76 = .ok (.iload_n 3, 1) := by decide +kernel
theorem d_B_sendNotice_77 : decode prog_1_method_38_code 77 = .ok (.invokevirtual 261, 3) := by decide +kernel
theorem d_B_sendNotice_80 : decode prog_1_method_38_code 80 = .ok (.return_, 1) := by decide +kernel
theorem d_B_sendRequest_0 : decode prog_1_method_39_code 0 = .ok (.aload_n 0, 1) := by decide +kernel
theorem d_B_sendRequest_1 : decode prog_1_method_39_code 1 = .ok (.aload_n 1, 1) := by decide +kernel
theorem d_B_sendRequest_2 : decode prog_1_method_39_code 2 = .ok (.aload_n 2, 1) := by decide +kernel
theorem d_B_sendRequest_3 : decode prog_1_method_39_code 3 = .ok (.invokevirtual 265, 3) := by decide +kernel
theorem d_B_sendRequest_6 : decode prog_1_method_39_code 6 = .ok (.iconst 0, 1) := by decide +kernel
theorem d_B_sendRequest_7 : decode prog_1_method_39_code 7 = .ok (.istore_n 3, 1) := by decide +kernel
theorem d_B_sendRequest_8 : decode prog_1_method_39_code 8 = .ok (.aload_n 0, 1) := by decide +kernel
theorem d_B_sendRequest_9 : decode prog_1_method_39_code 9 = .ok (.aload_n 0, 1) := by decide +kernel
theorem d_B_sendRequest_10 : decode prog_1_method_39_code 10 = .ok (.getfield 24, 3) := by decide +kernel
theorem d_B_sendRequest_13 : decode prog_1_method_39_code 13 = .ok (.invokevirtual 236, 3) := by decide +kernel
theorem d_B_sendRequest_16 : decode prog_1_method_39_code 16 = .ok (.ifCond .eq 42, 3) := by decide +kernel
theorem d_B_sendRequest_19 : decode prog_1_method_39_code 19 = .ok (.aload_n 2, 1) := by decide +kernel
theorem d_B_sendRequest_20 : decode prog_1_method_39_code 20 = .ok (.getfield 268, 3) := by decide +kernel
theorem d_B_sendRequest_23 : decode prog_1_method_39_code 23 = .ok (.ifCond .ne 20, 3) := by decide +kernel
theorem d_B_sendRequest_26 : decode prog_1_method_39_code 26 = .ok (.aload_n 0, 1) := by decide +kernel
theorem d_B_sendRequest_27 : decode prog_1_method_39_code 27 = .ok (.getfield 11, 3) := by decide +kernel
theorem d_B_sendRequest_30 : decode prog_1_method_39_code 30 = .ok (.aload_n 2, 1) := by decide +kernel
theorem d_B_sendRequest_31 : decode prog_1_method_39_code 31 = .ok (.getfield 271, 3) := by decide +kernel
theorem d_B_sendRequest_34 : decode prog_1_method_39_code 34 = .ok (.aaload, 1) := by decide +kernel
theorem d_B_sendRequest_35 : decode prog_1_method_39_code 35 = .ok (.aload_n 2, 1) := by decide +kernel
theorem d_B_sendRequest_36 : decode prog_1_method_39_code 36 = .ok (.aload_n 1, 1) := by decide +kernel
theorem d_B_sendRequest_37 : decode prog_1_method_39_code 37 = .ok (.getfield 214, 3) := by decide +kernel
theorem d_B_sendRequest_40 : decode prog_1_method_39_code 40 = .ok (.invokevirtual 274, 3) := by decide +kernel
theorem d_B_sendRequest_43 : decode prog_1_method_39_code 43 = .ok (.aload_n 0, 1) := by decide +kernel
theorem d_B_sendRequest_44 : decode prog_1_method_39_code 44 = .ok (.aload_n 1, 1) := by decide +kernel
theorem d_B_sendRequest_45 : decode prog_1_method_39_code 45 = .ok (.aload_n 2, 1) := by decide +kernel
theorem d_B_sendRequest_46 : decode prog_1_method_39_code 46 = .ok (.invokevirtual 278, 3) := by decide +kernel
theorem d_B_sendRequest_49 : decode prog_1_method_39_code 49 = .ok (.aload_n 0, 1) := by decide +kernel
theorem d_B_sendRequest_50 : decode prog_1_method_39_code 50 = .ok (.aload_n 0, 1) := by decide +kernel
theorem d_B_sendRequest_51 : decode prog_1_method_39_code 51 = .ok (.getfield 28, 3) := by decide +kernel
theorem d_B_sendRequest_54 : decode prog_1_method_39_code 54 = .ok (.invokevirtual 236, 3) := by decide +kernel
theorem d_B_sendRequest_57 : decode prog_1_method_39_code 57 = .ok (.istore_n 3, 1) := by decide +kernel
theorem d_B_sendRequest_58 : decode prog_1_method_39_code 58 = .ok (.iload_n 3, 1) := by decide +kernel
theorem d_B_sendRequest_59 : decode prog_1_method_39_code 59 = .ok (.ifCond .eq 22, 3) := by decide +kernel
theorem d_B_sendRequest_62 : decode prog_1_method_39_code 62 = .ok (.aload_n 2, 1) := by decide +kernel
theorem d_B_sendRequest_63 : decode prog_1_method_39_code 63 = .ok (.aload_n 2, 1) := by decide +kernel
theorem d_B_sendRequest_64 : decode prog_1_method_39_code 64 = .ok (.getfield 281, 3) := by decide +kernel
theorem d_B_sendRequest_67 : decode prog_1_method_39_code 67 = .ok (.ifCond .eq 7, 3) := by decide +kernel
theorem d_B_sendRequest_70 : decode prog_1_method_39_code 70 = .ok (.iconst 1, 1) := by decide +kernel
theorem d_B_sendRequest_71 : decode prog_1_method_39_code 71 = .ok (.goto 4, 3) := by decide +kernel
theorem d_B_sendRequest_74 : decode prog_1_method_39_code 74 = .ok (.iconst 2, 1) := by decide +kernel
theorem d_B_sendRequest_75 : decode prog_1_method_39_code 75 = .ok (.putfield 143, 3) := by decide +kernel
theorem d_B_sendRequest_78 : decode prog_1_method_39_code 78 = .ok (.goto 7, 3) := by decide +kernel
theorem d_B_sendRequest_81 : decode prog_1_method_39_code 81 = .ok (.aload_n 2, 1) := by decide +kernel
theorem d_B_sendRequest_82 : decode prog_1_method_39_code 82 = .ok (.invokevirtual 284, 3) := by decide +kernel
theorem d_B_sendRequest_85 : decode prog_1_method_39_code 85 = .ok (.aload_n 2, 1) := by decide +kernel
theorem d_B_sendRequest_86 : decode prog_1_method_39_code 86 = .ok (.getfield 143, 3) := by decide +kernel
theorem d_B_sendRequest_89 : decode prog_1_method_39_code 89 = .ok (.ifCond .eq 7, 3) := by decide +kernel
theorem d_B_sendRequest_92 : decode prog_1_method_39_code 92 = .ok (.aload_n 1, 1) := by decide +kernel
theorem d_B_sendRequest_93 : decode prog_1_method_39_code 93 = .ok (.invokevirtual 287, 3) := by decide +kernel
theorem d_B_sendRequest_96 : decode prog_1_method_39_code 96 = .ok (.return_, 1) := by decide +kernel
theorem d_B_writeAsk_0 : decode prog_1_method_40_code 0 = .ok (.aload_n 0, 1) := by decide +kernel
theorem d_B_writeAsk_1 : decode prog_1_method_40_code 1 = .ok (.getfield 24, 3) := by decide +kernel
theorem d_B_writeAsk_4 : decode prog_1_method_40_code 4 = .ok (.iconst 5, 1) := by decide +kernel
theorem d_B_writeAsk_5 : decode prog_1_method_40_code 5 = .ok (.aload_n 2, 1) := by decide +kernel
theorem d_B_writeAsk_6 : decode prog_1_method_40_code 6 = .ok (.getfield 271, 3) := by decide +kernel
theorem d_B_writeAsk_9 : decode prog_1_method_40_code 9 = .ok (.aload_n 1, 1) := by decide +kernel
theorem d_B_writeAsk_10 : decode prog_1_method_40_code 10 = .ok (.getfield 214, 3) := by decide +kernel
theorem d_B_writeAsk_13 : decode prog_1_method_40_code 13 = .ok (.bipush 8, 2) := by decide +kernel
theorem d_B_writeAsk_15 : decode prog_1_method_40_code 15 = .ok (.invokevirtual 233, 3) := by decide +kernel
theorem d_B_writeAsk_18 : decode prog_1_method_40_code 18 = .ok (.aload_n 0, 1) := by decide +kernel
theorem d_B_writeAsk_19 : decode prog_1_method_40_code 19 = .ok (.getfield 24, 3) := by decide +kernel
theorem d_B_writeAsk_22 : decode prog_1_method_40_code 22 = .ok (.aload_n 2, 1) := by decide +kernel
theorem d_B_writeAsk_23 : decode prog_1_method_40_code 23 = .ok (.getfield 290, 3) := by decide +kernel
theorem d_B_writeAsk_26 : decode prog_1_method_40_code 26 = .ok (.aload_n 2, 1) := by decide +kernel
theorem d_B_writeAsk_27 : decode prog_1_method_40_code 27 = .ok (.getfield 293, 3) := by decide +kernel
theorem d_B_writeAsk_30 : decode prog_1_method_40_code 30 = .ok (.aload_n 2, 1) := by decide +kernel
theorem d_B_writeAsk_31 : decode prog_1_method_40_code 31 = .ok (.getfield 296, 3) := by decide +kernel
theorem d_B_writeAsk_34 : decode prog_1_method_40_code 34 = .ok (.aload_n 2, 1) := by decide +kernel
theorem d_B_writeAsk_35 : decode prog_1_method_40_code 35 = .ok (.getfield 297, 3) := by decide +kernel
theorem d_B_writeAsk_38 : decode prog_1_method_40_code 38 = .ok (.aload_n 2, 1) := by decide +kernel
theorem d_B_writeAsk_39 : decode prog_1_method_40_code 39 = .ok (.getfield 300, 3) := by decide +kernel
theorem d_B_writeAsk_42 : decode prog_1_method_40_code 42 = .ok (.invokevirtual 257, 3) := by decide +kernel
theorem d_B_writeAsk_45 : decode prog_1_method_40_code 45 = .ok (.return_, 1) := by decide +kernel
theorem d_B_writeAnswer_0 : decode prog_1_method_41_code 0 = .ok (.aload_n 2, 1) := by decide +kernel
theorem d_B_writeAnswer_1 : decode prog_1_method_41_code 1 = .ok (.getfield 290, 3) := by decide +kernel
theorem d_B_writeAnswer_4 : decode prog_1_method_41_code 4 = .ok (.aload_n 2, 1) := by decide +kernel
theorem d_B_writeAnswer_5 : decode prog_1_method_41_code 5 = .ok (.getfield 281, 3) := by decide +kernel
theorem d_B_writeAnswer_8 : decode prog_1_method_41_code 8 = .ok (.ifCond .eq 9, 3) := by decide +kernel
theorem d_B_writeAnswer_11 : decode prog_1_method_41_code 11 = .ok (.sipush 128, 3) := by decide +kernel
theorem d_B_writeAnswer_14 : decode prog_1_method_41_code 14 = .ok (.goto 5, 3) := by decide +kernel
theorem d_B_writeAnswer_17 : decode prog_1_method_41_code 17 = .ok (.bipush 64, 2) := by decide +kernel
theorem d_B_writeAnswer_19 : decode prog_1_method_41_code 19 = .ok (.iadd, 1) := by decide +kernel
theorem d_B_writeAnswer_20 : decode prog_1_method_41_code 20 = .ok (.istore_n 3, 1) := by decide +kernel
theorem d_B_writeAnswer_21 : decode prog_1_method_41_code 21 = .ok (.aload_n 0, 1) := by decide +kernel
theorem d_B_writeAnswer_22 : decode prog_1_method_41_code 22 = .ok (.getfield 28, 3) := by decide +kernel
theorem d_B_writeAnswer_25 : decode prog_1_method_41_code 25 = .ok (.bipush 6, 2) := by decide +kernel
theorem d_B_writeAnswer_27 : decode prog_1_method_41_code 27 = .ok (.aload_n 1, 1) := by decide +kernel
theorem d_B_writeAnswer_28 : decode prog_1_method_41_code 28 = .ok (.getfield 214, 3) := by decide +kernel
theorem d_B_writeAnswer_31 : decode prog_1_method_41_code 31 = .ok (.aload_n 2, 1) := by decide +kernel
theorem d_B_writeAnswer_32 : decode prog_1_method_41_code 32 = .ok (.getfield 271, 3) := by decide +kernel
theorem d_B_writeAnswer_35 : decode prog_1_method_41_code 35 = .ok (.bipush 8, 2) := by decide +kernel
theorem d_B_writeAnswer_37 : decode prog_1_method_41_code 37 = .ok (.invokevirtual 233, 3) := by decide +kernel
theorem d_B_writeAnswer_40 : decode prog_1_method_41_code 40 = .ok (.aload_n 0, 1) := by decide +kernel
theorem d_B_writeAnswer_41 : decode prog_1_method_41_code 41 = .ok (.getfield 28, 3) := by decide +kernel
theorem d_B_writeAnswer_44 : decode prog_1_method_41_code 44 = .ok (.iload_n 3, 1) := by decide +kernel
theorem d_B_writeAnswer_45 : decode prog_1_method_41_code 45 = .ok (.aload_n 2, 1) := by decide +kernel
theorem d_B_writeAnswer_46 : decode prog_1_method_41_code 46 = .ok (.getfield 293, 3) := by decide +kernel
theorem d_B_writeAnswer_49 : decode prog_1_method_41_code 49 = .ok (.aload_n 2, 1) := by decide +kernel
theorem d_B_writeAnswer_50 : decode prog_1_method_41_code 50 = .ok (.getfield 296, 3) := by decide +kernel
theorem d_B_writeAnswer_53 : decode prog_1_method_41_code 53 = .ok (.aload_n 2, 1) := by decide +kernel
theorem d_B_writeAnswer_54 : decode prog_1_method_41_code 54 = .ok (.getfield 297, 3) := by decide +kernel
theorem d_B_writeAnswer_57 : decode prog_1_method_41_code 57 = .ok (.aload_n 2, 1) := by decide +kernel
theorem d_B_writeAnswer_58 : decode prog_1_method_41_code 58 = .ok (.getfield 146, 3) := by decide +kernel
theorem d_B_writeAnswer_61 : decode prog_1_method_41_code 61 = .ok (.invokevirtual 257, 3) := by decide +kernel
theorem d_B_writeAnswer_64 : decode prog_1_method_41_code 64 = .ok (.return_, 1) := by decide +kernel
theorem d_B_arrives_0 : decode prog_1_method_42_code 0 = .ok (.aload_n 0, 1) := by decide +kernel
theorem d_B_arrives_1 : decode prog_1_method_42_code 1 = .ok (.dup, 1) := by decide +kernel
theorem d_B_arrives_2 : decode prog_1_method_42_code 2 = .ok (.getfield 118, 3) := by decide +kernel
theorem d_B_arrives_5 : decode prog_1_method_42_code 5 = .ok (.iconst 1, 1) := by decide +kernel
theorem d_B_arrives_6 : decode prog_1_method_42_code 6 = .ok (.iadd, 1) := by decide +kernel
theorem d_B_arrives_7 : decode prog_1_method_42_code 7 = .ok (.putfield 118, 3) := by decide +kernel
theorem d_B_arrives_10 : decode prog_1_method_42_code 10 = .ok (.aload_n 1, 1) := by decide +kernel
theorem d_B_arrives_11 : decode prog_1_method_42_code 11 = .ok (.invokevirtual 301, 3) := by decide +kernel
theorem d_B_arrives_14 : decode prog_1_method_42_code 14 = .ok (.aload_n 1, 1) := by decide +kernel
theorem d_B_arrives_15 : decode prog_1_method_42_code 15 = .ok (.invokevirtual 304, 3) := by decide +kernel
theorem d_B_arrives_18 : decode prog_1_method_42_code 18 = .ok (.istore_n 2, 1) := by decide +kernel
theorem d_B_arrives_19 : decode prog_1_method_42_code 19 = .ok (.aload_n 1, 1) := by decide +kernel
theorem d_B_arrives_20 : decode prog_1_method_42_code 20 = .ok (.invokevirtual 307, 3) := by decide +kernel
theorem d_B_arrives_23 : decode prog_1_method_42_code 23 = .ok (.ifCond .eq 26, 3) := by decide +kernel
theorem d_B_arrives_26 : decode prog_1_method_42_code 26 = .ok (.iload_n 2, 1) := by decide +kernel
theorem d_B_arrives_27 : decode prog_1_method_42_code 27 = .ok (.invokestatic 38, 3) := by decide +kernel
theorem d_B_arrives_30 : decode prog_1_method_42_code 30 = .ok (.ifCond .eq 19, 3) := by decide +kernel
theorem d_B_arrives_33 : decode prog_1_method_42_code 33 = .ok (.aload_n 0, 1) := by decide +kernel
theorem d_B_arrives_34 : decode prog_1_method_42_code 34 = .ok (.getfield 11, 3) := by decide +kernel
theorem d_B_arrives_37 : decode prog_1_method_42_code 37 = .ok (.iload_n 2, 1) := by decide +kernel
theorem d_B_arrives_38 : decode prog_1_method_42_code 38 = .ok (.aaload, 1) := by decide +kernel
theorem d_B_arrives_39 : decode prog_1_method_42_code 39 = .ok (.getfield 42, 3) := by decide +kernel
theorem d_B_arrives_42 : decode prog_1_method_42_code 42 = .ok (.ifCond .eq 7, 3) := by decide +kernel
theorem d_B_arrives_45 : decode prog_1_method_42_code 45 = .ok (.iconst 1, 1) := by decide +kernel
theorem d_B_arrives_46 : decode prog_1_method_42_code 46 = .ok (.goto 4, 3) := by decide +kernel
theorem d_B_arrives_49 : decode prog_1_method_42_code 49 = .ok (.iconst 0, 1) := by decide +kernel
theorem d_B_arrives_50 : decode prog_1_method_42_code 50 = .ok (.ireturn, 1) := by decide +kernel
