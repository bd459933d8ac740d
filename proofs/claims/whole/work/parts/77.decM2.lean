theorem d_M_use_0 : decode prog_9_method_25_code 0 = .ok (.aload_n 0, 1) := by decide +kernel
theorem d_M_use_1 : decode prog_9_method_25_code 1 = .ok (.aload_n 0, 1) := by decide +kernel
theorem d_M_use_2 : decode prog_9_method_25_code 2 = .ok (.getfield 107, 3) := by decide +kernel
theorem d_M_use_5 : decode prog_9_method_25_code 5 = .ok (.invokevirtual 181, 3) := by decide +kernel
theorem d_M_use_8 : decode prog_9_method_25_code 8 = .ok (.istore_n 1, 1) := by decide +kernel
theorem d_M_use_9 : decode prog_9_method_25_code 9 = .ok (.aload_n 0, 1) := by decide +kernel
theorem d_M_use_10 : decode prog_9_method_25_code 10 = .ok (.aload_n 0, 1) := by decide +kernel
theorem d_M_use_11 : decode prog_9_method_25_code 11 = .ok (.getfield 107, 3) := by decide +kernel
theorem d_M_use_14 : decode prog_9_method_25_code 14 = .ok (.invokevirtual 184, 3) := by decide +kernel
theorem d_M_use_17 : decode prog_9_method_25_code 17 = .ok (.istore_n 2, 1) := by decide +kernel
theorem d_M_use_18 : decode prog_9_method_25_code 18 = .ok (.aload_n 0, 1) := by decide +kernel
theorem d_M_use_19 : decode prog_9_method_25_code 19 = .ok (.getfield 187, 3) := by decide +kernel
theorem d_M_use_22 : decode prog_9_method_25_code 22 = .ok (.iconst 2, 1) := by decide +kernel
theorem d_M_use_23 : decode prog_9_method_25_code 23 = .ok (.if_icmp .eq 11, 3) := by decide +kernel
theorem d_M_use_26 : decode prog_9_method_25_code 26 = .ok (.iload_n 1, 1) := by decide +kernel
theorem d_M_use_27 : decode prog_9_method_25_code 27 = .ok (.ifCond .ge 57, 3) := by decide +kernel
theorem d_M_use_30 : decode prog_9_method_25_code 30 = .ok (.iload_n 2, 1) := by decide +kernel
theorem d_M_use_31 : decode prog_9_method_25_code 31 = .ok (.ifCond .ge 53, 3) := by decide +kernel
theorem d_M_use_34 : decode prog_9_method_25_code 34 = .ok (.aload_n 0, 1) := by decide +kernel
theorem d_M_use_35 : decode prog_9_method_25_code 35 = .ok (.getfield 20, 3) := by decide +kernel
theorem d_M_use_38 : decode prog_9_method_25_code 38 = .ok (.aload_n 0, 1) := by decide +kernel
theorem d_M_use_39 : decode prog_9_method_25_code 39 = .ok (.getfield 107, 3) := by decide +kernel
theorem d_M_use_42 : decode prog_9_method_25_code 42 = .ok (.iaload, 1) := by decide +kernel
theorem d_M_use_43 : decode prog_9_method_25_code 43 = .ok (.iconst 3, 1) := by decide +kernel
theorem d_M_use_44 : decode prog_9_method_25_code 44 = .ok (.if_icmp .ge 19, 3) := by decide +kernel
theorem d_M_use_47 : decode prog_9_method_25_code 47 = .ok (.aload_n 0, 1) := by decide +kernel
theorem d_M_use_48 : decode prog_9_method_25_code 48 = .ok (.getfield 13, 3) := by decide +kernel
theorem d_M_use_51 : decode prog_9_method_25_code 51 = .ok (.aload_n 0, 1) := by decide +kernel
theorem d_M_use_52 : decode prog_9_method_25_code 52 = .ok (.getfield 107, 3) := by decide +kernel
theorem d_M_use_55 : decode prog_9_method_25_code 55 = .ok (.iaload, 1) := by decide +kernel
theorem d_M_use_56 : decode prog_9_method_25_code 56 = .ok (.aload_n 0, 1) := by decide +kernel
theorem d_M_use_57 : decode prog_9_method_25_code 57 = .ok (.getfield 107, 3) := by decide +kernel
theorem d_M_use_60 : decode prog_9_method_25_code 60 = .ok (.if_icmp .ne 15, 3) := by decide +kernel
theorem d_M_use_63 : decode prog_9_method_25_code 63 = .ok (.aload_n 0, 1) := by decide +kernel
theorem d_M_use_64 : decode prog_9_method_25_code 64 = .ok (.iconst 1, 1) := by decide +kernel
theorem d_M_use_65 : decode prog_9_method_25_code 65 = .ok (.putfield 190, 3) := by decide +kernel
theorem d_M_use_68 : decode prog_9_method_25_code 68 = .ok (.aload_n 0, 1) := by decide +kernel
theorem d_M_use_69 : decode prog_9_method_25_code 69 = .ok (.invokevirtual 193, 3) := by decide +kernel
theorem d_M_use_72 : decode prog_9_method_25_code 72 = .ok (.goto 11, 3) := by decide +kernel
theorem d_M_use_75 : decode prog_9_method_25_code 75 = .ok (.aload_n 0, 1) := by decide +kernel
theorem d_M_use_76 : decode prog_9_method_25_code 76 = .ok (.invokevirtual 196, 3) := by decide +kernel
theorem d_M_use_79 : decode prog_9_method_25_code 79 = .ok (.aload_n 0, 1) := by decide +kernel
theorem d_M_use_80 : decode prog_9_method_25_code 80 = .ok (.invokevirtual 199, 3) := by decide +kernel
theorem d_M_use_83 : decode prog_9_method_25_code 83 = .ok (.return_, 1) := by decide +kernel
theorem d_M_use_84 : decode prog_9_method_25_code 84 = .ok (.aload_n 0, 1) := by decide +kernel
theorem d_M_use_85 : decode prog_9_method_25_code 85 = .ok (.dup, 1) := by decide +kernel
theorem d_M_use_86 : decode prog_9_method_25_code 86 = .ok (.getfield 187, 3) := by decide +kernel
theorem d_M_use_89 : decode prog_9_method_25_code 89 = .ok (.iconst 1, 1) := by decide +kernel
theorem d_M_use_90 : decode prog_9_method_25_code 90 = .ok (.iadd, 1) := by decide +kernel
theorem d_M_use_91 : decode prog_9_method_25_code 91 = .ok (.putfield 187, 3) := by decide +kernel
theorem d_M_use_94 : decode prog_9_method_25_code 94 = .ok (.iload_n 1, 1) := by decide +kernel
theorem d_M_use_95 : decode prog_9_method_25_code 95 = .ok (.ifCond .lt 11, 3) := by decide +kernel
theorem d_M_use_98 : decode prog_9_method_25_code 98 = .ok (.aload_n 0, 1) := by decide +kernel
theorem d_M_use_99 : decode prog_9_method_25_code 99 = .ok (.iload_n 1, 1) := by decide +kernel
theorem d_M_use_100 : decode prog_9_method_25_code 100 = .ok (.invokevirtual 202, 3) := by decide +kernel
theorem d_M_use_103 : decode prog_9_method_25_code 103 = .ok (.goto 8, 3) := by decide +kernel
theorem d_M_use_106 : decode prog_9_method_25_code 106 = .ok (.aload_n 0, 1) := by decide +kernel
theorem d_M_use_107 : decode prog_9_method_25_code 107 = .ok (.iload_n 2, 1) := by decide +kernel
theorem d_M_use_108 : decode prog_9_method_25_code 108 = .ok (.invokevirtual 205, 3) := by decide +kernel
theorem d_M_use_111 : decode prog_9_method_25_code 111 = .ok (.return_, 1) := by decide +kernel
theorem d_M_toUse_0 : decode prog_9_method_26_code 0 = .ok (.aload_n 0, 1) := by decide +kernel
theorem d_M_toUse_1 : decode prog_9_method_26_code 1 = .ok (.iconst 0, 1) := by decide +kernel
theorem d_M_toUse_2 : decode prog_9_method_26_code 2 = .ok (.putfield 190, 3) := by decide +kernel
theorem d_M_toUse_5 : decode prog_9_method_26_code 5 = .ok (.aload_n 0, 1) := by decide +kernel
theorem d_M_toUse_6 : decode prog_9_method_26_code 6 = .ok (.iconst 0, 1) := by decide +kernel
theorem d_M_toUse_7 : decode prog_9_method_26_code 7 = .ok (.putfield 187, 3) := by decide +kernel
theorem d_M_toUse_10 : decode prog_9_method_26_code 10 = .ok (.return_, 1) := by decide +kernel
theorem d_M_toPass_0 : decode prog_9_method_27_code 0 = .ok (.aload_n 0, 1) := by decide +kernel
theorem d_M_toPass_1 : decode prog_9_method_27_code 1 = .ok (.iconst 2, 1) := by decide +kernel
theorem d_M_toPass_2 : decode prog_9_method_27_code 2 = .ok (.putfield 190, 3) := by decide +kernel
theorem d_M_toPass_5 : decode prog_9_method_27_code 5 = .ok (.aload_n 0, 1) := by decide +kernel
theorem d_M_toPass_6 : decode prog_9_method_27_code 6 = .ok (.iconst 0, 1) := by decide +kernel
theorem d_M_toPass_7 : decode prog_9_method_27_code 7 = .ok (.putfield 208, 3) := by decide +kernel
theorem d_M_toPass_10 : decode prog_9_method_27_code 10 = .ok (.return_, 1) := by decide +kernel
theorem d_M_behind_0 : decode prog_9_method_28_code 0 = .ok (.iload_n 0, 1) := by decide +kernel
theorem d_M_behind_1 : decode prog_9_method_28_code 1 = .ok (.iconst 1, 1) := by decide +kernel
theorem d_M_behind_2 : decode prog_9_method_28_code 2 = .ok (.iadd, 1) := by decide +kernel
theorem d_M_behind_3 : decode prog_9_method_28_code 3 = .ok (.bipush 6, 2) := by decide +kernel
theorem d_M_behind_5 : decode prog_9_method_28_code 5 = .ok (.irem, 1) := by decide +kernel
theorem d_M_behind_6 : decode prog_9_method_28_code 6 = .ok (.ireturn, 1) := by decide +kernel
theorem d_M_join_0 : decode prog_9_method_29_code 0 = .ok (.aload_n 0, 1) := by decide +kernel
theorem d_M_join_1 : decode prog_9_method_29_code 1 = .ok (.iconst 1, 1) := by decide +kernel
theorem d_M_join_2 : decode prog_9_method_29_code 2 = .ok (.iload_n 1, 1) := by decide +kernel
theorem d_M_join_3 : decode prog_9_method_29_code 3 = .ok (.aload_n 0, 1) := by decide +kernel
theorem d_M_join_4 : decode prog_9_method_29_code 4 = .ok (.getfield 107, 3) := by decide +kernel
theorem d_M_join_7 : decode prog_9_method_29_code 7 = .ok (.iconst 0, 1) := by decide +kernel
theorem d_M_join_8 : decode prog_9_method_29_code 8 = .ok (.invokevirtual 173, 3) := by decide +kernel
theorem d_M_join_11 : decode prog_9_method_29_code 11 = .ok (.ifCond .eq 40, 3) := by decide +kernel
theorem d_M_join_14 : decode prog_9_method_29_code 14 = .ok (.aload_n 0, 1) := by decide +kernel
theorem d_M_join_15 : decode prog_9_method_29_code 15 = .ok (.iconst 2, 1) := by decide +kernel
theorem d_M_join_16 : decode prog_9_method_29_code 16 = .ok (.aload_n 0, 1) := by decide +kernel
theorem d_M_join_17 : decode prog_9_method_29_code 17 = .ok (.getfield 107, 3) := by decide +kernel
theorem d_M_join_20 : decode prog_9_method_29_code 20 = .ok (.iload_n 1, 1) := by decide +kernel
theorem d_M_join_21 : decode prog_9_method_29_code 21 = .ok (.iconst 0, 1) := by decide +kernel
theorem d_M_join_22 : decode prog_9_method_29_code 22 = .ok (.invokevirtual 173, 3) := by decide +kernel
theorem d_M_join_25 : decode prog_9_method_29_code 25 = .ok (.ifCond .eq 26, 3) := by decide +kernel
theorem d_M_join_28 : decode prog_9_method_29_code 28 = .ok (.aload_n 0, 1) := by decide +kernel
theorem d_M_join_29 : decode prog_9_method_29_code 29 = .ok (.getfield 13, 3) := by decide +kernel
theorem d_M_join_32 : decode prog_9_method_29_code 32 = .ok (.aload_n 0, 1) := by decide +kernel
theorem d_M_join_33 : decode prog_9_method_29_code 33 = .ok (.getfield 107, 3) := by decide +kernel
theorem d_M_join_36 : decode prog_9_method_29_code 36 = .ok (.iload_n 1, 1) := by decide +kernel
theorem d_M_join_37 : decode prog_9_method_29_code 37 = .ok (.iastore, 1) := by decide +kernel
theorem d_M_join_38 : decode prog_9_method_29_code 38 = .ok (.aload_n 0, 1) := by decide +kernel
theorem d_M_join_39 : decode prog_9_method_29_code 39 = .ok (.getfield 17, 3) := by decide +kernel
theorem d_M_join_42 : decode prog_9_method_29_code 42 = .ok (.aload_n 0, 1) := by decide +kernel
theorem d_M_join_43 : decode prog_9_method_29_code 43 = .ok (.getfield 107, 3) := by decide +kernel
theorem d_M_join_46 : decode prog_9_method_29_code 46 = .ok (.aload_n 0, 1) := by decide +kernel
theorem d_M_join_47 : decode prog_9_method_29_code 47 = .ok (.getfield 107, 3) := by decide +kernel
theorem d_M_join_50 : decode prog_9_method_29_code 50 = .ok (.iastore, 1) := by decide +kernel
theorem d_M_join_51 : decode prog_9_method_29_code 51 = .ok (.return_, 1) := by decide +kernel
theorem d_M_poll_0 : decode prog_9_method_30_code 0 = .ok (.aload_n 0, 1) := by decide +kernel
theorem d_M_poll_1 : decode prog_9_method_30_code 1 = .ok (.getfield 107, 3) := by decide +kernel
theorem d_M_poll_4 : decode prog_9_method_30_code 4 = .ok (.istore_n 1, 1) := by decide +kernel
theorem d_M_poll_5 : decode prog_9_method_30_code 5 = .ok (.aload_n 0, 1) := by decide +kernel
theorem d_M_poll_6 : decode prog_9_method_30_code 6 = .ok (.getfield 20, 3) := by decide +kernel
theorem d_M_poll_9 : decode prog_9_method_30_code 9 = .ok (.iload_n 1, 1) := by decide +kernel
theorem d_M_poll_10 : decode prog_9_method_30_code 10 = .ok (.iconst 0, 1) := by decide +kernel
theorem d_M_poll_11 : decode prog_9_method_30_code 11 = .ok (.iastore, 1) := by decide +kernel
theorem d_M_poll_12 : decode prog_9_method_30_code 12 = .ok (.aload_n 0, 1) := by decide +kernel
theorem d_M_poll_13 : decode prog_9_method_30_code 13 = .ok (.getfield 17, 3) := by decide +kernel
theorem d_M_poll_16 : decode prog_9_method_30_code 16 = .ok (.iload_n 1, 1) := by decide +kernel
theorem d_M_poll_17 : decode prog_9_method_30_code 17 = .ok (.iaload, 1) := by decide +kernel
theorem d_M_poll_18 : decode prog_9_method_30_code 18 = .ok (.invokestatic 211, 3) := by decide +kernel
theorem d_M_poll_21 : decode prog_9_method_30_code 21 = .ok (.istore_n 2, 1) := by decide +kernel
theorem d_M_poll_22 : decode prog_9_method_30_code 22 = .ok (.iload_n 2, 1) := by decide +kernel
theorem d_M_poll_23 : decode prog_9_method_30_code 23 = .ok (.aload_n 0, 1) := by decide +kernel
theorem d_M_poll_24 : decode prog_9_method_30_code 24 = .ok (.getfield 13, 3) := by decide +kernel
theorem d_M_poll_27 : decode prog_9_method_30_code 27 = .ok (.iload_n 1, 1) := by decide +kernel
theorem d_M_poll_28 : decode prog_9_method_30_code 28 = .ok (.iaload, 1) := by decide +kernel
theorem d_M_poll_29 : decode prog_9_method_30_code 29 = .ok (.if_icmp .ne 10, 3) := by decide +kernel
theorem d_M_poll_32 : decode prog_9_method_30_code 32 = .ok (.iload_n 1, 1) := by decide +kernel
theorem d_M_poll_33 : decode prog_9_method_30_code 33 = .ok (.invokestatic 211, 3) := by decide +kernel
theorem d_M_poll_36 : decode prog_9_method_30_code 36 = .ok (.goto 4, 3) := by decide +kernel
theorem d_M_poll_39 : decode prog_9_method_30_code 39 = .ok (.iload_n 2, 1) := by decide +kernel
theorem d_M_poll_40 : decode prog_9_method_30_code 40 = .ok (.istore_n 2, 1) := by decide +kernel
theorem d_M_poll_41 : decode prog_9_method_30_code 41 = .ok (.iload_n 2, 1) := by decide +kernel
theorem d_M_poll_42 : decode prog_9_method_30_code 42 = .ok (.aload_n 0, 1) := by decide +kernel
theorem d_M_poll_43 : decode prog_9_method_30_code 43 = .ok (.getfield 13, 3) := by decide +kernel
theorem d_M_poll_46 : decode prog_9_method_30_code 46 = .ok (.iload_n 1, 1) := by decide +kernel
theorem d_M_poll_47 : decode prog_9_method_30_code 47 = .ok (.iaload, 1) := by decide +kernel
theorem d_M_poll_48 : decode prog_9_method_30_code 48 = .ok (.if_icmp .ne 12, 3) := by decide +kernel
theorem d_M_poll_51 : decode prog_9_method_30_code 51 = .ok (.aload_n 0, 1) := by decide +kernel
theorem d_M_poll_52 : decode prog_9_method_30_code 52 = .ok (.invokevirtual 196, 3) := by decide +kernel
theorem d_M_poll_55 : decode prog_9_method_30_code 55 = .ok (.aload_n 0, 1) := by decide +kernel
theorem d_M_poll_56 : decode prog_9_method_30_code 56 = .ok (.invokevirtual 199, 3) := by decide +kernel
theorem d_M_poll_59 : decode prog_9_method_30_code 59 = .ok (.return_, 1) := by decide +kernel
theorem d_M_poll_60 : decode prog_9_method_30_code 60 = .ok (.aload_n 0, 1) := by decide +kernel
theorem d_M_poll_61 : decode prog_9_method_30_code 61 = .ok (.getfield 17, 3) := by decide +kernel
theorem d_M_poll_64 : decode prog_9_method_30_code 64 = .ok (.iload_n 1, 1) := by decide +kernel
theorem d_M_poll_65 : decode prog_9_method_30_code 65 = .ok (.iload_n 2, 1) := by decide +kernel
theorem d_M_poll_66 : decode prog_9_method_30_code 66 = .ok (.iastore, 1) := by decide +kernel
theorem d_M_poll_67 : decode prog_9_method_30_code 67 = .ok (.aload_n 0, 1) := by decide +kernel
theorem d_M_poll_68 : decode prog_9_method_30_code 68 = .ok (.iload_n 2, 1) := by decide +kernel
theorem d_M_poll_69 : decode prog_9_method_30_code 69 = .ok (.invokevirtual 214, 3) := by decide +kernel
theorem d_M_poll_72 : decode prog_9_method_30_code 72 = .ok (.aload_n 0, 1) := by decide +kernel
theorem d_M_poll_73 : decode prog_9_method_30_code 73 = .ok (.getfield 13, 3) := by decide +kernel
theorem d_M_poll_76 : decode prog_9_method_30_code 76 = .ok (.iload_n 1, 1) := by decide +kernel
theorem d_M_poll_77 : decode prog_9_method_30_code 77 = .ok (.iaload, 1) := by decide +kernel
theorem d_M_poll_78 : decode prog_9_method_30_code 78 = .ok (.iload_n 1, 1) := by decide +kernel
theorem d_M_poll_79 : decode prog_9_method_30_code 79 = .ok (.if_icmp .ne 10, 3) := by decide +kernel
theorem d_M_poll_82 : decode prog_9_method_30_code 82 = .ok (.aload_n 0, 1) := by decide +kernel
theorem d_M_poll_83 : decode prog_9_method_30_code 83 = .ok (.invokevirtual 217, 3) := by decide +kernel
theorem d_M_poll_86 : decode prog_9_method_30_code 86 = .ok (.goto 7, 3) := by decide +kernel
theorem d_M_poll_89 : decode prog_9_method_30_code 89 = .ok (.aload_n 0, 1) := by decide +kernel
theorem d_M_poll_90 : decode prog_9_method_30_code 90 = .ok (.invokevirtual 196, 3) := by decide +kernel
theorem d_M_poll_93 : decode prog_9_method_30_code 93 = .ok (.return_, 1) := by decide +kernel
theorem d_M_pass_0 : decode prog_9_method_31_code 0 = .ok (.aload_n 0, 1) := by decide +kernel
theorem d_M_pass_1 : decode prog_9_method_31_code 1 = .ok (.getfield 107, 3) := by decide +kernel
theorem d_M_pass_4 : decode prog_9_method_31_code 4 = .ok (.istore_n 1, 1) := by decide +kernel
theorem d_M_pass_5 : decode prog_9_method_31_code 5 = .ok (.aload_n 0, 1) := by decide +kernel
theorem d_M_pass_6 : decode prog_9_method_31_code 6 = .ok (.iconst 0, 1) := by decide +kernel
theorem d_M_pass_7 : decode prog_9_method_31_code 7 = .ok (.aload_n 0, 1) := by decide +kernel
theorem d_M_pass_8 : decode prog_9_method_31_code 8 = .ok (.getfield 13, 3) := by decide +kernel
theorem d_M_pass_11 : decode prog_9_method_31_code 11 = .ok (.iload_n 1, 1) := by decide +kernel
theorem d_M_pass_12 : decode prog_9_method_31_code 12 = .ok (.iaload, 1) := by decide +kernel
theorem d_M_pass_13 : decode prog_9_method_31_code 13 = .ok (.iload_n 1, 1) := by decide +kernel
theorem d_M_pass_14 : decode prog_9_method_31_code 14 = .ok (.iconst 0, 1) := by decide +kernel
theorem d_M_pass_15 : decode prog_9_method_31_code 15 = .ok (.invokevirtual 173, 3) := by decide +kernel
theorem d_M_pass_18 : decode prog_9_method_31_code 18 = .ok (.ifCond .eq 44, 3) := by decide +kernel
theorem d_M_pass_21 : decode prog_9_method_31_code 21 = .ok (.aload_n 0, 1) := by decide +kernel
theorem d_M_pass_22 : decode prog_9_method_31_code 22 = .ok (.aload_n 0, 1) := by decide +kernel
theorem d_M_pass_23 : decode prog_9_method_31_code 23 = .ok (.getfield 13, 3) := by decide +kernel
theorem d_M_pass_26 : decode prog_9_method_31_code 26 = .ok (.iload_n 1, 1) := by decide +kernel
theorem d_M_pass_27 : decode prog_9_method_31_code 27 = .ok (.iaload, 1) := by decide +kernel
theorem d_M_pass_28 : decode prog_9_method_31_code 28 = .ok (.putfield 107, 3) := by decide +kernel
theorem d_M_pass_31 : decode prog_9_method_31_code 31 = .ok (.aload_n 0, 1) := by decide +kernel
theorem d_M_pass_32 : decode prog_9_method_31_code 32 = .ok (.getfield 20, 3) := by decide +kernel
theorem d_M_pass_35 : decode prog_9_method_31_code 35 = .ok (.aload_n 0, 1) := by decide +kernel
theorem d_M_pass_36 : decode prog_9_method_31_code 36 = .ok (.getfield 107, 3) := by decide +kernel
theorem d_M_pass_39 : decode prog_9_method_31_code 39 = .ok (.dup2, 1) := by decide +kernel
theorem d_M_pass_40 : decode prog_9_method_31_code 40 = .ok (.iaload, 1) := by decide +kernel
theorem d_M_pass_41 : decode prog_9_method_31_code 41 = .ok (.iconst 1, 1) := by decide +kernel
theorem d_M_pass_42 : decode prog_9_method_31_code 42 = .ok (.iadd, 1) := by decide +kernel
theorem d_M_pass_43 : decode prog_9_method_31_code 43 = .ok (.iastore, 1) := by decide +kernel
theorem d_M_pass_44 : decode prog_9_method_31_code 44 = .ok (.aload_n 0, 1) := by decide +kernel
theorem d_M_pass_45 : decode prog_9_method_31_code 45 = .ok (.getfield 23, 3) := by decide +kernel
theorem d_M_pass_48 : decode prog_9_method_31_code 48 = .ok (.aload_n 0, 1) := by decide +kernel
theorem d_M_pass_49 : decode prog_9_method_31_code 49 = .ok (.getfield 107, 3) := by decide +kernel
theorem d_M_pass_52 : decode prog_9_method_31_code 52 = .ok (.dup2, 1) := by decide +kernel
theorem d_M_pass_53 : decode prog_9_method_31_code 53 = .ok (.iaload, 1) := by decide +kernel
theorem d_M_pass_54 : decode prog_9_method_31_code 54 = .ok (.iconst 1, 1) := by decide +kernel
theorem d_M_pass_55 : decode prog_9_method_31_code 55 = .ok (.iadd, 1) := by decide +kernel
theorem d_M_pass_56 : decode prog_9_method_31_code 56 = .ok (.iastore, 1) := by decide +kernel
theorem d_M_pass_57 : decode prog_9_method_31_code 57 = .ok (.aload_n 0, 1) := by decide +kernel
theorem d_M_pass_58 : decode prog_9_method_31_code 58 = .ok (.invokevirtual 217, 3) := by decide +kernel
theorem d_M_pass_61 : decode prog_9_method_31_code 61 = .ok (.return_, 1) := by decide +kernel
theorem d_M_pass_62 : decode prog_9_method_31_code 62 = .ok (.aload_n 0, 1) := by decide +kernel
theorem d_M_pass_63 : decode prog_9_method_31_code 63 = .ok (.dup, 1) := by decide +kernel
theorem d_M_pass_64 : decode prog_9_method_31_code 64 = .ok (.getfield 208, 3) := by decide +kernel
theorem d_M_pass_67 : decode prog_9_method_31_code 67 = .ok (.iconst 1, 1) := by decide +kernel
theorem d_M_pass_68 : decode prog_9_method_31_code 68 = .ok (.iadd, 1) := by decide +kernel
theorem d_M_pass_69 : decode prog_9_method_31_code 69 = .ok (.putfield 208, 3) := by decide +kernel
theorem d_M_pass_72 : decode prog_9_method_31_code 72 = .ok (.aload_n 0, 1) := by decide +kernel
theorem d_M_pass_73 : decode prog_9_method_31_code 73 = .ok (.getfield 208, 3) := by decide +kernel
theorem d_M_pass_76 : decode prog_9_method_31_code 76 = .ok (.iconst 2, 1) := by decide +kernel
theorem d_M_pass_77 : decode prog_9_method_31_code 77 = .ok (.if_icmp .ne 27, 3) := by decide +kernel
theorem d_M_pass_80 : decode prog_9_method_31_code 80 = .ok (.aload_n 0, 1) := by decide +kernel
theorem d_M_pass_81 : decode prog_9_method_31_code 81 = .ok (.iconst 3, 1) := by decide +kernel
theorem d_M_pass_82 : decode prog_9_method_31_code 82 = .ok (.putfield 190, 3) := by decide +kernel
theorem d_M_pass_85 : decode prog_9_method_31_code 85 = .ok (.aload_n 0, 1) := by decide +kernel
theorem d_M_pass_86 : decode prog_9_method_31_code 86 = .ok (.getfield 17, 3) := by decide +kernel
theorem d_M_pass_89 : decode prog_9_method_31_code 89 = .ok (.iload_n 1, 1) := by decide +kernel
theorem d_M_pass_90 : decode prog_9_method_31_code 90 = .ok (.aload_n 0, 1) := by decide +kernel
theorem d_M_pass_91 : decode prog_9_method_31_code 91 = .ok (.getfield 13, 3) := by decide +kernel
theorem d_M_pass_94 : decode prog_9_method_31_code 94 = .ok (.iload_n 1, 1) := by decide +kernel
theorem d_M_pass_95 : decode prog_9_method_31_code 95 = .ok (.iaload, 1) := by decide +kernel
theorem d_M_pass_96 : decode prog_9_method_31_code 96 = .ok (.iastore, 1) := by decide +kernel
theorem d_M_pass_97 : decode prog_9_method_31_code 97 = .ok (.aload_n 0, 1) := by decide +kernel
theorem d_M_pass_98 : decode prog_9_method_31_code 98 = .ok (.getfield 13, 3) := by decide +kernel
theorem d_M_pass_101 : decode prog_9_method_31_code 101 = .ok (.iload_n 1, 1) := by decide +kernel
theorem d_M_pass_102 : decode prog_9_method_31_code 102 = .ok (.iload_n 1, 1) := by decide +kernel
theorem d_M_pass_103 : decode prog_9_method_31_code 103 = .ok (.iastore, 1) := by decide +kernel
theorem d_M_pass_104 : decode prog_9_method_31_code 104 = .ok (.return_, 1) := by decide +kernel
theorem d_M_search_0 : decode prog_9_method_32_code 0 = .ok (.aload_n 0, 1) := by decide +kernel
theorem d_M_search_1 : decode prog_9_method_32_code 1 = .ok (.getfield 107, 3) := by decide +kernel
theorem d_M_search_4 : decode prog_9_method_32_code 4 = .ok (.istore_n 1, 1) := by decide +kernel
theorem d_M_search_5 : decode prog_9_method_32_code 5 = .ok (.aload_n 0, 1) := by decide +kernel
theorem d_M_search_6 : decode prog_9_method_32_code 6 = .ok (.getfield 17, 3) := by decide +kernel
theorem d_M_search_9 : decode prog_9_method_32_code 9 = .ok (.iload_n 1, 1) := by decide +kernel
theorem d_M_search_10 : decode prog_9_method_32_code 10 = .ok (.iaload, 1) := by decide +kernel
theorem d_M_search_11 : decode prog_9_method_32_code 11 = .ok (.invokestatic 211, 3) := by decide +kernel
theorem d_M_search_14 : decode prog_9_method_32_code 14 = .ok (.istore_n 2, 1) := by decide +kernel
theorem d_M_search_15 : decode prog_9_method_32_code 15 = .ok (.iload_n 2, 1) := by decide +kernel
theorem d_M_search_16 : decode prog_9_method_32_code 16 = .ok (.iload_n 1, 1) := by decide +kernel
theorem d_M_search_17 : decode prog_9_method_32_code 17 = .ok (.if_icmp .ne 8, 3) := by decide +kernel
theorem d_M_search_20 : decode prog_9_method_32_code 20 = .ok (.aload_n 0, 1) := by decide +kernel
theorem d_M_search_21 : decode prog_9_method_32_code 21 = .ok (.invokevirtual 217, 3) := by decide +kernel
theorem d_M_search_24 : decode prog_9_method_32_code 24 = .ok (.return_, 1) := by decide +kernel
theorem d_M_search_25 : decode prog_9_method_32_code 25 = .ok (.aload_n 0, 1) := by decide +kernel
theorem d_M_search_26 : decode prog_9_method_32_code 26 = .ok (.getfield 17, 3) := by decide +kernel
theorem d_M_search_29 : decode prog_9_method_32_code 29 = .ok (.iload_n 1, 1) := by decide +kernel
theorem d_M_search_30 : decode prog_9_method_32_code 30 = .ok (.iload_n 2, 1) := by decide +kernel
theorem d_M_search_31 : decode prog_9_method_32_code 31 = .ok (.iastore, 1) := by decide +kernel
theorem d_M_search_32 : decode prog_9_method_32_code 32 = .ok (.aload_n 0, 1) := by decide +kernel
theorem d_M_search_33 : decode prog_9_method_32_code 33 = .ok (.iload_n 2, 1) := by decide +kernel
theorem d_M_search_34 : decode prog_9_method_32_code 34 = .ok (.invokevirtual 214, 3) := by decide +kernel
theorem d_M_search_37 : decode prog_9_method_32_code 37 = .ok (.aload_n 0, 1) := by decide +kernel
theorem d_M_search_38 : decode prog_9_method_32_code 38 = .ok (.getfield 13, 3) := by decide +kernel
theorem d_M_search_41 : decode prog_9_method_32_code 41 = .ok (.iload_n 1, 1) := by decide +kernel
theorem d_M_search_42 : decode prog_9_method_32_code 42 = .ok (.iaload, 1) := by decide +kernel
theorem d_M_search_43 : decode prog_9_method_32_code 43 = .ok (.iload_n 2, 1) := by decide +kernel
theorem d_M_search_44 : decode prog_9_method_32_code 44 = .ok (.if_icmp .ne 7, 3) := by decide +kernel
theorem d_M_search_47 : decode prog_9_method_32_code 47 = .ok (.aload_n 0, 1) := by decide +kernel
theorem d_M_search_48 : decode prog_9_method_32_code 48 = .ok (.invokevirtual 196, 3) := by decide +kernel
theorem d_M_search_51 : decode prog_9_method_32_code 51 = .ok (.return_, 1) := by decide +kernel
theorem d_M_listen_0 : decode prog_9_method_33_code 0 = .ok (.aload_n 0, 1) := by decide +kernel
theorem d_M_listen_1 : decode prog_9_method_33_code 1 = .ok (.dup, 1) := by decide +kernel
theorem d_M_listen_2 : decode prog_9_method_33_code 2 = .ok (.getfield 118, 3) := by decide +kernel
theorem d_M_listen_5 : decode prog_9_method_33_code 5 = .ok (.iconst 1, 1) := by decide +kernel
theorem d_M_listen_6 : decode prog_9_method_33_code 6 = .ok (.iadd, 1) := by decide +kernel
theorem d_M_listen_7 : decode prog_9_method_33_code 7 = .ok (.putfield 118, 3) := by decide +kernel
theorem d_M_listen_10 : decode prog_9_method_33_code 10 = .ok (.iconst 0, 1) := by decide +kernel
theorem d_M_listen_11 : decode prog_9_method_33_code 11 = .ok (.istore_n 1, 1) := by decide +kernel
theorem d_M_listen_12 : decode prog_9_method_33_code 12 = .ok (.iload_n 1, 1) := by decide +kernel
theorem d_M_listen_13 : decode prog_9_method_33_code 13 = .ok (.bipush 6, 2) := by decide +kernel
theorem d_M_listen_15 : decode prog_9_method_33_code 15 = .ok (.if_icmp .ge 60, 3) := by decide +kernel
theorem d_M_listen_18 : decode prog_9_method_33_code 18 = .ok (.aload_n 0, 1) := by decide +kernel
theorem d_M_listen_19 : decode prog_9_method_33_code 19 = .ok (.getfield 7, 3) := by decide +kernel
theorem d_M_listen_22 : decode prog_9_method_33_code 22 = .ok (.iload_n 1, 1) := by decide +kernel
theorem d_M_listen_23 : decode prog_9_method_33_code 23 = .ok (.baload, 1) := by decide +kernel
theorem d_M_listen_24 : decode prog_9_method_33_code 24 = .ok (.ifCond .eq 45, 3) := by decide +kernel
theorem d_M_listen_27 : decode prog_9_method_33_code 27 = .ok (.aload_n 0, 1) := by decide +kernel
theorem d_M_listen_28 : decode prog_9_method_33_code 28 = .ok (.getfield 118, 3) := by decide +kernel
theorem d_M_listen_31 : decode prog_9_method_33_code 31 = .ok (.iconst 4, 1) := by decide +kernel
theorem d_M_listen_32 : decode prog_9_method_33_code 32 = .ok (.iconst 2, 1) := by decide +kernel
theorem d_M_listen_33 : decode prog_9_method_33_code 33 = .ok (.iload_n 1, 1) := by decide +kernel
theorem d_M_listen_34 : decode prog_9_method_33_code 34 = .ok (.imul, 1) := by decide +kernel
theorem d_M_listen_35 : decode prog_9_method_33_code 35 = .ok (.iadd, 1) := by decide +kernel
theorem d_M_listen_36 : decode prog_9_method_33_code 36 = .ok (.if_icmp .lt 32, 3) := by decide +kernel
theorem d_M_listen_39 : decode prog_9_method_33_code 39 = .ok (.aload_n 0, 1) := by decide +kernel
theorem d_M_listen_40 : decode prog_9_method_33_code 40 = .ok (.iload_n 1, 1) := by decide +kernel
theorem d_M_listen_41 : decode prog_9_method_33_code 41 = .ok (.putfield 107, 3) := by decide +kernel
theorem d_M_listen_44 : decode prog_9_method_33_code 44 = .ok (.aload_n 0, 1) := by decide +kernel
theorem d_M_listen_45 : decode prog_9_method_33_code 45 = .ok (.getfield 13, 3) := by decide +kernel
theorem d_M_listen_48 : decode prog_9_method_33_code 48 = .ok (.iload_n 1, 1) := by decide +kernel
theorem d_M_listen_49 : decode prog_9_method_33_code 49 = .ok (.iload_n 1, 1) := by decide +kernel
theorem d_M_listen_50 : decode prog_9_method_33_code 50 = .ok (.iastore, 1) := by decide +kernel
theorem d_M_listen_51 : decode prog_9_method_33_code 51 = .ok (.aload_n 0, 1) := by decide +kernel
theorem d_M_listen_52 : decode prog_9_method_33_code 52 = .ok (.getfield 17, 3) := by decide +kernel
theorem d_M_listen_55 : decode prog_9_method_33_code 55 = .ok (.iload_n 1, 1) := by decide +kernel
theorem d_M_listen_56 : decode prog_9_method_33_code 56 = .ok (.iload_n 1, 1) := by decide +kernel
theorem d_M_listen_57 : decode prog_9_method_33_code 57 = .ok (.iastore, 1) := by decide +kernel
theorem d_M_listen_58 : decode prog_9_method_33_code 58 = .ok (.aload_n 0, 1) := by decide +kernel
theorem d_M_listen_59 : decode prog_9_method_33_code 59 = .ok (.iconst 3, 1) := by decide +kernel
theorem d_M_listen_60 : decode prog_9_method_33_code 60 = .ok (.putfield 190, 3) := by decide +kernel
theorem d_M_listen_63 : decode prog_9_method_33_code 63 = .ok (.aload_n 0, 1) := by decide +kernel
theorem d_M_listen_64 : decode prog_9_method_33_code 64 = .ok (.iconst 0, 1) := by decide +kernel
theorem d_M_listen_65 : decode prog_9_method_33_code 65 = .ok (.putfield 118, 3) := by decide +kernel
theorem d_M_listen_68 : decode prog_9_method_33_code 68 = .ok (.return_, 1) := by decide +kernel
theorem d_M_listen_69 : decode prog_9_method_33_code 69 = .ok (.iinc 1 1, 3) := by decide +kernel
theorem d_M_listen_72 : decode prog_9_method_33_code 72 = .ok (.goto (-60), 3) := by decide +kernel
theorem d_M_listen_75 : decode prog_9_method_33_code 75 = .ok (.return_, 1) := by decide +kernel
theorem d_M_quotient_0 : decode prog_9_method_34_code 0 = .ok (.iload_n 0, 1) := by decide +kernel
theorem d_M_quotient_1 : decode prog_9_method_34_code 1 = .ok (.ifCond .lt 9, 3) := by decide +kernel
theorem d_M_quotient_4 : decode prog_9_method_34_code 4 = .ok (.iload_n 0, 1) := by decide +kernel
theorem d_M_quotient_5 : decode prog_9_method_34_code 5 = .ok (.iload_n 1, 1) := by decide +kernel
theorem d_M_quotient_6 : decode prog_9_method_34_code 6 = .ok (.idiv, 1) := by decide +kernel
theorem d_M_quotient_7 : decode prog_9_method_34_code 7 = .ok (.goto 11, 3) := by decide +kernel
theorem d_M_quotient_10 : decode prog_9_method_34_code 10 = .ok (.iload_n 1, 1) := by decide +kernel
theorem d_M_quotient_11 : decode prog_9_method_34_code 11 = .ok (.iconst 1, 1) := by decide +kernel
theorem d_M_quotient_12 : decode prog_9_method_34_code 12 = .ok (.isub, 1) := by decide +kernel
theorem d_M_quotient_13 : decode prog_9_method_34_code 13 = .ok (.iload_n 0, 1) := by decide +kernel
theorem d_M_quotient_14 : decode prog_9_method_34_code 14 = .ok (.isub, 1) := by decide +kernel
theorem d_M_quotient_15 : decode prog_9_method_34_code 15 = .ok (.iload_n 1, 1) := by decide +kernel
theorem d_M_quotient_16 : decode prog_9_method_34_code 16 = .ok (.idiv, 1) := by decide +kernel
theorem d_M_quotient_17 : decode prog_9_method_34_code 17 = .ok (.ineg, 1) := by decide +kernel
theorem d_M_quotient_18 : decode prog_9_method_34_code 18 = .ok (.ireturn, 1) := by decide +kernel
theorem d_M_settle_0 : decode prog_9_method_35_code 0 = .ok (.iconst 0, 1) := by decide +kernel
theorem d_M_settle_1 : decode prog_9_method_35_code 1 = .ok (.istore_n 1, 1) := by decide +kernel
theorem d_M_settle_2 : decode prog_9_method_35_code 2 = .ok (.iload_n 1, 1) := by decide +kernel
theorem d_M_settle_3 : decode prog_9_method_35_code 3 = .ok (.bipush 6, 2) := by decide +kernel
theorem d_M_settle_5 : decode prog_9_method_35_code 5 = .ok (.if_icmp .ge 130, 3) := by decide +kernel
theorem d_M_settle_8 : decode prog_9_method_35_code 8 = .ok (.aload_n 0, 1) := by decide +kernel
theorem d_M_settle_9 : decode prog_9_method_35_code 9 = .ok (.getfield 7, 3) := by decide +kernel
theorem d_M_settle_12 : decode prog_9_method_35_code 12 = .ok (.iload_n 1, 1) := by decide +kernel
theorem d_M_settle_13 : decode prog_9_method_35_code 13 = .ok (.baload, 1) := by decide +kernel
theorem d_M_settle_14 : decode prog_9_method_35_code 14 = .ok (.ifCond .eq 115, 3) := by decide +kernel
theorem d_M_settle_17 : decode prog_9_method_35_code 17 = .ok (.aload_n 0, 1) := by decide +kernel
theorem d_M_settle_18 : decode prog_9_method_35_code 18 = .ok (.getfield 32, 3) := by decide +kernel
theorem d_M_settle_21 : decode prog_9_method_35_code 21 = .ok (.iload_n 1, 1) := by decide +kernel
theorem d_M_settle_22 : decode prog_9_method_35_code 22 = .ok (.iaload, 1) := by decide +kernel
theorem d_M_settle_23 : decode prog_9_method_35_code 23 = .ok (.ifCond .ne 12, 3) := by decide +kernel
theorem d_M_settle_26 : decode prog_9_method_35_code 26 = .ok (.aload_n 0, 1) := by decide +kernel
theorem d_M_settle_27 : decode prog_9_method_35_code 27 = .ok (.getfield 35, 3) := by decide +kernel
theorem d_M_settle_30 : decode prog_9_method_35_code 30 = .ok (.iload_n 1, 1) := by decide +kernel
theorem d_M_settle_31 : decode prog_9_method_35_code 31 = .ok (.iaload, 1) := by decide +kernel
theorem d_M_settle_32 : decode prog_9_method_35_code 32 = .ok (.ifCond .eq 97, 3) := by decide +kernel
theorem d_M_settle_35 : decode prog_9_method_35_code 35 = .ok (.aload_n 0, 1) := by decide +kernel
theorem d_M_settle_36 : decode prog_9_method_35_code 36 = .ok (.getfield 29, 3) := by decide +kernel
theorem d_M_settle_39 : decode prog_9_method_35_code 39 = .ok (.iload_n 1, 1) := by decide +kernel
theorem d_M_settle_40 : decode prog_9_method_35_code 40 = .ok (.iaload, 1) := by decide +kernel
theorem d_M_settle_41 : decode prog_9_method_35_code 41 = .ok (.aload_n 0, 1) := by decide +kernel
theorem d_M_settle_42 : decode prog_9_method_35_code 42 = .ok (.getfield 26, 3) := by decide +kernel
theorem d_M_settle_45 : decode prog_9_method_35_code 45 = .ok (.iload_n 1, 1) := by decide +kernel
theorem d_M_settle_46 : decode prog_9_method_35_code 46 = .ok (.iaload, 1) := by decide +kernel
theorem d_M_settle_47 : decode prog_9_method_35_code 47 = .ok (.isub, 1) := by decide +kernel
theorem d_M_settle_48 : decode prog_9_method_35_code 48 = .ok (.istore_n 2, 1) := by decide +kernel
theorem d_M_settle_49 : decode prog_9_method_35_code 49 = .ok (.aload_n 0, 1) := by decide +kernel
theorem d_M_settle_50 : decode prog_9_method_35_code 50 = .ok (.getfield 38, 3) := by decide +kernel
theorem d_M_settle_53 : decode prog_9_method_35_code 53 = .ok (.iload_n 1, 1) := by decide +kernel
theorem d_M_settle_54 : decode prog_9_method_35_code 54 = .ok (.aload_n 0, 1) := by decide +kernel
theorem d_M_settle_55 : decode prog_9_method_35_code 55 = .ok (.getfield 38, 3) := by decide +kernel
theorem d_M_settle_58 : decode prog_9_method_35_code 58 = .ok (.iload_n 1, 1) := by decide +kernel
theorem d_M_settle_59 : decode prog_9_method_35_code 59 = .ok (.iaload, 1) := by decide +kernel
theorem d_M_settle_60 : decode prog_9_method_35_code 60 = .ok (.iload_n 2, 1) := by decide +kernel
theorem d_M_settle_61 : decode prog_9_method_35_code 61 = .ok (.iadd, 1) := by decide +kernel
theorem d_M_settle_62 : decode prog_9_method_35_code 62 = .ok (.sipush 10000, 3) := by decide +kernel
theorem d_M_settle_65 : decode prog_9_method_35_code 65 = .ok (.invokestatic 220, 3) := by decide +kernel
theorem d_M_settle_68 : decode prog_9_method_35_code 68 = .ok (.iastore, 1) := by decide +kernel
theorem d_M_settle_69 : decode prog_9_method_35_code 69 = .ok (.aload_n 0, 1) := by decide +kernel
theorem d_M_settle_70 : decode prog_9_method_35_code 70 = .ok (.getfield 32, 3) := by decide +kernel
theorem d_M_settle_73 : decode prog_9_method_35_code 73 = .ok (.iload_n 1, 1) := by decide +kernel
theorem d_M_settle_74 : decode prog_9_method_35_code 74 = .ok (.iaload, 1) := by decide +kernel
theorem d_M_settle_75 : decode prog_9_method_35_code 75 = .ok (.iload_n 2, 1) := by decide +kernel
theorem d_M_settle_76 : decode prog_9_method_35_code 76 = .ok (.imul, 1) := by decide +kernel
theorem d_M_settle_77 : decode prog_9_method_35_code 77 = .ok (.aload_n 0, 1) := by decide +kernel
theorem d_M_settle_78 : decode prog_9_method_35_code 78 = .ok (.getfield 35, 3) := by decide +kernel
theorem d_M_settle_81 : decode prog_9_method_35_code 81 = .ok (.iload_n 1, 1) := by decide +kernel
theorem d_M_settle_82 : decode prog_9_method_35_code 82 = .ok (.iaload, 1) := by decide +kernel
theorem d_M_settle_83 : decode prog_9_method_35_code 83 = .ok (.aload_n 0, 1) := by decide +kernel
theorem d_M_settle_84 : decode prog_9_method_35_code 84 = .ok (.getfield 38, 3) := by decide +kernel
theorem d_M_settle_87 : decode prog_9_method_35_code 87 = .ok (.iload_n 1, 1) := by decide +kernel
theorem d_M_settle_88 : decode prog_9_method_35_code 88 = .ok (.iaload, 1) := by decide +kernel
theorem d_M_settle_89 : decode prog_9_method_35_code 89 = .ok (.imul, 1) := by decide +kernel
theorem d_M_settle_90 : decode prog_9_method_35_code 90 = .ok (.iadd, 1) := by decide +kernel
theorem d_M_settle_91 : decode prog_9_method_35_code 91 = .ok (.bipush 16, 2) := by decide +kernel
theorem d_M_settle_93 : decode prog_9_method_35_code 93 = .ok (.invokestatic 223, 3) := by decide +kernel
theorem d_M_settle_96 : decode prog_9_method_35_code 96 = .ok (.istore_n 3, 1) := by decide +kernel
theorem d_M_settle_97 : decode prog_9_method_35_code 97 = .ok (.aload_n 0, 1) := by decide +kernel
theorem d_M_settle_98 : decode prog_9_method_35_code 98 = .ok (.getfield 41, 3) := by decide +kernel
theorem d_M_settle_101 : decode prog_9_method_35_code 101 = .ok (.bipush 17, 2) := by decide +kernel
theorem d_M_settle_103 : decode prog_9_method_35_code 103 = .ok (.iload_n 1, 1) := by decide +kernel
theorem d_M_settle_104 : decode prog_9_method_35_code 104 = .ok (.imul, 1) := by decide +kernel
theorem d_M_settle_105 : decode prog_9_method_35_code 105 = .ok (.bipush 15, 2) := by decide +kernel
theorem d_M_settle_107 : decode prog_9_method_35_code 107 = .ok (.iadd, 1) := by decide +kernel
theorem d_M_settle_108 : decode prog_9_method_35_code 108 = .ok (.iload_n 3, 1) := by decide +kernel
theorem d_M_settle_109 : decode prog_9_method_35_code 109 = .ok (.sipush 1000, 3) := by decide +kernel
theorem d_M_settle_112 : decode prog_9_method_35_code 112 = .ok (.invokestatic 220, 3) := by decide +kernel
theorem d_M_settle_115 : decode prog_9_method_35_code 115 = .ok (.iastore, 1) := by decide +kernel
theorem d_M_settle_116 : decode prog_9_method_35_code 116 = .ok (.aload_n 0, 1) := by decide +kernel
theorem d_M_settle_117 : decode prog_9_method_35_code 117 = .ok (.getfield 44, 3) := by decide +kernel
theorem d_M_settle_120 : decode prog_9_method_35_code 120 = .ok (.bipush 17, 2) := by decide +kernel
theorem d_M_settle_122 : decode prog_9_method_35_code 122 = .ok (.iload_n 1, 1) := by decide +kernel
theorem d_M_settle_123 : decode prog_9_method_35_code 123 = .ok (.imul, 1) := by decide +kernel
theorem d_M_settle_124 : decode prog_9_method_35_code 124 = .ok (.bipush 15, 2) := by decide +kernel
theorem d_M_settle_126 : decode prog_9_method_35_code 126 = .ok (.iadd, 1) := by decide +kernel
theorem d_M_settle_127 : decode prog_9_method_35_code 127 = .ok (.iconst 1, 1) := by decide +kernel
theorem d_M_settle_128 : decode prog_9_method_35_code 128 = .ok (.bastore, 1) := by decide +kernel
theorem d_M_settle_129 : decode prog_9_method_35_code 129 = .ok (.iinc 1 1, 3) := by decide +kernel
theorem d_M_settle_132 : decode prog_9_method_35_code 132 = .ok (.goto (-130), 3) := by decide +kernel
theorem d_M_settle_135 : decode prog_9_method_35_code 135 = .ok (.iconst 0, 1) := by decide +kernel
theorem d_M_settle_136 : decode prog_9_method_35_code 136 = .ok (.istore_n 1, 1) := by decide +kernel
theorem d_M_settle_137 : decode prog_9_method_35_code 137 = .ok (.iload_n 1, 1) := by decide +kernel
theorem d_M_settle_138 : decode prog_9_method_35_code 138 = .ok (.aload_n 0, 1) := by decide +kernel
theorem d_M_settle_139 : decode prog_9_method_35_code 139 = .ok (.getfield 115, 3) := by decide +kernel
theorem d_M_settle_142 : decode prog_9_method_35_code 142 = .ok (.if_icmp .ge 76, 3) := by decide +kernel
theorem d_M_settle_145 : decode prog_9_method_35_code 145 = .ok (.aload_n 0, 1) := by decide +kernel
theorem d_M_settle_146 : decode prog_9_method_35_code 146 = .ok (.getfield 7, 3) := by decide +kernel
theorem d_M_settle_149 : decode prog_9_method_35_code 149 = .ok (.aload_n 0, 1) := by decide +kernel
theorem d_M_settle_150 : decode prog_9_method_35_code 150 = .ok (.getfield 74, 3) := by decide +kernel
theorem d_M_settle_153 : decode prog_9_method_35_code 153 = .ok (.iload_n 1, 1) := by decide +kernel
theorem d_M_settle_154 : decode prog_9_method_35_code 154 = .ok (.iaload, 1) := by decide +kernel
theorem d_M_settle_155 : decode prog_9_method_35_code 155 = .ok (.baload, 1) := by decide +kernel
theorem d_M_settle_156 : decode prog_9_method_35_code 156 = .ok (.ifCond .eq 56, 3) := by decide +kernel
theorem d_M_settle_159 : decode prog_9_method_35_code 159 = .ok (.aload_n 0, 1) := by decide +kernel
theorem d_M_settle_160 : decode prog_9_method_35_code 160 = .ok (.aload_n 0, 1) := by decide +kernel
theorem d_M_settle_161 : decode prog_9_method_35_code 161 = .ok (.getfield 74, 3) := by decide +kernel
theorem d_M_settle_164 : decode prog_9_method_35_code 164 = .ok (.iload_n 1, 1) := by decide +kernel
theorem d_M_settle_165 : decode prog_9_method_35_code 165 = .ok (.iaload, 1) := by decide +kernel
theorem d_M_settle_166 : decode prog_9_method_35_code 166 = .ok (.aload_n 0, 1) := by decide +kernel
theorem d_M_settle_167 : decode prog_9_method_35_code 167 = .ok (.getfield 80, 3) := by decide +kernel
theorem d_M_settle_170 : decode prog_9_method_35_code 170 = .ok (.iload_n 1, 1) := by decide +kernel
theorem d_M_settle_171 : decode prog_9_method_35_code 171 = .ok (.iaload, 1) := by decide +kernel
theorem d_M_settle_172 : decode prog_9_method_35_code 172 = .ok (.invokevirtual 162, 3) := by decide +kernel
theorem d_M_settle_175 : decode prog_9_method_35_code 175 = .ok (.i2l, 1) := by decide +kernel
theorem d_M_settle_176 : decode prog_9_method_35_code 176 = .ok (.aload_n 0, 1) := by decide +kernel
theorem d_M_settle_177 : decode prog_9_method_35_code 177 = .ok (.getfield 83, 3) := by decide +kernel
theorem d_M_settle_180 : decode prog_9_method_35_code 180 = .ok (.iload_n 1, 1) := by decide +kernel
theorem d_M_settle_181 : decode prog_9_method_35_code 181 = .ok (.iaload, 1) := by decide +kernel
theorem d_M_settle_182 : decode prog_9_method_35_code 182 = .ok (.i2l, 1) := by decide +kernel
theorem d_M_settle_183 : decode prog_9_method_35_code 183 = .ok (.lsub, 1) := by decide +kernel
theorem d_M_settle_184 : decode prog_9_method_35_code 184 = .ok (.lstore_n 2, 1) := by decide +kernel
theorem d_M_settle_185 : decode prog_9_method_35_code 185 = .ok (.aload_n 0, 1) := by decide +kernel
theorem d_M_settle_186 : decode prog_9_method_35_code 186 = .ok (.getfield 86, 3) := by decide +kernel
theorem d_M_settle_189 : decode prog_9_method_35_code 189 = .ok (.iload_n 1, 1) := by decide +kernel
theorem d_M_settle_190 : decode prog_9_method_35_code 190 = .ok (.lload_n 2, 1) := by decide +kernel
theorem d_M_settle_191 : decode prog_9_method_35_code 191 = .ok (.ldc2_w 226, 3) := by decide +kernel
theorem d_M_settle_194 : decode prog_9_method_35_code 194 = .ok (.lcmp, 1) := by decide +kernel
theorem d_M_settle_195 : decode prog_9_method_35_code 195 = .ok (.ifCond .ge 11, 3) := by decide +kernel
theorem d_M_settle_198 : decode prog_9_method_35_code 198 = .ok (.lload_n 2, 1) := by decide +kernel
theorem d_M_settle_199 : decode prog_9_method_35_code 199 = .ok (.ldc2_w 228, 3) := by decide +kernel
theorem d_M_settle_202 : decode prog_9_method_35_code 202 = .ok (.lcmp, 1) := by decide +kernel
theorem d_M_settle_203 : decode prog_9_method_35_code 203 = .ok (.ifCond .gt 7, 3) := by decide +kernel
theorem d_M_settle_206 : decode prog_9_method_35_code 206 = .ok (.iconst 1, 1) := by decide +kernel
theorem d_M_settle_207 : decode prog_9_method_35_code 207 = .ok (.goto 4, 3) := by decide +kernel
theorem d_M_settle_210 : decode prog_9_method_35_code 210 = .ok (.iconst 0, 1) := by decide +kernel
theorem d_M_settle_211 : decode prog_9_method_35_code 211 = .ok (.bastore, 1) := by decide +kernel
theorem d_M_settle_212 : decode prog_9_method_35_code 212 = .ok (.iinc 1 1, 3) := by decide +kernel
theorem d_M_settle_215 : decode prog_9_method_35_code 215 = .ok (.goto (-78), 3) := by decide +kernel
theorem d_M_settle_218 : decode prog_9_method_35_code 218 = .ok (.return_, 1) := by decide +kernel
theorem d_M_step_0 : decode prog_9_method_36_code 0 = .ok (.aload_n 0, 1) := by decide +kernel
theorem d_M_step_1 : decode prog_9_method_36_code 1 = .ok (.iconst 0, 1) := by decide +kernel
theorem d_M_step_2 : decode prog_9_method_36_code 2 = .ok (.putfield 147, 3) := by decide +kernel
theorem d_M_step_5 : decode prog_9_method_36_code 5 = .ok (.aload_n 0, 1) := by decide +kernel
theorem d_M_step_6 : decode prog_9_method_36_code 6 = .ok (.getfield 104, 3) := by decide +kernel
theorem d_M_step_9 : decode prog_9_method_36_code 9 = .ok (.iconst 0, 1) := by decide +kernel
theorem d_M_step_10 : decode prog_9_method_36_code 10 = .ok (.iconst 0, 1) := by decide +kernel
theorem d_M_step_11 : decode prog_9_method_36_code 11 = .ok (.iastore, 1) := by decide +kernel
theorem d_M_step_12 : decode prog_9_method_36_code 12 = .ok (.aload_n 0, 1) := by decide +kernel
theorem d_M_step_13 : decode prog_9_method_36_code 13 = .ok (.getfield 104, 3) := by decide +kernel
theorem d_M_step_16 : decode prog_9_method_36_code 16 = .ok (.iconst 1, 1) := by decide +kernel
theorem d_M_step_17 : decode prog_9_method_36_code 17 = .ok (.iconst 0, 1) := by decide +kernel
theorem d_M_step_18 : decode prog_9_method_36_code 18 = .ok (.iastore, 1) := by decide +kernel
theorem d_M_step_19 : decode prog_9_method_36_code 19 = .ok (.aload_n 0, 1) := by decide +kernel
theorem d_M_step_20 : decode prog_9_method_36_code 20 = .ok (.dup, 1) := by decide +kernel
theorem d_M_step_21 : decode prog_9_method_36_code 21 = .ok (.getfield 230, 3) := by decide +kernel
theorem d_M_step_24 : decode prog_9_method_36_code 24 = .ok (.iconst 1, 1) := by decide +kernel
theorem d_M_step_25 : decode prog_9_method_36_code 25 = .ok (.iadd, 1) := by decide +kernel
theorem d_M_step_26 : decode prog_9_method_36_code 26 = .ok (.putfield 230, 3) := by decide +kernel
theorem d_M_step_29 : decode prog_9_method_36_code 29 = .ok (.aload_n 0, 1) := by decide +kernel
theorem d_M_step_30 : decode prog_9_method_36_code 30 = .ok (.getfield 107, 3) := by decide +kernel
theorem d_M_step_33 : decode prog_9_method_36_code 33 = .ok (.ifCond .ge 10, 3) := by decide +kernel
theorem d_M_step_36 : decode prog_9_method_36_code 36 = .ok (.aload_n 0, 1) := by decide +kernel
theorem d_M_step_37 : decode prog_9_method_36_code 37 = .ok (.invokevirtual 233, 3) := by decide +kernel
theorem d_M_step_40 : decode prog_9_method_36_code 40 = .ok (.goto 51, 3) := by decide +kernel
theorem d_M_step_43 : decode prog_9_method_36_code 43 = .ok (.aload_n 0, 1) := by decide +kernel
theorem d_M_step_44 : decode prog_9_method_36_code 44 = .ok (.getfield 190, 3) := by decide +kernel
theorem d_M_step_47 : decode prog_9_method_36_code 47 = .ok (.ifCond .ne 10, 3) := by decide +kernel
theorem d_M_step_50 : decode prog_9_method_36_code 50 = .ok (.aload_n 0, 1) := by decide +kernel
theorem d_M_step_51 : decode prog_9_method_36_code 51 = .ok (.invokevirtual 236, 3) := by decide +kernel
theorem d_M_step_54 : decode prog_9_method_36_code 54 = .ok (.goto 37, 3) := by decide +kernel
theorem d_M_step_57 : decode prog_9_method_36_code 57 = .ok (.aload_n 0, 1) := by decide +kernel
theorem d_M_step_58 : decode prog_9_method_36_code 58 = .ok (.getfield 190, 3) := by decide +kernel
theorem d_M_step_61 : decode prog_9_method_36_code 61 = .ok (.iconst 1, 1) := by decide +kernel
theorem d_M_step_62 : decode prog_9_method_36_code 62 = .ok (.if_icmp .ne 10, 3) := by decide +kernel
theorem d_M_step_65 : decode prog_9_method_36_code 65 = .ok (.aload_n 0, 1) := by decide +kernel
theorem d_M_step_66 : decode prog_9_method_36_code 66 = .ok (.invokevirtual 193, 3) := by decide +kernel
theorem d_M_step_69 : decode prog_9_method_36_code 69 = .ok (.goto 22, 3) := by decide +kernel
theorem d_M_step_72 : decode prog_9_method_36_code 72 = .ok (.aload_n 0, 1) := by decide +kernel
theorem d_M_step_73 : decode prog_9_method_36_code 73 = .ok (.getfield 190, 3) := by decide +kernel
theorem d_M_step_76 : decode prog_9_method_36_code 76 = .ok (.iconst 2, 1) := by decide +kernel
theorem d_M_step_77 : decode prog_9_method_36_code 77 = .ok (.if_icmp .ne 10, 3) := by decide +kernel
theorem d_M_step_80 : decode prog_9_method_36_code 80 = .ok (.aload_n 0, 1) := by decide +kernel
theorem d_M_step_81 : decode prog_9_method_36_code 81 = .ok (.invokevirtual 199, 3) := by decide +kernel
theorem d_M_step_84 : decode prog_9_method_36_code 84 = .ok (.goto 7, 3) := by decide +kernel
theorem d_M_step_87 : decode prog_9_method_36_code 87 = .ok (.aload_n 0, 1) := by decide +kernel
theorem d_M_step_88 : decode prog_9_method_36_code 88 = .ok (.invokevirtual 239, 3) := by decide +kernel
theorem d_M_step_91 : decode prog_9_method_36_code 91 = .ok (.aload_n 0, 1) := by decide +kernel
theorem d_M_step_92 : decode prog_9_method_36_code 92 = .ok (.invokevirtual 242, 3) := by decide +kernel
theorem d_M_step_95 : decode prog_9_method_36_code 95 = .ok (.aload_n 0, 1) := by decide +kernel
theorem d_M_step_96 : decode prog_9_method_36_code 96 = .ok (.dup, 1) := by decide +kernel
theorem d_M_step_97 : decode prog_9_method_36_code 97 = .ok (.getfield 245, 3) := by decide +kernel
theorem d_M_step_100 : decode prog_9_method_36_code 100 = .ok (.aload_n 0, 1) := by decide +kernel
theorem d_M_step_101 : decode prog_9_method_36_code 101 = .ok (.getfield 147, 3) := by decide +kernel
theorem d_M_step_104 : decode prog_9_method_36_code 104 = .ok (.iadd, 1) := by decide +kernel
theorem d_M_step_105 : decode prog_9_method_36_code 105 = .ok (.putfield 245, 3) := by decide +kernel
theorem d_M_step_108 : decode prog_9_method_36_code 108 = .ok (.aload_n 0, 1) := by decide +kernel
theorem d_M_step_109 : decode prog_9_method_36_code 109 = .ok (.iconst 0, 1) := by decide +kernel
theorem d_M_step_110 : decode prog_9_method_36_code 110 = .ok (.putfield 138, 3) := by decide +kernel
theorem d_M_step_113 : decode prog_9_method_36_code 113 = .ok (.aload_n 0, 1) := by decide +kernel
theorem d_M_step_114 : decode prog_9_method_36_code 114 = .ok (.getfield 147, 3) := by decide +kernel
theorem d_M_step_117 : decode prog_9_method_36_code 117 = .ok (.ireturn, 1) := by decide +kernel
theorem d_M_holder_0 : decode prog_9_method_37_code 0 = .ok (.aload_n 0, 1) := by decide +kernel
theorem d_M_holder_1 : decode prog_9_method_37_code 1 = .ok (.getfield 107, 3) := by decide +kernel
theorem d_M_holder_4 : decode prog_9_method_37_code 4 = .ok (.ireturn, 1) := by decide +kernel
theorem d_M_phase_0 : decode prog_9_method_38_code 0 = .ok (.aload_n 0, 1) := by decide +kernel
theorem d_M_phase_1 : decode prog_9_method_38_code 1 = .ok (.getfield 107, 3) := by decide +kernel
theorem d_M_phase_4 : decode prog_9_method_38_code 4 = .ok (.ifCond .ge 7, 3) := by decide +kernel
theorem d_M_phase_7 : decode prog_9_method_38_code 7 = .ok (.iconst (-1), 1) := by decide +kernel
theorem d_M_phase_8 : decode prog_9_method_38_code 8 = .ok (.goto 7, 3) := by decide +kernel
theorem d_M_phase_11 : decode prog_9_method_38_code 11 = .ok (.aload_n 0, 1) := by decide +kernel
theorem d_M_phase_12 : decode prog_9_method_38_code 12 = .ok (.getfield 190, 3) := by decide +kernel
theorem d_M_phase_15 : decode prog_9_method_38_code 15 = .ok (.ireturn, 1) := by decide +kernel
theorem d_M_node_0 : decode prog_9_method_39_code 0 = .ok (.iload_n 1, 1) := by decide +kernel
theorem d_M_node_1 : decode prog_9_method_39_code 1 = .ok (.invokestatic 111, 3) := by decide +kernel
theorem d_M_node_4 : decode prog_9_method_39_code 4 = .ok (.ifCond .ne 5, 3) := by decide +kernel
theorem d_M_node_7 : decode prog_9_method_39_code 7 = .ok (.iconst (-1), 1) := by decide +kernel
theorem d_M_node_8 : decode prog_9_method_39_code 8 = .ok (.ireturn, 1) := by decide +kernel
theorem d_M_node_9 : decode prog_9_method_39_code 9 = .ok (.iload_n 2, 1) := by decide +kernel
theorem d_M_node_10 : decode prog_9_method_39_code 10 = .ok (.tableswitch 108 0 7 #[46, 61, 68, 75, 82, 88, 95, 101], 46) := by decide +kernel
theorem d_M_node_56 : decode prog_9_method_39_code 56 = .ok (.aload_n 0, 1) := by decide +kernel
theorem d_M_node_57 : decode prog_9_method_39_code 57 = .ok (.getfield 7, 3) := by decide +kernel
theorem d_M_node_60 : decode prog_9_method_39_code 60 = .ok (.iload_n 1, 1) := by decide +kernel
theorem d_M_node_61 : decode prog_9_method_39_code 61 = .ok (.baload, 1) := by decide +kernel
theorem d_M_node_62 : decode prog_9_method_39_code 62 = .ok (.ifCond .eq 7, 3) := by decide +kernel
theorem d_M_node_65 : decode prog_9_method_39_code 65 = .ok (.iconst 1, 1) := by decide +kernel
theorem d_M_node_66 : decode prog_9_method_39_code 66 = .ok (.goto 4, 3) := by decide +kernel
theorem d_M_node_69 : decode prog_9_method_39_code 69 = .ok (.iconst 0, 1) := by decide +kernel
theorem d_M_node_70 : decode prog_9_method_39_code 70 = .ok (.ireturn, 1) := by decide +kernel
theorem d_M_node_71 : decode prog_9_method_39_code 71 = .ok (.aload_n 0, 1) := by decide +kernel
theorem d_M_node_72 : decode prog_9_method_39_code 72 = .ok (.getfield 13, 3) := by decide +kernel
theorem d_M_node_75 : decode prog_9_method_39_code 75 = .ok (.iload_n 1, 1) := by decide +kernel
theorem d_M_node_76 : decode prog_9_method_39_code 76 = .ok (.iaload, 1) := by decide +kernel
theorem d_M_node_77 : decode prog_9_method_39_code 77 = .ok (.ireturn, 1) := by decide +kernel
theorem d_M_node_78 : decode prog_9_method_39_code 78 = .ok (.aload_n 0, 1) := by decide +kernel
theorem d_M_node_79 : decode prog_9_method_39_code 79 = .ok (.getfield 17, 3) := by decide +kernel
theorem d_M_node_82 : decode prog_9_method_39_code 82 = .ok (.iload_n 1, 1) := by decide +kernel
theorem d_M_node_83 : decode prog_9_method_39_code 83 = .ok (.iaload, 1) := by decide +kernel
theorem d_M_node_84 : decode prog_9_method_39_code 84 = .ok (.ireturn, 1) := by decide +kernel
theorem d_M_node_85 : decode prog_9_method_39_code 85 = .ok (.aload_n 0, 1) := by decide +kernel
theorem d_M_node_86 : decode prog_9_method_39_code 86 = .ok (.getfield 20, 3) := by decide +kernel
theorem d_M_node_89 : decode prog_9_method_39_code 89 = .ok (.iload_n 1, 1) := by decide +kernel
theorem d_M_node_90 : decode prog_9_method_39_code 90 = .ok (.iaload, 1) := by decide +kernel
theorem d_M_node_91 : decode prog_9_method_39_code 91 = .ok (.ireturn, 1) := by decide +kernel
theorem d_M_node_92 : decode prog_9_method_39_code 92 = .ok (.aload_n 0, 1) := by decide +kernel
theorem d_M_node_93 : decode prog_9_method_39_code 93 = .ok (.iload_n 1, 1) := by decide +kernel
theorem d_M_node_94 : decode prog_9_method_39_code 94 = .ok (.invokevirtual 128, 3) := by decide +kernel
theorem d_M_node_97 : decode prog_9_method_39_code 97 = .ok (.ireturn, 1) := by decide +kernel
theorem d_M_node_98 : decode prog_9_method_39_code 98 = .ok (.aload_n 0, 1) := by decide +kernel
theorem d_M_node_99 : decode prog_9_method_39_code 99 = .ok (.getfield 23, 3) := by decide +kernel
theorem d_M_node_102 : decode prog_9_method_39_code 102 = .ok (.iload_n 1, 1) := by decide +kernel
theorem d_M_node_103 : decode prog_9_method_39_code 103 = .ok (.iaload, 1) := by decide +kernel
theorem d_M_node_104 : decode prog_9_method_39_code 104 = .ok (.ireturn, 1) := by decide +kernel
theorem d_M_node_105 : decode prog_9_method_39_code 105 = .ok (.aload_n 0, 1) := by decide +kernel
theorem d_M_node_106 : decode prog_9_method_39_code 106 = .ok (.iload_n 1, 1) := by decide +kernel
theorem d_M_node_107 : decode prog_9_method_39_code 107 = .ok (.invokevirtual 159, 3) := by decide +kernel
theorem d_M_node_110 : decode prog_9_method_39_code 110 = .ok (.ireturn, 1) := by decide +kernel
theorem d_M_node_111 : decode prog_9_method_39_code 111 = .ok (.aload_n 0, 1) := by decide +kernel
theorem d_M_node_112 : decode prog_9_method_39_code 112 = .ok (.getfield 38, 3) := by decide +kernel
theorem d_M_node_115 : decode prog_9_method_39_code 115 = .ok (.iload_n 1, 1) := by decide +kernel
theorem d_M_node_116 : decode prog_9_method_39_code 116 = .ok (.iaload, 1) := by decide +kernel
theorem d_M_node_117 : decode prog_9_method_39_code 117 = .ok (.ireturn, 1) := by decide +kernel
theorem d_M_node_118 : decode prog_9_method_39_code 118 = .ok (.iconst (-1), 1) := by decide +kernel
theorem d_M_node_119 : decode prog_9_method_39_code 119 = .ok (.ireturn, 1) := by decide +kernel
theorem d_M_level_0 : decode prog_9_method_40_code 0 = .ok (.aload_n 0, 1) := by decide +kernel
theorem d_M_level_1 : decode prog_9_method_40_code 1 = .ok (.iload_n 1, 1) := by decide +kernel
theorem d_M_level_2 : decode prog_9_method_40_code 2 = .ok (.iload_n 2, 1) := by decide +kernel
theorem d_M_level_3 : decode prog_9_method_40_code 3 = .ok (.invokevirtual 248, 3) := by decide +kernel
theorem d_M_level_6 : decode prog_9_method_40_code 6 = .ok (.ifCond .eq 17, 3) := by decide +kernel
theorem d_M_level_9 : decode prog_9_method_40_code 9 = .ok (.aload_n 0, 1) := by decide +kernel
theorem d_M_level_10 : decode prog_9_method_40_code 10 = .ok (.getfield 41, 3) := by decide +kernel
theorem d_M_level_13 : decode prog_9_method_40_code 13 = .ok (.bipush 17, 2) := by decide +kernel
theorem d_M_level_15 : decode prog_9_method_40_code 15 = .ok (.iload_n 1, 1) := by decide +kernel
theorem d_M_level_16 : decode prog_9_method_40_code 16 = .ok (.imul, 1) := by decide +kernel
theorem d_M_level_17 : decode prog_9_method_40_code 17 = .ok (.iload_n 2, 1) := by decide +kernel
theorem d_M_level_18 : decode prog_9_method_40_code 18 = .ok (.iadd, 1) := by decide +kernel
theorem d_M_level_19 : decode prog_9_method_40_code 19 = .ok (.iaload, 1) := by decide +kernel
theorem d_M_level_20 : decode prog_9_method_40_code 20 = .ok (.goto 4, 3) := by decide +kernel
theorem d_M_level_23 : decode prog_9_method_40_code 23 = .ok (.iconst 0, 1) := by decide +kernel
theorem d_M_level_24 : decode prog_9_method_40_code 24 = .ok (.ireturn, 1) := by decide +kernel
theorem d_M_set_0 : decode prog_9_method_41_code 0 = .ok (.iload_n 1, 1) := by decide +kernel
theorem d_M_set_1 : decode prog_9_method_41_code 1 = .ok (.invokestatic 111, 3) := by decide +kernel
theorem d_M_set_4 : decode prog_9_method_41_code 4 = .ok (.ifCond .eq 31, 3) := by decide +kernel
theorem d_M_set_7 : decode prog_9_method_41_code 7 = .ok (.iload_n 2, 1) := by decide +kernel
theorem d_M_set_8 : decode prog_9_method_41_code 8 = .ok (.iconst 1, 1) := by decide +kernel
theorem d_M_set_9 : decode prog_9_method_41_code 9 = .ok (.bipush 16, 2) := by decide +kernel
theorem d_M_set_11 : decode prog_9_method_41_code 11 = .ok (.invokestatic 121, 3) := by decide +kernel
theorem d_M_set_14 : decode prog_9_method_41_code 14 = .ok (.ifCond .ne 21, 3) := by decide +kernel
theorem d_M_set_17 : decode prog_9_method_41_code 17 = .ok (.aload_n 0, 1) := by decide +kernel
theorem d_M_set_18 : decode prog_9_method_41_code 18 = .ok (.getfield 44, 3) := by decide +kernel
theorem d_M_set_21 : decode prog_9_method_41_code 21 = .ok (.bipush 17, 2) := by decide +kernel
theorem d_M_set_23 : decode prog_9_method_41_code 23 = .ok (.iload_n 1, 1) := by decide +kernel
theorem d_M_set_24 : decode prog_9_method_41_code 24 = .ok (.imul, 1) := by decide +kernel
theorem d_M_set_25 : decode prog_9_method_41_code 25 = .ok (.iload_n 2, 1) := by decide +kernel
theorem d_M_set_26 : decode prog_9_method_41_code 26 = .ok (.iadd, 1) := by decide +kernel
theorem d_M_set_27 : decode prog_9_method_41_code 27 = .ok (.baload, 1) := by decide +kernel
theorem d_M_set_28 : decode prog_9_method_41_code 28 = .ok (.ifCond .eq 7, 3) := by decide +kernel
theorem d_M_set_31 : decode prog_9_method_41_code 31 = .ok (.iconst 1, 1) := by decide +kernel
theorem d_M_set_32 : decode prog_9_method_41_code 32 = .ok (.goto 4, 3) := by decide +kernel
theorem d_M_set_35 : decode prog_9_method_41_code 35 = .ok (.iconst 0, 1) := by decide +kernel
theorem d_M_set_36 : decode prog_9_method_41_code 36 = .ok (.ireturn, 1) := by decide +kernel
theorem d_M_state_0 : decode prog_9_method_42_code 0 = .ok (.iload_n 1, 1) := by decide +kernel
theorem d_M_state_1 : decode prog_9_method_42_code 1 = .ok (.ifCond .lt 11, 3) := by decide +kernel
theorem d_M_state_4 : decode prog_9_method_42_code 4 = .ok (.iload_n 1, 1) := by decide +kernel
theorem d_M_state_5 : decode prog_9_method_42_code 5 = .ok (.aload_n 0, 1) := by decide +kernel
theorem d_M_state_6 : decode prog_9_method_42_code 6 = .ok (.getfield 125, 3) := by decide +kernel
theorem d_M_state_9 : decode prog_9_method_42_code 9 = .ok (.if_icmp .lt 7, 3) := by decide +kernel
theorem d_M_state_12 : decode prog_9_method_42_code 12 = .ok (.iconst (-1), 1) := by decide +kernel
theorem d_M_state_13 : decode prog_9_method_42_code 13 = .ok (.goto 9, 3) := by decide +kernel
theorem d_M_state_16 : decode prog_9_method_42_code 16 = .ok (.aload_n 0, 1) := by decide +kernel
theorem d_M_state_17 : decode prog_9_method_42_code 17 = .ok (.getfield 59, 3) := by decide +kernel
theorem d_M_state_20 : decode prog_9_method_42_code 20 = .ok (.iload_n 1, 1) := by decide +kernel
theorem d_M_state_21 : decode prog_9_method_42_code 21 = .ok (.iaload, 1) := by decide +kernel
theorem d_M_state_22 : decode prog_9_method_42_code 22 = .ok (.ireturn, 1) := by decide +kernel
theorem d_M_answer_0 : decode prog_9_method_43_code 0 = .ok (.iload_n 1, 1) := by decide +kernel
theorem d_M_answer_1 : decode prog_9_method_43_code 1 = .ok (.ifCond .lt 21, 3) := by decide +kernel
theorem d_M_answer_4 : decode prog_9_method_43_code 4 = .ok (.iload_n 1, 1) := by decide +kernel
theorem d_M_answer_5 : decode prog_9_method_43_code 5 = .ok (.aload_n 0, 1) := by decide +kernel
theorem d_M_answer_6 : decode prog_9_method_43_code 6 = .ok (.getfield 125, 3) := by decide +kernel
theorem d_M_answer_9 : decode prog_9_method_43_code 9 = .ok (.if_icmp .ge 13, 3) := by decide +kernel
theorem d_M_answer_12 : decode prog_9_method_43_code 12 = .ok (.aload_n 0, 1) := by decide +kernel
theorem d_M_answer_13 : decode prog_9_method_43_code 13 = .ok (.getfield 59, 3) := by decide +kernel
theorem d_M_answer_16 : decode prog_9_method_43_code 16 = .ok (.iload_n 1, 1) := by decide +kernel
theorem d_M_answer_17 : decode prog_9_method_43_code 17 = .ok (.iaload, 1) := by decide +kernel
theorem d_M_answer_18 : decode prog_9_method_43_code 18 = .ok (.iconst 1, 1) := by decide +kernel
theorem d_M_answer_19 : decode prog_9_method_43_code 19 = .ok (.if_icmp .eq 7, 3) := by decide +kernel
theorem d_M_answer_22 : decode prog_9_method_43_code 22 = .ok (.iconst 0, 1) := by decide +kernel
theorem d_M_answer_23 : decode prog_9_method_43_code 23 = .ok (.goto 9, 3) := by decide +kernel
theorem d_M_answer_26 : decode prog_9_method_43_code 26 = .ok (.aload_n 0, 1) := by decide +kernel
theorem d_M_answer_27 : decode prog_9_method_43_code 27 = .ok (.getfield 71, 3) := by decide +kernel
theorem d_M_answer_30 : decode prog_9_method_43_code 30 = .ok (.iload_n 1, 1) := by decide +kernel
theorem d_M_answer_31 : decode prog_9_method_43_code 31 = .ok (.iaload, 1) := by decide +kernel
theorem d_M_answer_32 : decode prog_9_method_43_code 32 = .ok (.ireturn, 1) := by decide +kernel
theorem d_M_noted_0 : decode prog_9_method_44_code 0 = .ok (.iload_n 1, 1) := by decide +kernel
theorem d_M_noted_1 : decode prog_9_method_44_code 1 = .ok (.invokestatic 111, 3) := by decide +kernel
theorem d_M_noted_4 : decode prog_9_method_44_code 4 = .ok (.ifCond .eq 26, 3) := by decide +kernel
theorem d_M_noted_7 : decode prog_9_method_44_code 7 = .ok (.iload_n 2, 1) := by decide +kernel
theorem d_M_noted_8 : decode prog_9_method_44_code 8 = .ok (.iconst 0, 1) := by decide +kernel
theorem d_M_noted_9 : decode prog_9_method_44_code 9 = .ok (.iconst 3, 1) := by decide +kernel
theorem d_M_noted_10 : decode prog_9_method_44_code 10 = .ok (.invokestatic 121, 3) := by decide +kernel
theorem d_M_noted_13 : decode prog_9_method_44_code 13 = .ok (.ifCond .ne 17, 3) := by decide +kernel
theorem d_M_noted_16 : decode prog_9_method_44_code 16 = .ok (.iload_n 2, 1) := by decide +kernel
theorem d_M_noted_17 : decode prog_9_method_44_code 17 = .ok (.iconst 3, 1) := by decide +kernel
theorem d_M_noted_18 : decode prog_9_method_44_code 18 = .ok (.if_icmp .ge 14, 3) := by decide +kernel
theorem d_M_noted_21 : decode prog_9_method_44_code 21 = .ok (.aload_n 0, 1) := by decide +kernel
theorem d_M_noted_22 : decode prog_9_method_44_code 22 = .ok (.getfield 98, 3) := by decide +kernel
theorem d_M_noted_25 : decode prog_9_method_44_code 25 = .ok (.iload_n 1, 1) := by decide +kernel
theorem d_M_noted_26 : decode prog_9_method_44_code 26 = .ok (.iaload, 1) := by decide +kernel
theorem d_M_noted_27 : decode prog_9_method_44_code 27 = .ok (.ifCond .ne 5, 3) := by decide +kernel
theorem d_M_noted_30 : decode prog_9_method_44_code 30 = .ok (.iconst (-1), 1) := by decide +kernel
theorem d_M_noted_31 : decode prog_9_method_44_code 31 = .ok (.ireturn, 1) := by decide +kernel
theorem d_M_noted_32 : decode prog_9_method_44_code 32 = .ok (.iload_n 2, 1) := by decide +kernel
theorem d_M_noted_33 : decode prog_9_method_44_code 33 = .ok (.ifCond .ne 12, 3) := by decide +kernel
theorem d_M_noted_36 : decode prog_9_method_44_code 36 = .ok (.aload_n 0, 1) := by decide +kernel
theorem d_M_noted_37 : decode prog_9_method_44_code 37 = .ok (.getfield 89, 3) := by decide +kernel
theorem d_M_noted_40 : decode prog_9_method_44_code 40 = .ok (.iload_n 1, 1) := by decide +kernel
theorem d_M_noted_41 : decode prog_9_method_44_code 41 = .ok (.iaload, 1) := by decide +kernel
theorem d_M_noted_42 : decode prog_9_method_44_code 42 = .ok (.goto 37, 3) := by decide +kernel
theorem d_M_noted_45 : decode prog_9_method_44_code 45 = .ok (.iload_n 2, 1) := by decide +kernel
theorem d_M_noted_46 : decode prog_9_method_44_code 46 = .ok (.iconst 1, 1) := by decide +kernel
theorem d_M_noted_47 : decode prog_9_method_44_code 47 = .ok (.if_icmp .ne 12, 3) := by decide +kernel
theorem d_M_noted_50 : decode prog_9_method_44_code 50 = .ok (.aload_n 0, 1) := by decide +kernel
theorem d_M_noted_51 : decode prog_9_method_44_code 51 = .ok (.getfield 92, 3) := by decide +kernel
theorem d_M_noted_54 : decode prog_9_method_44_code 54 = .ok (.iload_n 1, 1) := by decide +kernel
theorem d_M_noted_55 : decode prog_9_method_44_code 55 = .ok (.iaload, 1) := by decide +kernel
theorem d_M_noted_56 : decode prog_9_method_44_code 56 = .ok (.goto 23, 3) := by decide +kernel
theorem d_M_noted_59 : decode prog_9_method_44_code 59 = .ok (.iload_n 2, 1) := by decide +kernel
theorem d_M_noted_60 : decode prog_9_method_44_code 60 = .ok (.iconst 2, 1) := by decide +kernel
theorem d_M_noted_61 : decode prog_9_method_44_code 61 = .ok (.if_icmp .ne 12, 3) := by decide +kernel
theorem d_M_noted_64 : decode prog_9_method_44_code 64 = .ok (.aload_n 0, 1) := by decide +kernel
theorem d_M_noted_65 : decode prog_9_method_44_code 65 = .ok (.getfield 95, 3) := by decide +kernel
theorem d_M_noted_68 : decode prog_9_method_44_code 68 = .ok (.iload_n 1, 1) := by decide +kernel
theorem d_M_noted_69 : decode prog_9_method_44_code 69 = .ok (.iaload, 1) := by decide +kernel
theorem d_M_noted_70 : decode prog_9_method_44_code 70 = .ok (.goto 9, 3) := by decide +kernel
theorem d_M_noted_73 : decode prog_9_method_44_code 73 = .ok (.aload_n 0, 1) := by decide +kernel
theorem d_M_noted_74 : decode prog_9_method_44_code 74 = .ok (.getfield 98, 3) := by decide +kernel
theorem d_M_noted_77 : decode prog_9_method_44_code 77 = .ok (.iload_n 1, 1) := by decide +kernel
theorem d_M_noted_78 : decode prog_9_method_44_code 78 = .ok (.iaload, 1) := by decide +kernel
theorem d_M_noted_79 : decode prog_9_method_44_code 79 = .ok (.ireturn, 1) := by decide +kernel
theorem d_M_frame_0 : decode prog_9_method_45_code 0 = .ok (.iload_n 1, 1) := by decide +kernel
theorem d_M_frame_1 : decode prog_9_method_45_code 1 = .ok (.iconst 0, 1) := by decide +kernel
theorem d_M_frame_2 : decode prog_9_method_45_code 2 = .ok (.iconst 1, 1) := by decide +kernel
theorem d_M_frame_3 : decode prog_9_method_45_code 3 = .ok (.invokestatic 121, 3) := by decide +kernel
theorem d_M_frame_6 : decode prog_9_method_45_code 6 = .ok (.ifCond .eq 5, 3) := by decide +kernel
theorem d_M_frame_9 : decode prog_9_method_45_code 9 = .ok (.iconst (-1), 1) := by decide +kernel
theorem d_M_frame_10 : decode prog_9_method_45_code 10 = .ok (.ireturn, 1) := by decide +kernel
theorem d_M_frame_11 : decode prog_9_method_45_code 11 = .ok (.iload_n 2, 1) := by decide +kernel
theorem d_M_frame_12 : decode prog_9_method_45_code 12 = .ok (.iconst (-1), 1) := by decide +kernel
theorem d_M_frame_13 : decode prog_9_method_45_code 13 = .ok (.if_icmp .ne 12, 3) := by decide +kernel
theorem d_M_frame_16 : decode prog_9_method_45_code 16 = .ok (.aload_n 0, 1) := by decide +kernel
theorem d_M_frame_17 : decode prog_9_method_45_code 17 = .ok (.getfield 104, 3) := by decide +kernel
theorem d_M_frame_20 : decode prog_9_method_45_code 20 = .ok (.iload_n 1, 1) := by decide +kernel
theorem d_M_frame_21 : decode prog_9_method_45_code 21 = .ok (.iaload, 1) := by decide +kernel
theorem d_M_frame_22 : decode prog_9_method_45_code 22 = .ok (.goto 32, 3) := by decide +kernel
theorem d_M_frame_25 : decode prog_9_method_45_code 25 = .ok (.iload_n 2, 1) := by decide +kernel
theorem d_M_frame_26 : decode prog_9_method_45_code 26 = .ok (.ifCond .lt 13, 3) := by decide +kernel
theorem d_M_frame_29 : decode prog_9_method_45_code 29 = .ok (.iload_n 2, 1) := by decide +kernel
theorem d_M_frame_30 : decode prog_9_method_45_code 30 = .ok (.aload_n 0, 1) := by decide +kernel
theorem d_M_frame_31 : decode prog_9_method_45_code 31 = .ok (.getfield 104, 3) := by decide +kernel
theorem d_M_frame_34 : decode prog_9_method_45_code 34 = .ok (.iload_n 1, 1) := by decide +kernel
theorem d_M_frame_35 : decode prog_9_method_45_code 35 = .ok (.iaload, 1) := by decide +kernel
theorem d_M_frame_36 : decode prog_9_method_45_code 36 = .ok (.if_icmp .lt 7, 3) := by decide +kernel
theorem d_M_frame_39 : decode prog_9_method_45_code 39 = .ok (.iconst (-1), 1) := by decide +kernel
theorem d_M_frame_40 : decode prog_9_method_45_code 40 = .ok (.goto 14, 3) := by decide +kernel
theorem d_M_frame_43 : decode prog_9_method_45_code 43 = .ok (.aload_n 0, 1) := by decide +kernel
theorem d_M_frame_44 : decode prog_9_method_45_code 44 = .ok (.getfield 101, 3) := by decide +kernel
theorem d_M_frame_47 : decode prog_9_method_45_code 47 = .ok (.bipush 18, 2) := by decide +kernel
theorem d_M_frame_49 : decode prog_9_method_45_code 49 = .ok (.iload_n 1, 1) := by decide +kernel
theorem d_M_frame_50 : decode prog_9_method_45_code 50 = .ok (.imul, 1) := by decide +kernel
theorem d_M_frame_51 : decode prog_9_method_45_code 51 = .ok (.iload_n 2, 1) := by decide +kernel
theorem d_M_frame_52 : decode prog_9_method_45_code 52 = .ok (.iadd, 1) := by decide +kernel
theorem d_M_frame_53 : decode prog_9_method_45_code 53 = .ok (.iaload, 1) := by decide +kernel
theorem d_M_frame_54 : decode prog_9_method_45_code 54 = .ok (.ireturn, 1) := by decide +kernel
theorem d_M_total_0 : decode prog_9_method_46_code 0 = .ok (.iload_n 1, 1) := by decide +kernel
theorem d_M_total_1 : decode prog_9_method_46_code 1 = .ok (.ifCond .ne 10, 3) := by decide +kernel
theorem d_M_total_4 : decode prog_9_method_46_code 4 = .ok (.aload_n 0, 1) := by decide +kernel
theorem d_M_total_5 : decode prog_9_method_46_code 5 = .ok (.getfield 230, 3) := by decide +kernel
theorem d_M_total_8 : decode prog_9_method_46_code 8 = .ok (.goto 40, 3) := by decide +kernel
theorem d_M_total_11 : decode prog_9_method_46_code 11 = .ok (.iload_n 1, 1) := by decide +kernel
theorem d_M_total_12 : decode prog_9_method_46_code 12 = .ok (.iconst 1, 1) := by decide +kernel
theorem d_M_total_13 : decode prog_9_method_46_code 13 = .ok (.if_icmp .ne 10, 3) := by decide +kernel
theorem d_M_total_16 : decode prog_9_method_46_code 16 = .ok (.aload_n 0, 1) := by decide +kernel
theorem d_M_total_17 : decode prog_9_method_46_code 17 = .ok (.getfield 245, 3) := by decide +kernel
theorem d_M_total_20 : decode prog_9_method_46_code 20 = .ok (.goto 28, 3) := by decide +kernel
theorem d_M_total_23 : decode prog_9_method_46_code 23 = .ok (.iload_n 1, 1) := by decide +kernel
theorem d_M_total_24 : decode prog_9_method_46_code 24 = .ok (.iconst 2, 1) := by decide +kernel
theorem d_M_total_25 : decode prog_9_method_46_code 25 = .ok (.if_icmp .ne 10, 3) := by decide +kernel
theorem d_M_total_28 : decode prog_9_method_46_code 28 = .ok (.aload_n 0, 1) := by decide +kernel
theorem d_M_total_29 : decode prog_9_method_46_code 29 = .ok (.getfield 125, 3) := by decide +kernel
theorem d_M_total_32 : decode prog_9_method_46_code 32 = .ok (.goto 16, 3) := by decide +kernel
theorem d_M_total_35 : decode prog_9_method_46_code 35 = .ok (.iload_n 1, 1) := by decide +kernel
theorem d_M_total_36 : decode prog_9_method_46_code 36 = .ok (.iconst 3, 1) := by decide +kernel
theorem d_M_total_37 : decode prog_9_method_46_code 37 = .ok (.if_icmp .ne 10, 3) := by decide +kernel
theorem d_M_total_40 : decode prog_9_method_46_code 40 = .ok (.aload_n 0, 1) := by decide +kernel
theorem d_M_total_41 : decode prog_9_method_46_code 41 = .ok (.getfield 118, 3) := by decide +kernel
theorem d_M_total_44 : decode prog_9_method_46_code 44 = .ok (.goto 4, 3) := by decide +kernel
theorem d_M_total_47 : decode prog_9_method_46_code 47 = .ok (.iconst (-1), 1) := by decide +kernel
theorem d_M_total_48 : decode prog_9_method_46_code 48 = .ok (.ireturn, 1) := by decide +kernel
