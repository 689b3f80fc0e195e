theorem dX12_stage_0 : decode cX12_stage 0 = .ok (.iload_n 1, 1) := dk_iload_n_1 (by decide +kernel)
theorem dX12_stage_1 : decode cX12_stage 1 = .ok (.iconst 1, 1) := dk_iconst_1 (by decide +kernel)
theorem dX12_stage_2 : decode cX12_stage 2 = .ok (.sipush 999, 3) := dk_sipush (by decide +kernel)
theorem dX12_stage_5 : decode cX12_stage 5 = .ok (.invokestatic 187, 3) := dk_invokestatic (by decide +kernel)
theorem dX12_stage_8 : decode cX12_stage 8 = .ok (.istore_n 2, 1) := dk_istore_n_2 (by decide +kernel)
theorem dX12_stage_9 : decode cX12_stage 9 = .ok (.iload_n 2, 1) := dk_iload_n_2 (by decide +kernel)
theorem dX12_stage_10 : decode cX12_stage 10 = .ok (.ifCond .ne 16, 3) := dk_ifCond_ne (by decide +kernel)
theorem dX12_stage_13 : decode cX12_stage 13 = .ok (.aload_n 0, 1) := dk_aload_n_0 (by decide +kernel)
theorem dX12_stage_14 : decode cX12_stage 14 = .ok (.getfield 169, 3) := dk_getfield (by decide +kernel)
theorem dX12_stage_17 : decode cX12_stage 17 = .ok (.sipush 9999, 3) := dk_sipush (by decide +kernel)
theorem dX12_stage_20 : decode cX12_stage 20 = .ok (.if_icmp .ne 6, 3) := dk_if_icmp_ne (by decide +kernel)
theorem dX12_stage_23 : decode cX12_stage 23 = .ok (.bipush (-6), 2) := dk_bipush (by decide +kernel)
theorem dX12_stage_25 : decode cX12_stage 25 = .ok (.istore_n 2, 1) := dk_istore_n_2 (by decide +kernel)
theorem dX12_stage_26 : decode cX12_stage 26 = .ok (.iload_n 2, 1) := dk_iload_n_2 (by decide +kernel)
theorem dX12_stage_27 : decode cX12_stage 27 = .ok (.ifCond .eq 11, 3) := dk_ifCond_eq (by decide +kernel)
theorem dX12_stage_30 : decode cX12_stage 30 = .ok (.aload_n 0, 1) := dk_aload_n_0 (by decide +kernel)
theorem dX12_stage_31 : decode cX12_stage 31 = .ok (.iload_n 2, 1) := dk_iload_n_2 (by decide +kernel)
theorem dX12_stage_32 : decode cX12_stage 32 = .ok (.invokevirtual 175, 3) := dk_invokevirtual (by decide +kernel)
theorem dX12_stage_35 : decode cX12_stage 35 = .ok (.goto 13, 3) := dk_goto (by decide +kernel)
theorem dX12_stage_38 : decode cX12_stage 38 = .ok (.aload_n 0, 1) := dk_aload_n_0 (by decide +kernel)
theorem dX12_stage_39 : decode cX12_stage 39 = .ok (.iconst 3, 1) := dk_iconst_3 (by decide +kernel)
theorem dX12_stage_40 : decode cX12_stage 40 = .ok (.bipush (-9), 2) := dk_bipush (by decide +kernel)
theorem dX12_stage_42 : decode cX12_stage 42 = .ok (.iload_n 1, 1) := dk_iload_n_1 (by decide +kernel)
theorem dX12_stage_43 : decode cX12_stage 43 = .ok (.bipush (-9), 2) := dk_bipush (by decide +kernel)
theorem dX12_stage_45 : decode cX12_stage 45 = .ok (.invokevirtual 179, 3) := dk_invokevirtual (by decide +kernel)
theorem dX12_stage_48 : decode cX12_stage 48 = .ok (.ireturn, 1) := dk_ireturn (by decide +kernel)
theorem dX12_listens_0 : decode cX12_listens 0 = .ok (.iload_n 2, 1) := dk_iload_n_2 (by decide +kernel)
theorem dX12_listens_1 : decode cX12_listens 1 = .ok (.bipush 60, 2) := dk_bipush (by decide +kernel)
theorem dX12_listens_3 : decode cX12_listens 3 = .ok (.idiv, 1) := dk_idiv (by decide +kernel)
theorem dX12_listens_4 : decode cX12_listens 4 = .ok (.bipush 24, 2) := dk_bipush (by decide +kernel)
theorem dX12_listens_6 : decode cX12_listens 6 = .ok (.irem, 1) := dk_irem (by decide +kernel)
theorem dX12_listens_7 : decode cX12_listens 7 = .ok (.istore_n 3, 1) := dk_istore_n_3 (by decide +kernel)
theorem dX12_listens_8 : decode cX12_listens 8 = .ok (.aload_n 0, 1) := dk_aload_n_0 (by decide +kernel)
theorem dX12_listens_9 : decode cX12_listens 9 = .ok (.getfield 59, 3) := dk_getfield (by decide +kernel)
theorem dX12_listens_12 : decode cX12_listens 12 = .ok (.iload_n 2, 1) := dk_iload_n_2 (by decide +kernel)
theorem dX12_listens_13 : decode cX12_listens 13 = .ok (.iaload, 1) := dk_iaload (by decide +kernel)
theorem dX12_listens_14 : decode cX12_listens 14 = .ok (.iconst 2, 1) := dk_iconst_2 (by decide +kernel)
theorem dX12_listens_15 : decode cX12_listens 15 = .ok (.if_icmp .eq 17, 3) := dk_if_icmp_eq (by decide +kernel)
theorem dX12_listens_18 : decode cX12_listens 18 = .ok (.aload_n 0, 1) := dk_aload_n_0 (by decide +kernel)
theorem dX12_listens_19 : decode cX12_listens 19 = .ok (.getfield 40, 3) := dk_getfield (by decide +kernel)
theorem dX12_listens_22 : decode cX12_listens 22 = .ok (.iload_n 1, 1) := dk_iload_n_1 (by decide +kernel)
theorem dX12_listens_23 : decode cX12_listens 23 = .ok (.iaload, 1) := dk_iaload (by decide +kernel)
theorem dX12_listens_24 : decode cX12_listens 24 = .ok (.iload_n 3, 1) := dk_iload_n_3 (by decide +kernel)
theorem dX12_listens_25 : decode cX12_listens 25 = .ok (.ishr, 1) := dk_ishr (by decide +kernel)
theorem dX12_listens_26 : decode cX12_listens 26 = .ok (.iconst 1, 1) := dk_iconst_1 (by decide +kernel)
theorem dX12_listens_27 : decode cX12_listens 27 = .ok (.iand, 1) := dk_iand (by decide +kernel)
theorem dX12_listens_28 : decode cX12_listens 28 = .ok (.iconst 1, 1) := dk_iconst_1 (by decide +kernel)
theorem dX12_listens_29 : decode cX12_listens 29 = .ok (.if_icmp .ne 7, 3) := dk_if_icmp_ne (by decide +kernel)
theorem dX12_listens_32 : decode cX12_listens 32 = .ok (.iconst 2, 1) := dk_iconst_2 (by decide +kernel)
theorem dX12_listens_33 : decode cX12_listens 33 = .ok (.goto 13, 3) := dk_goto (by decide +kernel)
theorem dX12_listens_36 : decode cX12_listens 36 = .ok (.aload_n 0, 1) := dk_aload_n_0 (by decide +kernel)
theorem dX12_listens_37 : decode cX12_listens 37 = .ok (.getfield 43, 3) := dk_getfield (by decide +kernel)
theorem dX12_listens_40 : decode cX12_listens 40 = .ok (.iload_n 1, 1) := dk_iload_n_1 (by decide +kernel)
theorem dX12_listens_41 : decode cX12_listens 41 = .ok (.iaload, 1) := dk_iaload (by decide +kernel)
theorem dX12_listens_42 : decode cX12_listens 42 = .ok (.iload_n 3, 1) := dk_iload_n_3 (by decide +kernel)
theorem dX12_listens_43 : decode cX12_listens 43 = .ok (.ishr, 1) := dk_ishr (by decide +kernel)
theorem dX12_listens_44 : decode cX12_listens 44 = .ok (.iconst 1, 1) := dk_iconst_1 (by decide +kernel)
theorem dX12_listens_45 : decode cX12_listens 45 = .ok (.iand, 1) := dk_iand (by decide +kernel)
theorem dX12_listens_46 : decode cX12_listens 46 = .ok (.ireturn, 1) := dk_ireturn (by decide +kernel)
theorem dX12_countsAnew_0 : decode cX12_countsAnew 0 = .ok (.aload_n 0, 1) := dk_aload_n_0 (by decide +kernel)
theorem dX12_countsAnew_1 : decode cX12_countsAnew 1 = .ok (.aload_n 0, 1) := dk_aload_n_0 (by decide +kernel)
theorem dX12_countsAnew_2 : decode cX12_countsAnew 2 = .ok (.getfield 65, 3) := dk_getfield (by decide +kernel)
theorem dX12_countsAnew_5 : decode cX12_countsAnew 5 = .ok (.iload_n 1, 1) := dk_iload_n_1 (by decide +kernel)
theorem dX12_countsAnew_6 : decode cX12_countsAnew 6 = .ok (.iaload, 1) := dk_iaload (by decide +kernel)
theorem dX12_countsAnew_7 : decode cX12_countsAnew 7 = .ok (.aload_n 0, 1) := dk_aload_n_0 (by decide +kernel)
theorem dX12_countsAnew_8 : decode cX12_countsAnew 8 = .ok (.getfield 71, 3) := dk_getfield (by decide +kernel)
theorem dX12_countsAnew_11 : decode cX12_countsAnew 11 = .ok (.iload_n 1, 1) := dk_iload_n_1 (by decide +kernel)
theorem dX12_countsAnew_12 : decode cX12_countsAnew 12 = .ok (.iaload, 1) := dk_iaload (by decide +kernel)
theorem dX12_countsAnew_13 : decode cX12_countsAnew 13 = .ok (.iload_n 1, 1) := dk_iload_n_1 (by decide +kernel)
theorem dX12_countsAnew_14 : decode cX12_countsAnew 14 = .ok (.invokevirtual 197, 3) := dk_invokevirtual (by decide +kernel)
theorem dX12_countsAnew_17 : decode cX12_countsAnew 17 = .ok (.iconst 0, 1) := dk_iconst_0 (by decide +kernel)
theorem dX12_countsAnew_18 : decode cX12_countsAnew 18 = .ok (.istore_n 2, 1) := dk_istore_n_2 (by decide +kernel)
theorem dX12_countsAnew_19 : decode cX12_countsAnew 19 = .ok (.iload_n 2, 1) := dk_iload_n_2 (by decide +kernel)
theorem dX12_countsAnew_20 : decode cX12_countsAnew 20 = .ok (.aload_n 0, 1) := dk_aload_n_0 (by decide +kernel)
theorem dX12_countsAnew_21 : decode cX12_countsAnew 21 = .ok (.getfield 166, 3) := dk_getfield (by decide +kernel)
theorem dX12_countsAnew_24 : decode cX12_countsAnew 24 = .ok (.if_icmp .ge 65, 3) := dk_if_icmp_ge (by decide +kernel)
theorem dX12_countsAnew_27 : decode cX12_countsAnew 27 = .ok (.aload_n 0, 1) := dk_aload_n_0 (by decide +kernel)
theorem dX12_countsAnew_28 : decode cX12_countsAnew 28 = .ok (.iload_n 2, 1) := dk_iload_n_2 (by decide +kernel)
theorem dX12_countsAnew_29 : decode cX12_countsAnew 29 = .ok (.invokevirtual 205, 3) := dk_invokevirtual (by decide +kernel)
theorem dX12_countsAnew_32 : decode cX12_countsAnew 32 = .ok (.ifCond .eq 12, 3) := dk_ifCond_eq (by decide +kernel)
theorem dX12_countsAnew_35 : decode cX12_countsAnew 35 = .ok (.aload_n 0, 1) := dk_aload_n_0 (by decide +kernel)
theorem dX12_countsAnew_36 : decode cX12_countsAnew 36 = .ok (.iload_n 2, 1) := dk_iload_n_2 (by decide +kernel)
theorem dX12_countsAnew_37 : decode cX12_countsAnew 37 = .ok (.iload_n 1, 1) := dk_iload_n_1 (by decide +kernel)
theorem dX12_countsAnew_38 : decode cX12_countsAnew 38 = .ok (.invokevirtual 242, 3) := dk_invokevirtual (by decide +kernel)
theorem dX12_countsAnew_41 : decode cX12_countsAnew 41 = .ok (.goto 4, 3) := dk_goto (by decide +kernel)
theorem dX12_countsAnew_44 : decode cX12_countsAnew 44 = .ok (.iconst 0, 1) := dk_iconst_0 (by decide +kernel)
theorem dX12_countsAnew_45 : decode cX12_countsAnew 45 = .ok (.istore_n 3, 1) := dk_istore_n_3 (by decide +kernel)
theorem dX12_countsAnew_46 : decode cX12_countsAnew 46 = .ok (.aload_n 0, 1) := dk_aload_n_0 (by decide +kernel)
theorem dX12_countsAnew_47 : decode cX12_countsAnew 47 = .ok (.dup, 1) := dk_dup (by decide +kernel)
theorem dX12_countsAnew_48 : decode cX12_countsAnew 48 = .ok (.getfield 232, 3) := dk_getfield (by decide +kernel)
theorem dX12_countsAnew_51 : decode cX12_countsAnew 51 = .ok (.iload_n 3, 1) := dk_iload_n_3 (by decide +kernel)
theorem dX12_countsAnew_52 : decode cX12_countsAnew 52 = .ok (.iconst 2, 1) := dk_iconst_2 (by decide +kernel)
theorem dX12_countsAnew_53 : decode cX12_countsAnew 53 = .ok (.if_icmp .ne 7, 3) := dk_if_icmp_ne (by decide +kernel)
theorem dX12_countsAnew_56 : decode cX12_countsAnew 56 = .ok (.iconst 1, 1) := dk_iconst_1 (by decide +kernel)
theorem dX12_countsAnew_57 : decode cX12_countsAnew 57 = .ok (.goto 4, 3) := dk_goto (by decide +kernel)
theorem dX12_countsAnew_60 : decode cX12_countsAnew 60 = .ok (.iconst 0, 1) := dk_iconst_0 (by decide +kernel)
theorem dX12_countsAnew_61 : decode cX12_countsAnew 61 = .ok (.iadd, 1) := dk_iadd (by decide +kernel)
theorem dX12_countsAnew_62 : decode cX12_countsAnew 62 = .ok (.putfield 232, 3) := dk_putfield (by decide +kernel)
theorem dX12_countsAnew_65 : decode cX12_countsAnew 65 = .ok (.aload_n 0, 1) := dk_aload_n_0 (by decide +kernel)
theorem dX12_countsAnew_66 : decode cX12_countsAnew 66 = .ok (.dup, 1) := dk_dup (by decide +kernel)
theorem dX12_countsAnew_67 : decode cX12_countsAnew 67 = .ok (.getfield 235, 3) := dk_getfield (by decide +kernel)
theorem dX12_countsAnew_70 : decode cX12_countsAnew 70 = .ok (.iload_n 3, 1) := dk_iload_n_3 (by decide +kernel)
theorem dX12_countsAnew_71 : decode cX12_countsAnew 71 = .ok (.ifCond .le 7, 3) := dk_ifCond_le (by decide +kernel)
theorem dX12_countsAnew_74 : decode cX12_countsAnew 74 = .ok (.iconst 1, 1) := dk_iconst_1 (by decide +kernel)
theorem dX12_countsAnew_75 : decode cX12_countsAnew 75 = .ok (.goto 4, 3) := dk_goto (by decide +kernel)
theorem dX12_countsAnew_78 : decode cX12_countsAnew 78 = .ok (.iconst 0, 1) := dk_iconst_0 (by decide +kernel)
theorem dX12_countsAnew_79 : decode cX12_countsAnew 79 = .ok (.iadd, 1) := dk_iadd (by decide +kernel)
theorem dX12_countsAnew_80 : decode cX12_countsAnew 80 = .ok (.putfield 235, 3) := dk_putfield (by decide +kernel)
theorem dX12_countsAnew_83 : decode cX12_countsAnew 83 = .ok (.iinc 2 1, 3) := dk_iinc (by decide +kernel)
theorem dX12_countsAnew_86 : decode cX12_countsAnew 86 = .ok (.goto (-67), 3) := dk_goto (by decide +kernel)
theorem dX12_countsAnew_89 : decode cX12_countsAnew 89 = .ok (.aload_n 0, 1) := dk_aload_n_0 (by decide +kernel)
theorem dX12_countsAnew_90 : decode cX12_countsAnew 90 = .ok (.getfield 123, 3) := dk_getfield (by decide +kernel)
theorem dX12_countsAnew_93 : decode cX12_countsAnew 93 = .ok (.iload_n 1, 1) := dk_iload_n_1 (by decide +kernel)
theorem dX12_countsAnew_94 : decode cX12_countsAnew 94 = .ok (.aload_n 0, 1) := dk_aload_n_0 (by decide +kernel)
theorem dX12_countsAnew_95 : decode cX12_countsAnew 95 = .ok (.getfield 232, 3) := dk_getfield (by decide +kernel)
theorem dX12_countsAnew_98 : decode cX12_countsAnew 98 = .ok (.iastore, 1) := dk_iastore (by decide +kernel)
theorem dX12_countsAnew_99 : decode cX12_countsAnew 99 = .ok (.aload_n 0, 1) := dk_aload_n_0 (by decide +kernel)
theorem dX12_countsAnew_100 : decode cX12_countsAnew 100 = .ok (.getfield 126, 3) := dk_getfield (by decide +kernel)
theorem dX12_countsAnew_103 : decode cX12_countsAnew 103 = .ok (.iload_n 1, 1) := dk_iload_n_1 (by decide +kernel)
theorem dX12_countsAnew_104 : decode cX12_countsAnew 104 = .ok (.aload_n 0, 1) := dk_aload_n_0 (by decide +kernel)
theorem dX12_countsAnew_105 : decode cX12_countsAnew 105 = .ok (.getfield 235, 3) := dk_getfield (by decide +kernel)
theorem dX12_countsAnew_108 : decode cX12_countsAnew 108 = .ok (.iastore, 1) := dk_iastore (by decide +kernel)
theorem dX12_countsAnew_109 : decode cX12_countsAnew 109 = .ok (.aload_n 0, 1) := dk_aload_n_0 (by decide +kernel)
theorem dX12_countsAnew_110 : decode cX12_countsAnew 110 = .ok (.getfield 129, 3) := dk_getfield (by decide +kernel)
theorem dX12_countsAnew_113 : decode cX12_countsAnew 113 = .ok (.iload_n 1, 1) := dk_iload_n_1 (by decide +kernel)
theorem dX12_countsAnew_114 : decode cX12_countsAnew 114 = .ok (.aload_n 0, 1) := dk_aload_n_0 (by decide +kernel)
theorem dX12_countsAnew_115 : decode cX12_countsAnew 115 = .ok (.getfield 120, 3) := dk_getfield (by decide +kernel)
theorem dX12_countsAnew_118 : decode cX12_countsAnew 118 = .ok (.iastore, 1) := dk_iastore (by decide +kernel)
theorem dX12_countsAnew_119 : decode cX12_countsAnew 119 = .ok (.return_, 1) := dk_return_ (by decide +kernel)
theorem dX12_counts_0 : decode cX12_counts 0 = .ok (.aload_n 0, 1) := dk_aload_n_0 (by decide +kernel)
theorem dX12_counts_1 : decode cX12_counts 1 = .ok (.iconst 0, 1) := dk_iconst_0 (by decide +kernel)
theorem dX12_counts_2 : decode cX12_counts 2 = .ok (.putfield 232, 3) := dk_putfield (by decide +kernel)
theorem dX12_counts_5 : decode cX12_counts 5 = .ok (.aload_n 0, 1) := dk_aload_n_0 (by decide +kernel)
theorem dX12_counts_6 : decode cX12_counts 6 = .ok (.iconst 0, 1) := dk_iconst_0 (by decide +kernel)
theorem dX12_counts_7 : decode cX12_counts 7 = .ok (.putfield 235, 3) := dk_putfield (by decide +kernel)
theorem dX12_counts_10 : decode cX12_counts 10 = .ok (.aload_n 0, 1) := dk_aload_n_0 (by decide +kernel)
theorem dX12_counts_11 : decode cX12_counts 11 = .ok (.getfield 59, 3) := dk_getfield (by decide +kernel)
theorem dX12_counts_14 : decode cX12_counts 14 = .ok (.iload_n 1, 1) := dk_iload_n_1 (by decide +kernel)
theorem dX12_counts_15 : decode cX12_counts 15 = .ok (.iaload, 1) := dk_iaload (by decide +kernel)
theorem dX12_counts_16 : decode cX12_counts 16 = .ok (.bipush 6, 2) := dk_bipush (by decide +kernel)
theorem dX12_counts_18 : decode cX12_counts 18 = .ok (.if_icmp .ne 4, 3) := dk_if_icmp_ne (by decide +kernel)
theorem dX12_counts_21 : decode cX12_counts 21 = .ok (.return_, 1) := dk_return_ (by decide +kernel)
theorem dX12_counts_22 : decode cX12_counts 22 = .ok (.aload_n 0, 1) := dk_aload_n_0 (by decide +kernel)
theorem dX12_counts_23 : decode cX12_counts 23 = .ok (.getfield 129, 3) := dk_getfield (by decide +kernel)
theorem dX12_counts_26 : decode cX12_counts 26 = .ok (.iload_n 1, 1) := dk_iload_n_1 (by decide +kernel)
theorem dX12_counts_27 : decode cX12_counts 27 = .ok (.iaload, 1) := dk_iaload (by decide +kernel)
theorem dX12_counts_28 : decode cX12_counts 28 = .ok (.aload_n 0, 1) := dk_aload_n_0 (by decide +kernel)
theorem dX12_counts_29 : decode cX12_counts 29 = .ok (.getfield 120, 3) := dk_getfield (by decide +kernel)
theorem dX12_counts_32 : decode cX12_counts 32 = .ok (.if_icmp .eq 8, 3) := dk_if_icmp_eq (by decide +kernel)
theorem dX12_counts_35 : decode cX12_counts 35 = .ok (.aload_n 0, 1) := dk_aload_n_0 (by decide +kernel)
theorem dX12_counts_36 : decode cX12_counts 36 = .ok (.iload_n 1, 1) := dk_iload_n_1 (by decide +kernel)
theorem dX12_counts_37 : decode cX12_counts 37 = .ok (.invokevirtual 238, 3) := dk_invokevirtual (by decide +kernel)
theorem dX12_counts_40 : decode cX12_counts 40 = .ok (.aload_n 0, 1) := dk_aload_n_0 (by decide +kernel)
theorem dX12_counts_41 : decode cX12_counts 41 = .ok (.aload_n 0, 1) := dk_aload_n_0 (by decide +kernel)
theorem dX12_counts_42 : decode cX12_counts 42 = .ok (.getfield 123, 3) := dk_getfield (by decide +kernel)
theorem dX12_counts_45 : decode cX12_counts 45 = .ok (.iload_n 1, 1) := dk_iload_n_1 (by decide +kernel)
theorem dX12_counts_46 : decode cX12_counts 46 = .ok (.iaload, 1) := dk_iaload (by decide +kernel)
theorem dX12_counts_47 : decode cX12_counts 47 = .ok (.putfield 232, 3) := dk_putfield (by decide +kernel)
theorem dX12_counts_50 : decode cX12_counts 50 = .ok (.aload_n 0, 1) := dk_aload_n_0 (by decide +kernel)
theorem dX12_counts_51 : decode cX12_counts 51 = .ok (.aload_n 0, 1) := dk_aload_n_0 (by decide +kernel)
theorem dX12_counts_52 : decode cX12_counts 52 = .ok (.getfield 126, 3) := dk_getfield (by decide +kernel)
theorem dX12_counts_55 : decode cX12_counts 55 = .ok (.iload_n 1, 1) := dk_iload_n_1 (by decide +kernel)
theorem dX12_counts_56 : decode cX12_counts 56 = .ok (.iaload, 1) := dk_iaload (by decide +kernel)
theorem dX12_counts_57 : decode cX12_counts 57 = .ok (.putfield 235, 3) := dk_putfield (by decide +kernel)
theorem dX12_counts_60 : decode cX12_counts 60 = .ok (.return_, 1) := dk_return_ (by decide +kernel)
theorem dX12_minuteOf_0 : decode cX12_minuteOf 0 = .ok (.aload_n 0, 1) := dk_aload_n_0 (by decide +kernel)
theorem dX12_minuteOf_1 : decode cX12_minuteOf 1 = .ok (.iload_n 1, 1) := dk_iload_n_1 (by decide +kernel)
theorem dX12_minuteOf_2 : decode cX12_minuteOf 2 = .ok (.invokevirtual 217, 3) := dk_invokevirtual (by decide +kernel)
theorem dX12_minuteOf_5 : decode cX12_minuteOf 5 = .ok (.ifCond .ne 9, 3) := dk_ifCond_ne (by decide +kernel)
theorem dX12_minuteOf_8 : decode cX12_minuteOf 8 = .ok (.aload_n 0, 1) := dk_aload_n_0 (by decide +kernel)
theorem dX12_minuteOf_9 : decode cX12_minuteOf 9 = .ok (.iconst (-1), 1) := dk_iconst_m1 (by decide +kernel)
theorem dX12_minuteOf_10 : decode cX12_minuteOf 10 = .ok (.invokevirtual 175, 3) := dk_invokevirtual (by decide +kernel)
theorem dX12_minuteOf_13 : decode cX12_minuteOf 13 = .ok (.ireturn, 1) := dk_ireturn (by decide +kernel)
theorem dX12_minuteOf_14 : decode cX12_minuteOf 14 = .ok (.iload_n 2, 1) := dk_iload_n_2 (by decide +kernel)
theorem dX12_minuteOf_15 : decode cX12_minuteOf 15 = .ok (.tableswitch 98 0 6 #[41, 48, 55, 62, 69, 69, 91], 41) := by decide +kernel
theorem dX12_minuteOf_56 : decode cX12_minuteOf 56 = .ok (.aload_n 0, 1) := dk_aload_n_0 (by decide +kernel)
theorem dX12_minuteOf_57 : decode cX12_minuteOf 57 = .ok (.getfield 59, 3) := dk_getfield (by decide +kernel)
theorem dX12_minuteOf_60 : decode cX12_minuteOf 60 = .ok (.iload_n 1, 1) := dk_iload_n_1 (by decide +kernel)
theorem dX12_minuteOf_61 : decode cX12_minuteOf 61 = .ok (.iaload, 1) := dk_iaload (by decide +kernel)
theorem dX12_minuteOf_62 : decode cX12_minuteOf 62 = .ok (.ireturn, 1) := dk_ireturn (by decide +kernel)
theorem dX12_minuteOf_63 : decode cX12_minuteOf 63 = .ok (.aload_n 0, 1) := dk_aload_n_0 (by decide +kernel)
theorem dX12_minuteOf_64 : decode cX12_minuteOf 64 = .ok (.getfield 62, 3) := dk_getfield (by decide +kernel)
theorem dX12_minuteOf_67 : decode cX12_minuteOf 67 = .ok (.iload_n 1, 1) := dk_iload_n_1 (by decide +kernel)
theorem dX12_minuteOf_68 : decode cX12_minuteOf 68 = .ok (.iaload, 1) := dk_iaload (by decide +kernel)
theorem dX12_minuteOf_69 : decode cX12_minuteOf 69 = .ok (.ireturn, 1) := dk_ireturn (by decide +kernel)
theorem dX12_minuteOf_70 : decode cX12_minuteOf 70 = .ok (.aload_n 0, 1) := dk_aload_n_0 (by decide +kernel)
theorem dX12_minuteOf_71 : decode cX12_minuteOf 71 = .ok (.getfield 65, 3) := dk_getfield (by decide +kernel)
theorem dX12_minuteOf_74 : decode cX12_minuteOf 74 = .ok (.iload_n 1, 1) := dk_iload_n_1 (by decide +kernel)
theorem dX12_minuteOf_75 : decode cX12_minuteOf 75 = .ok (.iaload, 1) := dk_iaload (by decide +kernel)
theorem dX12_minuteOf_76 : decode cX12_minuteOf 76 = .ok (.ireturn, 1) := dk_ireturn (by decide +kernel)
theorem dX12_minuteOf_77 : decode cX12_minuteOf 77 = .ok (.aload_n 0, 1) := dk_aload_n_0 (by decide +kernel)
theorem dX12_minuteOf_78 : decode cX12_minuteOf 78 = .ok (.getfield 68, 3) := dk_getfield (by decide +kernel)
theorem dX12_minuteOf_81 : decode cX12_minuteOf 81 = .ok (.iload_n 1, 1) := dk_iload_n_1 (by decide +kernel)
theorem dX12_minuteOf_82 : decode cX12_minuteOf 82 = .ok (.iaload, 1) := dk_iaload (by decide +kernel)
theorem dX12_minuteOf_83 : decode cX12_minuteOf 83 = .ok (.ireturn, 1) := dk_ireturn (by decide +kernel)
theorem dX12_minuteOf_84 : decode cX12_minuteOf 84 = .ok (.aload_n 0, 1) := dk_aload_n_0 (by decide +kernel)
theorem dX12_minuteOf_85 : decode cX12_minuteOf 85 = .ok (.iload_n 1, 1) := dk_iload_n_1 (by decide +kernel)
theorem dX12_minuteOf_86 : decode cX12_minuteOf 86 = .ok (.invokevirtual 246, 3) := dk_invokevirtual (by decide +kernel)
theorem dX12_minuteOf_89 : decode cX12_minuteOf 89 = .ok (.iload_n 2, 1) := dk_iload_n_2 (by decide +kernel)
theorem dX12_minuteOf_90 : decode cX12_minuteOf 90 = .ok (.iconst 4, 1) := dk_iconst_4 (by decide +kernel)
theorem dX12_minuteOf_91 : decode cX12_minuteOf 91 = .ok (.if_icmp .ne 10, 3) := dk_if_icmp_ne (by decide +kernel)
theorem dX12_minuteOf_94 : decode cX12_minuteOf 94 = .ok (.aload_n 0, 1) := dk_aload_n_0 (by decide +kernel)
theorem dX12_minuteOf_95 : decode cX12_minuteOf 95 = .ok (.getfield 232, 3) := dk_getfield (by decide +kernel)
theorem dX12_minuteOf_98 : decode cX12_minuteOf 98 = .ok (.goto 7, 3) := dk_goto (by decide +kernel)
theorem dX12_minuteOf_101 : decode cX12_minuteOf 101 = .ok (.aload_n 0, 1) := dk_aload_n_0 (by decide +kernel)
theorem dX12_minuteOf_102 : decode cX12_minuteOf 102 = .ok (.getfield 235, 3) := dk_getfield (by decide +kernel)
theorem dX12_minuteOf_105 : decode cX12_minuteOf 105 = .ok (.ireturn, 1) := dk_ireturn (by decide +kernel)
theorem dX12_minuteOf_106 : decode cX12_minuteOf 106 = .ok (.aload_n 0, 1) := dk_aload_n_0 (by decide +kernel)
theorem dX12_minuteOf_107 : decode cX12_minuteOf 107 = .ok (.getfield 71, 3) := dk_getfield (by decide +kernel)
theorem dX12_minuteOf_110 : decode cX12_minuteOf 110 = .ok (.iload_n 1, 1) := dk_iload_n_1 (by decide +kernel)
theorem dX12_minuteOf_111 : decode cX12_minuteOf 111 = .ok (.iaload, 1) := dk_iaload (by decide +kernel)
theorem dX12_minuteOf_112 : decode cX12_minuteOf 112 = .ok (.ireturn, 1) := dk_ireturn (by decide +kernel)
theorem dX12_minuteOf_113 : decode cX12_minuteOf 113 = .ok (.aload_n 0, 1) := dk_aload_n_0 (by decide +kernel)
theorem dX12_minuteOf_114 : decode cX12_minuteOf 114 = .ok (.bipush (-2), 2) := dk_bipush (by decide +kernel)
theorem dX12_minuteOf_116 : decode cX12_minuteOf 116 = .ok (.invokevirtual 175, 3) := dk_invokevirtual (by decide +kernel)
theorem dX12_minuteOf_119 : decode cX12_minuteOf 119 = .ok (.ireturn, 1) := dk_ireturn (by decide +kernel)
theorem dX12_heardBy_0 : decode cX12_heardBy 0 = .ok (.aload_n 0, 1) := dk_aload_n_0 (by decide +kernel)
theorem dX12_heardBy_1 : decode cX12_heardBy 1 = .ok (.getfield 59, 3) := dk_getfield (by decide +kernel)
theorem dX12_heardBy_4 : decode cX12_heardBy 4 = .ok (.iload_n 1, 1) := dk_iload_n_1 (by decide +kernel)
theorem dX12_heardBy_5 : decode cX12_heardBy 5 = .ok (.iaload, 1) := dk_iaload (by decide +kernel)
theorem dX12_heardBy_6 : decode cX12_heardBy 6 = .ok (.bipush 6, 2) := dk_bipush (by decide +kernel)
theorem dX12_heardBy_8 : decode cX12_heardBy 8 = .ok (.if_icmp .ne 5, 3) := dk_if_icmp_ne (by decide +kernel)
theorem dX12_heardBy_11 : decode cX12_heardBy 11 = .ok (.iconst 0, 1) := dk_iconst_0 (by decide +kernel)
theorem dX12_heardBy_12 : decode cX12_heardBy 12 = .ok (.ireturn, 1) := dk_ireturn (by decide +kernel)
theorem dX12_heardBy_13 : decode cX12_heardBy 13 = .ok (.aload_n 0, 1) := dk_aload_n_0 (by decide +kernel)
theorem dX12_heardBy_14 : decode cX12_heardBy 14 = .ok (.aload_n 0, 1) := dk_aload_n_0 (by decide +kernel)
theorem dX12_heardBy_15 : decode cX12_heardBy 15 = .ok (.getfield 65, 3) := dk_getfield (by decide +kernel)
theorem dX12_heardBy_18 : decode cX12_heardBy 18 = .ok (.iload_n 1, 1) := dk_iload_n_1 (by decide +kernel)
theorem dX12_heardBy_19 : decode cX12_heardBy 19 = .ok (.iaload, 1) := dk_iaload (by decide +kernel)
theorem dX12_heardBy_20 : decode cX12_heardBy 20 = .ok (.aload_n 0, 1) := dk_aload_n_0 (by decide +kernel)
theorem dX12_heardBy_21 : decode cX12_heardBy 21 = .ok (.getfield 71, 3) := dk_getfield (by decide +kernel)
theorem dX12_heardBy_24 : decode cX12_heardBy 24 = .ok (.iload_n 1, 1) := dk_iload_n_1 (by decide +kernel)
theorem dX12_heardBy_25 : decode cX12_heardBy 25 = .ok (.iaload, 1) := dk_iaload (by decide +kernel)
theorem dX12_heardBy_26 : decode cX12_heardBy 26 = .ok (.iload_n 1, 1) := dk_iload_n_1 (by decide +kernel)
theorem dX12_heardBy_27 : decode cX12_heardBy 27 = .ok (.invokevirtual 197, 3) := dk_invokevirtual (by decide +kernel)
theorem dX12_heardBy_30 : decode cX12_heardBy 30 = .ok (.aload_n 0, 1) := dk_aload_n_0 (by decide +kernel)
theorem dX12_heardBy_31 : decode cX12_heardBy 31 = .ok (.iload_n 2, 1) := dk_iload_n_2 (by decide +kernel)
theorem dX12_heardBy_32 : decode cX12_heardBy 32 = .ok (.invokevirtual 205, 3) := dk_invokevirtual (by decide +kernel)
theorem dX12_heardBy_35 : decode cX12_heardBy 35 = .ok (.ifCond .eq 12, 3) := dk_ifCond_eq (by decide +kernel)
theorem dX12_heardBy_38 : decode cX12_heardBy 38 = .ok (.aload_n 0, 1) := dk_aload_n_0 (by decide +kernel)
theorem dX12_heardBy_39 : decode cX12_heardBy 39 = .ok (.iload_n 2, 1) := dk_iload_n_2 (by decide +kernel)
theorem dX12_heardBy_40 : decode cX12_heardBy 40 = .ok (.iload_n 1, 1) := dk_iload_n_1 (by decide +kernel)
theorem dX12_heardBy_41 : decode cX12_heardBy 41 = .ok (.invokevirtual 242, 3) := dk_invokevirtual (by decide +kernel)
theorem dX12_heardBy_44 : decode cX12_heardBy 44 = .ok (.goto 4, 3) := dk_goto (by decide +kernel)
theorem dX12_heardBy_47 : decode cX12_heardBy 47 = .ok (.iconst 0, 1) := dk_iconst_0 (by decide +kernel)
theorem dX12_heardBy_48 : decode cX12_heardBy 48 = .ok (.ireturn, 1) := dk_ireturn (by decide +kernel)
theorem dX12_heard_0 : decode cX12_heard 0 = .ok (.aload_n 0, 1) := dk_aload_n_0 (by decide +kernel)
theorem dX12_heard_1 : decode cX12_heard 1 = .ok (.iload_n 1, 1) := dk_iload_n_1 (by decide +kernel)
theorem dX12_heard_2 : decode cX12_heard 2 = .ok (.invokevirtual 217, 3) := dk_invokevirtual (by decide +kernel)
theorem dX12_heard_5 : decode cX12_heard 5 = .ok (.ifCond .eq 20, 3) := dk_ifCond_eq (by decide +kernel)
theorem dX12_heard_8 : decode cX12_heard 8 = .ok (.aload_n 0, 1) := dk_aload_n_0 (by decide +kernel)
theorem dX12_heard_9 : decode cX12_heard 9 = .ok (.iload_n 2, 1) := dk_iload_n_2 (by decide +kernel)
theorem dX12_heard_10 : decode cX12_heard 10 = .ok (.invokevirtual 202, 3) := dk_invokevirtual (by decide +kernel)
theorem dX12_heard_13 : decode cX12_heard 13 = .ok (.ifCond .eq 12, 3) := dk_ifCond_eq (by decide +kernel)
theorem dX12_heard_16 : decode cX12_heard 16 = .ok (.aload_n 0, 1) := dk_aload_n_0 (by decide +kernel)
theorem dX12_heard_17 : decode cX12_heard 17 = .ok (.iload_n 1, 1) := dk_iload_n_1 (by decide +kernel)
theorem dX12_heard_18 : decode cX12_heard 18 = .ok (.iload_n 2, 1) := dk_iload_n_2 (by decide +kernel)
theorem dX12_heard_19 : decode cX12_heard 19 = .ok (.invokevirtual 249, 3) := dk_invokevirtual (by decide +kernel)
theorem dX12_heard_22 : decode cX12_heard 22 = .ok (.goto 8, 3) := dk_goto (by decide +kernel)
theorem dX12_heard_25 : decode cX12_heard 25 = .ok (.aload_n 0, 1) := dk_aload_n_0 (by decide +kernel)
theorem dX12_heard_26 : decode cX12_heard 26 = .ok (.iconst (-1), 1) := dk_iconst_m1 (by decide +kernel)
theorem dX12_heard_27 : decode cX12_heard 27 = .ok (.invokevirtual 175, 3) := dk_invokevirtual (by decide +kernel)
theorem dX12_heard_30 : decode cX12_heard 30 = .ok (.ireturn, 1) := dk_ireturn (by decide +kernel)
theorem dX12_feed_0 : decode cX12_feed 0 = .ok (.iload_n 1, 1) := dk_iload_n_1 (by decide +kernel)
theorem dX12_feed_1 : decode cX12_feed 1 = .ok (.iconst 1, 1) := dk_iconst_1 (by decide +kernel)
theorem dX12_feed_2 : decode cX12_feed 2 = .ok (.if_icmp .ge 10, 3) := dk_if_icmp_ge (by decide +kernel)
theorem dX12_feed_5 : decode cX12_feed 5 = .ok (.aload_n 0, 1) := dk_aload_n_0 (by decide +kernel)
theorem dX12_feed_6 : decode cX12_feed 6 = .ok (.bipush (-4), 2) := dk_bipush (by decide +kernel)
theorem dX12_feed_8 : decode cX12_feed 8 = .ok (.invokevirtual 175, 3) := dk_invokevirtual (by decide +kernel)
theorem dX12_feed_11 : decode cX12_feed 11 = .ok (.ireturn, 1) := dk_ireturn (by decide +kernel)
theorem dX12_feed_12 : decode cX12_feed 12 = .ok (.iload_n 1, 1) := dk_iload_n_1 (by decide +kernel)
theorem dX12_feed_13 : decode cX12_feed 13 = .ok (.bipush 8, 2) := dk_bipush (by decide +kernel)
theorem dX12_feed_15 : decode cX12_feed 15 = .ok (.if_icmp .gt 14, 3) := dk_if_icmp_gt (by decide +kernel)
theorem dX12_feed_18 : decode cX12_feed 18 = .ok (.aload_n 0, 1) := dk_aload_n_0 (by decide +kernel)
theorem dX12_feed_19 : decode cX12_feed 19 = .ok (.getfield 252, 3) := dk_getfield (by decide +kernel)
theorem dX12_feed_22 : decode cX12_feed 22 = .ok (.iload_n 1, 1) := dk_iload_n_1 (by decide +kernel)
theorem dX12_feed_23 : decode cX12_feed 23 = .ok (.iadd, 1) := dk_iadd (by decide +kernel)
theorem dX12_feed_24 : decode cX12_feed 24 = .ok (.bipush 60, 2) := dk_bipush (by decide +kernel)
theorem dX12_feed_26 : decode cX12_feed 26 = .ok (.if_icmp .le 10, 3) := dk_if_icmp_le (by decide +kernel)
theorem dX12_feed_29 : decode cX12_feed 29 = .ok (.aload_n 0, 1) := dk_aload_n_0 (by decide +kernel)
theorem dX12_feed_30 : decode cX12_feed 30 = .ok (.bipush (-6), 2) := dk_bipush (by decide +kernel)
theorem dX12_feed_32 : decode cX12_feed 32 = .ok (.invokevirtual 175, 3) := dk_invokevirtual (by decide +kernel)
theorem dX12_feed_35 : decode cX12_feed 35 = .ok (.ireturn, 1) := dk_ireturn (by decide +kernel)
theorem dX12_feed_36 : decode cX12_feed 36 = .ok (.iconst 0, 1) := dk_iconst_0 (by decide +kernel)
theorem dX12_feed_37 : decode cX12_feed 37 = .ok (.istore 4, 2) := dk_istore (by decide +kernel)
theorem dX12_feed_39 : decode cX12_feed 39 = .ok (.iload 4, 2) := dk_iload (by decide +kernel)
theorem dX12_feed_41 : decode cX12_feed 41 = .ok (.iload_n 1, 1) := dk_iload_n_1 (by decide +kernel)
theorem dX12_feed_42 : decode cX12_feed 42 = .ok (.if_icmp .ge 40, 3) := dk_if_icmp_ge (by decide +kernel)
theorem dX12_feed_45 : decode cX12_feed 45 = .ok (.aload_n 0, 1) := dk_aload_n_0 (by decide +kernel)
theorem dX12_feed_46 : decode cX12_feed 46 = .ok (.getfield 132, 3) := dk_getfield (by decide +kernel)
theorem dX12_feed_49 : decode cX12_feed 49 = .ok (.aload_n 0, 1) := dk_aload_n_0 (by decide +kernel)
theorem dX12_feed_50 : decode cX12_feed 50 = .ok (.getfield 252, 3) := dk_getfield (by decide +kernel)
theorem dX12_feed_53 : decode cX12_feed 53 = .ok (.lload_n 2, 1) := dk_lload_n_2 (by decide +kernel)
theorem dX12_feed_54 : decode cX12_feed 54 = .ok (.bipush 8, 2) := dk_bipush (by decide +kernel)
theorem dX12_feed_56 : decode cX12_feed 56 = .ok (.iload 4, 2) := dk_iload (by decide +kernel)
theorem dX12_feed_58 : decode cX12_feed 58 = .ok (.imul, 1) := dk_imul (by decide +kernel)
theorem dX12_feed_59 : decode cX12_feed 59 = .ok (.lshr, 1) := dk_lshr (by decide +kernel)
theorem dX12_feed_60 : decode cX12_feed 60 = .ok (.ldc2_w 255, 3) := dk_ldc2_w (by decide +kernel)
theorem dX12_feed_63 : decode cX12_feed 63 = .ok (.land, 1) := dk_land (by decide +kernel)
theorem dX12_feed_64 : decode cX12_feed 64 = .ok (.l2i, 1) := dk_l2i (by decide +kernel)
theorem dX12_feed_65 : decode cX12_feed 65 = .ok (.iastore, 1) := dk_iastore (by decide +kernel)
theorem dX12_feed_66 : decode cX12_feed 66 = .ok (.aload_n 0, 1) := dk_aload_n_0 (by decide +kernel)
theorem dX12_feed_67 : decode cX12_feed 67 = .ok (.dup, 1) := dk_dup (by decide +kernel)
theorem dX12_feed_68 : decode cX12_feed 68 = .ok (.getfield 252, 3) := dk_getfield (by decide +kernel)
theorem dX12_feed_71 : decode cX12_feed 71 = .ok (.iconst 1, 1) := dk_iconst_1 (by decide +kernel)
theorem dX12_feed_72 : decode cX12_feed 72 = .ok (.iadd, 1) := dk_iadd (by decide +kernel)
theorem dX12_feed_73 : decode cX12_feed 73 = .ok (.putfield 252, 3) := dk_putfield (by decide +kernel)
theorem dX12_feed_76 : decode cX12_feed 76 = .ok (.iinc 4 1, 3) := dk_iinc (by decide +kernel)
theorem dX12_feed_79 : decode cX12_feed 79 = .ok (.goto (-40), 3) := dk_goto (by decide +kernel)
theorem dX12_feed_82 : decode cX12_feed 82 = .ok (.aload_n 0, 1) := dk_aload_n_0 (by decide +kernel)
theorem dX12_feed_83 : decode cX12_feed 83 = .ok (.getfield 252, 3) := dk_getfield (by decide +kernel)
theorem dX12_feed_86 : decode cX12_feed 86 = .ok (.ireturn, 1) := dk_ireturn (by decide +kernel)
theorem dX12_breaksOff_0 : decode cX12_breaksOff 0 = .ok (.aload_n 0, 1) := dk_aload_n_0 (by decide +kernel)
theorem dX12_breaksOff_1 : decode cX12_breaksOff 1 = .ok (.iconst 0, 1) := dk_iconst_0 (by decide +kernel)
theorem dX12_breaksOff_2 : decode cX12_breaksOff 2 = .ok (.putfield 270, 3) := dk_putfield (by decide +kernel)
theorem dX12_breaksOff_5 : decode cX12_breaksOff 5 = .ok (.iconst 0, 1) := dk_iconst_0 (by decide +kernel)
theorem dX12_breaksOff_6 : decode cX12_breaksOff 6 = .ok (.ireturn, 1) := dk_ireturn (by decide +kernel)
theorem dX12_held_0 : decode cX12_held 0 = .ok (.lload_n 0, 1) := dk_lload_n_0 (by decide +kernel)
theorem dX12_held_1 : decode cX12_held 1 = .ok (.ldc2_w 266, 3) := dk_ldc2_w (by decide +kernel)
theorem dX12_held_4 : decode cX12_held 4 = .ok (.lcmp, 1) := dk_lcmp (by decide +kernel)
theorem dX12_held_5 : decode cX12_held 5 = .ok (.ifCond .le 9, 3) := dk_ifCond_le (by decide +kernel)
theorem dX12_held_8 : decode cX12_held 8 = .ok (.ldc2_w 266, 3) := dk_ldc2_w (by decide +kernel)
theorem dX12_held_11 : decode cX12_held 11 = .ok (.goto 18, 3) := dk_goto (by decide +kernel)
theorem dX12_held_14 : decode cX12_held 14 = .ok (.lload_n 0, 1) := dk_lload_n_0 (by decide +kernel)
theorem dX12_held_15 : decode cX12_held 15 = .ok (.ldc2_w 268, 3) := dk_ldc2_w (by decide +kernel)
theorem dX12_held_18 : decode cX12_held 18 = .ok (.lcmp, 1) := dk_lcmp (by decide +kernel)
theorem dX12_held_19 : decode cX12_held 19 = .ok (.ifCond .ge 9, 3) := dk_ifCond_ge (by decide +kernel)
theorem dX12_held_22 : decode cX12_held 22 = .ok (.ldc2_w 268, 3) := dk_ldc2_w (by decide +kernel)
theorem dX12_held_25 : decode cX12_held 25 = .ok (.goto 4, 3) := dk_goto (by decide +kernel)
theorem dX12_held_28 : decode cX12_held 28 = .ok (.lload_n 0, 1) := dk_lload_n_0 (by decide +kernel)
theorem dX12_held_29 : decode cX12_held 29 = .ok (.l2i, 1) := dk_l2i (by decide +kernel)
theorem dX12_held_30 : decode cX12_held 30 = .ok (.ireturn, 1) := dk_ireturn (by decide +kernel)
theorem dX12_isLetter_0 : decode cX12_isLetter 0 = .ok (.iload_n 0, 1) := dk_iload_n_0 (by decide +kernel)
theorem dX12_isLetter_1 : decode cX12_isLetter 1 = .ok (.bipush 107, 2) := dk_bipush (by decide +kernel)
theorem dX12_isLetter_3 : decode cX12_isLetter 3 = .ok (.if_icmp .eq 45, 3) := dk_if_icmp_eq (by decide +kernel)
theorem dX12_isLetter_6 : decode cX12_isLetter 6 = .ok (.iload_n 0, 1) := dk_iload_n_0 (by decide +kernel)
theorem dX12_isLetter_7 : decode cX12_isLetter 7 = .ok (.bipush 104, 2) := dk_bipush (by decide +kernel)
theorem dX12_isLetter_9 : decode cX12_isLetter 9 = .ok (.if_icmp .eq 39, 3) := dk_if_icmp_eq (by decide +kernel)
theorem dX12_isLetter_12 : decode cX12_isLetter 12 = .ok (.iload_n 0, 1) := dk_iload_n_0 (by decide +kernel)
theorem dX12_isLetter_13 : decode cX12_isLetter 13 = .ok (.bipush 118, 2) := dk_bipush (by decide +kernel)
theorem dX12_isLetter_15 : decode cX12_isLetter 15 = .ok (.if_icmp .eq 33, 3) := dk_if_icmp_eq (by decide +kernel)
theorem dX12_isLetter_18 : decode cX12_isLetter 18 = .ok (.iload_n 0, 1) := dk_iload_n_0 (by decide +kernel)
theorem dX12_isLetter_19 : decode cX12_isLetter 19 = .ok (.bipush 115, 2) := dk_bipush (by decide +kernel)
theorem dX12_isLetter_21 : decode cX12_isLetter 21 = .ok (.if_icmp .eq 27, 3) := dk_if_icmp_eq (by decide +kernel)
theorem dX12_isLetter_24 : decode cX12_isLetter 24 = .ok (.iload_n 0, 1) := dk_iload_n_0 (by decide +kernel)
theorem dX12_isLetter_25 : decode cX12_isLetter 25 = .ok (.bipush 109, 2) := dk_bipush (by decide +kernel)
theorem dX12_isLetter_27 : decode cX12_isLetter 27 = .ok (.if_icmp .eq 21, 3) := dk_if_icmp_eq (by decide +kernel)
theorem dX12_isLetter_30 : decode cX12_isLetter 30 = .ok (.iload_n 0, 1) := dk_iload_n_0 (by decide +kernel)
theorem dX12_isLetter_31 : decode cX12_isLetter 31 = .ok (.bipush 119, 2) := dk_bipush (by decide +kernel)
theorem dX12_isLetter_33 : decode cX12_isLetter 33 = .ok (.if_icmp .eq 15, 3) := dk_if_icmp_eq (by decide +kernel)
theorem dX12_isLetter_36 : decode cX12_isLetter 36 = .ok (.iload_n 0, 1) := dk_iload_n_0 (by decide +kernel)
theorem dX12_isLetter_37 : decode cX12_isLetter 37 = .ok (.bipush 97, 2) := dk_bipush (by decide +kernel)
theorem dX12_isLetter_39 : decode cX12_isLetter 39 = .ok (.if_icmp .eq 9, 3) := dk_if_icmp_eq (by decide +kernel)
theorem dX12_isLetter_42 : decode cX12_isLetter 42 = .ok (.iload_n 0, 1) := dk_iload_n_0 (by decide +kernel)
theorem dX12_isLetter_43 : decode cX12_isLetter 43 = .ok (.bipush 110, 2) := dk_bipush (by decide +kernel)
theorem dX12_isLetter_45 : decode cX12_isLetter 45 = .ok (.if_icmp .ne 7, 3) := dk_if_icmp_ne (by decide +kernel)
theorem dX12_isLetter_48 : decode cX12_isLetter 48 = .ok (.iconst 1, 1) := dk_iconst_1 (by decide +kernel)
theorem dX12_isLetter_49 : decode cX12_isLetter 49 = .ok (.goto 4, 3) := dk_goto (by decide +kernel)
theorem dX12_isLetter_52 : decode cX12_isLetter 52 = .ok (.iconst 0, 1) := dk_iconst_0 (by decide +kernel)
theorem dX12_isLetter_53 : decode cX12_isLetter 53 = .ok (.ireturn, 1) := dk_ireturn (by decide +kernel)
theorem dX12_bare_0 : decode cX12_bare 0 = .ok (.iconst 0, 1) := dk_iconst_0 (by decide +kernel)
theorem dX12_bare_1 : decode cX12_bare 1 = .ok (.istore_n 1, 1) := dk_istore_n_1 (by decide +kernel)
theorem dX12_bare_2 : decode cX12_bare 2 = .ok (.iload_n 1, 1) := dk_iload_n_1 (by decide +kernel)
theorem dX12_bare_3 : decode cX12_bare 3 = .ok (.sipush 128, 3) := dk_sipush (by decide +kernel)
theorem dX12_bare_6 : decode cX12_bare 6 = .ok (.if_icmp .ge 16, 3) := dk_if_icmp_ge (by decide +kernel)
theorem dX12_bare_9 : decode cX12_bare 9 = .ok (.aload_n 0, 1) := dk_aload_n_0 (by decide +kernel)
theorem dX12_bare_10 : decode cX12_bare 10 = .ok (.getfield 135, 3) := dk_getfield (by decide +kernel)
theorem dX12_bare_13 : decode cX12_bare 13 = .ok (.iload_n 1, 1) := dk_iload_n_1 (by decide +kernel)
theorem dX12_bare_14 : decode cX12_bare 14 = .ok (.iconst 0, 1) := dk_iconst_0 (by decide +kernel)
theorem dX12_bare_15 : decode cX12_bare 15 = .ok (.iastore, 1) := dk_iastore (by decide +kernel)
theorem dX12_bare_16 : decode cX12_bare 16 = .ok (.iinc 1 1, 3) := dk_iinc (by decide +kernel)
theorem dX12_bare_19 : decode cX12_bare 19 = .ok (.goto (-17), 3) := dk_goto (by decide +kernel)
theorem dX12_bare_22 : decode cX12_bare 22 = .ok (.return_, 1) := dk_return_ (by decide +kernel)
set_option maxHeartbeats 4000000 in
set_option maxRecDepth 100000 in
theorem c_X12_breaksOff (l : Launch) (g : gG) (J : Nat → Nat → Int32) (L : Nat → Nat → Int64) (I : Nat → Nat → Nat → Int32) (P : Nat → Nat → Nat → Option Nat) (E : Nat → Option Nat) (N : Nat → Nat) (sz : Nat)  (hwm : WM J) : Met l yX12_breaksOff (WS yX12_breaksOff cX12_breaksOff 1 (some .int)) (RM (1) 0 0) (PC g [.ref (g.2.2.1 13)] ((J, L, I, P, E, N), sgM g) sz) (va_Qi (fun (r : Int32) (u : (Nat → Nat → Int32)) => ((r.toInt = 0)) ∧ ((u 13 60).toInt = 0)) (fun u t => at_ g (FR g ((J, L, I, P, E, N), sgM g) sz) ((hv J [] [(13, 60)] u, L, I, P, E, N), sgM g) t) (FR g ((J, L, I, P, E, N), sgM g) sz)) 0 0 (FR g ((J, L, I, P, E, N), sgM g) sz) := by
  refine ent (by decide +kernel) (Nat.le_of_ble_eq_true rfl) ?_
  intro p e s m below meth c ls hsz C hW hr hlocks hname hl
  generalize FR g ((J, L, I, P, E, N), sgM g) sz = A at C hW ⊢
  have hx := C.1.1
  have hb := C.1.2.1
  have hts := C.1.2.2.2.2
  have hW : WB g A s.heap s.heap [] (J, L, I, P, E, N) (sgM g) := hW
  have hl : lv_has ls 1 [(0, .ref (g.2.2.1 13))] := hl
  obtain ⟨H, hH⟩ : ∃ H : Heap, H = s.heap := ⟨_, rfl⟩
  obtain ⟨locs, hlocs⟩ : ∃ q : List Loc, q = [] := ⟨_, rfl⟩
  have hW : WB g A s.heap H locs (J, L, I, P, E, N) (sgM g) := by rw [hH, hlocs]; exact hW
  obtain ⟨⟨hnd1, hnd2, hon, hhm1, hhm2, hhN, hcu1, hcu2, hco1, hco2, hcN⟩, ⟨hrd1, hrd2⟩, ⟨hnw1, hnw2, hns1, hns2, hof⟩, ⟨htm1, htm2, hts_⟩, ⟨had1, had2, hrw1, hrw2, htp1, htp2⟩⟩ := id hwm
  refine start_ hH hlocs ?_
  refine lv_aload_n hx hb dX12_breaksOff_0 rfl (lv_at hl 0 rfl) ?_
  refine lv_iconst (v := 0) hx hb dX12_breaksOff_1 (by decide) ?_
  refine rp_13_60 C hW (mm_ rfl) tw_1083 (by decide) dX12_breaksOff_2 (fun H locs hW => ?_)
  refine lv_iconst (v := 0) hx hb dX12_breaksOff_5 (by decide) ?_
  have hWr : WB g A s.heap H locs (hv J [] [(13, 60)] (up2 J 13 60 0), L, I, P, E, N) (sgM g) := by
    rw [← ag_hvE (J := J) (R := []) (F := [(13, 60)]) (ag_up (Or.inr rfl) ag_rf)]
    exact hW
  exact end_i C hr hlocks (up2 J 13 60 0) hWr ⟨by first | exact (by decide), show ((0 : Int32)).toInt = 0 from by exact kp0⟩ dX12_breaksOff_6

set_option maxHeartbeats 4000000 in
set_option maxRecDepth 100000 in
theorem c_X12_held (l : Launch) (g : gG) (J : Nat → Nat → Int32) (L : Nat → Nat → Int64) (I : Nat → Nat → Nat → Int32) (P : Nat → Nat → Nat → Option Nat) (E : Nat → Option Nat) (N : Nat → Nat) (sz : Nat) (a0 : Int64)  : Met l yX12_held (WS yX12_held cX12_held 2 (some .int)) (RM (1) 0 0) (PC g [.long a0] ((J, L, I, P, E, N), sgM g) sz) (va_Qi (fun (r : Int32) (u : Unit) => True) (fun u t => at_ g (FR g ((J, L, I, P, E, N), sgM g) sz) ((J, L, I, P, E, N), sgM g) t) (FR g ((J, L, I, P, E, N), sgM g) sz)) 0 0 (FR g ((J, L, I, P, E, N), sgM g) sz) := by
  refine ent (by decide +kernel) (Nat.le_of_ble_eq_true rfl) ?_
  intro p e s m below meth c ls hsz C hW hr hlocks hname hl
  generalize FR g ((J, L, I, P, E, N), sgM g) sz = A at C hW ⊢
  have hx := C.1.1
  have hb := C.1.2.1
  have hts := C.1.2.2.2.2
  have hW : WB g A s.heap s.heap [] (J, L, I, P, E, N) (sgM g) := hW
  have hl : lv_has ls 2 [(0, .long a0)] := hl
  obtain ⟨H, hH⟩ : ∃ H : Heap, H = s.heap := ⟨_, rfl⟩
  obtain ⟨locs, hlocs⟩ : ∃ q : List Loc, q = [] := ⟨_, rfl⟩
  have hW : WB g A s.heap H locs (J, L, I, P, E, N) (sgM g) := by rw [hH, hlocs]; exact hW
  refine start_ hH hlocs ?_
  refine lv_lload_n hx hb dX12_held_0 rfl (lv_at hl 0 rfl) ?_
  refine lv_ldc2 hx hb C.1.2.2.2.1 (hts _ tw_1376) dX12_held_1 ?_
  refine W.lcmp hx hb dX12_held_4 ?_
  refine lv_topi (fun x1 (e1 : x1 = lg_cmp a0 (1000000000 : Int64)) => ?_)
  refine lv_if_le (tgt := 14) hx hb dX12_held_5 (by decide) (fun c2 => ?_) (fun c2 => ?_)
  · have c2 : x1.toInt ≤ 0 := tle rfl kp0 c2
    refine lv_lload_n hx hb dX12_held_14 rfl (lv_at hl 0 rfl) ?_
    refine lv_ldc2 hx hb C.1.2.2.2.1 (hts _ tw_1377) dX12_held_15 ?_
    refine W.lcmp hx hb dX12_held_18 ?_
    refine lv_topi (fun x3 (e3 : x3 = lg_cmp a0 (-1000000000 : Int64)) => ?_)
    refine lv_if_ge (tgt := 28) hx hb dX12_held_19 (by decide) (fun c4 => ?_) (fun c4 => ?_)
    · have c4 : 0 ≤ x3.toInt := tle kp0 rfl c4
      refine lv_lload_n hx hb dX12_held_28 rfl (lv_at hl 0 rfl) ?_
      refine lv_l2i (v := a0.toInt32) hx hb dX12_held_29 rfl ?_
      refine lv_topi (fun x5 (e5 : x5 = a0.toInt32) => ?_)
      exact end_i C hr hlocks () hW trivial dX12_held_30
    · have c4 : x3.toInt < 0 := tnle kp0 rfl c4
      refine lv_ldc2 hx hb C.1.2.2.2.1 (hts _ tw_1377) dX12_held_22 ?_
      refine lv_goto (tgt := 29) hx hb dX12_held_25 (by decide) ?_
      refine lv_l2i (v := (-1000000000 : Int64).toInt32) hx hb dX12_held_29 rfl ?_
      refine lv_topi (fun x6 (e6 : x6 = (-1000000000 : Int64).toInt32) => ?_)
      exact end_i C hr hlocks () hW trivial dX12_held_30
  · have c2 : 0 < x1.toInt := tnle rfl kp0 c2
    refine lv_ldc2 hx hb C.1.2.2.2.1 (hts _ tw_1376) dX12_held_8 ?_
    refine lv_goto (tgt := 29) hx hb dX12_held_11 (by decide) ?_
    refine lv_l2i (v := (1000000000 : Int64).toInt32) hx hb dX12_held_29 rfl ?_
    refine lv_topi (fun x7 (e7 : x7 = (1000000000 : Int64).toInt32) => ?_)
    exact end_i C hr hlocks () hW trivial dX12_held_30

set_option maxHeartbeats 4000000 in
set_option maxRecDepth 100000 in
theorem c_X12_isLetter (l : Launch) (g : gG) (J : Nat → Nat → Int32) (L : Nat → Nat → Int64) (I : Nat → Nat → Nat → Int32) (P : Nat → Nat → Nat → Option Nat) (E : Nat → Option Nat) (N : Nat → Nat) (sz : Nat) (a0 : Int32)  : Met l yX12_isLetter (WS yX12_isLetter cX12_isLetter 1 (some .boolean)) (RM (1) 0 0) (PC g [.int a0] ((J, L, I, P, E, N), sgM g) sz) (va_Qi (fun (r : Int32) (u : Unit) => ((r.toInt = 1 ∧ (0 ≤ a0.toInt ∧ a0.toInt < 128)) ∨ (r.toInt = 0))) (fun u t => at_ g (FR g ((J, L, I, P, E, N), sgM g) sz) ((J, L, I, P, E, N), sgM g) t) (FR g ((J, L, I, P, E, N), sgM g) sz)) 0 0 (FR g ((J, L, I, P, E, N), sgM g) sz) := by
  refine ent (by decide +kernel) (Nat.le_of_ble_eq_true rfl) ?_
  intro p e s m below meth c ls hsz C hW hr hlocks hname hl
  generalize FR g ((J, L, I, P, E, N), sgM g) sz = A at C hW ⊢
  have hx := C.1.1
  have hb := C.1.2.1
  have hts := C.1.2.2.2.2
  have hW : WB g A s.heap s.heap [] (J, L, I, P, E, N) (sgM g) := hW
  have hl : lv_has ls 1 [(0, .int a0)] := hl
  obtain ⟨H, hH⟩ : ∃ H : Heap, H = s.heap := ⟨_, rfl⟩
  obtain ⟨locs, hlocs⟩ : ∃ q : List Loc, q = [] := ⟨_, rfl⟩
  have hW : WB g A s.heap H locs (J, L, I, P, E, N) (sgM g) := by rw [hH, hlocs]; exact hW
  refine start_ hH hlocs ?_
  refine lv_iload_n hx hb dX12_isLetter_0 rfl (lv_at hl 0 rfl) ?_
  refine lv_bipush (v := 107) hx hb dX12_isLetter_1 (by decide) ?_
  refine lv_icmp_eq (tgt := 48) hx hb dX12_isLetter_3 (by decide) (fun c1 => ?_) (fun c1 => ?_)
  · have c1 : a0.toInt = 107 := teq rfl kp107 c1
    refine lv_iconst (v := 1) hx hb dX12_isLetter_48 (by decide) ?_
    refine lv_goto (tgt := 53) hx hb dX12_isLetter_49 (by decide) ?_
    exact end_z C hr hlocks (by decide) () hW (by first | exact Or.inl ⟨by decide, by omega⟩) dX12_isLetter_53
  · have c1 : ¬ a0.toInt = 107 := tne rfl kp107 c1
    refine lv_iload_n hx hb dX12_isLetter_6 rfl (lv_at hl 0 rfl) ?_
    refine lv_bipush (v := 104) hx hb dX12_isLetter_7 (by decide) ?_
    refine lv_icmp_eq (tgt := 48) hx hb dX12_isLetter_9 (by decide) (fun c2 => ?_) (fun c2 => ?_)
    · have c2 : a0.toInt = 104 := teq rfl kp104 c2
      refine lv_iconst (v := 1) hx hb dX12_isLetter_48 (by decide) ?_
      refine lv_goto (tgt := 53) hx hb dX12_isLetter_49 (by decide) ?_
      exact end_z C hr hlocks (by decide) () hW (by first | exact Or.inl ⟨by decide, by omega⟩) dX12_isLetter_53
    · have c2 : ¬ a0.toInt = 104 := tne rfl kp104 c2
      refine lv_iload_n hx hb dX12_isLetter_12 rfl (lv_at hl 0 rfl) ?_
      refine lv_bipush (v := 118) hx hb dX12_isLetter_13 (by decide) ?_
      refine lv_icmp_eq (tgt := 48) hx hb dX12_isLetter_15 (by decide) (fun c3 => ?_) (fun c3 => ?_)
      · have c3 : a0.toInt = 118 := teq rfl kp118 c3
        refine lv_iconst (v := 1) hx hb dX12_isLetter_48 (by decide) ?_
        refine lv_goto (tgt := 53) hx hb dX12_isLetter_49 (by decide) ?_
        exact end_z C hr hlocks (by decide) () hW (by first | exact Or.inl ⟨by decide, by omega⟩) dX12_isLetter_53
      · have c3 : ¬ a0.toInt = 118 := tne rfl kp118 c3
        refine lv_iload_n hx hb dX12_isLetter_18 rfl (lv_at hl 0 rfl) ?_
        refine lv_bipush (v := 115) hx hb dX12_isLetter_19 (by decide) ?_
        refine lv_icmp_eq (tgt := 48) hx hb dX12_isLetter_21 (by decide) (fun c4 => ?_) (fun c4 => ?_)
        · have c4 : a0.toInt = 115 := teq rfl kp115 c4
          refine lv_iconst (v := 1) hx hb dX12_isLetter_48 (by decide) ?_
          refine lv_goto (tgt := 53) hx hb dX12_isLetter_49 (by decide) ?_
          exact end_z C hr hlocks (by decide) () hW (by first | exact Or.inl ⟨by decide, by omega⟩) dX12_isLetter_53
        · have c4 : ¬ a0.toInt = 115 := tne rfl kp115 c4
          refine lv_iload_n hx hb dX12_isLetter_24 rfl (lv_at hl 0 rfl) ?_
          refine lv_bipush (v := 109) hx hb dX12_isLetter_25 (by decide) ?_
          refine lv_icmp_eq (tgt := 48) hx hb dX12_isLetter_27 (by decide) (fun c5 => ?_) (fun c5 => ?_)
          · have c5 : a0.toInt = 109 := teq rfl kp109 c5
            refine lv_iconst (v := 1) hx hb dX12_isLetter_48 (by decide) ?_
            refine lv_goto (tgt := 53) hx hb dX12_isLetter_49 (by decide) ?_
            exact end_z C hr hlocks (by decide) () hW (by first | exact Or.inl ⟨by decide, by omega⟩) dX12_isLetter_53
          · have c5 : ¬ a0.toInt = 109 := tne rfl kp109 c5
            refine lv_iload_n hx hb dX12_isLetter_30 rfl (lv_at hl 0 rfl) ?_
            refine lv_bipush (v := 119) hx hb dX12_isLetter_31 (by decide) ?_
            refine lv_icmp_eq (tgt := 48) hx hb dX12_isLetter_33 (by decide) (fun c6 => ?_) (fun c6 => ?_)
            · have c6 : a0.toInt = 119 := teq rfl kp119 c6
              refine lv_iconst (v := 1) hx hb dX12_isLetter_48 (by decide) ?_
              refine lv_goto (tgt := 53) hx hb dX12_isLetter_49 (by decide) ?_
              exact end_z C hr hlocks (by decide) () hW (by first | exact Or.inl ⟨by decide, by omega⟩) dX12_isLetter_53
            · have c6 : ¬ a0.toInt = 119 := tne rfl kp119 c6
              refine lv_iload_n hx hb dX12_isLetter_36 rfl (lv_at hl 0 rfl) ?_
              refine lv_bipush (v := 97) hx hb dX12_isLetter_37 (by decide) ?_
              refine lv_icmp_eq (tgt := 48) hx hb dX12_isLetter_39 (by decide) (fun c7 => ?_) (fun c7 => ?_)
              · have c7 : a0.toInt = 97 := teq rfl kp97 c7
                refine lv_iconst (v := 1) hx hb dX12_isLetter_48 (by decide) ?_
                refine lv_goto (tgt := 53) hx hb dX12_isLetter_49 (by decide) ?_
                exact end_z C hr hlocks (by decide) () hW (by first | exact Or.inl ⟨by decide, by omega⟩) dX12_isLetter_53
              · have c7 : ¬ a0.toInt = 97 := tne rfl kp97 c7
                refine lv_iload_n hx hb dX12_isLetter_42 rfl (lv_at hl 0 rfl) ?_
                refine lv_bipush (v := 110) hx hb dX12_isLetter_43 (by decide) ?_
                refine lv_icmp_ne (tgt := 52) hx hb dX12_isLetter_45 (by decide) (fun c8 => ?_) (fun c8 => ?_)
                · have c8 : ¬ a0.toInt = 110 := tne rfl kp110 c8
                  refine lv_iconst (v := 0) hx hb dX12_isLetter_52 (by decide) ?_
                  exact end_z C hr hlocks (by decide) () hW (by first | exact Or.inr ((by decide))) dX12_isLetter_53
                · have c8 : a0.toInt = 110 := teq rfl kp110 c8
                  refine lv_iconst (v := 1) hx hb dX12_isLetter_48 (by decide) ?_
                  refine lv_goto (tgt := 53) hx hb dX12_isLetter_49 (by decide) ?_
                  exact end_z C hr hlocks (by decide) () hW (by first | exact Or.inl ⟨by decide, by omega⟩) dX12_isLetter_53
