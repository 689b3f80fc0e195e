theorem dX12_complain_0 : decode cX12_complain 0 = .ok (.aload_n 0, 1) := dk_aload_n_0 (by decide +kernel)
theorem dX12_complain_1 : decode cX12_complain 1 = .ok (.iload_n 1, 1) := dk_iload_n_1 (by decide +kernel)
theorem dX12_complain_2 : decode cX12_complain 2 = .ok (.invokevirtual 202, 3) := dk_invokevirtual (by decide +kernel)
theorem dX12_complain_5 : decode cX12_complain 5 = .ok (.ifCond .ne 9, 3) := dk_ifCond_ne (by decide +kernel)
theorem dX12_complain_8 : decode cX12_complain 8 = .ok (.aload_n 0, 1) := dk_aload_n_0 (by decide +kernel)
theorem dX12_complain_9 : decode cX12_complain 9 = .ok (.iconst (-1), 1) := dk_iconst_m1 (by decide +kernel)
theorem dX12_complain_10 : decode cX12_complain 10 = .ok (.invokevirtual 175, 3) := dk_invokevirtual (by decide +kernel)
theorem dX12_complain_13 : decode cX12_complain 13 = .ok (.ireturn, 1) := dk_ireturn (by decide +kernel)
theorem dX12_complain_14 : decode cX12_complain 14 = .ok (.aload_n 0, 1) := dk_aload_n_0 (by decide +kernel)
theorem dX12_complain_15 : decode cX12_complain 15 = .ok (.getfield 46, 3) := dk_getfield (by decide +kernel)
theorem dX12_complain_18 : decode cX12_complain 18 = .ok (.iload_n 1, 1) := dk_iload_n_1 (by decide +kernel)
theorem dX12_complain_19 : decode cX12_complain 19 = .ok (.baload, 1) := dk_baload (by decide +kernel)
theorem dX12_complain_20 : decode cX12_complain 20 = .ok (.istore_n 3, 1) := dk_istore_n_3 (by decide +kernel)
theorem dX12_complain_21 : decode cX12_complain 21 = .ok (.aload_n 0, 1) := dk_aload_n_0 (by decide +kernel)
theorem dX12_complain_22 : decode cX12_complain 22 = .ok (.getfield 46, 3) := dk_getfield (by decide +kernel)
theorem dX12_complain_25 : decode cX12_complain 25 = .ok (.iload_n 1, 1) := dk_iload_n_1 (by decide +kernel)
theorem dX12_complain_26 : decode cX12_complain 26 = .ok (.iload_n 2, 1) := dk_iload_n_2 (by decide +kernel)
theorem dX12_complain_27 : decode cX12_complain 27 = .ok (.bastore, 1) := dk_bastore (by decide +kernel)
theorem dX12_complain_28 : decode cX12_complain 28 = .ok (.iload_n 3, 1) := dk_iload_n_3 (by decide +kernel)
theorem dX12_complain_29 : decode cX12_complain 29 = .ok (.iload_n 2, 1) := dk_iload_n_2 (by decide +kernel)
theorem dX12_complain_30 : decode cX12_complain 30 = .ok (.if_icmp .ne 7, 3) := dk_if_icmp_ne (by decide +kernel)
theorem dX12_complain_33 : decode cX12_complain 33 = .ok (.iconst 0, 1) := dk_iconst_0 (by decide +kernel)
theorem dX12_complain_34 : decode cX12_complain 34 = .ok (.goto 4, 3) := dk_goto (by decide +kernel)
theorem dX12_complain_37 : decode cX12_complain 37 = .ok (.iconst 1, 1) := dk_iconst_1 (by decide +kernel)
theorem dX12_complain_38 : decode cX12_complain 38 = .ok (.ireturn, 1) := dk_ireturn (by decide +kernel)
theorem dX12_bits_0 : decode cX12_bits 0 = .ok (.iconst 0, 1) := dk_iconst_0 (by decide +kernel)
theorem dX12_bits_1 : decode cX12_bits 1 = .ok (.istore_n 1, 1) := dk_istore_n_1 (by decide +kernel)
theorem dX12_bits_2 : decode cX12_bits 2 = .ok (.iload_n 0, 1) := dk_iload_n_0 (by decide +kernel)
theorem dX12_bits_3 : decode cX12_bits 3 = .ok (.istore_n 2, 1) := dk_istore_n_2 (by decide +kernel)
theorem dX12_bits_4 : decode cX12_bits 4 = .ok (.iload_n 2, 1) := dk_iload_n_2 (by decide +kernel)
theorem dX12_bits_5 : decode cX12_bits 5 = .ok (.ifCond .le 16, 3) := dk_ifCond_le (by decide +kernel)
theorem dX12_bits_8 : decode cX12_bits 8 = .ok (.iload_n 1, 1) := dk_iload_n_1 (by decide +kernel)
theorem dX12_bits_9 : decode cX12_bits 9 = .ok (.iload_n 2, 1) := dk_iload_n_2 (by decide +kernel)
theorem dX12_bits_10 : decode cX12_bits 10 = .ok (.iconst 1, 1) := dk_iconst_1 (by decide +kernel)
theorem dX12_bits_11 : decode cX12_bits 11 = .ok (.iand, 1) := dk_iand (by decide +kernel)
theorem dX12_bits_12 : decode cX12_bits 12 = .ok (.iadd, 1) := dk_iadd (by decide +kernel)
theorem dX12_bits_13 : decode cX12_bits 13 = .ok (.istore_n 1, 1) := dk_istore_n_1 (by decide +kernel)
theorem dX12_bits_14 : decode cX12_bits 14 = .ok (.iload_n 2, 1) := dk_iload_n_2 (by decide +kernel)
theorem dX12_bits_15 : decode cX12_bits 15 = .ok (.iconst 1, 1) := dk_iconst_1 (by decide +kernel)
theorem dX12_bits_16 : decode cX12_bits 16 = .ok (.ishr, 1) := dk_ishr (by decide +kernel)
theorem dX12_bits_17 : decode cX12_bits 17 = .ok (.istore_n 2, 1) := dk_istore_n_2 (by decide +kernel)
theorem dX12_bits_18 : decode cX12_bits 18 = .ok (.goto (-14), 3) := dk_goto (by decide +kernel)
theorem dX12_bits_21 : decode cX12_bits 21 = .ok (.iload_n 1, 1) := dk_iload_n_1 (by decide +kernel)
theorem dX12_bits_22 : decode cX12_bits 22 = .ok (.ireturn, 1) := dk_ireturn (by decide +kernel)
theorem dX12_explains_0 : decode cX12_explains 0 = .ok (.iconst 0, 1) := dk_iconst_0 (by decide +kernel)
theorem dX12_explains_1 : decode cX12_explains 1 = .ok (.istore_n 2, 1) := dk_istore_n_2 (by decide +kernel)
theorem dX12_explains_2 : decode cX12_explains 2 = .ok (.iload_n 2, 1) := dk_iload_n_2 (by decide +kernel)
theorem dX12_explains_3 : decode cX12_explains 3 = .ok (.aload_n 0, 1) := dk_aload_n_0 (by decide +kernel)
theorem dX12_explains_4 : decode cX12_explains 4 = .ok (.getfield 166, 3) := dk_getfield (by decide +kernel)
theorem dX12_explains_7 : decode cX12_explains 7 = .ok (.if_icmp .ge 75, 3) := dk_if_icmp_ge (by decide +kernel)
theorem dX12_explains_10 : decode cX12_explains 10 = .ok (.iconst 0, 1) := dk_iconst_0 (by decide +kernel)
theorem dX12_explains_11 : decode cX12_explains 11 = .ok (.istore_n 3, 1) := dk_istore_n_3 (by decide +kernel)
theorem dX12_explains_12 : decode cX12_explains 12 = .ok (.aload_n 0, 1) := dk_aload_n_0 (by decide +kernel)
theorem dX12_explains_13 : decode cX12_explains 13 = .ok (.getfield 34, 3) := dk_getfield (by decide +kernel)
theorem dX12_explains_16 : decode cX12_explains 16 = .ok (.iload_n 2, 1) := dk_iload_n_2 (by decide +kernel)
theorem dX12_explains_17 : decode cX12_explains 17 = .ok (.iaload, 1) := dk_iaload (by decide +kernel)
theorem dX12_explains_18 : decode cX12_explains 18 = .ok (.istore 4, 2) := dk_istore (by decide +kernel)
theorem dX12_explains_20 : decode cX12_explains 20 = .ok (.iload 4, 2) := dk_iload (by decide +kernel)
theorem dX12_explains_22 : decode cX12_explains 22 = .ok (.ifCond .le 42, 3) := dk_ifCond_le (by decide +kernel)
theorem dX12_explains_25 : decode cX12_explains 25 = .ok (.iload_n 3, 1) := dk_iload_n_3 (by decide +kernel)
theorem dX12_explains_26 : decode cX12_explains 26 = .ok (.ifCond .ne 20, 3) := dk_ifCond_ne (by decide +kernel)
theorem dX12_explains_29 : decode cX12_explains 29 = .ok (.iload 4, 2) := dk_iload (by decide +kernel)
theorem dX12_explains_31 : decode cX12_explains 31 = .ok (.bipush 12, 2) := dk_bipush (by decide +kernel)
theorem dX12_explains_33 : decode cX12_explains 33 = .ok (.if_icmp .ge 17, 3) := dk_if_icmp_ge (by decide +kernel)
theorem dX12_explains_36 : decode cX12_explains 36 = .ok (.iload_n 1, 1) := dk_iload_n_1 (by decide +kernel)
theorem dX12_explains_37 : decode cX12_explains 37 = .ok (.iload 4, 2) := dk_iload (by decide +kernel)
theorem dX12_explains_39 : decode cX12_explains 39 = .ok (.ishr, 1) := dk_ishr (by decide +kernel)
theorem dX12_explains_40 : decode cX12_explains 40 = .ok (.iconst 1, 1) := dk_iconst_1 (by decide +kernel)
theorem dX12_explains_41 : decode cX12_explains 41 = .ok (.iand, 1) := dk_iand (by decide +kernel)
theorem dX12_explains_42 : decode cX12_explains 42 = .ok (.iconst 1, 1) := dk_iconst_1 (by decide +kernel)
theorem dX12_explains_43 : decode cX12_explains 43 = .ok (.if_icmp .ne 7, 3) := dk_if_icmp_ne (by decide +kernel)
theorem dX12_explains_46 : decode cX12_explains 46 = .ok (.iconst 1, 1) := dk_iconst_1 (by decide +kernel)
theorem dX12_explains_47 : decode cX12_explains 47 = .ok (.goto 4, 3) := dk_goto (by decide +kernel)
theorem dX12_explains_50 : decode cX12_explains 50 = .ok (.iconst 0, 1) := dk_iconst_0 (by decide +kernel)
theorem dX12_explains_51 : decode cX12_explains 51 = .ok (.istore_n 3, 1) := dk_istore_n_3 (by decide +kernel)
theorem dX12_explains_52 : decode cX12_explains 52 = .ok (.aload_n 0, 1) := dk_aload_n_0 (by decide +kernel)
theorem dX12_explains_53 : decode cX12_explains 53 = .ok (.getfield 13, 3) := dk_getfield (by decide +kernel)
theorem dX12_explains_56 : decode cX12_explains 56 = .ok (.iload 4, 2) := dk_iload (by decide +kernel)
theorem dX12_explains_58 : decode cX12_explains 58 = .ok (.iaload, 1) := dk_iaload (by decide +kernel)
theorem dX12_explains_59 : decode cX12_explains 59 = .ok (.istore 4, 2) := dk_istore (by decide +kernel)
theorem dX12_explains_61 : decode cX12_explains 61 = .ok (.goto (-41), 3) := dk_goto (by decide +kernel)
theorem dX12_explains_64 : decode cX12_explains 64 = .ok (.iload_n 3, 1) := dk_iload_n_3 (by decide +kernel)
theorem dX12_explains_65 : decode cX12_explains 65 = .ok (.aload_n 0, 1) := dk_aload_n_0 (by decide +kernel)
theorem dX12_explains_66 : decode cX12_explains 66 = .ok (.getfield 46, 3) := dk_getfield (by decide +kernel)
theorem dX12_explains_69 : decode cX12_explains 69 = .ok (.iload_n 2, 1) := dk_iload_n_2 (by decide +kernel)
theorem dX12_explains_70 : decode cX12_explains 70 = .ok (.baload, 1) := dk_baload (by decide +kernel)
theorem dX12_explains_71 : decode cX12_explains 71 = .ok (.if_icmp .eq 5, 3) := dk_if_icmp_eq (by decide +kernel)
theorem dX12_explains_74 : decode cX12_explains 74 = .ok (.iconst 0, 1) := dk_iconst_0 (by decide +kernel)
theorem dX12_explains_75 : decode cX12_explains 75 = .ok (.ireturn, 1) := dk_ireturn (by decide +kernel)
theorem dX12_explains_76 : decode cX12_explains 76 = .ok (.iinc 2 1, 3) := dk_iinc (by decide +kernel)
theorem dX12_explains_79 : decode cX12_explains 79 = .ok (.goto (-77), 3) := dk_goto (by decide +kernel)
theorem dX12_explains_82 : decode cX12_explains 82 = .ok (.iconst 1, 1) := dk_iconst_1 (by decide +kernel)
theorem dX12_explains_83 : decode cX12_explains 83 = .ok (.ireturn, 1) := dk_ireturn (by decide +kernel)
theorem dX12_breaks_0 : decode cX12_breaks 0 = .ok (.iload_n 1, 1) := dk_iload_n_1 (by decide +kernel)
theorem dX12_breaks_1 : decode cX12_breaks 1 = .ok (.iconst 3, 1) := dk_iconst_3 (by decide +kernel)
theorem dX12_breaks_2 : decode cX12_breaks 2 = .ok (.invokestatic 162, 3) := dk_invokestatic (by decide +kernel)
theorem dX12_breaks_5 : decode cX12_breaks 5 = .ok (.ifCond .ne 10, 3) := dk_ifCond_ne (by decide +kernel)
theorem dX12_breaks_8 : decode cX12_breaks 8 = .ok (.aload_n 0, 1) := dk_aload_n_0 (by decide +kernel)
theorem dX12_breaks_9 : decode cX12_breaks 9 = .ok (.bipush (-2), 2) := dk_bipush (by decide +kernel)
theorem dX12_breaks_11 : decode cX12_breaks 11 = .ok (.invokevirtual 175, 3) := dk_invokevirtual (by decide +kernel)
theorem dX12_breaks_14 : decode cX12_breaks 14 = .ok (.ireturn, 1) := dk_ireturn (by decide +kernel)
theorem dX12_breaks_15 : decode cX12_breaks 15 = .ok (.bipush (-9), 2) := dk_bipush (by decide +kernel)
theorem dX12_breaks_17 : decode cX12_breaks 17 = .ok (.istore_n 2, 1) := dk_istore_n_2 (by decide +kernel)
theorem dX12_breaks_18 : decode cX12_breaks 18 = .ok (.iconst 0, 1) := dk_iconst_0 (by decide +kernel)
theorem dX12_breaks_19 : decode cX12_breaks 19 = .ok (.istore_n 3, 1) := dk_istore_n_3 (by decide +kernel)
theorem dX12_breaks_20 : decode cX12_breaks 20 = .ok (.iconst 0, 1) := dk_iconst_0 (by decide +kernel)
theorem dX12_breaks_21 : decode cX12_breaks 21 = .ok (.istore 4, 2) := dk_istore (by decide +kernel)
theorem dX12_breaks_23 : decode cX12_breaks 23 = .ok (.iload 4, 2) := dk_iload (by decide +kernel)
theorem dX12_breaks_25 : decode cX12_breaks 25 = .ok (.iconst 1, 1) := dk_iconst_1 (by decide +kernel)
theorem dX12_breaks_26 : decode cX12_breaks 26 = .ok (.aload_n 0, 1) := dk_aload_n_0 (by decide +kernel)
theorem dX12_breaks_27 : decode cX12_breaks 27 = .ok (.getfield 104, 3) := dk_getfield (by decide +kernel)
theorem dX12_breaks_30 : decode cX12_breaks 30 = .ok (.bipush 12, 2) := dk_bipush (by decide +kernel)
theorem dX12_breaks_32 : decode cX12_breaks 32 = .ok (.if_icmp .le 8, 3) := dk_if_icmp_le (by decide +kernel)
theorem dX12_breaks_35 : decode cX12_breaks 35 = .ok (.bipush 12, 2) := dk_bipush (by decide +kernel)
theorem dX12_breaks_37 : decode cX12_breaks 37 = .ok (.goto 7, 3) := dk_goto (by decide +kernel)
theorem dX12_breaks_40 : decode cX12_breaks 40 = .ok (.aload_n 0, 1) := dk_aload_n_0 (by decide +kernel)
theorem dX12_breaks_41 : decode cX12_breaks 41 = .ok (.getfield 104, 3) := dk_getfield (by decide +kernel)
theorem dX12_breaks_44 : decode cX12_breaks 44 = .ok (.ishl, 1) := dk_ishl (by decide +kernel)
theorem dX12_breaks_45 : decode cX12_breaks 45 = .ok (.if_icmp .ge 73, 3) := dk_if_icmp_ge (by decide +kernel)
theorem dX12_breaks_48 : decode cX12_breaks 48 = .ok (.iload_n 2, 1) := dk_iload_n_2 (by decide +kernel)
theorem dX12_breaks_49 : decode cX12_breaks 49 = .ok (.ifCond .lt 15, 3) := dk_ifCond_lt (by decide +kernel)
theorem dX12_breaks_52 : decode cX12_breaks 52 = .ok (.iload 4, 2) := dk_iload (by decide +kernel)
theorem dX12_breaks_54 : decode cX12_breaks 54 = .ok (.invokestatic 333, 3) := dk_invokestatic (by decide +kernel)
theorem dX12_breaks_57 : decode cX12_breaks 57 = .ok (.iload_n 2, 1) := dk_iload_n_2 (by decide +kernel)
theorem dX12_breaks_58 : decode cX12_breaks 58 = .ok (.invokestatic 333, 3) := dk_invokestatic (by decide +kernel)
theorem dX12_breaks_61 : decode cX12_breaks 61 = .ok (.if_icmp .gt 51, 3) := dk_if_icmp_gt (by decide +kernel)
theorem dX12_breaks_64 : decode cX12_breaks 64 = .ok (.aload_n 0, 1) := dk_aload_n_0 (by decide +kernel)
theorem dX12_breaks_65 : decode cX12_breaks 65 = .ok (.iload 4, 2) := dk_iload (by decide +kernel)
theorem dX12_breaks_67 : decode cX12_breaks 67 = .ok (.invokevirtual 336, 3) := dk_invokevirtual (by decide +kernel)
theorem dX12_breaks_70 : decode cX12_breaks 70 = .ok (.ifCond .ne 6, 3) := dk_ifCond_ne (by decide +kernel)
theorem dX12_breaks_73 : decode cX12_breaks 73 = .ok (.goto 39, 3) := dk_goto (by decide +kernel)
theorem dX12_breaks_76 : decode cX12_breaks 76 = .ok (.iload_n 2, 1) := dk_iload_n_2 (by decide +kernel)
theorem dX12_breaks_77 : decode cX12_breaks 77 = .ok (.ifCond .lt 21, 3) := dk_ifCond_lt (by decide +kernel)
theorem dX12_breaks_80 : decode cX12_breaks 80 = .ok (.iload 4, 2) := dk_iload (by decide +kernel)
theorem dX12_breaks_82 : decode cX12_breaks 82 = .ok (.invokestatic 333, 3) := dk_invokestatic (by decide +kernel)
theorem dX12_breaks_85 : decode cX12_breaks 85 = .ok (.iload_n 2, 1) := dk_iload_n_2 (by decide +kernel)
theorem dX12_breaks_86 : decode cX12_breaks 86 = .ok (.invokestatic 333, 3) := dk_invokestatic (by decide +kernel)
theorem dX12_breaks_89 : decode cX12_breaks 89 = .ok (.if_icmp .ne 9, 3) := dk_if_icmp_ne (by decide +kernel)
theorem dX12_breaks_92 : decode cX12_breaks 92 = .ok (.iload_n 3, 1) := dk_iload_n_3 (by decide +kernel)
theorem dX12_breaks_93 : decode cX12_breaks 93 = .ok (.iconst 1, 1) := dk_iconst_1 (by decide +kernel)
theorem dX12_breaks_94 : decode cX12_breaks 94 = .ok (.iadd, 1) := dk_iadd (by decide +kernel)
theorem dX12_breaks_95 : decode cX12_breaks 95 = .ok (.goto 4, 3) := dk_goto (by decide +kernel)
theorem dX12_breaks_98 : decode cX12_breaks 98 = .ok (.iconst 1, 1) := dk_iconst_1 (by decide +kernel)
theorem dX12_breaks_99 : decode cX12_breaks 99 = .ok (.istore_n 3, 1) := dk_istore_n_3 (by decide +kernel)
theorem dX12_breaks_100 : decode cX12_breaks 100 = .ok (.iload_n 3, 1) := dk_iload_n_3 (by decide +kernel)
theorem dX12_breaks_101 : decode cX12_breaks 101 = .ok (.iconst 1, 1) := dk_iconst_1 (by decide +kernel)
theorem dX12_breaks_102 : decode cX12_breaks 102 = .ok (.if_icmp .le 7, 3) := dk_if_icmp_le (by decide +kernel)
theorem dX12_breaks_105 : decode cX12_breaks 105 = .ok (.iload_n 2, 1) := dk_iload_n_2 (by decide +kernel)
theorem dX12_breaks_106 : decode cX12_breaks 106 = .ok (.goto 5, 3) := dk_goto (by decide +kernel)
theorem dX12_breaks_109 : decode cX12_breaks 109 = .ok (.iload 4, 2) := dk_iload (by decide +kernel)
theorem dX12_breaks_111 : decode cX12_breaks 111 = .ok (.istore_n 2, 1) := dk_istore_n_2 (by decide +kernel)
theorem dX12_breaks_112 : decode cX12_breaks 112 = .ok (.iinc 4 2, 3) := dk_iinc (by decide +kernel)
theorem dX12_breaks_115 : decode cX12_breaks 115 = .ok (.goto (-92), 3) := dk_goto (by decide +kernel)
theorem dX12_breaks_118 : decode cX12_breaks 118 = .ok (.iload_n 2, 1) := dk_iload_n_2 (by decide +kernel)
theorem dX12_breaks_119 : decode cX12_breaks 119 = .ok (.ifCond .ge 8, 3) := dk_ifCond_ge (by decide +kernel)
theorem dX12_breaks_122 : decode cX12_breaks 122 = .ok (.bipush (-9), 2) := dk_bipush (by decide +kernel)
theorem dX12_breaks_124 : decode cX12_breaks 124 = .ok (.goto 24, 3) := dk_goto (by decide +kernel)
theorem dX12_breaks_127 : decode cX12_breaks 127 = .ok (.iload_n 1, 1) := dk_iload_n_1 (by decide +kernel)
theorem dX12_breaks_128 : decode cX12_breaks 128 = .ok (.ifCond .ne 10, 3) := dk_ifCond_ne (by decide +kernel)
theorem dX12_breaks_131 : decode cX12_breaks 131 = .ok (.iload_n 2, 1) := dk_iload_n_2 (by decide +kernel)
theorem dX12_breaks_132 : decode cX12_breaks 132 = .ok (.invokestatic 333, 3) := dk_invokestatic (by decide +kernel)
theorem dX12_breaks_135 : decode cX12_breaks 135 = .ok (.goto 13, 3) := dk_goto (by decide +kernel)
theorem dX12_breaks_138 : decode cX12_breaks 138 = .ok (.iload_n 1, 1) := dk_iload_n_1 (by decide +kernel)
theorem dX12_breaks_139 : decode cX12_breaks 139 = .ok (.iconst 1, 1) := dk_iconst_1 (by decide +kernel)
theorem dX12_breaks_140 : decode cX12_breaks 140 = .ok (.if_icmp .ne 7, 3) := dk_if_icmp_ne (by decide +kernel)
theorem dX12_breaks_143 : decode cX12_breaks 143 = .ok (.iload_n 3, 1) := dk_iload_n_3 (by decide +kernel)
theorem dX12_breaks_144 : decode cX12_breaks 144 = .ok (.goto 4, 3) := dk_goto (by decide +kernel)
theorem dX12_breaks_147 : decode cX12_breaks 147 = .ok (.iload_n 2, 1) := dk_iload_n_2 (by decide +kernel)
theorem dX12_breaks_148 : decode cX12_breaks 148 = .ok (.ireturn, 1) := dk_ireturn (by decide +kernel)
theorem dX12_could_0 : decode cX12_could 0 = .ok (.aload_n 0, 1) := dk_aload_n_0 (by decide +kernel)
theorem dX12_could_1 : decode cX12_could 1 = .ok (.iload_n 1, 1) := dk_iload_n_1 (by decide +kernel)
theorem dX12_could_2 : decode cX12_could 2 = .ok (.invokevirtual 183, 3) := dk_invokevirtual (by decide +kernel)
theorem dX12_could_5 : decode cX12_could 5 = .ok (.ifCond .ne 9, 3) := dk_ifCond_ne (by decide +kernel)
theorem dX12_could_8 : decode cX12_could 8 = .ok (.aload_n 0, 1) := dk_aload_n_0 (by decide +kernel)
theorem dX12_could_9 : decode cX12_could 9 = .ok (.iconst (-1), 1) := dk_iconst_m1 (by decide +kernel)
theorem dX12_could_10 : decode cX12_could 10 = .ok (.invokevirtual 175, 3) := dk_invokevirtual (by decide +kernel)
theorem dX12_could_13 : decode cX12_could 13 = .ok (.ireturn, 1) := dk_ireturn (by decide +kernel)
theorem dX12_could_14 : decode cX12_could 14 = .ok (.iconst 0, 1) := dk_iconst_0 (by decide +kernel)
theorem dX12_could_15 : decode cX12_could 15 = .ok (.istore_n 3, 1) := dk_istore_n_3 (by decide +kernel)
theorem dX12_could_16 : decode cX12_could 16 = .ok (.iload_n 3, 1) := dk_iload_n_3 (by decide +kernel)
theorem dX12_could_17 : decode cX12_could 17 = .ok (.aload_n 0, 1) := dk_aload_n_0 (by decide +kernel)
theorem dX12_could_18 : decode cX12_could 18 = .ok (.getfield 339, 3) := dk_getfield (by decide +kernel)
theorem dX12_could_21 : decode cX12_could 21 = .ok (.if_icmp .ge 26, 3) := dk_if_icmp_ge (by decide +kernel)
theorem dX12_could_24 : decode cX12_could 24 = .ok (.aload_n 0, 1) := dk_aload_n_0 (by decide +kernel)
theorem dX12_could_25 : decode cX12_could 25 = .ok (.getfield 86, 3) := dk_getfield (by decide +kernel)
theorem dX12_could_28 : decode cX12_could 28 = .ok (.iload_n 3, 1) := dk_iload_n_3 (by decide +kernel)
theorem dX12_could_29 : decode cX12_could 29 = .ok (.iaload, 1) := dk_iaload (by decide +kernel)
theorem dX12_could_30 : decode cX12_could 30 = .ok (.iload_n 1, 1) := dk_iload_n_1 (by decide +kernel)
theorem dX12_could_31 : decode cX12_could 31 = .ok (.if_icmp .ne 10, 3) := dk_if_icmp_ne (by decide +kernel)
theorem dX12_could_34 : decode cX12_could 34 = .ok (.aload_n 0, 1) := dk_aload_n_0 (by decide +kernel)
theorem dX12_could_35 : decode cX12_could 35 = .ok (.bipush (-3), 2) := dk_bipush (by decide +kernel)
theorem dX12_could_37 : decode cX12_could 37 = .ok (.invokevirtual 175, 3) := dk_invokevirtual (by decide +kernel)
theorem dX12_could_40 : decode cX12_could 40 = .ok (.ireturn, 1) := dk_ireturn (by decide +kernel)
theorem dX12_could_41 : decode cX12_could 41 = .ok (.iinc 3 1, 3) := dk_iinc (by decide +kernel)
theorem dX12_could_44 : decode cX12_could 44 = .ok (.goto (-28), 3) := dk_goto (by decide +kernel)
theorem dX12_could_47 : decode cX12_could 47 = .ok (.iload_n 2, 1) := dk_iload_n_2 (by decide +kernel)
theorem dX12_could_48 : decode cX12_could 48 = .ok (.iconst 1, 1) := dk_iconst_1 (by decide +kernel)
theorem dX12_could_49 : decode cX12_could 49 = .ok (.bipush 99, 2) := dk_bipush (by decide +kernel)
theorem dX12_could_51 : decode cX12_could 51 = .ok (.invokestatic 187, 3) := dk_invokestatic (by decide +kernel)
theorem dX12_could_54 : decode cX12_could 54 = .ok (.istore_n 3, 1) := dk_istore_n_3 (by decide +kernel)
theorem dX12_could_55 : decode cX12_could 55 = .ok (.iload_n 3, 1) := dk_iload_n_3 (by decide +kernel)
theorem dX12_could_56 : decode cX12_could 56 = .ok (.ifCond .ne 15, 3) := dk_ifCond_ne (by decide +kernel)
theorem dX12_could_59 : decode cX12_could 59 = .ok (.aload_n 0, 1) := dk_aload_n_0 (by decide +kernel)
theorem dX12_could_60 : decode cX12_could 60 = .ok (.getfield 339, 3) := dk_getfield (by decide +kernel)
theorem dX12_could_63 : decode cX12_could 63 = .ok (.bipush 9, 2) := dk_bipush (by decide +kernel)
theorem dX12_could_65 : decode cX12_could 65 = .ok (.if_icmp .ne 6, 3) := dk_if_icmp_ne (by decide +kernel)
theorem dX12_could_68 : decode cX12_could 68 = .ok (.bipush (-6), 2) := dk_bipush (by decide +kernel)
theorem dX12_could_70 : decode cX12_could 70 = .ok (.istore_n 3, 1) := dk_istore_n_3 (by decide +kernel)
theorem dX12_could_71 : decode cX12_could 71 = .ok (.iload_n 3, 1) := dk_iload_n_3 (by decide +kernel)
theorem dX12_could_72 : decode cX12_could 72 = .ok (.ifCond .eq 9, 3) := dk_ifCond_eq (by decide +kernel)
theorem dX12_could_75 : decode cX12_could 75 = .ok (.aload_n 0, 1) := dk_aload_n_0 (by decide +kernel)
theorem dX12_could_76 : decode cX12_could 76 = .ok (.iload_n 3, 1) := dk_iload_n_3 (by decide +kernel)
theorem dX12_could_77 : decode cX12_could 77 = .ok (.invokevirtual 175, 3) := dk_invokevirtual (by decide +kernel)
theorem dX12_could_80 : decode cX12_could 80 = .ok (.ireturn, 1) := dk_ireturn (by decide +kernel)
theorem dX12_could_81 : decode cX12_could 81 = .ok (.aload_n 0, 1) := dk_aload_n_0 (by decide +kernel)
theorem dX12_could_82 : decode cX12_could 82 = .ok (.getfield 86, 3) := dk_getfield (by decide +kernel)
theorem dX12_could_85 : decode cX12_could 85 = .ok (.aload_n 0, 1) := dk_aload_n_0 (by decide +kernel)
theorem dX12_could_86 : decode cX12_could 86 = .ok (.getfield 339, 3) := dk_getfield (by decide +kernel)
theorem dX12_could_89 : decode cX12_could 89 = .ok (.iload_n 1, 1) := dk_iload_n_1 (by decide +kernel)
theorem dX12_could_90 : decode cX12_could 90 = .ok (.iastore, 1) := dk_iastore (by decide +kernel)
theorem dX12_could_91 : decode cX12_could 91 = .ok (.aload_n 0, 1) := dk_aload_n_0 (by decide +kernel)
theorem dX12_could_92 : decode cX12_could 92 = .ok (.getfield 89, 3) := dk_getfield (by decide +kernel)
theorem dX12_could_95 : decode cX12_could 95 = .ok (.aload_n 0, 1) := dk_aload_n_0 (by decide +kernel)
theorem dX12_could_96 : decode cX12_could 96 = .ok (.getfield 339, 3) := dk_getfield (by decide +kernel)
theorem dX12_could_99 : decode cX12_could 99 = .ok (.iload_n 2, 1) := dk_iload_n_2 (by decide +kernel)
theorem dX12_could_100 : decode cX12_could 100 = .ok (.iastore, 1) := dk_iastore (by decide +kernel)
theorem dX12_could_101 : decode cX12_could 101 = .ok (.aload_n 0, 1) := dk_aload_n_0 (by decide +kernel)
theorem dX12_could_102 : decode cX12_could 102 = .ok (.dup, 1) := dk_dup (by decide +kernel)
theorem dX12_could_103 : decode cX12_could 103 = .ok (.getfield 339, 3) := dk_getfield (by decide +kernel)
theorem dX12_could_106 : decode cX12_could 106 = .ok (.iconst 1, 1) := dk_iconst_1 (by decide +kernel)
theorem dX12_could_107 : decode cX12_could 107 = .ok (.iadd, 1) := dk_iadd (by decide +kernel)
theorem dX12_could_108 : decode cX12_could 108 = .ok (.putfield 339, 3) := dk_putfield (by decide +kernel)
theorem dX12_could_111 : decode cX12_could 111 = .ok (.aload_n 0, 1) := dk_aload_n_0 (by decide +kernel)
theorem dX12_could_112 : decode cX12_could 112 = .ok (.getfield 339, 3) := dk_getfield (by decide +kernel)
theorem dX12_could_115 : decode cX12_could 115 = .ok (.iconst 1, 1) := dk_iconst_1 (by decide +kernel)
theorem dX12_could_116 : decode cX12_could 116 = .ok (.isub, 1) := dk_isub (by decide +kernel)
theorem dX12_could_117 : decode cX12_could 117 = .ok (.ireturn, 1) := dk_ireturn (by decide +kernel)
theorem dX12_boosts_0 : decode cX12_boosts 0 = .ok (.iload_n 1, 1) := dk_iload_n_1 (by decide +kernel)
theorem dX12_boosts_1 : decode cX12_boosts 1 = .ok (.iconst 1, 1) := dk_iconst_1 (by decide +kernel)
theorem dX12_boosts_2 : decode cX12_boosts 2 = .ok (.sipush 999, 3) := dk_sipush (by decide +kernel)
theorem dX12_boosts_5 : decode cX12_boosts 5 = .ok (.invokestatic 187, 3) := dk_invokestatic (by decide +kernel)
theorem dX12_boosts_8 : decode cX12_boosts 8 = .ok (.istore_n 2, 1) := dk_istore_n_2 (by decide +kernel)
theorem dX12_boosts_9 : decode cX12_boosts 9 = .ok (.iload_n 2, 1) := dk_iload_n_2 (by decide +kernel)
theorem dX12_boosts_10 : decode cX12_boosts 10 = .ok (.ifCond .eq 9, 3) := dk_ifCond_eq (by decide +kernel)
theorem dX12_boosts_13 : decode cX12_boosts 13 = .ok (.aload_n 0, 1) := dk_aload_n_0 (by decide +kernel)
theorem dX12_boosts_14 : decode cX12_boosts 14 = .ok (.iload_n 2, 1) := dk_iload_n_2 (by decide +kernel)
theorem dX12_boosts_15 : decode cX12_boosts 15 = .ok (.invokevirtual 175, 3) := dk_invokevirtual (by decide +kernel)
theorem dX12_boosts_18 : decode cX12_boosts 18 = .ok (.ireturn, 1) := dk_ireturn (by decide +kernel)
theorem dX12_boosts_19 : decode cX12_boosts 19 = .ok (.bipush (-9), 2) := dk_bipush (by decide +kernel)
theorem dX12_boosts_21 : decode cX12_boosts 21 = .ok (.istore_n 3, 1) := dk_istore_n_3 (by decide +kernel)
theorem dX12_boosts_22 : decode cX12_boosts 22 = .ok (.iconst 0, 1) := dk_iconst_0 (by decide +kernel)
theorem dX12_boosts_23 : decode cX12_boosts 23 = .ok (.istore 4, 2) := dk_istore (by decide +kernel)
theorem dX12_boosts_25 : decode cX12_boosts 25 = .ok (.iload 4, 2) := dk_iload (by decide +kernel)
theorem dX12_boosts_27 : decode cX12_boosts 27 = .ok (.iconst 1, 1) := dk_iconst_1 (by decide +kernel)
theorem dX12_boosts_28 : decode cX12_boosts 28 = .ok (.aload_n 0, 1) := dk_aload_n_0 (by decide +kernel)
theorem dX12_boosts_29 : decode cX12_boosts 29 = .ok (.getfield 339, 3) := dk_getfield (by decide +kernel)
theorem dX12_boosts_32 : decode cX12_boosts 32 = .ok (.ishl, 1) := dk_ishl (by decide +kernel)
theorem dX12_boosts_33 : decode cX12_boosts 33 = .ok (.if_icmp .ge 136, 3) := dk_if_icmp_ge (by decide +kernel)
theorem dX12_boosts_36 : decode cX12_boosts 36 = .ok (.iload_n 3, 1) := dk_iload_n_3 (by decide +kernel)
theorem dX12_boosts_37 : decode cX12_boosts 37 = .ok (.ifCond .lt 18, 3) := dk_ifCond_lt (by decide +kernel)
theorem dX12_boosts_40 : decode cX12_boosts 40 = .ok (.iload 4, 2) := dk_iload (by decide +kernel)
theorem dX12_boosts_42 : decode cX12_boosts 42 = .ok (.invokestatic 333, 3) := dk_invokestatic (by decide +kernel)
theorem dX12_boosts_45 : decode cX12_boosts 45 = .ok (.iload_n 3, 1) := dk_iload_n_3 (by decide +kernel)
theorem dX12_boosts_46 : decode cX12_boosts 46 = .ok (.invokestatic 333, 3) := dk_invokestatic (by decide +kernel)
theorem dX12_boosts_49 : decode cX12_boosts 49 = .ok (.if_icmp .lt 6, 3) := dk_if_icmp_lt (by decide +kernel)
theorem dX12_boosts_52 : decode cX12_boosts 52 = .ok (.goto 111, 3) := dk_goto (by decide +kernel)
theorem dX12_boosts_55 : decode cX12_boosts 55 = .ok (.iconst 0, 1) := dk_iconst_0 (by decide +kernel)
theorem dX12_boosts_56 : decode cX12_boosts 56 = .ok (.istore 5, 2) := dk_istore (by decide +kernel)
theorem dX12_boosts_58 : decode cX12_boosts 58 = .ok (.iload 5, 2) := dk_iload (by decide +kernel)
theorem dX12_boosts_60 : decode cX12_boosts 60 = .ok (.aload_n 0, 1) := dk_aload_n_0 (by decide +kernel)
theorem dX12_boosts_61 : decode cX12_boosts 61 = .ok (.getfield 339, 3) := dk_getfield (by decide +kernel)
theorem dX12_boosts_64 : decode cX12_boosts 64 = .ok (.if_icmp .ge 43, 3) := dk_if_icmp_ge (by decide +kernel)
theorem dX12_boosts_67 : decode cX12_boosts 67 = .ok (.aload_n 0, 1) := dk_aload_n_0 (by decide +kernel)
theorem dX12_boosts_68 : decode cX12_boosts 68 = .ok (.getfield 22, 3) := dk_getfield (by decide +kernel)
theorem dX12_boosts_71 : decode cX12_boosts 71 = .ok (.aload_n 0, 1) := dk_aload_n_0 (by decide +kernel)
theorem dX12_boosts_72 : decode cX12_boosts 72 = .ok (.getfield 86, 3) := dk_getfield (by decide +kernel)
theorem dX12_boosts_75 : decode cX12_boosts 75 = .ok (.iload 5, 2) := dk_iload (by decide +kernel)
theorem dX12_boosts_77 : decode cX12_boosts 77 = .ok (.iaload, 1) := dk_iaload (by decide +kernel)
theorem dX12_boosts_78 : decode cX12_boosts 78 = .ok (.iload 4, 2) := dk_iload (by decide +kernel)
theorem dX12_boosts_80 : decode cX12_boosts 80 = .ok (.iload 5, 2) := dk_iload (by decide +kernel)
theorem dX12_boosts_82 : decode cX12_boosts 82 = .ok (.ishr, 1) := dk_ishr (by decide +kernel)
theorem dX12_boosts_83 : decode cX12_boosts 83 = .ok (.iconst 1, 1) := dk_iconst_1 (by decide +kernel)
theorem dX12_boosts_84 : decode cX12_boosts 84 = .ok (.iand, 1) := dk_iand (by decide +kernel)
theorem dX12_boosts_85 : decode cX12_boosts 85 = .ok (.iconst 1, 1) := dk_iconst_1 (by decide +kernel)
theorem dX12_boosts_86 : decode cX12_boosts 86 = .ok (.if_icmp .ne 13, 3) := dk_if_icmp_ne (by decide +kernel)
theorem dX12_boosts_89 : decode cX12_boosts 89 = .ok (.aload_n 0, 1) := dk_aload_n_0 (by decide +kernel)
theorem dX12_boosts_90 : decode cX12_boosts 90 = .ok (.getfield 89, 3) := dk_getfield (by decide +kernel)
theorem dX12_boosts_93 : decode cX12_boosts 93 = .ok (.iload 5, 2) := dk_iload (by decide +kernel)
theorem dX12_boosts_95 : decode cX12_boosts 95 = .ok (.iaload, 1) := dk_iaload (by decide +kernel)
theorem dX12_boosts_96 : decode cX12_boosts 96 = .ok (.goto 4, 3) := dk_goto (by decide +kernel)
theorem dX12_boosts_99 : decode cX12_boosts 99 = .ok (.iconst 0, 1) := dk_iconst_0 (by decide +kernel)
theorem dX12_boosts_100 : decode cX12_boosts 100 = .ok (.iastore, 1) := dk_iastore (by decide +kernel)
theorem dX12_boosts_101 : decode cX12_boosts 101 = .ok (.iinc 5 1, 3) := dk_iinc (by decide +kernel)
theorem dX12_boosts_104 : decode cX12_boosts 104 = .ok (.goto (-46), 3) := dk_goto (by decide +kernel)
theorem dX12_boosts_107 : decode cX12_boosts 107 = .ok (.aload_n 0, 1) := dk_aload_n_0 (by decide +kernel)
theorem dX12_boosts_108 : decode cX12_boosts 108 = .ok (.iload_n 1, 1) := dk_iload_n_1 (by decide +kernel)
theorem dX12_boosts_109 : decode cX12_boosts 109 = .ok (.aload_n 0, 1) := dk_aload_n_0 (by decide +kernel)
theorem dX12_boosts_110 : decode cX12_boosts 110 = .ok (.getfield 172, 3) := dk_getfield (by decide +kernel)
theorem dX12_boosts_113 : decode cX12_boosts 113 = .ok (.iconst (-1), 1) := dk_iconst_m1 (by decide +kernel)
theorem dX12_boosts_114 : decode cX12_boosts 114 = .ok (.invokevirtual 197, 3) := dk_invokevirtual (by decide +kernel)
theorem dX12_boosts_117 : decode cX12_boosts 117 = .ok (.iconst 1, 1) := dk_iconst_1 (by decide +kernel)
theorem dX12_boosts_118 : decode cX12_boosts 118 = .ok (.istore 5, 2) := dk_istore (by decide +kernel)
theorem dX12_boosts_120 : decode cX12_boosts 120 = .ok (.iconst 0, 1) := dk_iconst_0 (by decide +kernel)
theorem dX12_boosts_121 : decode cX12_boosts 121 = .ok (.istore 6, 2) := dk_istore (by decide +kernel)
theorem dX12_boosts_123 : decode cX12_boosts 123 = .ok (.iload 6, 2) := dk_iload (by decide +kernel)
theorem dX12_boosts_125 : decode cX12_boosts 125 = .ok (.aload_n 0, 1) := dk_aload_n_0 (by decide +kernel)
theorem dX12_boosts_126 : decode cX12_boosts 126 = .ok (.getfield 166, 3) := dk_getfield (by decide +kernel)
theorem dX12_boosts_129 : decode cX12_boosts 129 = .ok (.if_icmp .ge 22, 3) := dk_if_icmp_ge (by decide +kernel)
theorem dX12_boosts_132 : decode cX12_boosts 132 = .ok (.iload 5, 2) := dk_iload (by decide +kernel)
theorem dX12_boosts_134 : decode cX12_boosts 134 = .ok (.ifCond .eq 17, 3) := dk_ifCond_eq (by decide +kernel)
theorem dX12_boosts_137 : decode cX12_boosts 137 = .ok (.aload_n 0, 1) := dk_aload_n_0 (by decide +kernel)
theorem dX12_boosts_138 : decode cX12_boosts 138 = .ok (.iload 6, 2) := dk_iload (by decide +kernel)
theorem dX12_boosts_140 : decode cX12_boosts 140 = .ok (.invokevirtual 205, 3) := dk_invokevirtual (by decide +kernel)
theorem dX12_boosts_143 : decode cX12_boosts 143 = .ok (.istore 5, 2) := dk_istore (by decide +kernel)
theorem dX12_boosts_145 : decode cX12_boosts 145 = .ok (.iinc 6 1, 3) := dk_iinc (by decide +kernel)
theorem dX12_boosts_148 : decode cX12_boosts 148 = .ok (.goto (-25), 3) := dk_goto (by decide +kernel)
theorem dX12_boosts_151 : decode cX12_boosts 151 = .ok (.iload 5, 2) := dk_iload (by decide +kernel)
theorem dX12_boosts_153 : decode cX12_boosts 153 = .ok (.ifCond .eq 8, 3) := dk_ifCond_eq (by decide +kernel)
theorem dX12_boosts_156 : decode cX12_boosts 156 = .ok (.iload 4, 2) := dk_iload (by decide +kernel)
theorem dX12_boosts_158 : decode cX12_boosts 158 = .ok (.goto 4, 3) := dk_goto (by decide +kernel)
theorem dX12_boosts_161 : decode cX12_boosts 161 = .ok (.iload_n 3, 1) := dk_iload_n_3 (by decide +kernel)
theorem dX12_boosts_162 : decode cX12_boosts 162 = .ok (.istore_n 3, 1) := dk_istore_n_3 (by decide +kernel)
theorem dX12_boosts_163 : decode cX12_boosts 163 = .ok (.iinc 4 1, 3) := dk_iinc (by decide +kernel)
theorem dX12_boosts_166 : decode cX12_boosts 166 = .ok (.goto (-141), 3) := dk_goto (by decide +kernel)
theorem dX12_boosts_169 : decode cX12_boosts 169 = .ok (.iconst 0, 1) := dk_iconst_0 (by decide +kernel)
theorem dX12_boosts_170 : decode cX12_boosts 170 = .ok (.istore 4, 2) := dk_istore (by decide +kernel)
theorem dX12_boosts_172 : decode cX12_boosts 172 = .ok (.iload 4, 2) := dk_iload (by decide +kernel)
theorem dX12_boosts_174 : decode cX12_boosts 174 = .ok (.aload_n 0, 1) := dk_aload_n_0 (by decide +kernel)
theorem dX12_boosts_175 : decode cX12_boosts 175 = .ok (.getfield 339, 3) := dk_getfield (by decide +kernel)
theorem dX12_boosts_178 : decode cX12_boosts 178 = .ok (.if_icmp .ge 22, 3) := dk_if_icmp_ge (by decide +kernel)
theorem dX12_boosts_181 : decode cX12_boosts 181 = .ok (.aload_n 0, 1) := dk_aload_n_0 (by decide +kernel)
theorem dX12_boosts_182 : decode cX12_boosts 182 = .ok (.getfield 22, 3) := dk_getfield (by decide +kernel)
theorem dX12_boosts_185 : decode cX12_boosts 185 = .ok (.aload_n 0, 1) := dk_aload_n_0 (by decide +kernel)
theorem dX12_boosts_186 : decode cX12_boosts 186 = .ok (.getfield 86, 3) := dk_getfield (by decide +kernel)
theorem dX12_boosts_189 : decode cX12_boosts 189 = .ok (.iload 4, 2) := dk_iload (by decide +kernel)
theorem dX12_boosts_191 : decode cX12_boosts 191 = .ok (.iaload, 1) := dk_iaload (by decide +kernel)
theorem dX12_boosts_192 : decode cX12_boosts 192 = .ok (.iconst 0, 1) := dk_iconst_0 (by decide +kernel)
theorem dX12_boosts_193 : decode cX12_boosts 193 = .ok (.iastore, 1) := dk_iastore (by decide +kernel)
theorem dX12_boosts_194 : decode cX12_boosts 194 = .ok (.iinc 4 1, 3) := dk_iinc (by decide +kernel)
theorem dX12_boosts_197 : decode cX12_boosts 197 = .ok (.goto (-25), 3) := dk_goto (by decide +kernel)
theorem dX12_boosts_200 : decode cX12_boosts 200 = .ok (.iload_n 3, 1) := dk_iload_n_3 (by decide +kernel)
theorem dX12_boosts_201 : decode cX12_boosts 201 = .ok (.ireturn, 1) := dk_ireturn (by decide +kernel)
theorem dX12_asks_0 : decode cX12_asks 0 = .ok (.aload_n 0, 1) := dk_aload_n_0 (by decide +kernel)
theorem dX12_asks_1 : decode cX12_asks 1 = .ok (.getfield 59, 3) := dk_getfield (by decide +kernel)
theorem dX12_asks_4 : decode cX12_asks 4 = .ok (.iload_n 1, 1) := dk_iload_n_1 (by decide +kernel)
theorem dX12_asks_5 : decode cX12_asks 5 = .ok (.iaload, 1) := dk_iaload (by decide +kernel)
theorem dX12_asks_6 : decode cX12_asks 6 = .ok (.bipush 6, 2) := dk_bipush (by decide +kernel)
theorem dX12_asks_8 : decode cX12_asks 8 = .ok (.if_icmp .eq 20, 3) := dk_if_icmp_eq (by decide +kernel)
theorem dX12_asks_11 : decode cX12_asks 11 = .ok (.aload_n 0, 1) := dk_aload_n_0 (by decide +kernel)
theorem dX12_asks_12 : decode cX12_asks 12 = .ok (.aload_n 0, 1) := dk_aload_n_0 (by decide +kernel)
theorem dX12_asks_13 : decode cX12_asks 13 = .ok (.getfield 65, 3) := dk_getfield (by decide +kernel)
theorem dX12_asks_16 : decode cX12_asks 16 = .ok (.iload_n 1, 1) := dk_iload_n_1 (by decide +kernel)
theorem dX12_asks_17 : decode cX12_asks 17 = .ok (.iaload, 1) := dk_iaload (by decide +kernel)
theorem dX12_asks_18 : decode cX12_asks 18 = .ok (.aload_n 0, 1) := dk_aload_n_0 (by decide +kernel)
theorem dX12_asks_19 : decode cX12_asks 19 = .ok (.getfield 71, 3) := dk_getfield (by decide +kernel)
theorem dX12_asks_22 : decode cX12_asks 22 = .ok (.iload_n 1, 1) := dk_iload_n_1 (by decide +kernel)
theorem dX12_asks_23 : decode cX12_asks 23 = .ok (.iaload, 1) := dk_iaload (by decide +kernel)
theorem dX12_asks_24 : decode cX12_asks 24 = .ok (.iload_n 1, 1) := dk_iload_n_1 (by decide +kernel)
theorem dX12_asks_25 : decode cX12_asks 25 = .ok (.invokevirtual 197, 3) := dk_invokevirtual (by decide +kernel)
theorem dX12_asks_28 : decode cX12_asks 28 = .ok (.iconst 0, 1) := dk_iconst_0 (by decide +kernel)
theorem dX12_asks_29 : decode cX12_asks 29 = .ok (.istore_n 3, 1) := dk_istore_n_3 (by decide +kernel)
theorem dX12_asks_30 : decode cX12_asks 30 = .ok (.iload_n 3, 1) := dk_iload_n_3 (by decide +kernel)
theorem dX12_asks_31 : decode cX12_asks 31 = .ok (.aload_n 0, 1) := dk_aload_n_0 (by decide +kernel)
theorem dX12_asks_32 : decode cX12_asks 32 = .ok (.getfield 166, 3) := dk_getfield (by decide +kernel)
theorem dX12_asks_35 : decode cX12_asks 35 = .ok (.if_icmp .ge 48, 3) := dk_if_icmp_ge (by decide +kernel)
theorem dX12_asks_38 : decode cX12_asks 38 = .ok (.aload_n 0, 1) := dk_aload_n_0 (by decide +kernel)
theorem dX12_asks_39 : decode cX12_asks 39 = .ok (.getfield 150, 3) := dk_getfield (by decide +kernel)
theorem dX12_asks_42 : decode cX12_asks 42 = .ok (.iload_n 3, 1) := dk_iload_n_3 (by decide +kernel)
theorem dX12_asks_43 : decode cX12_asks 43 = .ok (.aload_n 0, 1) := dk_aload_n_0 (by decide +kernel)
theorem dX12_asks_44 : decode cX12_asks 44 = .ok (.getfield 59, 3) := dk_getfield (by decide +kernel)
theorem dX12_asks_47 : decode cX12_asks 47 = .ok (.iload_n 1, 1) := dk_iload_n_1 (by decide +kernel)
theorem dX12_asks_48 : decode cX12_asks 48 = .ok (.iaload, 1) := dk_iaload (by decide +kernel)
theorem dX12_asks_49 : decode cX12_asks 49 = .ok (.bipush 6, 2) := dk_bipush (by decide +kernel)
theorem dX12_asks_51 : decode cX12_asks 51 = .ok (.if_icmp .eq 24, 3) := dk_if_icmp_eq (by decide +kernel)
theorem dX12_asks_54 : decode cX12_asks 54 = .ok (.aload_n 0, 1) := dk_aload_n_0 (by decide +kernel)
theorem dX12_asks_55 : decode cX12_asks 55 = .ok (.iload_n 3, 1) := dk_iload_n_3 (by decide +kernel)
theorem dX12_asks_56 : decode cX12_asks 56 = .ok (.invokevirtual 205, 3) := dk_invokevirtual (by decide +kernel)
theorem dX12_asks_59 : decode cX12_asks 59 = .ok (.ifCond .eq 16, 3) := dk_ifCond_eq (by decide +kernel)
theorem dX12_asks_62 : decode cX12_asks 62 = .ok (.aload_n 0, 1) := dk_aload_n_0 (by decide +kernel)
theorem dX12_asks_63 : decode cX12_asks 63 = .ok (.iload_n 3, 1) := dk_iload_n_3 (by decide +kernel)
theorem dX12_asks_64 : decode cX12_asks 64 = .ok (.iload_n 1, 1) := dk_iload_n_1 (by decide +kernel)
theorem dX12_asks_65 : decode cX12_asks 65 = .ok (.invokevirtual 242, 3) := dk_invokevirtual (by decide +kernel)
theorem dX12_asks_68 : decode cX12_asks 68 = .ok (.ifCond .le 7, 3) := dk_ifCond_le (by decide +kernel)
theorem dX12_asks_71 : decode cX12_asks 71 = .ok (.iconst 1, 1) := dk_iconst_1 (by decide +kernel)
theorem dX12_asks_72 : decode cX12_asks 72 = .ok (.goto 4, 3) := dk_goto (by decide +kernel)
theorem dX12_asks_75 : decode cX12_asks 75 = .ok (.iconst 0, 1) := dk_iconst_0 (by decide +kernel)
theorem dX12_asks_76 : decode cX12_asks 76 = .ok (.bastore, 1) := dk_bastore (by decide +kernel)
theorem dX12_asks_77 : decode cX12_asks 77 = .ok (.iinc 3 1, 3) := dk_iinc (by decide +kernel)
theorem dX12_asks_80 : decode cX12_asks 80 = .ok (.goto (-50), 3) := dk_goto (by decide +kernel)
theorem dX12_asks_83 : decode cX12_asks 83 = .ok (.aload_n 0, 1) := dk_aload_n_0 (by decide +kernel)
theorem dX12_asks_84 : decode cX12_asks 84 = .ok (.iload_n 2, 1) := dk_iload_n_2 (by decide +kernel)
theorem dX12_asks_85 : decode cX12_asks 85 = .ok (.aload_n 0, 1) := dk_aload_n_0 (by decide +kernel)
theorem dX12_asks_86 : decode cX12_asks 86 = .ok (.getfield 172, 3) := dk_getfield (by decide +kernel)
theorem dX12_asks_89 : decode cX12_asks 89 = .ok (.iconst (-1), 1) := dk_iconst_m1 (by decide +kernel)
theorem dX12_asks_90 : decode cX12_asks 90 = .ok (.invokevirtual 197, 3) := dk_invokevirtual (by decide +kernel)
theorem dX12_asks_93 : decode cX12_asks 93 = .ok (.iconst 0, 1) := dk_iconst_0 (by decide +kernel)
theorem dX12_asks_94 : decode cX12_asks 94 = .ok (.istore_n 3, 1) := dk_istore_n_3 (by decide +kernel)
theorem dX12_asks_95 : decode cX12_asks 95 = .ok (.iload_n 3, 1) := dk_iload_n_3 (by decide +kernel)
theorem dX12_asks_96 : decode cX12_asks 96 = .ok (.aload_n 0, 1) := dk_aload_n_0 (by decide +kernel)
theorem dX12_asks_97 : decode cX12_asks 97 = .ok (.getfield 166, 3) := dk_getfield (by decide +kernel)
theorem dX12_asks_100 : decode cX12_asks 100 = .ok (.if_icmp .ge 20, 3) := dk_if_icmp_ge (by decide +kernel)
theorem dX12_asks_103 : decode cX12_asks 103 = .ok (.aload_n 0, 1) := dk_aload_n_0 (by decide +kernel)
theorem dX12_asks_104 : decode cX12_asks 104 = .ok (.getfield 153, 3) := dk_getfield (by decide +kernel)
theorem dX12_asks_107 : decode cX12_asks 107 = .ok (.iload_n 3, 1) := dk_iload_n_3 (by decide +kernel)
theorem dX12_asks_108 : decode cX12_asks 108 = .ok (.aload_n 0, 1) := dk_aload_n_0 (by decide +kernel)
theorem dX12_asks_109 : decode cX12_asks 109 = .ok (.iload_n 3, 1) := dk_iload_n_3 (by decide +kernel)
theorem dX12_asks_110 : decode cX12_asks 110 = .ok (.invokevirtual 205, 3) := dk_invokevirtual (by decide +kernel)
theorem dX12_asks_113 : decode cX12_asks 113 = .ok (.bastore, 1) := dk_bastore (by decide +kernel)
theorem dX12_asks_114 : decode cX12_asks 114 = .ok (.iinc 3 1, 3) := dk_iinc (by decide +kernel)
theorem dX12_asks_117 : decode cX12_asks 117 = .ok (.goto (-22), 3) := dk_goto (by decide +kernel)
theorem dX12_asks_120 : decode cX12_asks 120 = .ok (.return_, 1) := dk_return_ (by decide +kernel)
theorem dX12_coversBy_0 : decode cX12_coversBy 0 = .ok (.iconst 0, 1) := dk_iconst_0 (by decide +kernel)
theorem dX12_coversBy_1 : decode cX12_coversBy 1 = .ok (.istore_n 2, 1) := dk_istore_n_2 (by decide +kernel)
theorem dX12_coversBy_2 : decode cX12_coversBy 2 = .ok (.iconst 0, 1) := dk_iconst_0 (by decide +kernel)
theorem dX12_coversBy_3 : decode cX12_coversBy 3 = .ok (.istore_n 3, 1) := dk_istore_n_3 (by decide +kernel)
theorem dX12_coversBy_4 : decode cX12_coversBy 4 = .ok (.iload_n 3, 1) := dk_iload_n_3 (by decide +kernel)
theorem dX12_coversBy_5 : decode cX12_coversBy 5 = .ok (.aload_n 0, 1) := dk_aload_n_0 (by decide +kernel)
theorem dX12_coversBy_6 : decode cX12_coversBy 6 = .ok (.getfield 166, 3) := dk_getfield (by decide +kernel)
theorem dX12_coversBy_9 : decode cX12_coversBy 9 = .ok (.if_icmp .ge 46, 3) := dk_if_icmp_ge (by decide +kernel)
theorem dX12_coversBy_12 : decode cX12_coversBy 12 = .ok (.iload_n 2, 1) := dk_iload_n_2 (by decide +kernel)
theorem dX12_coversBy_13 : decode cX12_coversBy 13 = .ok (.aload_n 0, 1) := dk_aload_n_0 (by decide +kernel)
theorem dX12_coversBy_14 : decode cX12_coversBy 14 = .ok (.getfield 150, 3) := dk_getfield (by decide +kernel)
theorem dX12_coversBy_17 : decode cX12_coversBy 17 = .ok (.iload_n 3, 1) := dk_iload_n_3 (by decide +kernel)
theorem dX12_coversBy_18 : decode cX12_coversBy 18 = .ok (.baload, 1) := dk_baload (by decide +kernel)
theorem dX12_coversBy_19 : decode cX12_coversBy 19 = .ok (.ifCond .eq 27, 3) := dk_ifCond_eq (by decide +kernel)
theorem dX12_coversBy_22 : decode cX12_coversBy 22 = .ok (.aload_n 0, 1) := dk_aload_n_0 (by decide +kernel)
theorem dX12_coversBy_23 : decode cX12_coversBy 23 = .ok (.getfield 153, 3) := dk_getfield (by decide +kernel)
theorem dX12_coversBy_26 : decode cX12_coversBy 26 = .ok (.iload_n 3, 1) := dk_iload_n_3 (by decide +kernel)
theorem dX12_coversBy_27 : decode cX12_coversBy 27 = .ok (.baload, 1) := dk_baload (by decide +kernel)
theorem dX12_coversBy_28 : decode cX12_coversBy 28 = .ok (.ifCond .eq 18, 3) := dk_ifCond_eq (by decide +kernel)
theorem dX12_coversBy_31 : decode cX12_coversBy 31 = .ok (.aload_n 0, 1) := dk_aload_n_0 (by decide +kernel)
theorem dX12_coversBy_32 : decode cX12_coversBy 32 = .ok (.getfield 40, 3) := dk_getfield (by decide +kernel)
theorem dX12_coversBy_35 : decode cX12_coversBy 35 = .ok (.iload_n 3, 1) := dk_iload_n_3 (by decide +kernel)
theorem dX12_coversBy_36 : decode cX12_coversBy 36 = .ok (.iaload, 1) := dk_iaload (by decide +kernel)
theorem dX12_coversBy_37 : decode cX12_coversBy 37 = .ok (.iload_n 1, 1) := dk_iload_n_1 (by decide +kernel)
theorem dX12_coversBy_38 : decode cX12_coversBy 38 = .ok (.iand, 1) := dk_iand (by decide +kernel)
theorem dX12_coversBy_39 : decode cX12_coversBy 39 = .ok (.ifCond .eq 7, 3) := dk_ifCond_eq (by decide +kernel)
theorem dX12_coversBy_42 : decode cX12_coversBy 42 = .ok (.iconst 1, 1) := dk_iconst_1 (by decide +kernel)
theorem dX12_coversBy_43 : decode cX12_coversBy 43 = .ok (.goto 4, 3) := dk_goto (by decide +kernel)
theorem dX12_coversBy_46 : decode cX12_coversBy 46 = .ok (.iconst 0, 1) := dk_iconst_0 (by decide +kernel)
theorem dX12_coversBy_47 : decode cX12_coversBy 47 = .ok (.iadd, 1) := dk_iadd (by decide +kernel)
theorem dX12_coversBy_48 : decode cX12_coversBy 48 = .ok (.istore_n 2, 1) := dk_istore_n_2 (by decide +kernel)
theorem dX12_coversBy_49 : decode cX12_coversBy 49 = .ok (.iinc 3 1, 3) := dk_iinc (by decide +kernel)
theorem dX12_coversBy_52 : decode cX12_coversBy 52 = .ok (.goto (-48), 3) := dk_goto (by decide +kernel)
theorem dX12_coversBy_55 : decode cX12_coversBy 55 = .ok (.iload_n 2, 1) := dk_iload_n_2 (by decide +kernel)
theorem dX12_coversBy_56 : decode cX12_coversBy 56 = .ok (.ireturn, 1) := dk_ireturn (by decide +kernel)
theorem dX12_counting_0 : decode cX12_counting 0 = .ok (.aload_n 0, 1) := dk_aload_n_0 (by decide +kernel)
theorem dX12_counting_1 : decode cX12_counting 1 = .ok (.iconst 0, 1) := dk_iconst_0 (by decide +kernel)
theorem dX12_counting_2 : decode cX12_counting 2 = .ok (.putfield 342, 3) := dk_putfield (by decide +kernel)
theorem dX12_counting_5 : decode cX12_counting 5 = .ok (.iconst 0, 1) := dk_iconst_0 (by decide +kernel)
theorem dX12_counting_6 : decode cX12_counting 6 = .ok (.istore_n 1, 1) := dk_istore_n_1 (by decide +kernel)
theorem dX12_counting_7 : decode cX12_counting 7 = .ok (.iload_n 1, 1) := dk_iload_n_1 (by decide +kernel)
theorem dX12_counting_8 : decode cX12_counting 8 = .ok (.aload_n 0, 1) := dk_aload_n_0 (by decide +kernel)
theorem dX12_counting_9 : decode cX12_counting 9 = .ok (.getfield 166, 3) := dk_getfield (by decide +kernel)
theorem dX12_counting_12 : decode cX12_counting 12 = .ok (.if_icmp .ge 55, 3) := dk_if_icmp_ge (by decide +kernel)
theorem dX12_counting_15 : decode cX12_counting 15 = .ok (.aload_n 0, 1) := dk_aload_n_0 (by decide +kernel)
theorem dX12_counting_16 : decode cX12_counting 16 = .ok (.getfield 150, 3) := dk_getfield (by decide +kernel)
theorem dX12_counting_19 : decode cX12_counting 19 = .ok (.iload_n 1, 1) := dk_iload_n_1 (by decide +kernel)
theorem dX12_counting_20 : decode cX12_counting 20 = .ok (.baload, 1) := dk_baload (by decide +kernel)
theorem dX12_counting_21 : decode cX12_counting 21 = .ok (.ifCond .eq 40, 3) := dk_ifCond_eq (by decide +kernel)
theorem dX12_counting_24 : decode cX12_counting 24 = .ok (.aload_n 0, 1) := dk_aload_n_0 (by decide +kernel)
theorem dX12_counting_25 : decode cX12_counting 25 = .ok (.getfield 153, 3) := dk_getfield (by decide +kernel)
theorem dX12_counting_28 : decode cX12_counting 28 = .ok (.iload_n 1, 1) := dk_iload_n_1 (by decide +kernel)
theorem dX12_counting_29 : decode cX12_counting 29 = .ok (.baload, 1) := dk_baload (by decide +kernel)
theorem dX12_counting_30 : decode cX12_counting 30 = .ok (.ifCond .ne 6, 3) := dk_ifCond_ne (by decide +kernel)
theorem dX12_counting_33 : decode cX12_counting 33 = .ok (.goto 28, 3) := dk_goto (by decide +kernel)
theorem dX12_counting_36 : decode cX12_counting 36 = .ok (.aload_n 0, 1) := dk_aload_n_0 (by decide +kernel)
theorem dX12_counting_37 : decode cX12_counting 37 = .ok (.getfield 156, 3) := dk_getfield (by decide +kernel)
theorem dX12_counting_40 : decode cX12_counting 40 = .ok (.aload_n 0, 1) := dk_aload_n_0 (by decide +kernel)
theorem dX12_counting_41 : decode cX12_counting 41 = .ok (.getfield 342, 3) := dk_getfield (by decide +kernel)
theorem dX12_counting_44 : decode cX12_counting 44 = .ok (.aload_n 0, 1) := dk_aload_n_0 (by decide +kernel)
theorem dX12_counting_45 : decode cX12_counting 45 = .ok (.getfield 40, 3) := dk_getfield (by decide +kernel)
theorem dX12_counting_48 : decode cX12_counting 48 = .ok (.iload_n 1, 1) := dk_iload_n_1 (by decide +kernel)
theorem dX12_counting_49 : decode cX12_counting 49 = .ok (.iaload, 1) := dk_iaload (by decide +kernel)
theorem dX12_counting_50 : decode cX12_counting 50 = .ok (.iastore, 1) := dk_iastore (by decide +kernel)
theorem dX12_counting_51 : decode cX12_counting 51 = .ok (.aload_n 0, 1) := dk_aload_n_0 (by decide +kernel)
theorem dX12_counting_52 : decode cX12_counting 52 = .ok (.dup, 1) := dk_dup (by decide +kernel)
theorem dX12_counting_53 : decode cX12_counting 53 = .ok (.getfield 342, 3) := dk_getfield (by decide +kernel)
theorem dX12_counting_56 : decode cX12_counting 56 = .ok (.iconst 1, 1) := dk_iconst_1 (by decide +kernel)
theorem dX12_counting_57 : decode cX12_counting 57 = .ok (.iadd, 1) := dk_iadd (by decide +kernel)
theorem dX12_counting_58 : decode cX12_counting 58 = .ok (.putfield 342, 3) := dk_putfield (by decide +kernel)
theorem dX12_counting_61 : decode cX12_counting 61 = .ok (.iinc 1 1, 3) := dk_iinc (by decide +kernel)
theorem dX12_counting_64 : decode cX12_counting 64 = .ok (.goto (-57), 3) := dk_goto (by decide +kernel)
theorem dX12_counting_67 : decode cX12_counting 67 = .ok (.return_, 1) := dk_return_ (by decide +kernel)
theorem dX12_isEnough_0 : decode cX12_isEnough 0 = .ok (.iconst 0, 1) := dk_iconst_0 (by decide +kernel)
theorem dX12_isEnough_1 : decode cX12_isEnough 1 = .ok (.istore_n 3, 1) := dk_istore_n_3 (by decide +kernel)
theorem dX12_isEnough_2 : decode cX12_isEnough 2 = .ok (.iconst 0, 1) := dk_iconst_0 (by decide +kernel)
theorem dX12_isEnough_3 : decode cX12_isEnough 3 = .ok (.istore 4, 2) := dk_istore (by decide +kernel)
theorem dX12_isEnough_5 : decode cX12_isEnough 5 = .ok (.iload 4, 2) := dk_iload (by decide +kernel)
theorem dX12_isEnough_7 : decode cX12_isEnough 7 = .ok (.aload_n 0, 1) := dk_aload_n_0 (by decide +kernel)
theorem dX12_isEnough_8 : decode cX12_isEnough 8 = .ok (.getfield 342, 3) := dk_getfield (by decide +kernel)
theorem dX12_isEnough_11 : decode cX12_isEnough 11 = .ok (.if_icmp .ge 29, 3) := dk_if_icmp_ge (by decide +kernel)
theorem dX12_isEnough_14 : decode cX12_isEnough 14 = .ok (.iload_n 3, 1) := dk_iload_n_3 (by decide +kernel)
theorem dX12_isEnough_15 : decode cX12_isEnough 15 = .ok (.aload_n 0, 1) := dk_aload_n_0 (by decide +kernel)
theorem dX12_isEnough_16 : decode cX12_isEnough 16 = .ok (.getfield 156, 3) := dk_getfield (by decide +kernel)
theorem dX12_isEnough_19 : decode cX12_isEnough 19 = .ok (.iload 4, 2) := dk_iload (by decide +kernel)
theorem dX12_isEnough_21 : decode cX12_isEnough 21 = .ok (.iaload, 1) := dk_iaload (by decide +kernel)
theorem dX12_isEnough_22 : decode cX12_isEnough 22 = .ok (.iload_n 1, 1) := dk_iload_n_1 (by decide +kernel)
theorem dX12_isEnough_23 : decode cX12_isEnough 23 = .ok (.iand, 1) := dk_iand (by decide +kernel)
theorem dX12_isEnough_24 : decode cX12_isEnough 24 = .ok (.ifCond .eq 7, 3) := dk_ifCond_eq (by decide +kernel)
theorem dX12_isEnough_27 : decode cX12_isEnough 27 = .ok (.iconst 1, 1) := dk_iconst_1 (by decide +kernel)
theorem dX12_isEnough_28 : decode cX12_isEnough 28 = .ok (.goto 4, 3) := dk_goto (by decide +kernel)
theorem dX12_isEnough_31 : decode cX12_isEnough 31 = .ok (.iconst 0, 1) := dk_iconst_0 (by decide +kernel)
theorem dX12_isEnough_32 : decode cX12_isEnough 32 = .ok (.iadd, 1) := dk_iadd (by decide +kernel)
theorem dX12_isEnough_33 : decode cX12_isEnough 33 = .ok (.istore_n 3, 1) := dk_istore_n_3 (by decide +kernel)
theorem dX12_isEnough_34 : decode cX12_isEnough 34 = .ok (.iinc 4 1, 3) := dk_iinc (by decide +kernel)
theorem dX12_isEnough_37 : decode cX12_isEnough 37 = .ok (.goto (-32), 3) := dk_goto (by decide +kernel)
theorem dX12_isEnough_40 : decode cX12_isEnough 40 = .ok (.iload_n 3, 1) := dk_iload_n_3 (by decide +kernel)
theorem dX12_isEnough_41 : decode cX12_isEnough 41 = .ok (.iload_n 2, 1) := dk_iload_n_2 (by decide +kernel)
theorem dX12_isEnough_42 : decode cX12_isEnough 42 = .ok (.if_icmp .lt 7, 3) := dk_if_icmp_lt (by decide +kernel)
theorem dX12_isEnough_45 : decode cX12_isEnough 45 = .ok (.iconst 1, 1) := dk_iconst_1 (by decide +kernel)
theorem dX12_isEnough_46 : decode cX12_isEnough 46 = .ok (.goto 4, 3) := dk_goto (by decide +kernel)
theorem dX12_isEnough_49 : decode cX12_isEnough 49 = .ok (.iconst 0, 1) := dk_iconst_0 (by decide +kernel)
theorem dX12_isEnough_50 : decode cX12_isEnough 50 = .ok (.ireturn, 1) := dk_ireturn (by decide +kernel)
theorem dX12_wrongHours_0 : decode cX12_wrongHours 0 = .ok (.aload_n 0, 1) := dk_aload_n_0 (by decide +kernel)
theorem dX12_wrongHours_1 : decode cX12_wrongHours 1 = .ok (.iload_n 1, 1) := dk_iload_n_1 (by decide +kernel)
theorem dX12_wrongHours_2 : decode cX12_wrongHours 2 = .ok (.invokevirtual 217, 3) := dk_invokevirtual (by decide +kernel)
theorem dX12_wrongHours_5 : decode cX12_wrongHours 5 = .ok (.ifCond .ne 7, 3) := dk_ifCond_ne (by decide +kernel)
theorem dX12_wrongHours_8 : decode cX12_wrongHours 8 = .ok (.iconst (-1), 1) := dk_iconst_m1 (by decide +kernel)
theorem dX12_wrongHours_9 : decode cX12_wrongHours 9 = .ok (.goto 36, 3) := dk_goto (by decide +kernel)
theorem dX12_wrongHours_12 : decode cX12_wrongHours 12 = .ok (.iload_n 2, 1) := dk_iload_n_2 (by decide +kernel)
theorem dX12_wrongHours_13 : decode cX12_wrongHours 13 = .ok (.ifCond .lt 8, 3) := dk_ifCond_lt (by decide +kernel)
theorem dX12_wrongHours_16 : decode cX12_wrongHours 16 = .ok (.iload_n 3, 1) := dk_iload_n_3 (by decide +kernel)
theorem dX12_wrongHours_17 : decode cX12_wrongHours 17 = .ok (.iconst 1, 1) := dk_iconst_1 (by decide +kernel)
theorem dX12_wrongHours_18 : decode cX12_wrongHours 18 = .ok (.if_icmp .ge 8, 3) := dk_if_icmp_ge (by decide +kernel)
theorem dX12_wrongHours_21 : decode cX12_wrongHours 21 = .ok (.bipush (-4), 2) := dk_bipush (by decide +kernel)
theorem dX12_wrongHours_23 : decode cX12_wrongHours 23 = .ok (.goto 22, 3) := dk_goto (by decide +kernel)
theorem dX12_wrongHours_26 : decode cX12_wrongHours 26 = .ok (.iload_n 2, 1) := dk_iload_n_2 (by decide +kernel)
theorem dX12_wrongHours_27 : decode cX12_wrongHours 27 = .ok (.ldc 201, 2) := dk_ldc (by decide +kernel)
theorem dX12_wrongHours_29 : decode cX12_wrongHours 29 = .ok (.if_icmp .gt 10, 3) := dk_if_icmp_gt (by decide +kernel)
theorem dX12_wrongHours_32 : decode cX12_wrongHours 32 = .ok (.iload_n 3, 1) := dk_iload_n_3 (by decide +kernel)
theorem dX12_wrongHours_33 : decode cX12_wrongHours 33 = .ok (.sipush 999, 3) := dk_sipush (by decide +kernel)
theorem dX12_wrongHours_36 : decode cX12_wrongHours 36 = .ok (.if_icmp .le 8, 3) := dk_if_icmp_le (by decide +kernel)
theorem dX12_wrongHours_39 : decode cX12_wrongHours 39 = .ok (.bipush (-6), 2) := dk_bipush (by decide +kernel)
theorem dX12_wrongHours_41 : decode cX12_wrongHours 41 = .ok (.goto 4, 3) := dk_goto (by decide +kernel)
theorem dX12_wrongHours_44 : decode cX12_wrongHours 44 = .ok (.iconst 0, 1) := dk_iconst_0 (by decide +kernel)
theorem dX12_wrongHours_45 : decode cX12_wrongHours 45 = .ok (.ireturn, 1) := dk_ireturn (by decide +kernel)
theorem dX12_covers_0 : decode cX12_covers 0 = .ok (.aload_n 0, 1) := dk_aload_n_0 (by decide +kernel)
theorem dX12_covers_1 : decode cX12_covers 1 = .ok (.iload_n 1, 1) := dk_iload_n_1 (by decide +kernel)
theorem dX12_covers_2 : decode cX12_covers 2 = .ok (.iload_n 2, 1) := dk_iload_n_2 (by decide +kernel)
theorem dX12_covers_3 : decode cX12_covers 3 = .ok (.iload_n 3, 1) := dk_iload_n_3 (by decide +kernel)
theorem dX12_covers_4 : decode cX12_covers 4 = .ok (.invokevirtual 345, 3) := dk_invokevirtual (by decide +kernel)
theorem dX12_covers_7 : decode cX12_covers 7 = .ok (.istore 4, 2) := dk_istore (by decide +kernel)
theorem dX12_covers_9 : decode cX12_covers 9 = .ok (.iload 4, 2) := dk_iload (by decide +kernel)
theorem dX12_covers_11 : decode cX12_covers 11 = .ok (.ifCond .eq 10, 3) := dk_ifCond_eq (by decide +kernel)
theorem dX12_covers_14 : decode cX12_covers 14 = .ok (.aload_n 0, 1) := dk_aload_n_0 (by decide +kernel)
theorem dX12_covers_15 : decode cX12_covers 15 = .ok (.iload 4, 2) := dk_iload (by decide +kernel)
theorem dX12_covers_17 : decode cX12_covers 17 = .ok (.invokevirtual 175, 3) := dk_invokevirtual (by decide +kernel)
theorem dX12_covers_20 : decode cX12_covers 20 = .ok (.ireturn, 1) := dk_ireturn (by decide +kernel)
theorem dX12_covers_21 : decode cX12_covers 21 = .ok (.aload_n 0, 1) := dk_aload_n_0 (by decide +kernel)
theorem dX12_covers_22 : decode cX12_covers 22 = .ok (.iload_n 1, 1) := dk_iload_n_1 (by decide +kernel)
theorem dX12_covers_23 : decode cX12_covers 23 = .ok (.iload_n 3, 1) := dk_iload_n_3 (by decide +kernel)
theorem dX12_covers_24 : decode cX12_covers 24 = .ok (.invokevirtual 348, 3) := dk_invokevirtual (by decide +kernel)
theorem dX12_covers_27 : decode cX12_covers 27 = .ok (.aload_n 0, 1) := dk_aload_n_0 (by decide +kernel)
theorem dX12_covers_28 : decode cX12_covers 28 = .ok (.iload_n 2, 1) := dk_iload_n_2 (by decide +kernel)
theorem dX12_covers_29 : decode cX12_covers 29 = .ok (.invokevirtual 352, 3) := dk_invokevirtual (by decide +kernel)
theorem dX12_covers_32 : decode cX12_covers 32 = .ok (.ireturn, 1) := dk_ireturn (by decide +kernel)
theorem dX12_rights_0 : decode cX12_rights 0 = .ok (.aload_n 0, 1) := dk_aload_n_0 (by decide +kernel)
theorem dX12_rights_1 : decode cX12_rights 1 = .ok (.iload_n 1, 1) := dk_iload_n_1 (by decide +kernel)
theorem dX12_rights_2 : decode cX12_rights 2 = .ok (.iload_n 2, 1) := dk_iload_n_2 (by decide +kernel)
theorem dX12_rights_3 : decode cX12_rights 3 = .ok (.iload_n 3, 1) := dk_iload_n_3 (by decide +kernel)
theorem dX12_rights_4 : decode cX12_rights 4 = .ok (.invokevirtual 345, 3) := dk_invokevirtual (by decide +kernel)
theorem dX12_rights_7 : decode cX12_rights 7 = .ok (.istore 4, 2) := dk_istore (by decide +kernel)
theorem dX12_rights_9 : decode cX12_rights 9 = .ok (.iload 4, 2) := dk_iload (by decide +kernel)
theorem dX12_rights_11 : decode cX12_rights 11 = .ok (.ifCond .ne 16, 3) := dk_ifCond_ne (by decide +kernel)
theorem dX12_rights_14 : decode cX12_rights 14 = .ok (.iload_n 2, 1) := dk_iload_n_2 (by decide +kernel)
theorem dX12_rights_15 : decode cX12_rights 15 = .ok (.invokestatic 333, 3) := dk_invokestatic (by decide +kernel)
theorem dX12_rights_18 : decode cX12_rights 18 = .ok (.bipush 12, 2) := dk_bipush (by decide +kernel)
theorem dX12_rights_20 : decode cX12_rights 20 = .ok (.if_icmp .le 7, 3) := dk_if_icmp_le (by decide +kernel)
theorem dX12_rights_23 : decode cX12_rights 23 = .ok (.bipush (-6), 2) := dk_bipush (by decide +kernel)
theorem dX12_rights_25 : decode cX12_rights 25 = .ok (.istore 4, 2) := dk_istore (by decide +kernel)
theorem dX12_rights_27 : decode cX12_rights 27 = .ok (.iload 4, 2) := dk_iload (by decide +kernel)
theorem dX12_rights_29 : decode cX12_rights 29 = .ok (.ifCond .eq 10, 3) := dk_ifCond_eq (by decide +kernel)
theorem dX12_rights_32 : decode cX12_rights 32 = .ok (.aload_n 0, 1) := dk_aload_n_0 (by decide +kernel)
theorem dX12_rights_33 : decode cX12_rights 33 = .ok (.iload 4, 2) := dk_iload (by decide +kernel)
theorem dX12_rights_35 : decode cX12_rights 35 = .ok (.invokevirtual 175, 3) := dk_invokevirtual (by decide +kernel)
theorem dX12_rights_38 : decode cX12_rights 38 = .ok (.ireturn, 1) := dk_ireturn (by decide +kernel)
theorem dX12_rights_39 : decode cX12_rights 39 = .ok (.aload_n 0, 1) := dk_aload_n_0 (by decide +kernel)
theorem dX12_rights_40 : decode cX12_rights 40 = .ok (.iconst 2, 1) := dk_iconst_2 (by decide +kernel)
theorem dX12_rights_41 : decode cX12_rights 41 = .ok (.iload_n 1, 1) := dk_iload_n_1 (by decide +kernel)
theorem dX12_rights_42 : decode cX12_rights 42 = .ok (.invokevirtual 316, 3) := dk_invokevirtual (by decide +kernel)
theorem dX12_rights_45 : decode cX12_rights 45 = .ok (.istore 5, 2) := dk_istore (by decide +kernel)
theorem dX12_rights_47 : decode cX12_rights 47 = .ok (.aload_n 0, 1) := dk_aload_n_0 (by decide +kernel)
theorem dX12_rights_48 : decode cX12_rights 48 = .ok (.iload_n 1, 1) := dk_iload_n_1 (by decide +kernel)
theorem dX12_rights_49 : decode cX12_rights 49 = .ok (.iload_n 3, 1) := dk_iload_n_3 (by decide +kernel)
theorem dX12_rights_50 : decode cX12_rights 50 = .ok (.invokevirtual 348, 3) := dk_invokevirtual (by decide +kernel)
theorem dX12_rights_53 : decode cX12_rights 53 = .ok (.aload_n 0, 1) := dk_aload_n_0 (by decide +kernel)
theorem dX12_rights_54 : decode cX12_rights 54 = .ok (.invokevirtual 355, 3) := dk_invokevirtual (by decide +kernel)
theorem dX12_rights_57 : decode cX12_rights 57 = .ok (.aload_n 0, 1) := dk_aload_n_0 (by decide +kernel)
theorem dX12_rights_58 : decode cX12_rights 58 = .ok (.iload_n 2, 1) := dk_iload_n_2 (by decide +kernel)
theorem dX12_rights_59 : decode cX12_rights 59 = .ok (.iload 5, 2) := dk_iload (by decide +kernel)
theorem dX12_rights_61 : decode cX12_rights 61 = .ok (.invokevirtual 358, 3) := dk_invokevirtual (by decide +kernel)
theorem dX12_rights_64 : decode cX12_rights 64 = .ok (.ifCond .ne 6, 3) := dk_ifCond_ne (by decide +kernel)
theorem dX12_rights_67 : decode cX12_rights 67 = .ok (.bipush (-9), 2) := dk_bipush (by decide +kernel)
theorem dX12_rights_69 : decode cX12_rights 69 = .ok (.ireturn, 1) := dk_ireturn (by decide +kernel)
theorem dX12_rights_70 : decode cX12_rights 70 = .ok (.bipush (-9), 2) := dk_bipush (by decide +kernel)
theorem dX12_rights_72 : decode cX12_rights 72 = .ok (.istore 6, 2) := dk_istore (by decide +kernel)
theorem dX12_rights_74 : decode cX12_rights 74 = .ok (.iconst 0, 1) := dk_iconst_0 (by decide +kernel)
theorem dX12_rights_75 : decode cX12_rights 75 = .ok (.istore 7, 2) := dk_istore (by decide +kernel)
theorem dX12_rights_77 : decode cX12_rights 77 = .ok (.iconst 0, 1) := dk_iconst_0 (by decide +kernel)
theorem dX12_rights_78 : decode cX12_rights 78 = .ok (.istore 8, 2) := dk_istore (by decide +kernel)
theorem dX12_rights_80 : decode cX12_rights 80 = .ok (.iload 8, 2) := dk_iload (by decide +kernel)
theorem dX12_rights_82 : decode cX12_rights 82 = .ok (.iconst 1, 1) := dk_iconst_1 (by decide +kernel)
theorem dX12_rights_83 : decode cX12_rights 83 = .ok (.iload_n 2, 1) := dk_iload_n_2 (by decide +kernel)
theorem dX12_rights_84 : decode cX12_rights 84 = .ok (.invokestatic 333, 3) := dk_invokestatic (by decide +kernel)
theorem dX12_rights_87 : decode cX12_rights 87 = .ok (.ishl, 1) := dk_ishl (by decide +kernel)
theorem dX12_rights_88 : decode cX12_rights 88 = .ok (.if_icmp .ge 54, 3) := dk_if_icmp_ge (by decide +kernel)
theorem dX12_rights_91 : decode cX12_rights 91 = .ok (.iload 6, 2) := dk_iload (by decide +kernel)
theorem dX12_rights_93 : decode cX12_rights 93 = .ok (.ifCond .lt 16, 3) := dk_ifCond_lt (by decide +kernel)
theorem dX12_rights_96 : decode cX12_rights 96 = .ok (.iload 7, 2) := dk_iload (by decide +kernel)
theorem dX12_rights_98 : decode cX12_rights 98 = .ok (.invokestatic 333, 3) := dk_invokestatic (by decide +kernel)
theorem dX12_rights_101 : decode cX12_rights 101 = .ok (.iload 6, 2) := dk_iload (by decide +kernel)
theorem dX12_rights_103 : decode cX12_rights 103 = .ok (.invokestatic 333, 3) := dk_invokestatic (by decide +kernel)
theorem dX12_rights_106 : decode cX12_rights 106 = .ok (.if_icmp .ge 18, 3) := dk_if_icmp_ge (by decide +kernel)
theorem dX12_rights_109 : decode cX12_rights 109 = .ok (.aload_n 0, 1) := dk_aload_n_0 (by decide +kernel)
theorem dX12_rights_110 : decode cX12_rights 110 = .ok (.iload 7, 2) := dk_iload (by decide +kernel)
theorem dX12_rights_112 : decode cX12_rights 112 = .ok (.iload 5, 2) := dk_iload (by decide +kernel)
theorem dX12_rights_114 : decode cX12_rights 114 = .ok (.invokevirtual 358, 3) := dk_invokevirtual (by decide +kernel)
theorem dX12_rights_117 : decode cX12_rights 117 = .ok (.ifCond .eq 7, 3) := dk_ifCond_eq (by decide +kernel)
theorem dX12_rights_120 : decode cX12_rights 120 = .ok (.iload 7, 2) := dk_iload (by decide +kernel)
theorem dX12_rights_122 : decode cX12_rights 122 = .ok (.istore 6, 2) := dk_istore (by decide +kernel)
theorem dX12_rights_124 : decode cX12_rights 124 = .ok (.iload 7, 2) := dk_iload (by decide +kernel)
theorem dX12_rights_126 : decode cX12_rights 126 = .ok (.iload_n 2, 1) := dk_iload_n_2 (by decide +kernel)
theorem dX12_rights_127 : decode cX12_rights 127 = .ok (.iconst (-1), 1) := dk_iconst_m1 (by decide +kernel)
theorem dX12_rights_128 : decode cX12_rights 128 = .ok (.ixor, 1) := dk_ixor (by decide +kernel)
theorem dX12_rights_129 : decode cX12_rights 129 = .ok (.ior, 1) := dk_ior (by decide +kernel)
theorem dX12_rights_130 : decode cX12_rights 130 = .ok (.iconst 1, 1) := dk_iconst_1 (by decide +kernel)
theorem dX12_rights_131 : decode cX12_rights 131 = .ok (.iadd, 1) := dk_iadd (by decide +kernel)
theorem dX12_rights_132 : decode cX12_rights 132 = .ok (.iload_n 2, 1) := dk_iload_n_2 (by decide +kernel)
theorem dX12_rights_133 : decode cX12_rights 133 = .ok (.iand, 1) := dk_iand (by decide +kernel)
theorem dX12_rights_134 : decode cX12_rights 134 = .ok (.istore 7, 2) := dk_istore (by decide +kernel)
theorem dX12_rights_136 : decode cX12_rights 136 = .ok (.iinc 8 1, 3) := dk_iinc (by decide +kernel)
theorem dX12_rights_139 : decode cX12_rights 139 = .ok (.goto (-59), 3) := dk_goto (by decide +kernel)
theorem dX12_rights_142 : decode cX12_rights 142 = .ok (.iload 6, 2) := dk_iload (by decide +kernel)
theorem dX12_rights_144 : decode cX12_rights 144 = .ok (.ireturn, 1) := dk_ireturn (by decide +kernel)
theorem dX12_news_0 : decode cX12_news 0 = .ok (.aload_n 0, 1) := dk_aload_n_0 (by decide +kernel)
theorem dX12_news_1 : decode cX12_news 1 = .ok (.getfield 220, 3) := dk_getfield (by decide +kernel)
theorem dX12_news_4 : decode cX12_news 4 = .ok (.bipush 40, 2) := dk_bipush (by decide +kernel)
theorem dX12_news_6 : decode cX12_news 6 = .ok (.if_icmp .ne 10, 3) := dk_if_icmp_ne (by decide +kernel)
theorem dX12_news_9 : decode cX12_news 9 = .ok (.aload_n 0, 1) := dk_aload_n_0 (by decide +kernel)
theorem dX12_news_10 : decode cX12_news 10 = .ok (.bipush (-6), 2) := dk_bipush (by decide +kernel)
theorem dX12_news_12 : decode cX12_news 12 = .ok (.invokevirtual 175, 3) := dk_invokevirtual (by decide +kernel)
theorem dX12_news_15 : decode cX12_news 15 = .ok (.ireturn, 1) := dk_ireturn (by decide +kernel)
theorem dX12_news_16 : decode cX12_news 16 = .ok (.aload_n 0, 1) := dk_aload_n_0 (by decide +kernel)
theorem dX12_news_17 : decode cX12_news 17 = .ok (.getfield 92, 3) := dk_getfield (by decide +kernel)
theorem dX12_news_20 : decode cX12_news 20 = .ok (.aload_n 0, 1) := dk_aload_n_0 (by decide +kernel)
theorem dX12_news_21 : decode cX12_news 21 = .ok (.getfield 220, 3) := dk_getfield (by decide +kernel)
theorem dX12_news_24 : decode cX12_news 24 = .ok (.aload_n 0, 1) := dk_aload_n_0 (by decide +kernel)
theorem dX12_news_25 : decode cX12_news 25 = .ok (.getfield 169, 3) := dk_getfield (by decide +kernel)
theorem dX12_news_28 : decode cX12_news 28 = .ok (.iastore, 1) := dk_iastore (by decide +kernel)
theorem dX12_news_29 : decode cX12_news 29 = .ok (.aload_n 0, 1) := dk_aload_n_0 (by decide +kernel)
theorem dX12_news_30 : decode cX12_news 30 = .ok (.getfield 95, 3) := dk_getfield (by decide +kernel)
theorem dX12_news_33 : decode cX12_news 33 = .ok (.aload_n 0, 1) := dk_aload_n_0 (by decide +kernel)
theorem dX12_news_34 : decode cX12_news 34 = .ok (.getfield 220, 3) := dk_getfield (by decide +kernel)
theorem dX12_news_37 : decode cX12_news 37 = .ok (.bipush (-9), 2) := dk_bipush (by decide +kernel)
theorem dX12_news_39 : decode cX12_news 39 = .ok (.iastore, 1) := dk_iastore (by decide +kernel)
theorem dX12_news_40 : decode cX12_news 40 = .ok (.aload_n 0, 1) := dk_aload_n_0 (by decide +kernel)
theorem dX12_news_41 : decode cX12_news 41 = .ok (.dup, 1) := dk_dup (by decide +kernel)
theorem dX12_news_42 : decode cX12_news 42 = .ok (.getfield 220, 3) := dk_getfield (by decide +kernel)
theorem dX12_news_45 : decode cX12_news 45 = .ok (.iconst 1, 1) := dk_iconst_1 (by decide +kernel)
theorem dX12_news_46 : decode cX12_news 46 = .ok (.iadd, 1) := dk_iadd (by decide +kernel)
theorem dX12_news_47 : decode cX12_news 47 = .ok (.putfield 220, 3) := dk_putfield (by decide +kernel)
theorem dX12_news_50 : decode cX12_news 50 = .ok (.aload_n 0, 1) := dk_aload_n_0 (by decide +kernel)
theorem dX12_news_51 : decode cX12_news 51 = .ok (.getfield 220, 3) := dk_getfield (by decide +kernel)
theorem dX12_news_54 : decode cX12_news 54 = .ok (.iconst 1, 1) := dk_iconst_1 (by decide +kernel)
theorem dX12_news_55 : decode cX12_news 55 = .ok (.isub, 1) := dk_isub (by decide +kernel)
theorem dX12_news_56 : decode cX12_news 56 = .ok (.ireturn, 1) := dk_ireturn (by decide +kernel)
theorem dX12_printed_0 : decode cX12_printed 0 = .ok (.iload_n 1, 1) := dk_iload_n_1 (by decide +kernel)
theorem dX12_printed_1 : decode cX12_printed 1 = .ok (.aload_n 0, 1) := dk_aload_n_0 (by decide +kernel)
theorem dX12_printed_2 : decode cX12_printed 2 = .ok (.getfield 220, 3) := dk_getfield (by decide +kernel)
theorem dX12_printed_5 : decode cX12_printed 5 = .ok (.invokestatic 162, 3) := dk_invokestatic (by decide +kernel)
theorem dX12_printed_8 : decode cX12_printed 8 = .ok (.ifCond .ne 9, 3) := dk_ifCond_ne (by decide +kernel)
theorem dX12_printed_11 : decode cX12_printed 11 = .ok (.aload_n 0, 1) := dk_aload_n_0 (by decide +kernel)
theorem dX12_printed_12 : decode cX12_printed 12 = .ok (.iconst (-1), 1) := dk_iconst_m1 (by decide +kernel)
theorem dX12_printed_13 : decode cX12_printed 13 = .ok (.invokevirtual 175, 3) := dk_invokevirtual (by decide +kernel)
theorem dX12_printed_16 : decode cX12_printed 16 = .ok (.ireturn, 1) := dk_ireturn (by decide +kernel)
theorem dX12_printed_17 : decode cX12_printed 17 = .ok (.aload_n 0, 1) := dk_aload_n_0 (by decide +kernel)
theorem dX12_printed_18 : decode cX12_printed 18 = .ok (.getfield 95, 3) := dk_getfield (by decide +kernel)
theorem dX12_printed_21 : decode cX12_printed 21 = .ok (.iload_n 1, 1) := dk_iload_n_1 (by decide +kernel)
theorem dX12_printed_22 : decode cX12_printed 22 = .ok (.iaload, 1) := dk_iaload (by decide +kernel)
theorem dX12_printed_23 : decode cX12_printed 23 = .ok (.ifCond .lt 10, 3) := dk_ifCond_lt (by decide +kernel)
theorem dX12_printed_26 : decode cX12_printed 26 = .ok (.aload_n 0, 1) := dk_aload_n_0 (by decide +kernel)
theorem dX12_printed_27 : decode cX12_printed 27 = .ok (.bipush (-3), 2) := dk_bipush (by decide +kernel)
theorem dX12_printed_29 : decode cX12_printed 29 = .ok (.invokevirtual 175, 3) := dk_invokevirtual (by decide +kernel)
theorem dX12_printed_32 : decode cX12_printed 32 = .ok (.ireturn, 1) := dk_ireturn (by decide +kernel)
theorem dX12_printed_33 : decode cX12_printed 33 = .ok (.iload_n 2, 1) := dk_iload_n_2 (by decide +kernel)
theorem dX12_printed_34 : decode cX12_printed 34 = .ok (.aload_n 0, 1) := dk_aload_n_0 (by decide +kernel)
theorem dX12_printed_35 : decode cX12_printed 35 = .ok (.getfield 169, 3) := dk_getfield (by decide +kernel)
theorem dX12_printed_38 : decode cX12_printed 38 = .ok (.sipush 9999, 3) := dk_sipush (by decide +kernel)
theorem dX12_printed_41 : decode cX12_printed 41 = .ok (.invokestatic 187, 3) := dk_invokestatic (by decide +kernel)
theorem dX12_printed_44 : decode cX12_printed 44 = .ok (.istore_n 3, 1) := dk_istore_n_3 (by decide +kernel)
theorem dX12_printed_45 : decode cX12_printed 45 = .ok (.iload_n 3, 1) := dk_iload_n_3 (by decide +kernel)
theorem dX12_printed_46 : decode cX12_printed 46 = .ok (.ifCond .eq 9, 3) := dk_ifCond_eq (by decide +kernel)
theorem dX12_printed_49 : decode cX12_printed 49 = .ok (.aload_n 0, 1) := dk_aload_n_0 (by decide +kernel)
theorem dX12_printed_50 : decode cX12_printed 50 = .ok (.iload_n 3, 1) := dk_iload_n_3 (by decide +kernel)
theorem dX12_printed_51 : decode cX12_printed 51 = .ok (.invokevirtual 175, 3) := dk_invokevirtual (by decide +kernel)
theorem dX12_printed_54 : decode cX12_printed 54 = .ok (.ireturn, 1) := dk_ireturn (by decide +kernel)
theorem dX12_printed_55 : decode cX12_printed 55 = .ok (.aload_n 0, 1) := dk_aload_n_0 (by decide +kernel)
theorem dX12_printed_56 : decode cX12_printed 56 = .ok (.getfield 95, 3) := dk_getfield (by decide +kernel)
theorem dX12_printed_59 : decode cX12_printed 59 = .ok (.iload_n 1, 1) := dk_iload_n_1 (by decide +kernel)
theorem dX12_printed_60 : decode cX12_printed 60 = .ok (.iload_n 2, 1) := dk_iload_n_2 (by decide +kernel)
theorem dX12_printed_61 : decode cX12_printed 61 = .ok (.iastore, 1) := dk_iastore (by decide +kernel)
theorem dX12_printed_62 : decode cX12_printed 62 = .ok (.iconst 1, 1) := dk_iconst_1 (by decide +kernel)
theorem dX12_printed_63 : decode cX12_printed 63 = .ok (.ireturn, 1) := dk_ireturn (by decide +kernel)
theorem dX12_lag_0 : decode cX12_lag 0 = .ok (.aload_n 0, 1) := dk_aload_n_0 (by decide +kernel)
theorem dX12_lag_1 : decode cX12_lag 1 = .ok (.iload_n 1, 1) := dk_iload_n_1 (by decide +kernel)
theorem dX12_lag_2 : decode cX12_lag 2 = .ok (.invokevirtual 217, 3) := dk_invokevirtual (by decide +kernel)
theorem dX12_lag_5 : decode cX12_lag 5 = .ok (.ifCond .ne 9, 3) := dk_ifCond_ne (by decide +kernel)
theorem dX12_lag_8 : decode cX12_lag 8 = .ok (.aload_n 0, 1) := dk_aload_n_0 (by decide +kernel)
theorem dX12_lag_9 : decode cX12_lag 9 = .ok (.iconst (-1), 1) := dk_iconst_m1 (by decide +kernel)
theorem dX12_lag_10 : decode cX12_lag 10 = .ok (.invokevirtual 175, 3) := dk_invokevirtual (by decide +kernel)
theorem dX12_lag_13 : decode cX12_lag 13 = .ok (.ireturn, 1) := dk_ireturn (by decide +kernel)
theorem dX12_lag_14 : decode cX12_lag 14 = .ok (.aload_n 0, 1) := dk_aload_n_0 (by decide +kernel)
theorem dX12_lag_15 : decode cX12_lag 15 = .ok (.getfield 59, 3) := dk_getfield (by decide +kernel)
theorem dX12_lag_18 : decode cX12_lag 18 = .ok (.iload_n 1, 1) := dk_iload_n_1 (by decide +kernel)
theorem dX12_lag_19 : decode cX12_lag 19 = .ok (.iaload, 1) := dk_iaload (by decide +kernel)
theorem dX12_lag_20 : decode cX12_lag 20 = .ok (.ifCond .eq 10, 3) := dk_ifCond_eq (by decide +kernel)
theorem dX12_lag_23 : decode cX12_lag 23 = .ok (.aload_n 0, 1) := dk_aload_n_0 (by decide +kernel)
theorem dX12_lag_24 : decode cX12_lag 24 = .ok (.bipush (-3), 2) := dk_bipush (by decide +kernel)
theorem dX12_lag_26 : decode cX12_lag 26 = .ok (.invokevirtual 175, 3) := dk_invokevirtual (by decide +kernel)
theorem dX12_lag_29 : decode cX12_lag 29 = .ok (.ireturn, 1) := dk_ireturn (by decide +kernel)
theorem dX12_lag_30 : decode cX12_lag 30 = .ok (.aload_n 0, 1) := dk_aload_n_0 (by decide +kernel)
theorem dX12_lag_31 : decode cX12_lag 31 = .ok (.getfield 68, 3) := dk_getfield (by decide +kernel)
theorem dX12_lag_34 : decode cX12_lag 34 = .ok (.iload_n 1, 1) := dk_iload_n_1 (by decide +kernel)
theorem dX12_lag_35 : decode cX12_lag 35 = .ok (.iaload, 1) := dk_iaload (by decide +kernel)
theorem dX12_lag_36 : decode cX12_lag 36 = .ok (.ifCond .ge 8, 3) := dk_ifCond_ge (by decide +kernel)
theorem dX12_lag_39 : decode cX12_lag 39 = .ok (.bipush (-9), 2) := dk_bipush (by decide +kernel)
theorem dX12_lag_41 : decode cX12_lag 41 = .ok (.goto 16, 3) := dk_goto (by decide +kernel)
theorem dX12_lag_44 : decode cX12_lag 44 = .ok (.iload_n 1, 1) := dk_iload_n_1 (by decide +kernel)
theorem dX12_lag_45 : decode cX12_lag 45 = .ok (.aload_n 0, 1) := dk_aload_n_0 (by decide +kernel)
theorem dX12_lag_46 : decode cX12_lag 46 = .ok (.getfield 92, 3) := dk_getfield (by decide +kernel)
theorem dX12_lag_49 : decode cX12_lag 49 = .ok (.aload_n 0, 1) := dk_aload_n_0 (by decide +kernel)
theorem dX12_lag_50 : decode cX12_lag 50 = .ok (.getfield 68, 3) := dk_getfield (by decide +kernel)
theorem dX12_lag_53 : decode cX12_lag 53 = .ok (.iload_n 1, 1) := dk_iload_n_1 (by decide +kernel)
theorem dX12_lag_54 : decode cX12_lag 54 = .ok (.iaload, 1) := dk_iaload (by decide +kernel)
theorem dX12_lag_55 : decode cX12_lag 55 = .ok (.iaload, 1) := dk_iaload (by decide +kernel)
theorem dX12_lag_56 : decode cX12_lag 56 = .ok (.isub, 1) := dk_isub (by decide +kernel)
theorem dX12_lag_57 : decode cX12_lag 57 = .ok (.ireturn, 1) := dk_ireturn (by decide +kernel)
theorem dX12_fresh_0 : decode cX12_fresh 0 = .ok (.aload_n 0, 1) := dk_aload_n_0 (by decide +kernel)
theorem dX12_fresh_1 : decode cX12_fresh 1 = .ok (.iload_n 1, 1) := dk_iload_n_1 (by decide +kernel)
theorem dX12_fresh_2 : decode cX12_fresh 2 = .ok (.invokevirtual 217, 3) := dk_invokevirtual (by decide +kernel)
theorem dX12_fresh_5 : decode cX12_fresh 5 = .ok (.ifCond .ne 9, 3) := dk_ifCond_ne (by decide +kernel)
theorem dX12_fresh_8 : decode cX12_fresh 8 = .ok (.aload_n 0, 1) := dk_aload_n_0 (by decide +kernel)
theorem dX12_fresh_9 : decode cX12_fresh 9 = .ok (.iconst (-1), 1) := dk_iconst_m1 (by decide +kernel)
theorem dX12_fresh_10 : decode cX12_fresh 10 = .ok (.invokevirtual 175, 3) := dk_invokevirtual (by decide +kernel)
theorem dX12_fresh_13 : decode cX12_fresh 13 = .ok (.ireturn, 1) := dk_ireturn (by decide +kernel)
theorem dX12_fresh_14 : decode cX12_fresh 14 = .ok (.aload_n 0, 1) := dk_aload_n_0 (by decide +kernel)
theorem dX12_fresh_15 : decode cX12_fresh 15 = .ok (.getfield 59, 3) := dk_getfield (by decide +kernel)
theorem dX12_fresh_18 : decode cX12_fresh 18 = .ok (.iload_n 1, 1) := dk_iload_n_1 (by decide +kernel)
theorem dX12_fresh_19 : decode cX12_fresh 19 = .ok (.iaload, 1) := dk_iaload (by decide +kernel)
theorem dX12_fresh_20 : decode cX12_fresh 20 = .ok (.ifCond .eq 10, 3) := dk_ifCond_eq (by decide +kernel)
theorem dX12_fresh_23 : decode cX12_fresh 23 = .ok (.aload_n 0, 1) := dk_aload_n_0 (by decide +kernel)
theorem dX12_fresh_24 : decode cX12_fresh 24 = .ok (.bipush (-3), 2) := dk_bipush (by decide +kernel)
theorem dX12_fresh_26 : decode cX12_fresh 26 = .ok (.invokevirtual 175, 3) := dk_invokevirtual (by decide +kernel)
theorem dX12_fresh_29 : decode cX12_fresh 29 = .ok (.ireturn, 1) := dk_ireturn (by decide +kernel)
theorem dX12_fresh_30 : decode cX12_fresh 30 = .ok (.aload_n 0, 1) := dk_aload_n_0 (by decide +kernel)
theorem dX12_fresh_31 : decode cX12_fresh 31 = .ok (.getfield 68, 3) := dk_getfield (by decide +kernel)
theorem dX12_fresh_34 : decode cX12_fresh 34 = .ok (.iload_n 1, 1) := dk_iload_n_1 (by decide +kernel)
theorem dX12_fresh_35 : decode cX12_fresh 35 = .ok (.iaload, 1) := dk_iaload (by decide +kernel)
theorem dX12_fresh_36 : decode cX12_fresh 36 = .ok (.ifCond .ge 6, 3) := dk_ifCond_ge (by decide +kernel)
theorem dX12_fresh_39 : decode cX12_fresh 39 = .ok (.bipush (-9), 2) := dk_bipush (by decide +kernel)
theorem dX12_fresh_41 : decode cX12_fresh 41 = .ok (.ireturn, 1) := dk_ireturn (by decide +kernel)
theorem dX12_fresh_42 : decode cX12_fresh 42 = .ok (.aload_n 0, 1) := dk_aload_n_0 (by decide +kernel)
theorem dX12_fresh_43 : decode cX12_fresh 43 = .ok (.getfield 95, 3) := dk_getfield (by decide +kernel)
theorem dX12_fresh_46 : decode cX12_fresh 46 = .ok (.aload_n 0, 1) := dk_aload_n_0 (by decide +kernel)
theorem dX12_fresh_47 : decode cX12_fresh 47 = .ok (.getfield 68, 3) := dk_getfield (by decide +kernel)
theorem dX12_fresh_50 : decode cX12_fresh 50 = .ok (.iload_n 1, 1) := dk_iload_n_1 (by decide +kernel)
theorem dX12_fresh_51 : decode cX12_fresh 51 = .ok (.iaload, 1) := dk_iaload (by decide +kernel)
theorem dX12_fresh_52 : decode cX12_fresh 52 = .ok (.iaload, 1) := dk_iaload (by decide +kernel)
theorem dX12_fresh_53 : decode cX12_fresh 53 = .ok (.ifCond .lt 20, 3) := dk_ifCond_lt (by decide +kernel)
theorem dX12_fresh_56 : decode cX12_fresh 56 = .ok (.aload_n 0, 1) := dk_aload_n_0 (by decide +kernel)
theorem dX12_fresh_57 : decode cX12_fresh 57 = .ok (.getfield 95, 3) := dk_getfield (by decide +kernel)
theorem dX12_fresh_60 : decode cX12_fresh 60 = .ok (.aload_n 0, 1) := dk_aload_n_0 (by decide +kernel)
theorem dX12_fresh_61 : decode cX12_fresh 61 = .ok (.getfield 68, 3) := dk_getfield (by decide +kernel)
theorem dX12_fresh_64 : decode cX12_fresh 64 = .ok (.iload_n 1, 1) := dk_iload_n_1 (by decide +kernel)
theorem dX12_fresh_65 : decode cX12_fresh 65 = .ok (.iaload, 1) := dk_iaload (by decide +kernel)
theorem dX12_fresh_66 : decode cX12_fresh 66 = .ok (.iaload, 1) := dk_iaload (by decide +kernel)
theorem dX12_fresh_67 : decode cX12_fresh 67 = .ok (.iload_n 1, 1) := dk_iload_n_1 (by decide +kernel)
theorem dX12_fresh_68 : decode cX12_fresh 68 = .ok (.if_icmp .gt 5, 3) := dk_if_icmp_gt (by decide +kernel)
theorem dX12_fresh_71 : decode cX12_fresh 71 = .ok (.iconst 0, 1) := dk_iconst_0 (by decide +kernel)
theorem dX12_fresh_72 : decode cX12_fresh 72 = .ok (.ireturn, 1) := dk_ireturn (by decide +kernel)
theorem dX12_fresh_73 : decode cX12_fresh 73 = .ok (.iconst 0, 1) := dk_iconst_0 (by decide +kernel)
theorem dX12_fresh_74 : decode cX12_fresh 74 = .ok (.istore_n 2, 1) := dk_istore_n_2 (by decide +kernel)
theorem dX12_fresh_75 : decode cX12_fresh 75 = .ok (.iload_n 2, 1) := dk_iload_n_2 (by decide +kernel)
theorem dX12_fresh_76 : decode cX12_fresh 76 = .ok (.iload_n 1, 1) := dk_iload_n_1 (by decide +kernel)
theorem dX12_fresh_77 : decode cX12_fresh 77 = .ok (.if_icmp .ge 35, 3) := dk_if_icmp_ge (by decide +kernel)
theorem dX12_fresh_80 : decode cX12_fresh 80 = .ok (.aload_n 0, 1) := dk_aload_n_0 (by decide +kernel)
theorem dX12_fresh_81 : decode cX12_fresh 81 = .ok (.getfield 59, 3) := dk_getfield (by decide +kernel)
theorem dX12_fresh_84 : decode cX12_fresh 84 = .ok (.iload_n 2, 1) := dk_iload_n_2 (by decide +kernel)
theorem dX12_fresh_85 : decode cX12_fresh 85 = .ok (.iaload, 1) := dk_iaload (by decide +kernel)
theorem dX12_fresh_86 : decode cX12_fresh 86 = .ok (.ifCond .ne 20, 3) := dk_ifCond_ne (by decide +kernel)
theorem dX12_fresh_89 : decode cX12_fresh 89 = .ok (.aload_n 0, 1) := dk_aload_n_0 (by decide +kernel)
theorem dX12_fresh_90 : decode cX12_fresh 90 = .ok (.getfield 68, 3) := dk_getfield (by decide +kernel)
theorem dX12_fresh_93 : decode cX12_fresh 93 = .ok (.iload_n 2, 1) := dk_iload_n_2 (by decide +kernel)
theorem dX12_fresh_94 : decode cX12_fresh 94 = .ok (.iaload, 1) := dk_iaload (by decide +kernel)
theorem dX12_fresh_95 : decode cX12_fresh 95 = .ok (.aload_n 0, 1) := dk_aload_n_0 (by decide +kernel)
theorem dX12_fresh_96 : decode cX12_fresh 96 = .ok (.getfield 68, 3) := dk_getfield (by decide +kernel)
theorem dX12_fresh_99 : decode cX12_fresh 99 = .ok (.iload_n 1, 1) := dk_iload_n_1 (by decide +kernel)
theorem dX12_fresh_100 : decode cX12_fresh 100 = .ok (.iaload, 1) := dk_iaload (by decide +kernel)
theorem dX12_fresh_101 : decode cX12_fresh 101 = .ok (.if_icmp .ne 5, 3) := dk_if_icmp_ne (by decide +kernel)
theorem dX12_fresh_104 : decode cX12_fresh 104 = .ok (.iconst 0, 1) := dk_iconst_0 (by decide +kernel)
theorem dX12_fresh_105 : decode cX12_fresh 105 = .ok (.ireturn, 1) := dk_ireturn (by decide +kernel)
theorem dX12_fresh_106 : decode cX12_fresh 106 = .ok (.iinc 2 1, 3) := dk_iinc (by decide +kernel)
theorem dX12_fresh_109 : decode cX12_fresh 109 = .ok (.goto (-34), 3) := dk_goto (by decide +kernel)
theorem dX12_fresh_112 : decode cX12_fresh 112 = .ok (.iconst 1, 1) := dk_iconst_1 (by decide +kernel)
theorem dX12_fresh_113 : decode cX12_fresh 113 = .ok (.ireturn, 1) := dk_ireturn (by decide +kernel)
theorem dX12_advert_0 : decode cX12_advert 0 = .ok (.iload_n 1, 1) := dk_iload_n_1 (by decide +kernel)
theorem dX12_advert_1 : decode cX12_advert 1 = .ok (.iconst 0, 1) := dk_iconst_0 (by decide +kernel)
theorem dX12_advert_2 : decode cX12_advert 2 = .ok (.bipush 9, 2) := dk_bipush (by decide +kernel)
theorem dX12_advert_4 : decode cX12_advert 4 = .ok (.invokestatic 187, 3) := dk_invokestatic (by decide +kernel)
theorem dX12_advert_7 : decode cX12_advert 7 = .ok (.istore_n 2, 1) := dk_istore_n_2 (by decide +kernel)
theorem dX12_advert_8 : decode cX12_advert 8 = .ok (.iload_n 2, 1) := dk_iload_n_2 (by decide +kernel)
theorem dX12_advert_9 : decode cX12_advert 9 = .ok (.ifCond .ne 16, 3) := dk_ifCond_ne (by decide +kernel)
theorem dX12_advert_12 : decode cX12_advert 12 = .ok (.aload_n 0, 1) := dk_aload_n_0 (by decide +kernel)
theorem dX12_advert_13 : decode cX12_advert 13 = .ok (.getfield 361, 3) := dk_getfield (by decide +kernel)
theorem dX12_advert_16 : decode cX12_advert 16 = .ok (.sipush 200, 3) := dk_sipush (by decide +kernel)
theorem dX12_advert_19 : decode cX12_advert 19 = .ok (.if_icmp .ne 6, 3) := dk_if_icmp_ne (by decide +kernel)
theorem dX12_advert_22 : decode cX12_advert 22 = .ok (.bipush (-6), 2) := dk_bipush (by decide +kernel)
theorem dX12_advert_24 : decode cX12_advert 24 = .ok (.istore_n 2, 1) := dk_istore_n_2 (by decide +kernel)
theorem dX12_advert_25 : decode cX12_advert 25 = .ok (.iload_n 2, 1) := dk_iload_n_2 (by decide +kernel)
theorem dX12_advert_26 : decode cX12_advert 26 = .ok (.ifCond .eq 9, 3) := dk_ifCond_eq (by decide +kernel)
theorem dX12_advert_29 : decode cX12_advert 29 = .ok (.aload_n 0, 1) := dk_aload_n_0 (by decide +kernel)
theorem dX12_advert_30 : decode cX12_advert 30 = .ok (.iload_n 2, 1) := dk_iload_n_2 (by decide +kernel)
theorem dX12_advert_31 : decode cX12_advert 31 = .ok (.invokevirtual 175, 3) := dk_invokevirtual (by decide +kernel)
theorem dX12_advert_34 : decode cX12_advert 34 = .ok (.ireturn, 1) := dk_ireturn (by decide +kernel)
theorem dX12_advert_35 : decode cX12_advert 35 = .ok (.aload_n 0, 1) := dk_aload_n_0 (by decide +kernel)
theorem dX12_advert_36 : decode cX12_advert 36 = .ok (.getfield 98, 3) := dk_getfield (by decide +kernel)
theorem dX12_advert_39 : decode cX12_advert 39 = .ok (.aload_n 0, 1) := dk_aload_n_0 (by decide +kernel)
theorem dX12_advert_40 : decode cX12_advert 40 = .ok (.getfield 361, 3) := dk_getfield (by decide +kernel)
theorem dX12_advert_43 : decode cX12_advert 43 = .ok (.iload_n 1, 1) := dk_iload_n_1 (by decide +kernel)
theorem dX12_advert_44 : decode cX12_advert 44 = .ok (.iastore, 1) := dk_iastore (by decide +kernel)
theorem dX12_advert_45 : decode cX12_advert 45 = .ok (.aload_n 0, 1) := dk_aload_n_0 (by decide +kernel)
theorem dX12_advert_46 : decode cX12_advert 46 = .ok (.dup, 1) := dk_dup (by decide +kernel)
theorem dX12_advert_47 : decode cX12_advert 47 = .ok (.getfield 361, 3) := dk_getfield (by decide +kernel)
theorem dX12_advert_50 : decode cX12_advert 50 = .ok (.iconst 1, 1) := dk_iconst_1 (by decide +kernel)
theorem dX12_advert_51 : decode cX12_advert 51 = .ok (.iadd, 1) := dk_iadd (by decide +kernel)
theorem dX12_advert_52 : decode cX12_advert 52 = .ok (.putfield 361, 3) := dk_putfield (by decide +kernel)
theorem dX12_advert_55 : decode cX12_advert 55 = .ok (.aload_n 0, 1) := dk_aload_n_0 (by decide +kernel)
theorem dX12_advert_56 : decode cX12_advert 56 = .ok (.getfield 361, 3) := dk_getfield (by decide +kernel)
theorem dX12_advert_59 : decode cX12_advert 59 = .ok (.iconst 1, 1) := dk_iconst_1 (by decide +kernel)
theorem dX12_advert_60 : decode cX12_advert 60 = .ok (.isub, 1) := dk_isub (by decide +kernel)
theorem dX12_advert_61 : decode cX12_advert 61 = .ok (.iconst 5, 1) := dk_iconst_5 (by decide +kernel)
theorem dX12_advert_62 : decode cX12_advert 62 = .ok (.idiv, 1) := dk_idiv (by decide +kernel)
theorem dX12_advert_63 : decode cX12_advert 63 = .ok (.ireturn, 1) := dk_ireturn (by decide +kernel)
theorem dX12_sold_0 : decode cX12_sold 0 = .ok (.iload_n 2, 1) := dk_iload_n_2 (by decide +kernel)
theorem dX12_sold_1 : decode cX12_sold 1 = .ok (.iconst 0, 1) := dk_iconst_0 (by decide +kernel)
theorem dX12_sold_2 : decode cX12_sold 2 = .ok (.iconst 4, 1) := dk_iconst_4 (by decide +kernel)
theorem dX12_sold_3 : decode cX12_sold 3 = .ok (.invokestatic 187, 3) := dk_invokestatic (by decide +kernel)
theorem dX12_sold_6 : decode cX12_sold 6 = .ok (.istore_n 3, 1) := dk_istore_n_3 (by decide +kernel)
theorem dX12_sold_7 : decode cX12_sold 7 = .ok (.iload_n 3, 1) := dk_iload_n_3 (by decide +kernel)
theorem dX12_sold_8 : decode cX12_sold 8 = .ok (.ifCond .eq 9, 3) := dk_ifCond_eq (by decide +kernel)
theorem dX12_sold_11 : decode cX12_sold 11 = .ok (.aload_n 0, 1) := dk_aload_n_0 (by decide +kernel)
theorem dX12_sold_12 : decode cX12_sold 12 = .ok (.iload_n 3, 1) := dk_iload_n_3 (by decide +kernel)
theorem dX12_sold_13 : decode cX12_sold 13 = .ok (.invokevirtual 175, 3) := dk_invokevirtual (by decide +kernel)
theorem dX12_sold_16 : decode cX12_sold 16 = .ok (.ireturn, 1) := dk_ireturn (by decide +kernel)
theorem dX12_sold_17 : decode cX12_sold 17 = .ok (.iload_n 1, 1) := dk_iload_n_1 (by decide +kernel)
theorem dX12_sold_18 : decode cX12_sold 18 = .ok (.ifCond .lt 21, 3) := dk_ifCond_lt (by decide +kernel)
theorem dX12_sold_21 : decode cX12_sold 21 = .ok (.iload_n 1, 1) := dk_iload_n_1 (by decide +kernel)
theorem dX12_sold_22 : decode cX12_sold 22 = .ok (.bipush 40, 2) := dk_bipush (by decide +kernel)
theorem dX12_sold_24 : decode cX12_sold 24 = .ok (.if_icmp .ge 15, 3) := dk_if_icmp_ge (by decide +kernel)
theorem dX12_sold_27 : decode cX12_sold 27 = .ok (.iconst 5, 1) := dk_iconst_5 (by decide +kernel)
theorem dX12_sold_28 : decode cX12_sold 28 = .ok (.iload_n 1, 1) := dk_iload_n_1 (by decide +kernel)
theorem dX12_sold_29 : decode cX12_sold 29 = .ok (.imul, 1) := dk_imul (by decide +kernel)
theorem dX12_sold_30 : decode cX12_sold 30 = .ok (.iload_n 2, 1) := dk_iload_n_2 (by decide +kernel)
theorem dX12_sold_31 : decode cX12_sold 31 = .ok (.iadd, 1) := dk_iadd (by decide +kernel)
theorem dX12_sold_32 : decode cX12_sold 32 = .ok (.aload_n 0, 1) := dk_aload_n_0 (by decide +kernel)
theorem dX12_sold_33 : decode cX12_sold 33 = .ok (.getfield 361, 3) := dk_getfield (by decide +kernel)
theorem dX12_sold_36 : decode cX12_sold 36 = .ok (.if_icmp .lt 8, 3) := dk_if_icmp_lt (by decide +kernel)
theorem dX12_sold_39 : decode cX12_sold 39 = .ok (.bipush (-9), 2) := dk_bipush (by decide +kernel)
theorem dX12_sold_41 : decode cX12_sold 41 = .ok (.goto 13, 3) := dk_goto (by decide +kernel)
theorem dX12_sold_44 : decode cX12_sold 44 = .ok (.aload_n 0, 1) := dk_aload_n_0 (by decide +kernel)
theorem dX12_sold_45 : decode cX12_sold 45 = .ok (.getfield 98, 3) := dk_getfield (by decide +kernel)
theorem dX12_sold_48 : decode cX12_sold 48 = .ok (.iconst 5, 1) := dk_iconst_5 (by decide +kernel)
theorem dX12_sold_49 : decode cX12_sold 49 = .ok (.iload_n 1, 1) := dk_iload_n_1 (by decide +kernel)
theorem dX12_sold_50 : decode cX12_sold 50 = .ok (.imul, 1) := dk_imul (by decide +kernel)
theorem dX12_sold_51 : decode cX12_sold 51 = .ok (.iload_n 2, 1) := dk_iload_n_2 (by decide +kernel)
theorem dX12_sold_52 : decode cX12_sold 52 = .ok (.iadd, 1) := dk_iadd (by decide +kernel)
theorem dX12_sold_53 : decode cX12_sold 53 = .ok (.iaload, 1) := dk_iaload (by decide +kernel)
theorem dX12_sold_54 : decode cX12_sold 54 = .ok (.ireturn, 1) := dk_ireturn (by decide +kernel)
theorem dX12_put_0 : decode cX12_put 0 = .ok (.iload_n 1, 1) := dk_iload_n_1 (by decide +kernel)
theorem dX12_put_1 : decode cX12_put 1 = .ok (.sipush (-32768), 3) := dk_sipush (by decide +kernel)
theorem dX12_put_4 : decode cX12_put 4 = .ok (.sipush 32767, 3) := dk_sipush (by decide +kernel)
theorem dX12_put_7 : decode cX12_put 7 = .ok (.invokestatic 187, 3) := dk_invokestatic (by decide +kernel)
theorem dX12_put_10 : decode cX12_put 10 = .ok (.istore_n 2, 1) := dk_istore_n_2 (by decide +kernel)
theorem dX12_put_11 : decode cX12_put 11 = .ok (.iload_n 2, 1) := dk_iload_n_2 (by decide +kernel)
theorem dX12_put_12 : decode cX12_put 12 = .ok (.ifCond .ne 15, 3) := dk_ifCond_ne (by decide +kernel)
theorem dX12_put_15 : decode cX12_put 15 = .ok (.aload_n 0, 1) := dk_aload_n_0 (by decide +kernel)
theorem dX12_put_16 : decode cX12_put 16 = .ok (.getfield 364, 3) := dk_getfield (by decide +kernel)
theorem dX12_put_19 : decode cX12_put 19 = .ok (.bipush 60, 2) := dk_bipush (by decide +kernel)
theorem dX12_put_21 : decode cX12_put 21 = .ok (.if_icmp .ne 6, 3) := dk_if_icmp_ne (by decide +kernel)
theorem dX12_put_24 : decode cX12_put 24 = .ok (.bipush (-6), 2) := dk_bipush (by decide +kernel)
theorem dX12_put_26 : decode cX12_put 26 = .ok (.istore_n 2, 1) := dk_istore_n_2 (by decide +kernel)
theorem dX12_put_27 : decode cX12_put 27 = .ok (.iload_n 2, 1) := dk_iload_n_2 (by decide +kernel)
theorem dX12_put_28 : decode cX12_put 28 = .ok (.ifCond .eq 9, 3) := dk_ifCond_eq (by decide +kernel)
theorem dX12_put_31 : decode cX12_put 31 = .ok (.aload_n 0, 1) := dk_aload_n_0 (by decide +kernel)
theorem dX12_put_32 : decode cX12_put 32 = .ok (.iload_n 2, 1) := dk_iload_n_2 (by decide +kernel)
theorem dX12_put_33 : decode cX12_put 33 = .ok (.invokevirtual 175, 3) := dk_invokevirtual (by decide +kernel)
theorem dX12_put_36 : decode cX12_put 36 = .ok (.ireturn, 1) := dk_ireturn (by decide +kernel)
theorem dX12_put_37 : decode cX12_put 37 = .ok (.aload_n 0, 1) := dk_aload_n_0 (by decide +kernel)
theorem dX12_put_38 : decode cX12_put 38 = .ok (.getfield 101, 3) := dk_getfield (by decide +kernel)
theorem dX12_put_41 : decode cX12_put 41 = .ok (.aload_n 0, 1) := dk_aload_n_0 (by decide +kernel)
theorem dX12_put_42 : decode cX12_put 42 = .ok (.getfield 364, 3) := dk_getfield (by decide +kernel)
theorem dX12_put_45 : decode cX12_put 45 = .ok (.iload_n 1, 1) := dk_iload_n_1 (by decide +kernel)
theorem dX12_put_46 : decode cX12_put 46 = .ok (.iastore, 1) := dk_iastore (by decide +kernel)
theorem dX12_put_47 : decode cX12_put 47 = .ok (.aload_n 0, 1) := dk_aload_n_0 (by decide +kernel)
theorem dX12_put_48 : decode cX12_put 48 = .ok (.dup, 1) := dk_dup (by decide +kernel)
theorem dX12_put_49 : decode cX12_put 49 = .ok (.getfield 364, 3) := dk_getfield (by decide +kernel)
theorem dX12_put_52 : decode cX12_put 52 = .ok (.iconst 1, 1) := dk_iconst_1 (by decide +kernel)
theorem dX12_put_53 : decode cX12_put 53 = .ok (.iadd, 1) := dk_iadd (by decide +kernel)
theorem dX12_put_54 : decode cX12_put 54 = .ok (.putfield 364, 3) := dk_putfield (by decide +kernel)
theorem dX12_put_57 : decode cX12_put 57 = .ok (.aload_n 0, 1) := dk_aload_n_0 (by decide +kernel)
theorem dX12_put_58 : decode cX12_put 58 = .ok (.getfield 364, 3) := dk_getfield (by decide +kernel)
theorem dX12_put_61 : decode cX12_put 61 = .ok (.ireturn, 1) := dk_ireturn (by decide +kernel)
theorem dX12_judge_0 : decode cX12_judge 0 = .ok (.aload_n 0, 1) := dk_aload_n_0 (by decide +kernel)
theorem dX12_judge_1 : decode cX12_judge 1 = .ok (.getfield 364, 3) := dk_getfield (by decide +kernel)
theorem dX12_judge_4 : decode cX12_judge 4 = .ok (.istore_n 1, 1) := dk_istore_n_1 (by decide +kernel)
theorem dX12_judge_5 : decode cX12_judge 5 = .ok (.aload_n 0, 1) := dk_aload_n_0 (by decide +kernel)
theorem dX12_judge_6 : decode cX12_judge 6 = .ok (.iconst 0, 1) := dk_iconst_0 (by decide +kernel)
theorem dX12_judge_7 : decode cX12_judge 7 = .ok (.putfield 364, 3) := dk_putfield (by decide +kernel)
theorem dX12_judge_10 : decode cX12_judge 10 = .ok (.iconst 0, 1) := dk_iconst_0 (by decide +kernel)
theorem dX12_judge_11 : decode cX12_judge 11 = .ok (.istore_n 2, 1) := dk_istore_n_2 (by decide +kernel)
theorem dX12_judge_12 : decode cX12_judge 12 = .ok (.iload_n 2, 1) := dk_iload_n_2 (by decide +kernel)
theorem dX12_judge_13 : decode cX12_judge 13 = .ok (.iconst 5, 1) := dk_iconst_5 (by decide +kernel)
theorem dX12_judge_14 : decode cX12_judge 14 = .ok (.if_icmp .ge 51, 3) := dk_if_icmp_ge (by decide +kernel)
theorem dX12_judge_17 : decode cX12_judge 17 = .ok (.iload_n 2, 1) := dk_iload_n_2 (by decide +kernel)
theorem dX12_judge_18 : decode cX12_judge 18 = .ok (.iload_n 1, 1) := dk_iload_n_1 (by decide +kernel)
theorem dX12_judge_19 : decode cX12_judge 19 = .ok (.if_icmp .ge 38, 3) := dk_if_icmp_ge (by decide +kernel)
theorem dX12_judge_22 : decode cX12_judge 22 = .ok (.aload_n 0, 1) := dk_aload_n_0 (by decide +kernel)
theorem dX12_judge_23 : decode cX12_judge 23 = .ok (.getfield 101, 3) := dk_getfield (by decide +kernel)
theorem dX12_judge_26 : decode cX12_judge 26 = .ok (.iload_n 2, 1) := dk_iload_n_2 (by decide +kernel)
theorem dX12_judge_27 : decode cX12_judge 27 = .ok (.iaload, 1) := dk_iaload (by decide +kernel)
theorem dX12_judge_28 : decode cX12_judge 28 = .ok (.bipush 10, 2) := dk_bipush (by decide +kernel)
theorem dX12_judge_30 : decode cX12_judge 30 = .ok (.invokestatic 162, 3) := dk_invokestatic (by decide +kernel)
theorem dX12_judge_33 : decode cX12_judge 33 = .ok (.ifCond .eq 24, 3) := dk_ifCond_eq (by decide +kernel)
theorem dX12_judge_36 : decode cX12_judge 36 = .ok (.iload_n 2, 1) := dk_iload_n_2 (by decide +kernel)
theorem dX12_judge_37 : decode cX12_judge 37 = .ok (.ifCond .le 22, 3) := dk_ifCond_le (by decide +kernel)
theorem dX12_judge_40 : decode cX12_judge 40 = .ok (.aload_n 0, 1) := dk_aload_n_0 (by decide +kernel)
theorem dX12_judge_41 : decode cX12_judge 41 = .ok (.getfield 101, 3) := dk_getfield (by decide +kernel)
theorem dX12_judge_44 : decode cX12_judge 44 = .ok (.iload_n 2, 1) := dk_iload_n_2 (by decide +kernel)
theorem dX12_judge_45 : decode cX12_judge 45 = .ok (.iaload, 1) := dk_iaload (by decide +kernel)
theorem dX12_judge_46 : decode cX12_judge 46 = .ok (.aload_n 0, 1) := dk_aload_n_0 (by decide +kernel)
theorem dX12_judge_47 : decode cX12_judge 47 = .ok (.getfield 101, 3) := dk_getfield (by decide +kernel)
theorem dX12_judge_50 : decode cX12_judge 50 = .ok (.iload_n 2, 1) := dk_iload_n_2 (by decide +kernel)
theorem dX12_judge_51 : decode cX12_judge 51 = .ok (.iconst 1, 1) := dk_iconst_1 (by decide +kernel)
theorem dX12_judge_52 : decode cX12_judge 52 = .ok (.isub, 1) := dk_isub (by decide +kernel)
theorem dX12_judge_53 : decode cX12_judge 53 = .ok (.iaload, 1) := dk_iaload (by decide +kernel)
theorem dX12_judge_54 : decode cX12_judge 54 = .ok (.if_icmp .ne 5, 3) := dk_if_icmp_ne (by decide +kernel)
theorem dX12_judge_57 : decode cX12_judge 57 = .ok (.iload_n 2, 1) := dk_iload_n_2 (by decide +kernel)
theorem dX12_judge_58 : decode cX12_judge 58 = .ok (.ireturn, 1) := dk_ireturn (by decide +kernel)
theorem dX12_judge_59 : decode cX12_judge 59 = .ok (.iinc 2 1, 3) := dk_iinc (by decide +kernel)
theorem dX12_judge_62 : decode cX12_judge 62 = .ok (.goto (-50), 3) := dk_goto (by decide +kernel)
theorem dX12_judge_65 : decode cX12_judge 65 = .ok (.iload_n 1, 1) := dk_iload_n_1 (by decide +kernel)
theorem dX12_judge_66 : decode cX12_judge 66 = .ok (.iconst 5, 1) := dk_iconst_5 (by decide +kernel)
theorem dX12_judge_67 : decode cX12_judge 67 = .ok (.if_icmp .le 7, 3) := dk_if_icmp_le (by decide +kernel)
theorem dX12_judge_70 : decode cX12_judge 70 = .ok (.iconst 5, 1) := dk_iconst_5 (by decide +kernel)
theorem dX12_judge_71 : decode cX12_judge 71 = .ok (.goto 5, 3) := dk_goto (by decide +kernel)
theorem dX12_judge_74 : decode cX12_judge 74 = .ok (.bipush (-9), 2) := dk_bipush (by decide +kernel)
theorem dX12_judge_76 : decode cX12_judge 76 = .ok (.ireturn, 1) := dk_ireturn (by decide +kernel)
theorem dX12_order_0 : decode cX12_order 0 = .ok (.iload_n 1, 1) := dk_iload_n_1 (by decide +kernel)
theorem dX12_order_1 : decode cX12_order 1 = .ok (.ifCond .lt 16, 3) := dk_ifCond_lt (by decide +kernel)
theorem dX12_order_4 : decode cX12_order 4 = .ok (.iload_n 2, 1) := dk_iload_n_2 (by decide +kernel)
theorem dX12_order_5 : decode cX12_order 5 = .ok (.ifCond .lt 12, 3) := dk_ifCond_lt (by decide +kernel)
theorem dX12_order_8 : decode cX12_order 8 = .ok (.iload_n 3, 1) := dk_iload_n_3 (by decide +kernel)
theorem dX12_order_9 : decode cX12_order 9 = .ok (.ifCond .lt 8, 3) := dk_ifCond_lt (by decide +kernel)
theorem dX12_order_12 : decode cX12_order 12 = .ok (.iload 4, 2) := dk_iload (by decide +kernel)
theorem dX12_order_14 : decode cX12_order 14 = .ok (.ifCond .ge 10, 3) := dk_ifCond_ge (by decide +kernel)
theorem dX12_order_17 : decode cX12_order 17 = .ok (.aload_n 0, 1) := dk_aload_n_0 (by decide +kernel)
theorem dX12_order_18 : decode cX12_order 18 = .ok (.bipush (-4), 2) := dk_bipush (by decide +kernel)
theorem dX12_order_20 : decode cX12_order 20 = .ok (.invokevirtual 175, 3) := dk_invokevirtual (by decide +kernel)
theorem dX12_order_23 : decode cX12_order 23 = .ok (.ireturn, 1) := dk_ireturn (by decide +kernel)
theorem dX12_order_24 : decode cX12_order 24 = .ok (.iload 4, 2) := dk_iload (by decide +kernel)
theorem dX12_order_26 : decode cX12_order 26 = .ok (.bipush 100, 2) := dk_bipush (by decide +kernel)
theorem dX12_order_28 : decode cX12_order 28 = .ok (.idiv, 1) := dk_idiv (by decide +kernel)
theorem dX12_order_29 : decode cX12_order 29 = .ok (.istore 5, 2) := dk_istore (by decide +kernel)
theorem dX12_order_31 : decode cX12_order 31 = .ok (.iload 4, 2) := dk_iload (by decide +kernel)
theorem dX12_order_33 : decode cX12_order 33 = .ok (.bipush 10, 2) := dk_bipush (by decide +kernel)
theorem dX12_order_35 : decode cX12_order 35 = .ok (.idiv, 1) := dk_idiv (by decide +kernel)
theorem dX12_order_36 : decode cX12_order 36 = .ok (.bipush 10, 2) := dk_bipush (by decide +kernel)
theorem dX12_order_38 : decode cX12_order 38 = .ok (.irem, 1) := dk_irem (by decide +kernel)
theorem dX12_order_39 : decode cX12_order 39 = .ok (.istore 6, 2) := dk_istore (by decide +kernel)
theorem dX12_order_41 : decode cX12_order 41 = .ok (.iload 4, 2) := dk_iload (by decide +kernel)
theorem dX12_order_43 : decode cX12_order 43 = .ok (.bipush 10, 2) := dk_bipush (by decide +kernel)
theorem dX12_order_45 : decode cX12_order 45 = .ok (.irem, 1) := dk_irem (by decide +kernel)
theorem dX12_order_46 : decode cX12_order 46 = .ok (.istore 7, 2) := dk_istore (by decide +kernel)
theorem dX12_order_48 : decode cX12_order 48 = .ok (.iload_n 1, 1) := dk_iload_n_1 (by decide +kernel)
theorem dX12_order_49 : decode cX12_order 49 = .ok (.bipush 9, 2) := dk_bipush (by decide +kernel)
theorem dX12_order_51 : decode cX12_order 51 = .ok (.if_icmp .gt 23, 3) := dk_if_icmp_gt (by decide +kernel)
theorem dX12_order_54 : decode cX12_order 54 = .ok (.iload_n 2, 1) := dk_iload_n_2 (by decide +kernel)
theorem dX12_order_55 : decode cX12_order 55 = .ok (.bipush 9, 2) := dk_bipush (by decide +kernel)
theorem dX12_order_57 : decode cX12_order 57 = .ok (.if_icmp .gt 17, 3) := dk_if_icmp_gt (by decide +kernel)
theorem dX12_order_60 : decode cX12_order 60 = .ok (.iload_n 3, 1) := dk_iload_n_3 (by decide +kernel)
theorem dX12_order_61 : decode cX12_order 61 = .ok (.bipush 9, 2) := dk_bipush (by decide +kernel)
theorem dX12_order_63 : decode cX12_order 63 = .ok (.if_icmp .gt 11, 3) := dk_if_icmp_gt (by decide +kernel)
theorem dX12_order_66 : decode cX12_order 66 = .ok (.iload 4, 2) := dk_iload (by decide +kernel)
theorem dX12_order_68 : decode cX12_order 68 = .ok (.sipush 555, 3) := dk_sipush (by decide +kernel)
theorem dX12_order_71 : decode cX12_order 71 = .ok (.if_icmp .le 10, 3) := dk_if_icmp_le (by decide +kernel)
theorem dX12_order_74 : decode cX12_order 74 = .ok (.aload_n 0, 1) := dk_aload_n_0 (by decide +kernel)
theorem dX12_order_75 : decode cX12_order 75 = .ok (.bipush (-6), 2) := dk_bipush (by decide +kernel)
theorem dX12_order_77 : decode cX12_order 77 = .ok (.invokevirtual 175, 3) := dk_invokevirtual (by decide +kernel)
theorem dX12_order_80 : decode cX12_order 80 = .ok (.ireturn, 1) := dk_ireturn (by decide +kernel)
theorem dX12_order_81 : decode cX12_order 81 = .ok (.iload_n 1, 1) := dk_iload_n_1 (by decide +kernel)
theorem dX12_order_82 : decode cX12_order 82 = .ok (.iload_n 2, 1) := dk_iload_n_2 (by decide +kernel)
theorem dX12_order_83 : decode cX12_order 83 = .ok (.if_icmp .eq 25, 3) := dk_if_icmp_eq (by decide +kernel)
theorem dX12_order_86 : decode cX12_order 86 = .ok (.iload_n 2, 1) := dk_iload_n_2 (by decide +kernel)
theorem dX12_order_87 : decode cX12_order 87 = .ok (.iload_n 3, 1) := dk_iload_n_3 (by decide +kernel)
theorem dX12_order_88 : decode cX12_order 88 = .ok (.if_icmp .eq 20, 3) := dk_if_icmp_eq (by decide +kernel)
theorem dX12_order_91 : decode cX12_order 91 = .ok (.iload_n 1, 1) := dk_iload_n_1 (by decide +kernel)
theorem dX12_order_92 : decode cX12_order 92 = .ok (.iload_n 3, 1) := dk_iload_n_3 (by decide +kernel)
theorem dX12_order_93 : decode cX12_order 93 = .ok (.if_icmp .eq 15, 3) := dk_if_icmp_eq (by decide +kernel)
theorem dX12_order_96 : decode cX12_order 96 = .ok (.iload 5, 2) := dk_iload (by decide +kernel)
theorem dX12_order_98 : decode cX12_order 98 = .ok (.iload 6, 2) := dk_iload (by decide +kernel)
theorem dX12_order_100 : decode cX12_order 100 = .ok (.iadd, 1) := dk_iadd (by decide +kernel)
theorem dX12_order_101 : decode cX12_order 101 = .ok (.iload 7, 2) := dk_iload (by decide +kernel)
theorem dX12_order_103 : decode cX12_order 103 = .ok (.iadd, 1) := dk_iadd (by decide +kernel)
theorem dX12_order_104 : decode cX12_order 104 = .ok (.iconst 5, 1) := dk_iconst_5 (by decide +kernel)
theorem dX12_order_105 : decode cX12_order 105 = .ok (.if_icmp .eq 10, 3) := dk_if_icmp_eq (by decide +kernel)
theorem dX12_order_108 : decode cX12_order 108 = .ok (.aload_n 0, 1) := dk_aload_n_0 (by decide +kernel)
theorem dX12_order_109 : decode cX12_order 109 = .ok (.bipush (-3), 2) := dk_bipush (by decide +kernel)
theorem dX12_order_111 : decode cX12_order 111 = .ok (.invokevirtual 175, 3) := dk_invokevirtual (by decide +kernel)
theorem dX12_order_114 : decode cX12_order 114 = .ok (.ireturn, 1) := dk_ireturn (by decide +kernel)
theorem dX12_order_115 : decode cX12_order 115 = .ok (.iconst 0, 1) := dk_iconst_0 (by decide +kernel)
theorem dX12_order_116 : decode cX12_order 116 = .ok (.istore 8, 2) := dk_istore (by decide +kernel)
theorem dX12_order_118 : decode cX12_order 118 = .ok (.iload 8, 2) := dk_iload (by decide +kernel)
theorem dX12_order_120 : decode cX12_order 120 = .ok (.ldc_w 367, 3) := dk_ldc_w (by decide +kernel)
theorem dX12_order_123 : decode cX12_order 123 = .ok (.if_icmp .ge 145, 3) := dk_if_icmp_ge (by decide +kernel)
theorem dX12_order_126 : decode cX12_order 126 = .ok (.iconst 0, 1) := dk_iconst_0 (by decide +kernel)
theorem dX12_order_127 : decode cX12_order 127 = .ok (.istore 9, 2) := dk_istore (by decide +kernel)
theorem dX12_order_129 : decode cX12_order 129 = .ok (.iload 9, 2) := dk_iload (by decide +kernel)
theorem dX12_order_131 : decode cX12_order 131 = .ok (.bipush 10, 2) := dk_bipush (by decide +kernel)
theorem dX12_order_133 : decode cX12_order 133 = .ok (.if_icmp .ge 17, 3) := dk_if_icmp_ge (by decide +kernel)
theorem dX12_order_136 : decode cX12_order 136 = .ok (.aload_n 0, 1) := dk_aload_n_0 (by decide +kernel)
theorem dX12_order_137 : decode cX12_order 137 = .ok (.getfield 159, 3) := dk_getfield (by decide +kernel)
theorem dX12_order_140 : decode cX12_order 140 = .ok (.iload 9, 2) := dk_iload (by decide +kernel)
theorem dX12_order_142 : decode cX12_order 142 = .ok (.iconst 0, 1) := dk_iconst_0 (by decide +kernel)
theorem dX12_order_143 : decode cX12_order 143 = .ok (.iastore, 1) := dk_iastore (by decide +kernel)
theorem dX12_order_144 : decode cX12_order 144 = .ok (.iinc 9 1, 3) := dk_iinc (by decide +kernel)
theorem dX12_order_147 : decode cX12_order 147 = .ok (.goto (-18), 3) := dk_goto (by decide +kernel)
theorem dX12_order_150 : decode cX12_order 150 = .ok (.aload_n 0, 1) := dk_aload_n_0 (by decide +kernel)
theorem dX12_order_151 : decode cX12_order 151 = .ok (.getfield 159, 3) := dk_getfield (by decide +kernel)
theorem dX12_order_154 : decode cX12_order 154 = .ok (.iload_n 1, 1) := dk_iload_n_1 (by decide +kernel)
theorem dX12_order_155 : decode cX12_order 155 = .ok (.iload 5, 2) := dk_iload (by decide +kernel)
theorem dX12_order_157 : decode cX12_order 157 = .ok (.iastore, 1) := dk_iastore (by decide +kernel)
theorem dX12_order_158 : decode cX12_order 158 = .ok (.aload_n 0, 1) := dk_aload_n_0 (by decide +kernel)
theorem dX12_order_159 : decode cX12_order 159 = .ok (.getfield 159, 3) := dk_getfield (by decide +kernel)
theorem dX12_order_162 : decode cX12_order 162 = .ok (.iload_n 2, 1) := dk_iload_n_2 (by decide +kernel)
theorem dX12_order_163 : decode cX12_order 163 = .ok (.iload 6, 2) := dk_iload (by decide +kernel)
theorem dX12_order_165 : decode cX12_order 165 = .ok (.iastore, 1) := dk_iastore (by decide +kernel)
theorem dX12_order_166 : decode cX12_order 166 = .ok (.aload_n 0, 1) := dk_aload_n_0 (by decide +kernel)
theorem dX12_order_167 : decode cX12_order 167 = .ok (.getfield 159, 3) := dk_getfield (by decide +kernel)
theorem dX12_order_170 : decode cX12_order 170 = .ok (.iload_n 3, 1) := dk_iload_n_3 (by decide +kernel)
theorem dX12_order_171 : decode cX12_order 171 = .ok (.iload 7, 2) := dk_iload (by decide +kernel)
theorem dX12_order_173 : decode cX12_order 173 = .ok (.iastore, 1) := dk_iastore (by decide +kernel)
theorem dX12_order_174 : decode cX12_order 174 = .ok (.iconst 1, 1) := dk_iconst_1 (by decide +kernel)
theorem dX12_order_175 : decode cX12_order 175 = .ok (.istore 9, 2) := dk_istore (by decide +kernel)
theorem dX12_order_177 : decode cX12_order 177 = .ok (.iconst (-1), 1) := dk_iconst_m1 (by decide +kernel)
theorem dX12_order_178 : decode cX12_order 178 = .ok (.istore 10, 2) := dk_istore (by decide +kernel)
theorem dX12_order_180 : decode cX12_order 180 = .ok (.sipush 10000, 3) := dk_sipush (by decide +kernel)
theorem dX12_order_183 : decode cX12_order 183 = .ok (.istore 11, 2) := dk_istore (by decide +kernel)
theorem dX12_order_185 : decode cX12_order 185 = .ok (.iload 11, 2) := dk_iload (by decide +kernel)
theorem dX12_order_187 : decode cX12_order 187 = .ok (.ifCond .le 67, 3) := dk_ifCond_le (by decide +kernel)
theorem dX12_order_190 : decode cX12_order 190 = .ok (.iload 8, 2) := dk_iload (by decide +kernel)
theorem dX12_order_192 : decode cX12_order 192 = .ok (.iload 11, 2) := dk_iload (by decide +kernel)
theorem dX12_order_194 : decode cX12_order 194 = .ok (.idiv, 1) := dk_idiv (by decide +kernel)
theorem dX12_order_195 : decode cX12_order 195 = .ok (.bipush 10, 2) := dk_bipush (by decide +kernel)
theorem dX12_order_197 : decode cX12_order 197 = .ok (.irem, 1) := dk_irem (by decide +kernel)
theorem dX12_order_198 : decode cX12_order 198 = .ok (.istore 12, 2) := dk_istore (by decide +kernel)
theorem dX12_order_200 : decode cX12_order 200 = .ok (.aload_n 0, 1) := dk_aload_n_0 (by decide +kernel)
theorem dX12_order_201 : decode cX12_order 201 = .ok (.getfield 159, 3) := dk_getfield (by decide +kernel)
theorem dX12_order_204 : decode cX12_order 204 = .ok (.iload 12, 2) := dk_iload (by decide +kernel)
theorem dX12_order_206 : decode cX12_order 206 = .ok (.dup2, 1) := dk_dup2 (by decide +kernel)
theorem dX12_order_207 : decode cX12_order 207 = .ok (.iaload, 1) := dk_iaload (by decide +kernel)
theorem dX12_order_208 : decode cX12_order 208 = .ok (.iconst 1, 1) := dk_iconst_1 (by decide +kernel)
theorem dX12_order_209 : decode cX12_order 209 = .ok (.isub, 1) := dk_isub (by decide +kernel)
theorem dX12_order_210 : decode cX12_order 210 = .ok (.iastore, 1) := dk_iastore (by decide +kernel)
theorem dX12_order_211 : decode cX12_order 211 = .ok (.iload 9, 2) := dk_iload (by decide +kernel)
theorem dX12_order_213 : decode cX12_order 213 = .ok (.ifCond .eq 24, 3) := dk_ifCond_eq (by decide +kernel)
theorem dX12_order_216 : decode cX12_order 216 = .ok (.iload 12, 2) := dk_iload (by decide +kernel)
theorem dX12_order_218 : decode cX12_order 218 = .ok (.iload 10, 2) := dk_iload (by decide +kernel)
theorem dX12_order_220 : decode cX12_order 220 = .ok (.if_icmp .eq 17, 3) := dk_if_icmp_eq (by decide +kernel)
theorem dX12_order_223 : decode cX12_order 223 = .ok (.aload_n 0, 1) := dk_aload_n_0 (by decide +kernel)
theorem dX12_order_224 : decode cX12_order 224 = .ok (.getfield 159, 3) := dk_getfield (by decide +kernel)
theorem dX12_order_227 : decode cX12_order 227 = .ok (.iload 12, 2) := dk_iload (by decide +kernel)
theorem dX12_order_229 : decode cX12_order 229 = .ok (.iaload, 1) := dk_iaload (by decide +kernel)
theorem dX12_order_230 : decode cX12_order 230 = .ok (.ifCond .lt 7, 3) := dk_ifCond_lt (by decide +kernel)
theorem dX12_order_233 : decode cX12_order 233 = .ok (.iconst 1, 1) := dk_iconst_1 (by decide +kernel)
theorem dX12_order_234 : decode cX12_order 234 = .ok (.goto 4, 3) := dk_goto (by decide +kernel)
theorem dX12_order_237 : decode cX12_order 237 = .ok (.iconst 0, 1) := dk_iconst_0 (by decide +kernel)
theorem dX12_order_238 : decode cX12_order 238 = .ok (.istore 9, 2) := dk_istore (by decide +kernel)
theorem dX12_order_240 : decode cX12_order 240 = .ok (.iload 12, 2) := dk_iload (by decide +kernel)
theorem dX12_order_242 : decode cX12_order 242 = .ok (.istore 10, 2) := dk_istore (by decide +kernel)
theorem dX12_order_244 : decode cX12_order 244 = .ok (.iload 11, 2) := dk_iload (by decide +kernel)
theorem dX12_order_246 : decode cX12_order 246 = .ok (.bipush 10, 2) := dk_bipush (by decide +kernel)
theorem dX12_order_248 : decode cX12_order 248 = .ok (.idiv, 1) := dk_idiv (by decide +kernel)
theorem dX12_order_249 : decode cX12_order 249 = .ok (.istore 11, 2) := dk_istore (by decide +kernel)
theorem dX12_order_251 : decode cX12_order 251 = .ok (.goto (-66), 3) := dk_goto (by decide +kernel)
theorem dX12_order_254 : decode cX12_order 254 = .ok (.iload 9, 2) := dk_iload (by decide +kernel)
theorem dX12_order_256 : decode cX12_order 256 = .ok (.ifCond .eq 6, 3) := dk_ifCond_eq (by decide +kernel)
theorem dX12_order_259 : decode cX12_order 259 = .ok (.iload 8, 2) := dk_iload (by decide +kernel)
theorem dX12_order_261 : decode cX12_order 261 = .ok (.ireturn, 1) := dk_ireturn (by decide +kernel)
theorem dX12_order_262 : decode cX12_order 262 = .ok (.iinc 8 1, 3) := dk_iinc (by decide +kernel)
theorem dX12_order_265 : decode cX12_order 265 = .ok (.goto (-147), 3) := dk_goto (by decide +kernel)
theorem dX12_order_268 : decode cX12_order 268 = .ok (.bipush (-9), 2) := dk_bipush (by decide +kernel)
theorem dX12_order_270 : decode cX12_order 270 = .ok (.ireturn, 1) := dk_ireturn (by decide +kernel)
theorem dX12_check_0 : decode cX12_check 0 = .ok (.aload_n 0, 1) := dk_aload_n_0 (by decide +kernel)
theorem dX12_check_1 : decode cX12_check 1 = .ok (.iload_n 1, 1) := dk_iload_n_1 (by decide +kernel)
theorem dX12_check_2 : decode cX12_check 2 = .ok (.invokevirtual 217, 3) := dk_invokevirtual (by decide +kernel)
theorem dX12_check_5 : decode cX12_check 5 = .ok (.ifCond .eq 16, 3) := dk_ifCond_eq (by decide +kernel)
theorem dX12_check_8 : decode cX12_check 8 = .ok (.aload_n 0, 1) := dk_aload_n_0 (by decide +kernel)
theorem dX12_check_9 : decode cX12_check 9 = .ok (.getfield 364, 3) := dk_getfield (by decide +kernel)
theorem dX12_check_12 : decode cX12_check 12 = .ok (.aload_n 0, 1) := dk_aload_n_0 (by decide +kernel)
theorem dX12_check_13 : decode cX12_check 13 = .ok (.getfield 169, 3) := dk_getfield (by decide +kernel)
theorem dX12_check_16 : decode cX12_check 16 = .ok (.iload_n 1, 1) := dk_iload_n_1 (by decide +kernel)
theorem dX12_check_17 : decode cX12_check 17 = .ok (.isub, 1) := dk_isub (by decide +kernel)
theorem dX12_check_18 : decode cX12_check 18 = .ok (.if_icmp .le 9, 3) := dk_if_icmp_le (by decide +kernel)
theorem dX12_check_21 : decode cX12_check 21 = .ok (.aload_n 0, 1) := dk_aload_n_0 (by decide +kernel)
theorem dX12_check_22 : decode cX12_check 22 = .ok (.iconst (-1), 1) := dk_iconst_m1 (by decide +kernel)
theorem dX12_check_23 : decode cX12_check 23 = .ok (.invokevirtual 175, 3) := dk_invokevirtual (by decide +kernel)
theorem dX12_check_26 : decode cX12_check 26 = .ok (.ireturn, 1) := dk_ireturn (by decide +kernel)
theorem dX12_check_27 : decode cX12_check 27 = .ok (.aload_n 0, 1) := dk_aload_n_0 (by decide +kernel)
theorem dX12_check_28 : decode cX12_check 28 = .ok (.getfield 364, 3) := dk_getfield (by decide +kernel)
theorem dX12_check_31 : decode cX12_check 31 = .ok (.istore_n 2, 1) := dk_istore_n_2 (by decide +kernel)
theorem dX12_check_32 : decode cX12_check 32 = .ok (.aload_n 0, 1) := dk_aload_n_0 (by decide +kernel)
theorem dX12_check_33 : decode cX12_check 33 = .ok (.iconst 0, 1) := dk_iconst_0 (by decide +kernel)
theorem dX12_check_34 : decode cX12_check 34 = .ok (.putfield 364, 3) := dk_putfield (by decide +kernel)
theorem dX12_check_37 : decode cX12_check 37 = .ok (.iconst 0, 1) := dk_iconst_0 (by decide +kernel)
theorem dX12_check_38 : decode cX12_check 38 = .ok (.istore_n 3, 1) := dk_istore_n_3 (by decide +kernel)
theorem dX12_check_39 : decode cX12_check 39 = .ok (.iload_n 3, 1) := dk_iload_n_3 (by decide +kernel)
theorem dX12_check_40 : decode cX12_check 40 = .ok (.iload_n 2, 1) := dk_iload_n_2 (by decide +kernel)
theorem dX12_check_41 : decode cX12_check 41 = .ok (.if_icmp .ge 28, 3) := dk_if_icmp_ge (by decide +kernel)
theorem dX12_check_44 : decode cX12_check 44 = .ok (.aload_n 0, 1) := dk_aload_n_0 (by decide +kernel)
theorem dX12_check_45 : decode cX12_check 45 = .ok (.getfield 101, 3) := dk_getfield (by decide +kernel)
theorem dX12_check_48 : decode cX12_check 48 = .ok (.iload_n 3, 1) := dk_iload_n_3 (by decide +kernel)
theorem dX12_check_49 : decode cX12_check 49 = .ok (.iaload, 1) := dk_iaload (by decide +kernel)
theorem dX12_check_50 : decode cX12_check 50 = .ok (.aload_n 0, 1) := dk_aload_n_0 (by decide +kernel)
theorem dX12_check_51 : decode cX12_check 51 = .ok (.getfield 59, 3) := dk_getfield (by decide +kernel)
theorem dX12_check_54 : decode cX12_check 54 = .ok (.iload_n 1, 1) := dk_iload_n_1 (by decide +kernel)
theorem dX12_check_55 : decode cX12_check 55 = .ok (.iload_n 3, 1) := dk_iload_n_3 (by decide +kernel)
theorem dX12_check_56 : decode cX12_check 56 = .ok (.iadd, 1) := dk_iadd (by decide +kernel)
theorem dX12_check_57 : decode cX12_check 57 = .ok (.iaload, 1) := dk_iaload (by decide +kernel)
theorem dX12_check_58 : decode cX12_check 58 = .ok (.if_icmp .eq 5, 3) := dk_if_icmp_eq (by decide +kernel)
theorem dX12_check_61 : decode cX12_check 61 = .ok (.iload_n 3, 1) := dk_iload_n_3 (by decide +kernel)
theorem dX12_check_62 : decode cX12_check 62 = .ok (.ireturn, 1) := dk_ireturn (by decide +kernel)
theorem dX12_check_63 : decode cX12_check 63 = .ok (.iinc 3 1, 3) := dk_iinc (by decide +kernel)
theorem dX12_check_66 : decode cX12_check 66 = .ok (.goto (-27), 3) := dk_goto (by decide +kernel)
theorem dX12_check_69 : decode cX12_check 69 = .ok (.bipush (-9), 2) := dk_bipush (by decide +kernel)
theorem dX12_check_71 : decode cX12_check 71 = .ok (.ireturn, 1) := dk_ireturn (by decide +kernel)
theorem dX12_count_0 : decode cX12_count 0 = .ok (.iload_n 1, 1) := dk_iload_n_1 (by decide +kernel)
theorem dX12_count_1 : decode cX12_count 1 = .ok (.bipush 10, 2) := dk_bipush (by decide +kernel)
theorem dX12_count_3 : decode cX12_count 3 = .ok (.if_icmp .le 19, 3) := dk_if_icmp_le (by decide +kernel)
theorem dX12_count_6 : decode cX12_count 6 = .ok (.iload_n 1, 1) := dk_iload_n_1 (by decide +kernel)
theorem dX12_count_7 : decode cX12_count 7 = .ok (.bipush 17, 2) := dk_bipush (by decide +kernel)
theorem dX12_count_9 : decode cX12_count 9 = .ok (.if_icmp .ge 13, 3) := dk_if_icmp_ge (by decide +kernel)
theorem dX12_count_12 : decode cX12_count 12 = .ok (.aload_n 0, 1) := dk_aload_n_0 (by decide +kernel)
theorem dX12_count_13 : decode cX12_count 13 = .ok (.getfield 7, 3) := dk_getfield (by decide +kernel)
theorem dX12_count_16 : decode cX12_count 16 = .ok (.iload_n 1, 1) := dk_iload_n_1 (by decide +kernel)
theorem dX12_count_17 : decode cX12_count 17 = .ok (.bipush 10, 2) := dk_bipush (by decide +kernel)
theorem dX12_count_19 : decode cX12_count 19 = .ok (.isub, 1) := dk_isub (by decide +kernel)
theorem dX12_count_20 : decode cX12_count 20 = .ok (.iaload, 1) := dk_iaload (by decide +kernel)
theorem dX12_count_21 : decode cX12_count 21 = .ok (.ireturn, 1) := dk_ireturn (by decide +kernel)
theorem dX12_count_22 : decode cX12_count 22 = .ok (.iconst 0, 1) := dk_iconst_0 (by decide +kernel)
theorem dX12_count_23 : decode cX12_count 23 = .ok (.istore_n 2, 1) := dk_istore_n_2 (by decide +kernel)
theorem dX12_count_24 : decode cX12_count 24 = .ok (.iload_n 1, 1) := dk_iload_n_1 (by decide +kernel)
theorem dX12_count_25 : decode cX12_count 25 = .ok (.tableswitch 218 0 18 #[91, 96, 101, 106, 111, 116, 121, 126, 131, 168, 173, 218, 218, 218, 218, 218, 218, 178, 213], 91) := by decide +kernel
theorem dX12_count_116 : decode cX12_count 116 = .ok (.aload_n 0, 1) := dk_aload_n_0 (by decide +kernel)
theorem dX12_count_117 : decode cX12_count 117 = .ok (.getfield 169, 3) := dk_getfield (by decide +kernel)
theorem dX12_count_120 : decode cX12_count 120 = .ok (.ireturn, 1) := dk_ireturn (by decide +kernel)
theorem dX12_count_121 : decode cX12_count 121 = .ok (.aload_n 0, 1) := dk_aload_n_0 (by decide +kernel)
theorem dX12_count_122 : decode cX12_count 122 = .ok (.getfield 104, 3) := dk_getfield (by decide +kernel)
theorem dX12_count_125 : decode cX12_count 125 = .ok (.ireturn, 1) := dk_ireturn (by decide +kernel)
theorem dX12_count_126 : decode cX12_count 126 = .ok (.aload_n 0, 1) := dk_aload_n_0 (by decide +kernel)
theorem dX12_count_127 : decode cX12_count 127 = .ok (.getfield 166, 3) := dk_getfield (by decide +kernel)
theorem dX12_count_130 : decode cX12_count 130 = .ok (.ireturn, 1) := dk_ireturn (by decide +kernel)
theorem dX12_count_131 : decode cX12_count 131 = .ok (.aload_n 0, 1) := dk_aload_n_0 (by decide +kernel)
theorem dX12_count_132 : decode cX12_count 132 = .ok (.getfield 208, 3) := dk_getfield (by decide +kernel)
theorem dX12_count_135 : decode cX12_count 135 = .ok (.ireturn, 1) := dk_ireturn (by decide +kernel)
theorem dX12_count_136 : decode cX12_count 136 = .ok (.aload_n 0, 1) := dk_aload_n_0 (by decide +kernel)
theorem dX12_count_137 : decode cX12_count 137 = .ok (.getfield 191, 3) := dk_getfield (by decide +kernel)
theorem dX12_count_140 : decode cX12_count 140 = .ok (.ireturn, 1) := dk_ireturn (by decide +kernel)
theorem dX12_count_141 : decode cX12_count 141 = .ok (.aload_n 0, 1) := dk_aload_n_0 (by decide +kernel)
theorem dX12_count_142 : decode cX12_count 142 = .ok (.getfield 303, 3) := dk_getfield (by decide +kernel)
theorem dX12_count_145 : decode cX12_count 145 = .ok (.ireturn, 1) := dk_ireturn (by decide +kernel)
theorem dX12_count_146 : decode cX12_count 146 = .ok (.aload_n 0, 1) := dk_aload_n_0 (by decide +kernel)
theorem dX12_count_147 : decode cX12_count 147 = .ok (.getfield 220, 3) := dk_getfield (by decide +kernel)
theorem dX12_count_150 : decode cX12_count 150 = .ok (.ireturn, 1) := dk_ireturn (by decide +kernel)
theorem dX12_count_151 : decode cX12_count 151 = .ok (.aload_n 0, 1) := dk_aload_n_0 (by decide +kernel)
theorem dX12_count_152 : decode cX12_count 152 = .ok (.getfield 361, 3) := dk_getfield (by decide +kernel)
theorem dX12_count_155 : decode cX12_count 155 = .ok (.ireturn, 1) := dk_ireturn (by decide +kernel)
theorem dX12_count_156 : decode cX12_count 156 = .ok (.iconst 0, 1) := dk_iconst_0 (by decide +kernel)
theorem dX12_count_157 : decode cX12_count 157 = .ok (.istore_n 3, 1) := dk_istore_n_3 (by decide +kernel)
theorem dX12_count_158 : decode cX12_count 158 = .ok (.iload_n 3, 1) := dk_iload_n_3 (by decide +kernel)
theorem dX12_count_159 : decode cX12_count 159 = .ok (.aload_n 0, 1) := dk_aload_n_0 (by decide +kernel)
theorem dX12_count_160 : decode cX12_count 160 = .ok (.getfield 169, 3) := dk_getfield (by decide +kernel)
theorem dX12_count_163 : decode cX12_count 163 = .ok (.if_icmp .ge 28, 3) := dk_if_icmp_ge (by decide +kernel)
theorem dX12_count_166 : decode cX12_count 166 = .ok (.iload_n 2, 1) := dk_iload_n_2 (by decide +kernel)
theorem dX12_count_167 : decode cX12_count 167 = .ok (.aload_n 0, 1) := dk_aload_n_0 (by decide +kernel)
theorem dX12_count_168 : decode cX12_count 168 = .ok (.getfield 59, 3) := dk_getfield (by decide +kernel)
theorem dX12_count_171 : decode cX12_count 171 = .ok (.iload_n 3, 1) := dk_iload_n_3 (by decide +kernel)
theorem dX12_count_172 : decode cX12_count 172 = .ok (.iaload, 1) := dk_iaload (by decide +kernel)
theorem dX12_count_173 : decode cX12_count 173 = .ok (.bipush 6, 2) := dk_bipush (by decide +kernel)
theorem dX12_count_175 : decode cX12_count 175 = .ok (.if_icmp .ne 7, 3) := dk_if_icmp_ne (by decide +kernel)
theorem dX12_count_178 : decode cX12_count 178 = .ok (.iconst 1, 1) := dk_iconst_1 (by decide +kernel)
theorem dX12_count_179 : decode cX12_count 179 = .ok (.goto 4, 3) := dk_goto (by decide +kernel)
theorem dX12_count_182 : decode cX12_count 182 = .ok (.iconst 0, 1) := dk_iconst_0 (by decide +kernel)
theorem dX12_count_183 : decode cX12_count 183 = .ok (.iadd, 1) := dk_iadd (by decide +kernel)
theorem dX12_count_184 : decode cX12_count 184 = .ok (.istore_n 2, 1) := dk_istore_n_2 (by decide +kernel)
theorem dX12_count_185 : decode cX12_count 185 = .ok (.iinc 3 1, 3) := dk_iinc (by decide +kernel)
theorem dX12_count_188 : decode cX12_count 188 = .ok (.goto (-30), 3) := dk_goto (by decide +kernel)
theorem dX12_count_191 : decode cX12_count 191 = .ok (.iload_n 2, 1) := dk_iload_n_2 (by decide +kernel)
theorem dX12_count_192 : decode cX12_count 192 = .ok (.ireturn, 1) := dk_ireturn (by decide +kernel)
theorem dX12_count_193 : decode cX12_count 193 = .ok (.aload_n 0, 1) := dk_aload_n_0 (by decide +kernel)
theorem dX12_count_194 : decode cX12_count 194 = .ok (.getfield 252, 3) := dk_getfield (by decide +kernel)
theorem dX12_count_197 : decode cX12_count 197 = .ok (.ireturn, 1) := dk_ireturn (by decide +kernel)
theorem dX12_count_198 : decode cX12_count 198 = .ok (.aload_n 0, 1) := dk_aload_n_0 (by decide +kernel)
theorem dX12_count_199 : decode cX12_count 199 = .ok (.getfield 364, 3) := dk_getfield (by decide +kernel)
theorem dX12_count_202 : decode cX12_count 202 = .ok (.ireturn, 1) := dk_ireturn (by decide +kernel)
theorem dX12_count_203 : decode cX12_count 203 = .ok (.iconst 0, 1) := dk_iconst_0 (by decide +kernel)
theorem dX12_count_204 : decode cX12_count 204 = .ok (.istore_n 3, 1) := dk_istore_n_3 (by decide +kernel)
theorem dX12_count_205 : decode cX12_count 205 = .ok (.iload_n 3, 1) := dk_iload_n_3 (by decide +kernel)
theorem dX12_count_206 : decode cX12_count 206 = .ok (.aload_n 0, 1) := dk_aload_n_0 (by decide +kernel)
theorem dX12_count_207 : decode cX12_count 207 = .ok (.getfield 166, 3) := dk_getfield (by decide +kernel)
theorem dX12_count_210 : decode cX12_count 210 = .ok (.if_icmp .ge 26, 3) := dk_if_icmp_ge (by decide +kernel)
theorem dX12_count_213 : decode cX12_count 213 = .ok (.iload_n 2, 1) := dk_iload_n_2 (by decide +kernel)
theorem dX12_count_214 : decode cX12_count 214 = .ok (.aload_n 0, 1) := dk_aload_n_0 (by decide +kernel)
theorem dX12_count_215 : decode cX12_count 215 = .ok (.getfield 46, 3) := dk_getfield (by decide +kernel)
theorem dX12_count_218 : decode cX12_count 218 = .ok (.iload_n 3, 1) := dk_iload_n_3 (by decide +kernel)
theorem dX12_count_219 : decode cX12_count 219 = .ok (.baload, 1) := dk_baload (by decide +kernel)
theorem dX12_count_220 : decode cX12_count 220 = .ok (.ifCond .eq 7, 3) := dk_ifCond_eq (by decide +kernel)
theorem dX12_count_223 : decode cX12_count 223 = .ok (.iconst 1, 1) := dk_iconst_1 (by decide +kernel)
theorem dX12_count_224 : decode cX12_count 224 = .ok (.goto 4, 3) := dk_goto (by decide +kernel)
theorem dX12_count_227 : decode cX12_count 227 = .ok (.iconst 0, 1) := dk_iconst_0 (by decide +kernel)
theorem dX12_count_228 : decode cX12_count 228 = .ok (.iadd, 1) := dk_iadd (by decide +kernel)
theorem dX12_count_229 : decode cX12_count 229 = .ok (.istore_n 2, 1) := dk_istore_n_2 (by decide +kernel)
theorem dX12_count_230 : decode cX12_count 230 = .ok (.iinc 3 1, 3) := dk_iinc (by decide +kernel)
theorem dX12_count_233 : decode cX12_count 233 = .ok (.goto (-28), 3) := dk_goto (by decide +kernel)
theorem dX12_count_236 : decode cX12_count 236 = .ok (.iload_n 2, 1) := dk_iload_n_2 (by decide +kernel)
theorem dX12_count_237 : decode cX12_count 237 = .ok (.ireturn, 1) := dk_ireturn (by decide +kernel)
theorem dX12_count_238 : decode cX12_count 238 = .ok (.aload_n 0, 1) := dk_aload_n_0 (by decide +kernel)
theorem dX12_count_239 : decode cX12_count 239 = .ok (.getfield 214, 3) := dk_getfield (by decide +kernel)
theorem dX12_count_242 : decode cX12_count 242 = .ok (.ireturn, 1) := dk_ireturn (by decide +kernel)
theorem dX12_count_243 : decode cX12_count 243 = .ok (.bipush (-9), 2) := dk_bipush (by decide +kernel)
theorem dX12_count_245 : decode cX12_count 245 = .ok (.ireturn, 1) := dk_ireturn (by decide +kernel)
set_option maxHeartbeats 4000000 in
set_option maxRecDepth 100000 in
theorem c_X12_advert (l : Launch) (g : gG) (J : Nat → Nat → Int32) (L : Nat → Nat → Int64) (I : Nat → Nat → Nat → Int32) (P : Nat → Nat → Nat → Option Nat) (E : Nat → Option Nat) (N : Nat → Nat) (sz : Nat) (a0 : Int32) (hwm : WM J) : Met l yX12_advert (WS yX12_advert cX12_advert 3 (some .int)) (RM (3) 0 0) (PC g [.ref (g.2.2.1 13), .int a0] ((J, L, I, P, E, N), sgM g) sz) (va_Qi (fun (r : Int32) (u : (Nat → Nat → Int32)) => WM (hv J [100, 129] [(13, 43)] u) ∧ ((r.toInt = (-4) ∧ (a0.toInt < 0) ∧ u 13 43 = J 13 43) ∨ (r.toInt = (-6) ∧ (0 ≤ a0.toInt ∧ (9 < a0.toInt ∨ (J 13 43).toInt = 200)) ∧ u 13 43 = J 13 43) ∨ (r.toInt = (J 13 43).toInt / 5 ∧ (0 ≤ a0.toInt ∧ a0.toInt ≤ 9 ∧ (J 13 43).toInt ≤ 199) ∧ (u 13 43).toInt = (J 13 43).toInt + 1))) (fun u t => at_ g (FR g ((J, L, I, P, E, N), sgM g) sz) ((hv J [100, 129] [(13, 43)] u, L, I, P, E, N), sgM g) t) (FR g ((J, L, I, P, E, N), sgM g) sz)) 0 0 (FR g ((J, L, I, P, E, N), sgM g) sz) := by
  refine ent (by decide +kernel) (Nat.le_of_ble_eq_true rfl) ?_
  intro p e s m below meth c ls hsz C hW hr hlocks hname hl
  generalize FR g ((J, L, I, P, E, N), sgM g) sz = A at C hW ⊢
  have hx := C.1.1
  have hb := C.1.2.1
  have hts := C.1.2.2.2.2
  have hW : WB g A s.heap s.heap [] (J, L, I, P, E, N) (sgM g) := hW
  have hl : lv_has ls 3 [(0, .ref (g.2.2.1 13)), (1, .int a0)] := hl
  obtain ⟨H, hH⟩ : ∃ H : Heap, H = s.heap := ⟨_, rfl⟩
  obtain ⟨locs, hlocs⟩ : ∃ q : List Loc, q = [] := ⟨_, rfl⟩
  have hW : WB g A s.heap H locs (J, L, I, P, E, N) (sgM g) := by rw [hH, hlocs]; exact hW
  obtain ⟨⟨hnd1, hnd2, hon, hhm1, hhm2, hhN, hcu1, hcu2, hco1, hco2, hcN⟩, ⟨hrd1, hrd2⟩, ⟨hnw1, hnw2, hns1, hns2, hof⟩, ⟨htm1, htm2, hts_⟩, ⟨had1, had2, hrw1, hrw2, htp1, htp2⟩⟩ := id hwm
  refine start_ hH hlocs ?_
  refine lv_iload_n hx hb dX12_advert_0 rfl (lv_at hl 1 rfl) ?_
  refine lv_iconst (v := 0) hx hb dX12_advert_1 (by decide) ?_
  refine lv_bipush (v := 9) hx hb dX12_advert_2 (by decide) ?_
  refine ci_ C hW (runS (As := [.int a0, .int 0, .int 9]) (rest := []) (T := ((J, L, I, P, E, N), sgM g)) C hW (c_X12_within l g J L I P E N H.size a0 0 9 ) mi_X12_within tw_1258 ⟨rfl, rfl, Nat.le_of_ble_eq_true rfl, Nat.le_of_ble_eq_true rfl⟩ rfl hl.1 rfl (Nat.le_of_ble_eq_true rfl) dX12_advert_4 ⟨Nat.le_of_ble_eq_true rfl, Nat.le_of_ble_eq_true rfl⟩) (fun r1 u1 H locs hp1 hW => ?_)
  have hc1 : ((r1.toInt = (-4) ∧ (a0.toInt < 0)) ∨ (r1.toInt = (-6) ∧ (0 ≤ a0.toInt ∧ 9 < a0.toInt)) ∨ (r1.toInt = 0 ∧ (0 ≤ a0.toInt ∧ a0.toInt ≤ 9))) := hp1
  clear hp1
  have hW : WB g A s.heap H locs (J, L, I, P, E, N) (sgM g) := hW
  refine lv_istore_n (lv' := [(2, .int r1), (0, .ref (g.2.2.1 13)), (1, .int a0)]) hx hb dX12_advert_7 rfl hl (by decide) rfl (fun ls hl => ?_)
  refine lv_iload_n hx hb dX12_advert_8 rfl (lv_at hl 0 rfl) ?_
  refine lv_if_ne (tgt := 25) hx hb dX12_advert_9 (by decide) (fun c2 => ?_) (fun c2 => ?_)
  · have c2 : ¬ r1.toInt = 0 := tne rfl kp0 c2
    refine lv_iload_n hx hb dX12_advert_25 rfl (lv_at hl 0 rfl) ?_
    refine lv_if_eq (tgt := 35) hx hb dX12_advert_26 (by decide) (fun c3 => ?_) (fun c3 => ?_)
    · have c3 : r1.toInt = 0 := teq rfl kp0 c3
      exfalso; omega
    · have c3 : ¬ r1.toInt = 0 := tne rfl kp0 c3
      refine lv_aload_n hx hb dX12_advert_29 rfl (lv_at hl 1 rfl) ?_
      refine lv_iload_n hx hb dX12_advert_30 rfl (lv_at hl 0 rfl) ?_
      refine ci_ C hW (runV (x := (g.2.2.1 13)) (As := [.int r1]) (rest := []) (T := ((J, L, I, P, E, N), sgM g)) C hW (c_X12_refuse l g J L I P E N H.size r1 (show -6 ≤ r1.toInt ∧ r1.toInt ≤ -1 from by omega)) mi_X12_refuse tw_1239 (recv_ (T := ((J, L, I, P, E, N), sgM g)) C hW (mm_ rfl) rfl rfl) ⟨rfl, rfl, Nat.le_of_ble_eq_true rfl, Nat.le_of_ble_eq_true rfl⟩ rfl hl.1 rfl (Nat.le_of_ble_eq_true rfl) dX12_advert_31 ⟨Nat.le_of_ble_eq_true rfl, Nat.le_of_ble_eq_true rfl⟩) (fun r4 u4 H locs hp4 hW => ?_)
      have hc4 : ((r4 = r1)) := hp4
      clear hp4
      have hr4 : r4.toInt = (r1).toInt := by rw [hc4]
      have hW : WB g A s.heap H locs ((hv J [100] [] u4), L, I, P, E, N) (sgM g) := hW
      have hWr : WB g A s.heap H locs (hv J [100, 129] [(13, 43)] (hv J [100] [] u4), L, I, P, E, N) (sgM g) := by
        rw [← ag_hvE (J := J) (R := [100, 129]) (F := [(13, 43)]) (ag_hv rfl rfl ag_rf)]
        exact hW
      have hwmr : WM (hv J [100] [] u4) := by first | exact hwm | exact wm_advert hwm (by omega)
      have hwmr : WM (hv J [100, 129] [(13, 43)] (hv J [100] [] u4)) := by
        rw [← ag_hvE (J := J) (R := [100, 129]) (F := [(13, 43)]) (ag_hv rfl rfl ag_rf)]; exact hwmr
      exact end_i C hr hlocks (hv J [100] [] u4) hWr ⟨hwmr, by first | exact Or.inl ⟨by omega, by omega, show J 13 43 = J 13 43 from by first | rfl | assumption⟩ | exact Or.inr (Or.inl ⟨by omega, by omega, show J 13 43 = J 13 43 from by first | rfl | assumption⟩) | exact Or.inr (Or.inr (⟨by omega, by omega, show (J 13 43).toInt = (J 13 43).toInt + 1 from by omega⟩)) | (rcases hc1 with qhc1 | qhc1 | qhc1 <;> first | exact Or.inl ⟨by omega, by omega, show J 13 43 = J 13 43 from by first | rfl | assumption⟩ | exact Or.inr (Or.inl ⟨by omega, by omega, show J 13 43 = J 13 43 from by first | rfl | assumption⟩) | exact Or.inr (Or.inr (⟨by omega, by omega, show (J 13 43).toInt = (J 13 43).toInt + 1 from by omega⟩)) | (exfalso; omega))⟩ dX12_advert_34
  · have c2 : r1.toInt = 0 := teq rfl kp0 c2
    refine lv_aload_n hx hb dX12_advert_12 rfl (lv_at hl 1 rfl) ?_
    refine rg_13_43 C hW (mm_ rfl) tw_1066 dX12_advert_13 ?_
    refine lv_sipush (v := 200) hx hb dX12_advert_16 (by decide) ?_
    refine lv_icmp_ne (tgt := 25) hx hb dX12_advert_19 (by decide) (fun c5 => ?_) (fun c5 => ?_)
    · have c5 : ¬ (J 13 43).toInt = 200 := tne rfl kp200 c5
      refine lv_iload_n hx hb dX12_advert_25 rfl (lv_at hl 0 rfl) ?_
      refine lv_if_eq (tgt := 35) hx hb dX12_advert_26 (by decide) (fun c6 => ?_) (fun c6 => ?_)
      · have c6 : r1.toInt = 0 := teq rfl kp0 c6
        refine lv_aload_n hx hb dX12_advert_35 rfl (lv_at hl 1 rfl) ?_
        refine rg_13_29 C hW (mm_ rfl) tw_1052 dX12_advert_36 ?_
        refine lv_aload_n hx hb dX12_advert_39 rfl (lv_at hl 1 rfl) ?_
        refine rg_13_43 C hW (mm_ rfl) tw_1066 dX12_advert_40 ?_
        refine lv_iload_n hx hb dX12_advert_43 rfl (lv_at hl 2 rfl) ?_
        have hin : vp_in (J 13 43) 200 := tin rfl (by omega)
        refine rs_129 C hW (mm_ rfl) hin dX12_advert_44 (fun H locs hW => ?_)
        refine lv_aload_n hx hb dX12_advert_45 rfl (lv_at hl 1 rfl) ?_
        refine lv_dup hx hb dX12_advert_46 rfl ?_
        refine rg_13_43 C hW (mm_ rfl) tw_1066 dX12_advert_47 ?_
        refine lv_as (J 13 43) rfl ?_
        refine lv_iconst (v := 1) hx hb dX12_advert_50 (by decide) ?_
        refine lv_iadd hx hb dX12_advert_51 ?_
        refine lv_topi (fun x7 (e7 : x7 = (J 13 43) + 1) => ?_)
        try have t7 : x7.toInt = (J 13 43).toInt + 1 := tadd e7 rfl kp1 (by omega)
        refine rp_13_43 C hW (mm_ rfl) tw_1066 dX12_advert_52 (fun H locs hW => ?_)
        refine lv_aload_n hx hb dX12_advert_55 rfl (lv_at hl 1 rfl) ?_
        refine rg_13_43 C hW (mm_ rfl) tw_1066 dX12_advert_56 ?_
        refine lv_as x7 rfl ?_
        refine lv_iconst (v := 1) hx hb dX12_advert_59 (by decide) ?_
        refine lv_isub hx hb dX12_advert_60 ?_
        refine lv_topi (fun x8 (e8 : x8 = x7 - 1) => ?_)
        try have t8 : x8.toInt = x7.toInt - 1 := tsub e8 rfl kp1 (by omega)
        refine lv_iconst (v := 5) hx hb dX12_advert_61 (by decide) ?_
        refine lv_idiv hx hb dX12_advert_62 (by decide) ?_
        refine lv_topi (fun x9 (e9 : x9 = x8 / 5) => ?_)
        have t9 : x9.toInt = x8.toInt.tdiv 5 := tdiv e9 rfl kp5 (by decide)
        try rw [tdp (a := x8.toInt) (by omega)] at t9
        have hWr : WB g A s.heap H locs (hv J [100, 129] [(13, 43)] (up2 (up2 J 129 ((J 13 43).toNatClampNeg) a0) 13 43 x7), L, I, P, E, N) (sgM g) := by
          rw [← ag_hvE (J := J) (R := [100, 129]) (F := [(13, 43)]) (ag_up (Or.inr rfl) (ag_up (Or.inl rfl) ag_rf))]
          exact hW
        have hwmr : WM (up2 (up2 J 129 ((J 13 43).toNatClampNeg) a0) 13 43 x7) := by first | exact hwm | exact wm_advert hwm (by omega)
        have hwmr : WM (hv J [100, 129] [(13, 43)] (up2 (up2 J 129 ((J 13 43).toNatClampNeg) a0) 13 43 x7)) := by
          rw [← ag_hvE (J := J) (R := [100, 129]) (F := [(13, 43)]) (ag_up (Or.inr rfl) (ag_up (Or.inl rfl) ag_rf))]; exact hwmr
        exact end_i C hr hlocks (up2 (up2 J 129 ((J 13 43).toNatClampNeg) a0) 13 43 x7) hWr ⟨hwmr, by first | exact Or.inl ⟨by omega, by omega, show x7 = J 13 43 from by first | rfl | assumption⟩ | exact Or.inr (Or.inl ⟨by omega, by omega, show x7 = J 13 43 from by first | rfl | assumption⟩) | exact Or.inr (Or.inr (⟨by omega, by omega, show (x7).toInt = (J 13 43).toInt + 1 from by omega⟩)) | (rcases hc1 with qhc1 | qhc1 | qhc1 <;> first | exact Or.inl ⟨by omega, by omega, show x7 = J 13 43 from by first | rfl | assumption⟩ | exact Or.inr (Or.inl ⟨by omega, by omega, show x7 = J 13 43 from by first | rfl | assumption⟩) | exact Or.inr (Or.inr (⟨by omega, by omega, show (x7).toInt = (J 13 43).toInt + 1 from by omega⟩)) | (exfalso; omega))⟩ dX12_advert_63
      · have c6 : ¬ r1.toInt = 0 := tne rfl kp0 c6
        exfalso; omega
    · have c5 : (J 13 43).toInt = 200 := teq rfl kp200 c5
      refine lv_bipush (v := (-6)) hx hb dX12_advert_22 (by decide) ?_
      refine lv_istore_n (lv' := [(2, .int (-6)), (0, .ref (g.2.2.1 13)), (1, .int a0)]) hx hb dX12_advert_24 rfl hl (by decide) rfl (fun ls hl => ?_)
      refine lv_iload_n hx hb dX12_advert_25 rfl (lv_at hl 0 rfl) ?_
      refine lv_if_eq (tgt := 35) hx hb dX12_advert_26 (by decide) (fun c10 => ?_) (fun c10 => ?_)
      · exact absurd c10 (by decide)
      · skip
        refine lv_aload_n hx hb dX12_advert_29 rfl (lv_at hl 1 rfl) ?_
        refine lv_iload_n hx hb dX12_advert_30 rfl (lv_at hl 0 rfl) ?_
        refine ci_ C hW (runV (x := (g.2.2.1 13)) (As := [.int (-6)]) (rest := []) (T := ((J, L, I, P, E, N), sgM g)) C hW (c_X12_refuse l g J L I P E N H.size (-6) (show -6 ≤ (-6 : Int32).toInt ∧ (-6 : Int32).toInt ≤ -1 from by (try simp only [kn6]); omega)) mi_X12_refuse tw_1239 (recv_ (T := ((J, L, I, P, E, N), sgM g)) C hW (mm_ rfl) rfl rfl) ⟨rfl, rfl, Nat.le_of_ble_eq_true rfl, Nat.le_of_ble_eq_true rfl⟩ rfl hl.1 rfl (Nat.le_of_ble_eq_true rfl) dX12_advert_31 ⟨Nat.le_of_ble_eq_true rfl, Nat.le_of_ble_eq_true rfl⟩) (fun r11 u11 H locs hp11 hW => ?_)
        have hc11 : ((r11 = (-6))) := hp11
        clear hp11
        have hr11 : r11.toInt = (-6) := by rw [hc11]; exact kn6
        have hW : WB g A s.heap H locs ((hv J [100] [] u11), L, I, P, E, N) (sgM g) := hW
        have hWr : WB g A s.heap H locs (hv J [100, 129] [(13, 43)] (hv J [100] [] u11), L, I, P, E, N) (sgM g) := by
          rw [← ag_hvE (J := J) (R := [100, 129]) (F := [(13, 43)]) (ag_hv rfl rfl ag_rf)]
          exact hW
        have hwmr : WM (hv J [100] [] u11) := by first | exact hwm | exact wm_advert hwm (by omega)
        have hwmr : WM (hv J [100, 129] [(13, 43)] (hv J [100] [] u11)) := by
          rw [← ag_hvE (J := J) (R := [100, 129]) (F := [(13, 43)]) (ag_hv rfl rfl ag_rf)]; exact hwmr
        exact end_i C hr hlocks (hv J [100] [] u11) hWr ⟨hwmr, by first | exact Or.inl ⟨by omega, by omega, show J 13 43 = J 13 43 from by first | rfl | assumption⟩ | exact Or.inr (Or.inl ⟨by omega, by omega, show J 13 43 = J 13 43 from by first | rfl | assumption⟩) | exact Or.inr (Or.inr (⟨by omega, by omega, show (J 13 43).toInt = (J 13 43).toInt + 1 from by omega⟩)) | (rcases hc1 with qhc1 | qhc1 | qhc1 <;> first | exact Or.inl ⟨by omega, by omega, show J 13 43 = J 13 43 from by first | rfl | assumption⟩ | exact Or.inr (Or.inl ⟨by omega, by omega, show J 13 43 = J 13 43 from by first | rfl | assumption⟩) | exact Or.inr (Or.inr (⟨by omega, by omega, show (J 13 43).toInt = (J 13 43).toInt + 1 from by omega⟩)) | (exfalso; omega))⟩ dX12_advert_34

set_option maxHeartbeats 4000000 in
set_option maxRecDepth 100000 in
theorem c_X12_sold (l : Launch) (g : gG) (J : Nat → Nat → Int32) (L : Nat → Nat → Int64) (I : Nat → Nat → Nat → Int32) (P : Nat → Nat → Nat → Option Nat) (E : Nat → Option Nat) (N : Nat → Nat) (sz : Nat) (a0 : Int32) (a1 : Int32) (hwm : WM J) : Met l yX12_sold (WS yX12_sold cX12_sold 4 (some .int)) (RM (3) 0 0) (PC g [.ref (g.2.2.1 13), .int a0, .int a1] ((J, L, I, P, E, N), sgM g) sz) (va_Qi (fun (r : Int32) (u : (Nat → Nat → Int32)) => True) (fun u t => at_ g (FR g ((J, L, I, P, E, N), sgM g) sz) ((hv J [100] [] u, L, I, P, E, N), sgM g) t) (FR g ((J, L, I, P, E, N), sgM g) sz)) 0 0 (FR g ((J, L, I, P, E, N), sgM g) sz) := by
  refine ent (by decide +kernel) (Nat.le_of_ble_eq_true rfl) ?_
  intro p e s m below meth c ls hsz C hW hr hlocks hname hl
  generalize FR g ((J, L, I, P, E, N), sgM g) sz = A at C hW ⊢
  have hx := C.1.1
  have hb := C.1.2.1
  have hts := C.1.2.2.2.2
  have hW : WB g A s.heap s.heap [] (J, L, I, P, E, N) (sgM g) := hW
  have hl : lv_has ls 4 [(0, .ref (g.2.2.1 13)), (1, .int a0), (2, .int a1)] := hl
  obtain ⟨H, hH⟩ : ∃ H : Heap, H = s.heap := ⟨_, rfl⟩
  obtain ⟨locs, hlocs⟩ : ∃ q : List Loc, q = [] := ⟨_, rfl⟩
  have hW : WB g A s.heap H locs (J, L, I, P, E, N) (sgM g) := by rw [hH, hlocs]; exact hW
  obtain ⟨⟨hnd1, hnd2, hon, hhm1, hhm2, hhN, hcu1, hcu2, hco1, hco2, hcN⟩, ⟨hrd1, hrd2⟩, ⟨hnw1, hnw2, hns1, hns2, hof⟩, ⟨htm1, htm2, hts_⟩, ⟨had1, had2, hrw1, hrw2, htp1, htp2⟩⟩ := id hwm
  refine start_ hH hlocs ?_
  refine lv_iload_n hx hb dX12_sold_0 rfl (lv_at hl 2 rfl) ?_
  refine lv_iconst (v := 0) hx hb dX12_sold_1 (by decide) ?_
  refine lv_iconst (v := 4) hx hb dX12_sold_2 (by decide) ?_
  refine ci_ C hW (runS (As := [.int a1, .int 0, .int 4]) (rest := []) (T := ((J, L, I, P, E, N), sgM g)) C hW (c_X12_within l g J L I P E N H.size a1 0 4 ) mi_X12_within tw_1258 ⟨rfl, rfl, Nat.le_of_ble_eq_true rfl, Nat.le_of_ble_eq_true rfl⟩ rfl hl.1 rfl (Nat.le_of_ble_eq_true rfl) dX12_sold_3 ⟨Nat.le_of_ble_eq_true rfl, Nat.le_of_ble_eq_true rfl⟩) (fun r1 u1 H locs hp1 hW => ?_)
  have hc1 : ((r1.toInt = (-4) ∧ (a1.toInt < 0)) ∨ (r1.toInt = (-6) ∧ (0 ≤ a1.toInt ∧ 4 < a1.toInt)) ∨ (r1.toInt = 0 ∧ (0 ≤ a1.toInt ∧ a1.toInt ≤ 4))) := hp1
  clear hp1
  have hW : WB g A s.heap H locs (J, L, I, P, E, N) (sgM g) := hW
  refine lv_istore_n (lv' := [(3, .int r1), (0, .ref (g.2.2.1 13)), (1, .int a0), (2, .int a1)]) hx hb dX12_sold_6 rfl hl (by decide) rfl (fun ls hl => ?_)
  refine lv_iload_n hx hb dX12_sold_7 rfl (lv_at hl 0 rfl) ?_
  refine lv_if_eq (tgt := 17) hx hb dX12_sold_8 (by decide) (fun c2 => ?_) (fun c2 => ?_)
  · have c2 : r1.toInt = 0 := teq rfl kp0 c2
    refine lv_iload_n hx hb dX12_sold_17 rfl (lv_at hl 2 rfl) ?_
    refine lv_if_lt (tgt := 39) hx hb dX12_sold_18 (by decide) (fun c3 => ?_) (fun c3 => ?_)
    · have c3 : a0.toInt < 0 := tlt rfl kp0 c3
      refine lv_bipush (v := (-9)) hx hb dX12_sold_39 (by decide) ?_
      refine lv_goto (tgt := 54) hx hb dX12_sold_41 (by decide) ?_
      have hWr : WB g A s.heap H locs (hv J [100] [] J, L, I, P, E, N) (sgM g) := by
        rw [← ag_hvE (J := J) (R := [100]) (F := []) ag_rf]
        exact hW
      exact end_i C hr hlocks J hWr trivial dX12_sold_54
    · have c3 : 0 ≤ a0.toInt := tnlt rfl kp0 c3
      refine lv_iload_n hx hb dX12_sold_21 rfl (lv_at hl 2 rfl) ?_
      refine lv_bipush (v := 40) hx hb dX12_sold_22 (by decide) ?_
      refine lv_icmp_ge (tgt := 39) hx hb dX12_sold_24 (by decide) (fun c4 => ?_) (fun c4 => ?_)
      · have c4 : 40 ≤ a0.toInt := tle kp40 rfl c4
        refine lv_bipush (v := (-9)) hx hb dX12_sold_39 (by decide) ?_
        refine lv_goto (tgt := 54) hx hb dX12_sold_41 (by decide) ?_
        have hWr : WB g A s.heap H locs (hv J [100] [] J, L, I, P, E, N) (sgM g) := by
          rw [← ag_hvE (J := J) (R := [100]) (F := []) ag_rf]
          exact hW
        exact end_i C hr hlocks J hWr trivial dX12_sold_54
      · have c4 : a0.toInt < 40 := tnle kp40 rfl c4
        refine lv_iconst (v := 5) hx hb dX12_sold_27 (by decide) ?_
        refine lv_iload_n hx hb dX12_sold_28 rfl (lv_at hl 2 rfl) ?_
        refine lv_imul hx hb dX12_sold_29 ?_
        refine lv_topi (fun x5 (e5 : x5 = 5 * a0) => ?_)
        try have t5 : x5.toInt = 5 * a0.toInt := tmul e5 kp5 rfl (by omega)
        refine lv_iload_n hx hb dX12_sold_30 rfl (lv_at hl 3 rfl) ?_
        refine lv_iadd hx hb dX12_sold_31 ?_
        refine lv_topi (fun x6 (e6 : x6 = x5 + a1) => ?_)
        try have t6 : x6.toInt = x5.toInt + a1.toInt := tadd e6 rfl rfl (by omega)
        refine lv_aload_n hx hb dX12_sold_32 rfl (lv_at hl 1 rfl) ?_
        refine rg_13_43 C hW (mm_ rfl) tw_1066 dX12_sold_33 ?_
        refine lv_icmp_lt (tgt := 44) hx hb dX12_sold_36 (by decide) (fun c7 => ?_) (fun c7 => ?_)
        · have c7 : x6.toInt < (J 13 43).toInt := tlt rfl rfl c7
          refine lv_aload_n hx hb dX12_sold_44 rfl (lv_at hl 1 rfl) ?_
          refine rg_13_29 C hW (mm_ rfl) tw_1052 dX12_sold_45 ?_
          refine lv_iconst (v := 5) hx hb dX12_sold_48 (by decide) ?_
          refine lv_iload_n hx hb dX12_sold_49 rfl (lv_at hl 2 rfl) ?_
          refine lv_imul hx hb dX12_sold_50 ?_
          refine lv_topi (fun x8 (e8 : x8 = 5 * a0) => ?_)
          try have t8 : x8.toInt = 5 * a0.toInt := tmul e8 kp5 rfl (by omega)
          refine lv_iload_n hx hb dX12_sold_51 rfl (lv_at hl 3 rfl) ?_
          refine lv_iadd hx hb dX12_sold_52 ?_
          refine lv_topi (fun x9 (e9 : x9 = x8 + a1) => ?_)
          try have t9 : x9.toInt = x8.toInt + a1.toInt := tadd e9 rfl rfl (by omega)
          have hin : vp_in x9 200 := tin rfl (by omega)
          refine ra_129 C hW (mm_ rfl) hin dX12_sold_53 ?_
          refine lv_topi (fun x10 (e10 : x10 = J 129 x9.toNatClampNeg) => ?_)
          have hWr : WB g A s.heap H locs (hv J [100] [] J, L, I, P, E, N) (sgM g) := by
            rw [← ag_hvE (J := J) (R := [100]) (F := []) ag_rf]
            exact hW
          exact end_i C hr hlocks J hWr trivial dX12_sold_54
        · have c7 : (J 13 43).toInt ≤ x6.toInt := tnlt rfl rfl c7
          refine lv_bipush (v := (-9)) hx hb dX12_sold_39 (by decide) ?_
          refine lv_goto (tgt := 54) hx hb dX12_sold_41 (by decide) ?_
          have hWr : WB g A s.heap H locs (hv J [100] [] J, L, I, P, E, N) (sgM g) := by
            rw [← ag_hvE (J := J) (R := [100]) (F := []) ag_rf]
            exact hW
          exact end_i C hr hlocks J hWr trivial dX12_sold_54
  · have c2 : ¬ r1.toInt = 0 := tne rfl kp0 c2
    refine lv_aload_n hx hb dX12_sold_11 rfl (lv_at hl 1 rfl) ?_
    refine lv_iload_n hx hb dX12_sold_12 rfl (lv_at hl 0 rfl) ?_
    refine ci_ C hW (runV (x := (g.2.2.1 13)) (As := [.int r1]) (rest := []) (T := ((J, L, I, P, E, N), sgM g)) C hW (c_X12_refuse l g J L I P E N H.size r1 (show -6 ≤ r1.toInt ∧ r1.toInt ≤ -1 from by omega)) mi_X12_refuse tw_1239 (recv_ (T := ((J, L, I, P, E, N), sgM g)) C hW (mm_ rfl) rfl rfl) ⟨rfl, rfl, Nat.le_of_ble_eq_true rfl, Nat.le_of_ble_eq_true rfl⟩ rfl hl.1 rfl (Nat.le_of_ble_eq_true rfl) dX12_sold_13 ⟨Nat.le_of_ble_eq_true rfl, Nat.le_of_ble_eq_true rfl⟩) (fun r11 u11 H locs hp11 hW => ?_)
    have hc11 : ((r11 = r1)) := hp11
    clear hp11
    have hr11 : r11.toInt = (r1).toInt := by rw [hc11]
    have hW : WB g A s.heap H locs ((hv J [100] [] u11), L, I, P, E, N) (sgM g) := hW
    have hWr : WB g A s.heap H locs (hv J [100] [] (hv J [100] [] u11), L, I, P, E, N) (sgM g) := by
      rw [← ag_hvE (J := J) (R := [100]) (F := []) (ag_hv rfl rfl ag_rf)]
      exact hW
    exact end_i C hr hlocks (hv J [100] [] u11) hWr trivial dX12_sold_16

set_option maxHeartbeats 4000000 in
set_option maxRecDepth 100000 in
theorem c_X12_order (l : Launch) (g : gG) (J : Nat → Nat → Int32) (L : Nat → Nat → Int64) (I : Nat → Nat → Nat → Int32) (P : Nat → Nat → Nat → Option Nat) (E : Nat → Option Nat) (N : Nat → Nat) (sz : Nat) (a0 : Int32) (a1 : Int32) (a2 : Int32) (a3 : Int32) (hwm : WM J) : Met l yX12_order (WS yX12_order cX12_order 13 (some .int)) (RM (2) 0 0) (PC g [.ref (g.2.2.1 13), .int a0, .int a1, .int a2, .int a3] ((J, L, I, P, E, N), sgM g) sz) (va_Qi (fun (r : Int32) (u : (Nat → Nat → Int32)) => True) (fun u t => at_ g (FR g ((J, L, I, P, E, N), sgM g) sz) ((hv J [100, 169] [] u, L, I, P, E, N), sgM g) t) (FR g ((J, L, I, P, E, N), sgM g) sz)) 0 0 (FR g ((J, L, I, P, E, N), sgM g) sz) := by
  refine ent (by decide +kernel) (Nat.le_of_ble_eq_true rfl) ?_
  intro p e s m below meth c ls hsz C hW hr hlocks hname hl
  generalize FR g ((J, L, I, P, E, N), sgM g) sz = A at C hW ⊢
  have hx := C.1.1
  have hb := C.1.2.1
  have hts := C.1.2.2.2.2
  have hW : WB g A s.heap s.heap [] (J, L, I, P, E, N) (sgM g) := hW
  have hl : lv_has ls 13 [(0, .ref (g.2.2.1 13)), (1, .int a0), (2, .int a1), (3, .int a2), (4, .int a3)] := hl
  obtain ⟨H, hH⟩ : ∃ H : Heap, H = s.heap := ⟨_, rfl⟩
  obtain ⟨locs, hlocs⟩ : ∃ q : List Loc, q = [] := ⟨_, rfl⟩
  have hW : WB g A s.heap H locs (J, L, I, P, E, N) (sgM g) := by rw [hH, hlocs]; exact hW
  obtain ⟨⟨hnd1, hnd2, hon, hhm1, hhm2, hhN, hcu1, hcu2, hco1, hco2, hcN⟩, ⟨hrd1, hrd2⟩, ⟨hnw1, hnw2, hns1, hns2, hof⟩, ⟨htm1, htm2, hts_⟩, ⟨had1, had2, hrw1, hrw2, htp1, htp2⟩⟩ := id hwm
  refine start_ hH hlocs ?_
  refine lv_iload_n hx hb dX12_order_0 rfl (lv_at hl 1 rfl) ?_
  refine lv_if_lt (tgt := 17) hx hb dX12_order_1 (by decide) (fun c1 => ?_) (fun c1 => ?_)
  · have c1 : a0.toInt < 0 := tlt rfl kp0 c1
    refine lv_aload_n hx hb dX12_order_17 rfl (lv_at hl 0 rfl) ?_
    refine lv_bipush (v := (-4)) hx hb dX12_order_18 (by decide) ?_
    refine ci_ C hW (runV (x := (g.2.2.1 13)) (As := [.int (-4)]) (rest := []) (T := ((J, L, I, P, E, N), sgM g)) C hW (c_X12_refuse l g J L I P E N H.size (-4) (show -6 ≤ (-4 : Int32).toInt ∧ (-4 : Int32).toInt ≤ -1 from by (try simp only [kn4]); omega)) mi_X12_refuse tw_1239 (recv_ (T := ((J, L, I, P, E, N), sgM g)) C hW (mm_ rfl) rfl rfl) ⟨rfl, rfl, Nat.le_of_ble_eq_true rfl, Nat.le_of_ble_eq_true rfl⟩ rfl hl.1 rfl (Nat.le_of_ble_eq_true rfl) dX12_order_20 ⟨Nat.le_of_ble_eq_true rfl, Nat.le_of_ble_eq_true rfl⟩) (fun r2 u2 H locs hp2 hW => ?_)
    have hc2 : ((r2 = (-4))) := hp2
    clear hp2
    have hr2 : r2.toInt = (-4) := by rw [hc2]; exact kn4
    have hW : WB g A s.heap H locs ((hv J [100] [] u2), L, I, P, E, N) (sgM g) := hW
    have hWr : WB g A s.heap H locs (hv J [100, 169] [] (hv J [100] [] u2), L, I, P, E, N) (sgM g) := by
      rw [← ag_hvE (J := J) (R := [100, 169]) (F := []) (ag_hv rfl rfl ag_rf)]
      exact hW
    exact end_i C hr hlocks (hv J [100] [] u2) hWr trivial dX12_order_23
  · have c1 : 0 ≤ a0.toInt := tnlt rfl kp0 c1
    refine lv_iload_n hx hb dX12_order_4 rfl (lv_at hl 2 rfl) ?_
    refine lv_if_lt (tgt := 17) hx hb dX12_order_5 (by decide) (fun c3 => ?_) (fun c3 => ?_)
    · have c3 : a1.toInt < 0 := tlt rfl kp0 c3
      refine lv_aload_n hx hb dX12_order_17 rfl (lv_at hl 0 rfl) ?_
      refine lv_bipush (v := (-4)) hx hb dX12_order_18 (by decide) ?_
      refine ci_ C hW (runV (x := (g.2.2.1 13)) (As := [.int (-4)]) (rest := []) (T := ((J, L, I, P, E, N), sgM g)) C hW (c_X12_refuse l g J L I P E N H.size (-4) (show -6 ≤ (-4 : Int32).toInt ∧ (-4 : Int32).toInt ≤ -1 from by (try simp only [kn4]); omega)) mi_X12_refuse tw_1239 (recv_ (T := ((J, L, I, P, E, N), sgM g)) C hW (mm_ rfl) rfl rfl) ⟨rfl, rfl, Nat.le_of_ble_eq_true rfl, Nat.le_of_ble_eq_true rfl⟩ rfl hl.1 rfl (Nat.le_of_ble_eq_true rfl) dX12_order_20 ⟨Nat.le_of_ble_eq_true rfl, Nat.le_of_ble_eq_true rfl⟩) (fun r4 u4 H locs hp4 hW => ?_)
      have hc4 : ((r4 = (-4))) := hp4
      clear hp4
      have hr4 : r4.toInt = (-4) := by rw [hc4]; exact kn4
      have hW : WB g A s.heap H locs ((hv J [100] [] u4), L, I, P, E, N) (sgM g) := hW
      have hWr : WB g A s.heap H locs (hv J [100, 169] [] (hv J [100] [] u4), L, I, P, E, N) (sgM g) := by
        rw [← ag_hvE (J := J) (R := [100, 169]) (F := []) (ag_hv rfl rfl ag_rf)]
        exact hW
      exact end_i C hr hlocks (hv J [100] [] u4) hWr trivial dX12_order_23
    · have c3 : 0 ≤ a1.toInt := tnlt rfl kp0 c3
      refine lv_iload_n hx hb dX12_order_8 rfl (lv_at hl 3 rfl) ?_
      refine lv_if_lt (tgt := 17) hx hb dX12_order_9 (by decide) (fun c5 => ?_) (fun c5 => ?_)
      · have c5 : a2.toInt < 0 := tlt rfl kp0 c5
        refine lv_aload_n hx hb dX12_order_17 rfl (lv_at hl 0 rfl) ?_
        refine lv_bipush (v := (-4)) hx hb dX12_order_18 (by decide) ?_
        refine ci_ C hW (runV (x := (g.2.2.1 13)) (As := [.int (-4)]) (rest := []) (T := ((J, L, I, P, E, N), sgM g)) C hW (c_X12_refuse l g J L I P E N H.size (-4) (show -6 ≤ (-4 : Int32).toInt ∧ (-4 : Int32).toInt ≤ -1 from by (try simp only [kn4]); omega)) mi_X12_refuse tw_1239 (recv_ (T := ((J, L, I, P, E, N), sgM g)) C hW (mm_ rfl) rfl rfl) ⟨rfl, rfl, Nat.le_of_ble_eq_true rfl, Nat.le_of_ble_eq_true rfl⟩ rfl hl.1 rfl (Nat.le_of_ble_eq_true rfl) dX12_order_20 ⟨Nat.le_of_ble_eq_true rfl, Nat.le_of_ble_eq_true rfl⟩) (fun r6 u6 H locs hp6 hW => ?_)
        have hc6 : ((r6 = (-4))) := hp6
        clear hp6
        have hr6 : r6.toInt = (-4) := by rw [hc6]; exact kn4
        have hW : WB g A s.heap H locs ((hv J [100] [] u6), L, I, P, E, N) (sgM g) := hW
        have hWr : WB g A s.heap H locs (hv J [100, 169] [] (hv J [100] [] u6), L, I, P, E, N) (sgM g) := by
          rw [← ag_hvE (J := J) (R := [100, 169]) (F := []) (ag_hv rfl rfl ag_rf)]
          exact hW
        exact end_i C hr hlocks (hv J [100] [] u6) hWr trivial dX12_order_23
      · have c5 : 0 ≤ a2.toInt := tnlt rfl kp0 c5
        refine lv_iload hx hb dX12_order_12 (lv_at hl 4 rfl) ?_
        refine lv_if_ge (tgt := 24) hx hb dX12_order_14 (by decide) (fun c7 => ?_) (fun c7 => ?_)
        · have c7 : 0 ≤ a3.toInt := tle kp0 rfl c7
          refine lv_iload hx hb dX12_order_24 (lv_at hl 4 rfl) ?_
          refine lv_bipush (v := 100) hx hb dX12_order_26 (by decide) ?_
          refine lv_idiv hx hb dX12_order_28 (by decide) ?_
          refine lv_topi (fun x8 (e8 : x8 = a3 / 100) => ?_)
          have t8 : x8.toInt = a3.toInt.tdiv 100 := tdiv e8 rfl kp100 (by decide)
          try rw [tdp (a := a3.toInt) (by omega)] at t8
          refine lv_istore (lv' := [(5, .int x8), (0, .ref (g.2.2.1 13)), (1, .int a0), (2, .int a1), (3, .int a2), (4, .int a3)]) hx hb dX12_order_29 hl (by decide) rfl (fun ls hl => ?_)
          refine lv_iload hx hb dX12_order_31 (lv_at hl 5 rfl) ?_
          refine lv_bipush (v := 10) hx hb dX12_order_33 (by decide) ?_
          refine lv_idiv hx hb dX12_order_35 (by decide) ?_
          refine lv_topi (fun x9 (e9 : x9 = a3 / 10) => ?_)
          have t9 : x9.toInt = a3.toInt.tdiv 10 := tdiv e9 rfl kp10 (by decide)
          try rw [tdp (a := a3.toInt) (by omega)] at t9
          refine lv_bipush (v := 10) hx hb dX12_order_36 (by decide) ?_
          refine lv_irem hx hb dX12_order_38 (by decide) ?_
          refine lv_topi (fun x10 (e10 : x10 = x9 - x9 / 10 * 10) => ?_)
          have t10 : x10.toInt = x9.toInt.tmod 10 := tmod e10 rfl kp10 (by decide) (by decide)
          try rw [tmp (a := x9.toInt) (by omega)] at t10
          refine lv_istore (lv' := [(6, .int x10), (5, .int x8), (0, .ref (g.2.2.1 13)), (1, .int a0), (2, .int a1), (3, .int a2), (4, .int a3)]) hx hb dX12_order_39 hl (by decide) rfl (fun ls hl => ?_)
          refine lv_iload hx hb dX12_order_41 (lv_at hl 6 rfl) ?_
          refine lv_bipush (v := 10) hx hb dX12_order_43 (by decide) ?_
          refine lv_irem hx hb dX12_order_45 (by decide) ?_
          refine lv_topi (fun x11 (e11 : x11 = a3 - a3 / 10 * 10) => ?_)
          have t11 : x11.toInt = a3.toInt.tmod 10 := tmod e11 rfl kp10 (by decide) (by decide)
          try rw [tmp (a := a3.toInt) (by omega)] at t11
          refine lv_istore (lv' := [(7, .int x11), (6, .int x10), (5, .int x8), (0, .ref (g.2.2.1 13)), (1, .int a0), (2, .int a1), (3, .int a2), (4, .int a3)]) hx hb dX12_order_46 hl (by decide) rfl (fun ls hl => ?_)
          refine lv_iload_n hx hb dX12_order_48 rfl (lv_at hl 4 rfl) ?_
          refine lv_bipush (v := 9) hx hb dX12_order_49 (by decide) ?_
          refine lv_icmp_gt (tgt := 74) hx hb dX12_order_51 (by decide) (fun c12 => ?_) (fun c12 => ?_)
          · have c12 : 9 < a0.toInt := tlt kp9 rfl c12
            refine lv_aload_n hx hb dX12_order_74 rfl (lv_at hl 3 rfl) ?_
            refine lv_bipush (v := (-6)) hx hb dX12_order_75 (by decide) ?_
            refine ci_ C hW (runV (x := (g.2.2.1 13)) (As := [.int (-6)]) (rest := []) (T := ((J, L, I, P, E, N), sgM g)) C hW (c_X12_refuse l g J L I P E N H.size (-6) (show -6 ≤ (-6 : Int32).toInt ∧ (-6 : Int32).toInt ≤ -1 from by (try simp only [kn6]); omega)) mi_X12_refuse tw_1239 (recv_ (T := ((J, L, I, P, E, N), sgM g)) C hW (mm_ rfl) rfl rfl) ⟨rfl, rfl, Nat.le_of_ble_eq_true rfl, Nat.le_of_ble_eq_true rfl⟩ rfl hl.1 rfl (Nat.le_of_ble_eq_true rfl) dX12_order_77 ⟨Nat.le_of_ble_eq_true rfl, Nat.le_of_ble_eq_true rfl⟩) (fun r13 u13 H locs hp13 hW => ?_)
            have hc13 : ((r13 = (-6))) := hp13
            clear hp13
            have hr13 : r13.toInt = (-6) := by rw [hc13]; exact kn6
            have hW : WB g A s.heap H locs ((hv J [100] [] u13), L, I, P, E, N) (sgM g) := hW
            have hWr : WB g A s.heap H locs (hv J [100, 169] [] (hv J [100] [] u13), L, I, P, E, N) (sgM g) := by
              rw [← ag_hvE (J := J) (R := [100, 169]) (F := []) (ag_hv rfl rfl ag_rf)]
              exact hW
            exact end_i C hr hlocks (hv J [100] [] u13) hWr trivial dX12_order_80
          · have c12 : a0.toInt ≤ 9 := tnlt kp9 rfl c12
            refine lv_iload_n hx hb dX12_order_54 rfl (lv_at hl 5 rfl) ?_
            refine lv_bipush (v := 9) hx hb dX12_order_55 (by decide) ?_
            refine lv_icmp_gt (tgt := 74) hx hb dX12_order_57 (by decide) (fun c14 => ?_) (fun c14 => ?_)
            · have c14 : 9 < a1.toInt := tlt kp9 rfl c14
              refine lv_aload_n hx hb dX12_order_74 rfl (lv_at hl 3 rfl) ?_
              refine lv_bipush (v := (-6)) hx hb dX12_order_75 (by decide) ?_
              refine ci_ C hW (runV (x := (g.2.2.1 13)) (As := [.int (-6)]) (rest := []) (T := ((J, L, I, P, E, N), sgM g)) C hW (c_X12_refuse l g J L I P E N H.size (-6) (show -6 ≤ (-6 : Int32).toInt ∧ (-6 : Int32).toInt ≤ -1 from by (try simp only [kn6]); omega)) mi_X12_refuse tw_1239 (recv_ (T := ((J, L, I, P, E, N), sgM g)) C hW (mm_ rfl) rfl rfl) ⟨rfl, rfl, Nat.le_of_ble_eq_true rfl, Nat.le_of_ble_eq_true rfl⟩ rfl hl.1 rfl (Nat.le_of_ble_eq_true rfl) dX12_order_77 ⟨Nat.le_of_ble_eq_true rfl, Nat.le_of_ble_eq_true rfl⟩) (fun r15 u15 H locs hp15 hW => ?_)
              have hc15 : ((r15 = (-6))) := hp15
              clear hp15
              have hr15 : r15.toInt = (-6) := by rw [hc15]; exact kn6
              have hW : WB g A s.heap H locs ((hv J [100] [] u15), L, I, P, E, N) (sgM g) := hW
              have hWr : WB g A s.heap H locs (hv J [100, 169] [] (hv J [100] [] u15), L, I, P, E, N) (sgM g) := by
                rw [← ag_hvE (J := J) (R := [100, 169]) (F := []) (ag_hv rfl rfl ag_rf)]
                exact hW
              exact end_i C hr hlocks (hv J [100] [] u15) hWr trivial dX12_order_80
            · have c14 : a1.toInt ≤ 9 := tnlt kp9 rfl c14
              refine lv_iload_n hx hb dX12_order_60 rfl (lv_at hl 6 rfl) ?_
              refine lv_bipush (v := 9) hx hb dX12_order_61 (by decide) ?_
              refine lv_icmp_gt (tgt := 74) hx hb dX12_order_63 (by decide) (fun c16 => ?_) (fun c16 => ?_)
              · have c16 : 9 < a2.toInt := tlt kp9 rfl c16
                refine lv_aload_n hx hb dX12_order_74 rfl (lv_at hl 3 rfl) ?_
                refine lv_bipush (v := (-6)) hx hb dX12_order_75 (by decide) ?_
                refine ci_ C hW (runV (x := (g.2.2.1 13)) (As := [.int (-6)]) (rest := []) (T := ((J, L, I, P, E, N), sgM g)) C hW (c_X12_refuse l g J L I P E N H.size (-6) (show -6 ≤ (-6 : Int32).toInt ∧ (-6 : Int32).toInt ≤ -1 from by (try simp only [kn6]); omega)) mi_X12_refuse tw_1239 (recv_ (T := ((J, L, I, P, E, N), sgM g)) C hW (mm_ rfl) rfl rfl) ⟨rfl, rfl, Nat.le_of_ble_eq_true rfl, Nat.le_of_ble_eq_true rfl⟩ rfl hl.1 rfl (Nat.le_of_ble_eq_true rfl) dX12_order_77 ⟨Nat.le_of_ble_eq_true rfl, Nat.le_of_ble_eq_true rfl⟩) (fun r17 u17 H locs hp17 hW => ?_)
                have hc17 : ((r17 = (-6))) := hp17
                clear hp17
                have hr17 : r17.toInt = (-6) := by rw [hc17]; exact kn6
                have hW : WB g A s.heap H locs ((hv J [100] [] u17), L, I, P, E, N) (sgM g) := hW
                have hWr : WB g A s.heap H locs (hv J [100, 169] [] (hv J [100] [] u17), L, I, P, E, N) (sgM g) := by
                  rw [← ag_hvE (J := J) (R := [100, 169]) (F := []) (ag_hv rfl rfl ag_rf)]
                  exact hW
                exact end_i C hr hlocks (hv J [100] [] u17) hWr trivial dX12_order_80
              · have c16 : a2.toInt ≤ 9 := tnlt kp9 rfl c16
                refine lv_iload hx hb dX12_order_66 (lv_at hl 7 rfl) ?_
                refine lv_sipush (v := 555) hx hb dX12_order_68 (by decide) ?_
                refine lv_icmp_le (tgt := 81) hx hb dX12_order_71 (by decide) (fun c18 => ?_) (fun c18 => ?_)
                · have c18 : a3.toInt ≤ 555 := tle rfl kp555 c18
                  refine lv_iload_n hx hb dX12_order_81 rfl (lv_at hl 4 rfl) ?_
                  refine lv_iload_n hx hb dX12_order_82 rfl (lv_at hl 5 rfl) ?_
                  refine lv_icmp_eq (tgt := 108) hx hb dX12_order_83 (by decide) (fun c19 => ?_) (fun c19 => ?_)
                  · have c19 : a0.toInt = a1.toInt := teq rfl rfl c19
                    refine lv_aload_n hx hb dX12_order_108 rfl (lv_at hl 3 rfl) ?_
                    refine lv_bipush (v := (-3)) hx hb dX12_order_109 (by decide) ?_
                    refine ci_ C hW (runV (x := (g.2.2.1 13)) (As := [.int (-3)]) (rest := []) (T := ((J, L, I, P, E, N), sgM g)) C hW (c_X12_refuse l g J L I P E N H.size (-3) (show -6 ≤ (-3 : Int32).toInt ∧ (-3 : Int32).toInt ≤ -1 from by (try simp only [kn3]); omega)) mi_X12_refuse tw_1239 (recv_ (T := ((J, L, I, P, E, N), sgM g)) C hW (mm_ rfl) rfl rfl) ⟨rfl, rfl, Nat.le_of_ble_eq_true rfl, Nat.le_of_ble_eq_true rfl⟩ rfl hl.1 rfl (Nat.le_of_ble_eq_true rfl) dX12_order_111 ⟨Nat.le_of_ble_eq_true rfl, Nat.le_of_ble_eq_true rfl⟩) (fun r20 u20 H locs hp20 hW => ?_)
                    have hc20 : ((r20 = (-3))) := hp20
                    clear hp20
                    have hr20 : r20.toInt = (-3) := by rw [hc20]; exact kn3
                    have hW : WB g A s.heap H locs ((hv J [100] [] u20), L, I, P, E, N) (sgM g) := hW
                    have hWr : WB g A s.heap H locs (hv J [100, 169] [] (hv J [100] [] u20), L, I, P, E, N) (sgM g) := by
                      rw [← ag_hvE (J := J) (R := [100, 169]) (F := []) (ag_hv rfl rfl ag_rf)]
                      exact hW
                    exact end_i C hr hlocks (hv J [100] [] u20) hWr trivial dX12_order_114
                  · have c19 : ¬ a0.toInt = a1.toInt := tne rfl rfl c19
                    refine lv_iload_n hx hb dX12_order_86 rfl (lv_at hl 5 rfl) ?_
                    refine lv_iload_n hx hb dX12_order_87 rfl (lv_at hl 6 rfl) ?_
                    refine lv_icmp_eq (tgt := 108) hx hb dX12_order_88 (by decide) (fun c21 => ?_) (fun c21 => ?_)
                    · have c21 : a1.toInt = a2.toInt := teq rfl rfl c21
                      refine lv_aload_n hx hb dX12_order_108 rfl (lv_at hl 3 rfl) ?_
                      refine lv_bipush (v := (-3)) hx hb dX12_order_109 (by decide) ?_
                      refine ci_ C hW (runV (x := (g.2.2.1 13)) (As := [.int (-3)]) (rest := []) (T := ((J, L, I, P, E, N), sgM g)) C hW (c_X12_refuse l g J L I P E N H.size (-3) (show -6 ≤ (-3 : Int32).toInt ∧ (-3 : Int32).toInt ≤ -1 from by (try simp only [kn3]); omega)) mi_X12_refuse tw_1239 (recv_ (T := ((J, L, I, P, E, N), sgM g)) C hW (mm_ rfl) rfl rfl) ⟨rfl, rfl, Nat.le_of_ble_eq_true rfl, Nat.le_of_ble_eq_true rfl⟩ rfl hl.1 rfl (Nat.le_of_ble_eq_true rfl) dX12_order_111 ⟨Nat.le_of_ble_eq_true rfl, Nat.le_of_ble_eq_true rfl⟩) (fun r22 u22 H locs hp22 hW => ?_)
                      have hc22 : ((r22 = (-3))) := hp22
                      clear hp22
                      have hr22 : r22.toInt = (-3) := by rw [hc22]; exact kn3
                      have hW : WB g A s.heap H locs ((hv J [100] [] u22), L, I, P, E, N) (sgM g) := hW
                      have hWr : WB g A s.heap H locs (hv J [100, 169] [] (hv J [100] [] u22), L, I, P, E, N) (sgM g) := by
                        rw [← ag_hvE (J := J) (R := [100, 169]) (F := []) (ag_hv rfl rfl ag_rf)]
                        exact hW
                      exact end_i C hr hlocks (hv J [100] [] u22) hWr trivial dX12_order_114
                    · have c21 : ¬ a1.toInt = a2.toInt := tne rfl rfl c21
                      refine lv_iload_n hx hb dX12_order_91 rfl (lv_at hl 4 rfl) ?_
                      refine lv_iload_n hx hb dX12_order_92 rfl (lv_at hl 6 rfl) ?_
                      refine lv_icmp_eq (tgt := 108) hx hb dX12_order_93 (by decide) (fun c23 => ?_) (fun c23 => ?_)
                      · have c23 : a0.toInt = a2.toInt := teq rfl rfl c23
                        refine lv_aload_n hx hb dX12_order_108 rfl (lv_at hl 3 rfl) ?_
                        refine lv_bipush (v := (-3)) hx hb dX12_order_109 (by decide) ?_
                        refine ci_ C hW (runV (x := (g.2.2.1 13)) (As := [.int (-3)]) (rest := []) (T := ((J, L, I, P, E, N), sgM g)) C hW (c_X12_refuse l g J L I P E N H.size (-3) (show -6 ≤ (-3 : Int32).toInt ∧ (-3 : Int32).toInt ≤ -1 from by (try simp only [kn3]); omega)) mi_X12_refuse tw_1239 (recv_ (T := ((J, L, I, P, E, N), sgM g)) C hW (mm_ rfl) rfl rfl) ⟨rfl, rfl, Nat.le_of_ble_eq_true rfl, Nat.le_of_ble_eq_true rfl⟩ rfl hl.1 rfl (Nat.le_of_ble_eq_true rfl) dX12_order_111 ⟨Nat.le_of_ble_eq_true rfl, Nat.le_of_ble_eq_true rfl⟩) (fun r24 u24 H locs hp24 hW => ?_)
                        have hc24 : ((r24 = (-3))) := hp24
                        clear hp24
                        have hr24 : r24.toInt = (-3) := by rw [hc24]; exact kn3
                        have hW : WB g A s.heap H locs ((hv J [100] [] u24), L, I, P, E, N) (sgM g) := hW
                        have hWr : WB g A s.heap H locs (hv J [100, 169] [] (hv J [100] [] u24), L, I, P, E, N) (sgM g) := by
                          rw [← ag_hvE (J := J) (R := [100, 169]) (F := []) (ag_hv rfl rfl ag_rf)]
                          exact hW
                        exact end_i C hr hlocks (hv J [100] [] u24) hWr trivial dX12_order_114
                      · have c23 : ¬ a0.toInt = a2.toInt := tne rfl rfl c23
                        refine lv_iload hx hb dX12_order_96 (lv_at hl 2 rfl) ?_
                        refine lv_iload hx hb dX12_order_98 (lv_at hl 1 rfl) ?_
                        refine lv_iadd hx hb dX12_order_100 ?_
                        refine lv_topi (fun x25 (e25 : x25 = x8 + x10) => ?_)
                        try have t25 : x25.toInt = x8.toInt + x10.toInt := tadd e25 rfl rfl (by omega)
                        refine lv_iload hx hb dX12_order_101 (lv_at hl 0 rfl) ?_
                        refine lv_iadd hx hb dX12_order_103 ?_
                        refine lv_topi (fun x26 (e26 : x26 = x25 + x11) => ?_)
                        try have t26 : x26.toInt = x25.toInt + x11.toInt := tadd e26 rfl rfl (by omega)
                        refine lv_iconst (v := 5) hx hb dX12_order_104 (by decide) ?_
                        refine lv_icmp_eq (tgt := 115) hx hb dX12_order_105 (by decide) (fun c27 => ?_) (fun c27 => ?_)
                        · have c27 : x26.toInt = 5 := teq rfl kp5 c27
                          refine lv_iconst (v := 0) hx hb dX12_order_115 (by decide) ?_
                          refine lv_istore (lv' := [(8, .int 0), (7, .int x11), (6, .int x10), (5, .int x8), (0, .ref (g.2.2.1 13)), (1, .int a0), (2, .int a1), (3, .int a2), (4, .int a3)]) hx hb dX12_order_116 hl (by decide) rfl (fun ls hl => ?_)
                          have loop118 : ∀ (n : Nat) (m8 : Int32) (Gl28 : Nat → Nat → Int32) (H : Heap) (locs : List Loc) (ls : Array Slot), (100000 - m8.toInt).toNat < n → 0 ≤ m8.toInt → WB g A s.heap H locs ((hv J [100, 169] [] Gl28), L, I, P, E, N) (sgM g) → lv_has ls 13 [(8, .int m8), (7, .int x11), (6, .int x10), (5, .int x8), (0, .ref (g.2.2.1 13)), (1, .int a0), (2, .int a1), (3, .int a2), (4, .int a3)] → W p l e (RM (2) 0 0) s m ([.ref (g.2.2.1 13), .int a0, .int a1, .int a2, .int a3] : List Value).toArray below meth c H locs 0 0 (MQ below (va_Qi (fun (r : Int32) (u : (Nat → Nat → Int32)) => True) (fun u t => at_ g A ((hv J [100, 169] [] u, L, I, P, E, N), sgM g) t) A) ([.ref (g.2.2.1 13), .int a0, .int a1, .int a2, .int a3] : List Value).toArray s 0 0 A) (F0 m 118 ls []) := by
                            intro n
                            induction n with
                            | zero => intro m8 Gl28 H locs ls hmeas; exact absurd hmeas (Nat.not_lt_zero _)
                            | succ n ih =>
                              intro m8 Gl28 H locs ls hmeas hi hW hl
                              refine lv_iload hx hb dX12_order_118 (lv_at hl 0 rfl) ?_
                              refine lv_ldcw hx hb C.1.2.2.2.1 (hts _ tw_1539) dX12_order_120 ?_
                              refine lv_icmp_ge (tgt := 268) hx hb dX12_order_123 (by decide) (fun c29 => ?_) (fun c29 => ?_)
                              · have c29 : 100000 ≤ m8.toInt := tle kp100000 rfl c29
                                refine lv_bipush (v := (-9)) hx hb dX12_order_268 (by decide) ?_
                                have hWr : WB g A s.heap H locs (hv J [100, 169] [] (hv J [100, 169] [] Gl28), L, I, P, E, N) (sgM g) := by
                                  rw [← ag_hvE (J := J) (R := [100, 169]) (F := []) (ag_hv rfl rfl ag_rf)]
                                  exact hW
                                exact end_i C hr hlocks (hv J [100, 169] [] Gl28) hWr trivial dX12_order_270
                              · have c29 : m8.toInt < 100000 := tnle kp100000 rfl c29
                                refine lv_iconst (v := 0) hx hb dX12_order_126 (by decide) ?_
                                refine lv_istore (lv' := [(9, .int 0), (8, .int m8), (7, .int x11), (6, .int x10), (5, .int x8), (0, .ref (g.2.2.1 13)), (1, .int a0), (2, .int a1), (3, .int a2), (4, .int a3)]) hx hb dX12_order_127 hl (by decide) rfl (fun ls hl => ?_)
                                have loop129 : ∀ (n129 : Nat) (m9 : Int32) (Gl30 : Nat → Nat → Int32) (H : Heap) (locs : List Loc) (ls : Array Slot), (10 - m9.toInt).toNat < n129 → 0 ≤ m9.toInt → WB g A s.heap H locs ((hv (hv J [100, 169] [] Gl28) [169] [] Gl30), L, I, P, E, N) (sgM g) → lv_has ls 13 [(9, .int m9), (8, .int m8), (7, .int x11), (6, .int x10), (5, .int x8), (0, .ref (g.2.2.1 13)), (1, .int a0), (2, .int a1), (3, .int a2), (4, .int a3)] → W p l e (RM (2) 0 0) s m ([.ref (g.2.2.1 13), .int a0, .int a1, .int a2, .int a3] : List Value).toArray below meth c H locs 0 0 (MQ below (va_Qi (fun (r : Int32) (u : (Nat → Nat → Int32)) => True) (fun u t => at_ g A ((hv J [100, 169] [] u, L, I, P, E, N), sgM g) t) A) ([.ref (g.2.2.1 13), .int a0, .int a1, .int a2, .int a3] : List Value).toArray s 0 0 A) (F0 m 129 ls []) := by
                                  intro n129
                                  induction n129 with
                                  | zero => intro m9 Gl30 H locs ls hmeas; exact absurd hmeas (Nat.not_lt_zero _)
                                  | succ n129 ih129 =>
                                    intro m9 Gl30 H locs ls hmeas hj hW hl
                                    refine lv_iload hx hb dX12_order_129 (lv_at hl 0 rfl) ?_
                                    refine lv_bipush (v := 10) hx hb dX12_order_131 (by decide) ?_
                                    refine lv_icmp_ge (tgt := 150) hx hb dX12_order_133 (by decide) (fun c31 => ?_) (fun c31 => ?_)
                                    · have c31 : 10 ≤ m9.toInt := tle kp10 rfl c31
                                      refine lv_aload_n hx hb dX12_order_150 rfl (lv_at hl 5 rfl) ?_
                                      refine rg_13_69 C hW (mm_ rfl) tw_1092 dX12_order_151 ?_
                                      refine lv_iload_n hx hb dX12_order_154 rfl (lv_at hl 6 rfl) ?_
                                      refine lv_iload hx hb dX12_order_155 (lv_at hl 4 rfl) ?_
                                      have hin : vp_in a0 10 := tin rfl (by omega)
                                      refine rs_169 C hW (mm_ rfl) hin dX12_order_157 (fun H locs hW => ?_)
                                      refine lv_aload_n hx hb dX12_order_158 rfl (lv_at hl 5 rfl) ?_
                                      refine rg_13_69 C hW (mm_ rfl) tw_1092 dX12_order_159 ?_
                                      refine lv_iload_n hx hb dX12_order_162 rfl (lv_at hl 7 rfl) ?_
                                      refine lv_iload hx hb dX12_order_163 (lv_at hl 3 rfl) ?_
                                      have hin : vp_in a1 10 := tin rfl (by omega)
                                      refine rs_169 C hW (mm_ rfl) hin dX12_order_165 (fun H locs hW => ?_)
                                      refine lv_aload_n hx hb dX12_order_166 rfl (lv_at hl 5 rfl) ?_
                                      refine rg_13_69 C hW (mm_ rfl) tw_1092 dX12_order_167 ?_
                                      refine lv_iload_n hx hb dX12_order_170 rfl (lv_at hl 8 rfl) ?_
                                      refine lv_iload hx hb dX12_order_171 (lv_at hl 2 rfl) ?_
                                      have hin : vp_in a2 10 := tin rfl (by omega)
                                      refine rs_169 C hW (mm_ rfl) hin dX12_order_173 (fun H locs hW => ?_)
                                      refine lv_iconst (v := 1) hx hb dX12_order_174 (by decide) ?_
                                      refine lv_istore (lv' := [(9, .int 1), (8, .int m8), (7, .int x11), (6, .int x10), (5, .int x8), (0, .ref (g.2.2.1 13)), (1, .int a0), (2, .int a1), (3, .int a2), (4, .int a3)]) hx hb dX12_order_175 hl (by decide) rfl (fun ls hl => ?_)
                                      refine lv_iconst (v := (-1)) hx hb dX12_order_177 (by decide) ?_
                                      refine lv_istore (lv' := [(10, .int (-1)), (9, .int 1), (8, .int m8), (7, .int x11), (6, .int x10), (5, .int x8), (0, .ref (g.2.2.1 13)), (1, .int a0), (2, .int a1), (3, .int a2), (4, .int a3)]) hx hb dX12_order_178 hl (by decide) rfl (fun ls hl => ?_)
                                      refine lv_sipush (v := 10000) hx hb dX12_order_180 (by decide) ?_
                                      refine lv_istore (lv' := [(11, .int 10000), (10, .int (-1)), (9, .int 1), (8, .int m8), (7, .int x11), (6, .int x10), (5, .int x8), (0, .ref (g.2.2.1 13)), (1, .int a0), (2, .int a1), (3, .int a2), (4, .int a3)]) hx hb dX12_order_183 hl (by decide) rfl (fun ls hl => ?_)
                                      have loop185 : ∀ (n185 : Nat) (m9 : Int32) (m10 : Int32) (m11 : Int32) (Gl32 : Nat → Nat → Int32) (H : Heap) (locs : List Loc) (ls : Array Slot), m11.toInt.toNat < n185 → m11.toInt ≤ 10000 → WB g A s.heap H locs ((hv (up2 (up2 (up2 (hv (hv J [100, 169] [] Gl28) [169] [] Gl30) 169 a0.toNatClampNeg x8) 169 a1.toNatClampNeg x10) 169 a2.toNatClampNeg x11) [169] [] Gl32), L, I, P, E, N) (sgM g) → lv_has ls 13 [(11, .int m11), (10, .int m10), (9, .int m9), (8, .int m8), (7, .int x11), (6, .int x10), (5, .int x8), (0, .ref (g.2.2.1 13)), (1, .int a0), (2, .int a1), (3, .int a2), (4, .int a3)] → W p l e (RM (2) 0 0) s m ([.ref (g.2.2.1 13), .int a0, .int a1, .int a2, .int a3] : List Value).toArray below meth c H locs 0 0 (MQ below (va_Qi (fun (r : Int32) (u : (Nat → Nat → Int32)) => True) (fun u t => at_ g A ((hv J [100, 169] [] u, L, I, P, E, N), sgM g) t) A) ([.ref (g.2.2.1 13), .int a0, .int a1, .int a2, .int a3] : List Value).toArray s 0 0 A) (F0 m 185 ls []) := by
                                        intro n185
                                        induction n185 with
                                        | zero => intro m9 m10 m11 Gl32 H locs ls hmeas; exact absurd hmeas (Nat.not_lt_zero _)
                                        | succ n185 ih185 =>
                                          intro m9 m10 m11 Gl32 H locs ls hmeas hj hW hl
                                          refine lv_iload hx hb dX12_order_185 (lv_at hl 0 rfl) ?_
                                          refine lv_if_le (tgt := 254) hx hb dX12_order_187 (by decide) (fun c33 => ?_) (fun c33 => ?_)
                                          · have c33 : m11.toInt ≤ 0 := tle rfl kp0 c33
                                            refine lv_iload hx hb dX12_order_254 (lv_at hl 2 rfl) ?_
                                            refine lv_if_eq (tgt := 262) hx hb dX12_order_256 (by decide) (fun c34 => ?_) (fun c34 => ?_)
                                            · have c34 : m9.toInt = 0 := teq rfl kp0 c34
                                              obtain ⟨x35, e35⟩ : ∃ y : Int32, y = m8 + 1 := ⟨_, rfl⟩
                                              refine lv_iinc (v := x35) (lv' := [(8, .int x35), (11, .int m11), (10, .int m10), (9, .int m9), (7, .int x11), (6, .int x10), (5, .int x8), (0, .ref (g.2.2.1 13)), (1, .int a0), (2, .int a1), (3, .int a2), (4, .int a3)]) hx hb dX12_order_262 hl (k := 3) rfl (by rw [e35]; rfl) (by decide) rfl (fun ls hl => ?_)
                                              try have t35 : x35.toInt = m8.toInt + 1 := tadd e35 rfl kp1 (by omega)
                                              refine lv_goto (tgt := 118) hx hb dX12_order_265 (by decide) ?_
                                              have hWl : WB g A s.heap H locs ((hv J [100, 169] [] (hv (up2 (up2 (up2 (hv (hv J [100, 169] [] Gl28) [169] [] Gl30) 169 a0.toNatClampNeg x8) 169 a1.toNatClampNeg x10) 169 a2.toNatClampNeg x11) [169] [] Gl32)), L, I, P, E, N) (sgM g) := by
                                                rw [← ag_hvE (J := J) (R := [100, 169]) (F := []) (ag_hv rfl rfl (ag_up (Or.inl rfl) (ag_up (Or.inl rfl) (ag_up (Or.inl rfl) (ag_hv rfl rfl (ag_hv rfl rfl ag_rf))))))]
                                                exact hW
                                              refine ih x35 (hv (up2 (up2 (up2 (hv (hv J [100, 169] [] Gl28) [169] [] Gl30) 169 a0.toNatClampNeg x8) 169 a1.toNatClampNeg x10) 169 a2.toNatClampNeg x11) [169] [] Gl32) H locs ls ?_ ?_ hWl (lv_sub hl [0, 4, 5, 6, 7, 8, 9, 10, 11] rfl)
                                              · show (100000 - x35.toInt).toNat < n
                                                omega
                                              · show 0 ≤ x35.toInt
                                                first | omega | exact hi | assumption
                                            · have c34 : ¬ m9.toInt = 0 := tne rfl kp0 c34
                                              refine lv_iload hx hb dX12_order_259 (lv_at hl 3 rfl) ?_
                                              have hWr : WB g A s.heap H locs (hv J [100, 169] [] (hv (up2 (up2 (up2 (hv (hv J [100, 169] [] Gl28) [169] [] Gl30) 169 a0.toNatClampNeg x8) 169 a1.toNatClampNeg x10) 169 a2.toNatClampNeg x11) [169] [] Gl32), L, I, P, E, N) (sgM g) := by
                                                rw [← ag_hvE (J := J) (R := [100, 169]) (F := []) (ag_hv rfl rfl (ag_up (Or.inl rfl) (ag_up (Or.inl rfl) (ag_up (Or.inl rfl) (ag_hv rfl rfl (ag_hv rfl rfl ag_rf))))))]
                                                exact hW
                                              exact end_i C hr hlocks (hv (up2 (up2 (up2 (hv (hv J [100, 169] [] Gl28) [169] [] Gl30) 169 a0.toNatClampNeg x8) 169 a1.toNatClampNeg x10) 169 a2.toNatClampNeg x11) [169] [] Gl32) hWr trivial dX12_order_261
                                          · have c33 : 0 < m11.toInt := tnle rfl kp0 c33
                                            refine lv_iload hx hb dX12_order_190 (lv_at hl 3 rfl) ?_
                                            refine lv_iload hx hb dX12_order_192 (lv_at hl 0 rfl) ?_
                                            refine lv_idiv hx hb dX12_order_194 (nz0 (by omega)) ?_
                                            refine lv_topi (fun x36 (e36 : x36 = m8 / m11) => ?_)
                                            have t36 := tdv e36 (by omega) (by omega)
                                            refine lv_bipush (v := 10) hx hb dX12_order_195 (by decide) ?_
                                            refine lv_irem hx hb dX12_order_197 (by decide) ?_
                                            refine lv_topi (fun x37 (e37 : x37 = x36 - x36 / 10 * 10) => ?_)
                                            have t37 : x37.toInt = x36.toInt.tmod 10 := tmod e37 rfl kp10 (by decide) (by decide)
                                            try rw [tmp (a := x36.toInt) (by omega)] at t37
                                            refine lv_istore (lv' := [(12, .int x37), (11, .int m11), (10, .int m10), (9, .int m9), (8, .int m8), (7, .int x11), (6, .int x10), (5, .int x8), (0, .ref (g.2.2.1 13)), (1, .int a0), (2, .int a1), (3, .int a2), (4, .int a3)]) hx hb dX12_order_198 hl (by decide) rfl (fun ls hl => ?_)
                                            refine lv_aload_n hx hb dX12_order_200 rfl (lv_at hl 8 rfl) ?_
                                            refine rg_13_69 C hW (mm_ rfl) tw_1092 dX12_order_201 ?_
                                            refine lv_iload hx hb dX12_order_204 (lv_at hl 0 rfl) ?_
                                            refine lv_dup2_11 hx hb dX12_order_206 rfl rfl ?_
                                            have hin : vp_in x37 10 := tin rfl (by omega)
                                            refine ra_169 C hW (mm_ rfl) hin dX12_order_207 ?_
                                            refine lv_topi (fun x38 (e38 : x38 = Gl32 169 x37.toNatClampNeg) => ?_)
                                            refine lv_iconst (v := 1) hx hb dX12_order_208 (by decide) ?_
                                            refine lv_isub hx hb dX12_order_209 ?_
                                            refine lv_topi (fun x39 (e39 : x39 = x38 - 1) => ?_)
                                            have hin : vp_in x37 10 := tin rfl (by omega)
                                            refine rs_169 C hW (mm_ rfl) hin dX12_order_210 (fun H locs hW => ?_)
                                            refine lv_iload hx hb dX12_order_211 (lv_at hl 3 rfl) ?_
                                            refine lv_if_eq (tgt := 237) hx hb dX12_order_213 (by decide) (fun c40 => ?_) (fun c40 => ?_)
                                            · have c40 : m9.toInt = 0 := teq rfl kp0 c40
                                              refine lv_iconst (v := 0) hx hb dX12_order_237 (by decide) ?_
                                              refine lv_istore (lv' := [(9, .int 0), (12, .int x37), (11, .int m11), (10, .int m10), (8, .int m8), (7, .int x11), (6, .int x10), (5, .int x8), (0, .ref (g.2.2.1 13)), (1, .int a0), (2, .int a1), (3, .int a2), (4, .int a3)]) hx hb dX12_order_238 hl (by decide) rfl (fun ls hl => ?_)
                                              refine lv_iload hx hb dX12_order_240 (lv_at hl 1 rfl) ?_
                                              refine lv_istore (lv' := [(10, .int x37), (9, .int 0), (12, .int x37), (11, .int m11), (8, .int m8), (7, .int x11), (6, .int x10), (5, .int x8), (0, .ref (g.2.2.1 13)), (1, .int a0), (2, .int a1), (3, .int a2), (4, .int a3)]) hx hb dX12_order_242 hl (by decide) rfl (fun ls hl => ?_)
                                              refine lv_iload hx hb dX12_order_244 (lv_at hl 3 rfl) ?_
                                              refine lv_bipush (v := 10) hx hb dX12_order_246 (by decide) ?_
                                              refine lv_idiv hx hb dX12_order_248 (by decide) ?_
                                              refine lv_topi (fun x41 (e41 : x41 = m11 / 10) => ?_)
                                              have t41 : x41.toInt = m11.toInt.tdiv 10 := tdiv e41 rfl kp10 (by decide)
                                              try rw [tdp (a := m11.toInt) (by omega)] at t41
                                              refine lv_istore (lv' := [(11, .int x41), (10, .int x37), (9, .int 0), (12, .int x37), (8, .int m8), (7, .int x11), (6, .int x10), (5, .int x8), (0, .ref (g.2.2.1 13)), (1, .int a0), (2, .int a1), (3, .int a2), (4, .int a3)]) hx hb dX12_order_249 hl (by decide) rfl (fun ls hl => ?_)
                                              refine lv_goto (tgt := 185) hx hb dX12_order_251 (by decide) ?_
                                              have hWl : WB g A s.heap H locs ((hv (up2 (up2 (up2 (hv (hv J [100, 169] [] Gl28) [169] [] Gl30) 169 a0.toNatClampNeg x8) 169 a1.toNatClampNeg x10) 169 a2.toNatClampNeg x11) [169] [] (up2 (hv (up2 (up2 (up2 (hv (hv J [100, 169] [] Gl28) [169] [] Gl30) 169 a0.toNatClampNeg x8) 169 a1.toNatClampNeg x10) 169 a2.toNatClampNeg x11) [169] [] Gl32) 169 x37.toNatClampNeg x39)), L, I, P, E, N) (sgM g) := by
                                                rw [← ag_hvE (J := (up2 (up2 (up2 (hv (hv J [100, 169] [] Gl28) [169] [] Gl30) 169 a0.toNatClampNeg x8) 169 a1.toNatClampNeg x10) 169 a2.toNatClampNeg x11)) (R := [169]) (F := []) (ag_up (Or.inl rfl) (ag_hv rfl rfl ag_rf))]
                                                exact hW
                                              refine ih185 0 x37 x41 (up2 (hv (up2 (up2 (up2 (hv (hv J [100, 169] [] Gl28) [169] [] Gl30) 169 a0.toNatClampNeg x8) 169 a1.toNatClampNeg x10) 169 a2.toNatClampNeg x11) [169] [] Gl32) 169 x37.toNatClampNeg x39) H locs ls ?_ ?_ hWl (lv_sub hl [0, 1, 2, 4, 5, 6, 7, 8, 9, 10, 11, 12] rfl)
                                              · show x41.toInt.toNat < n185
                                                omega
                                              · show x41.toInt ≤ 10000
                                                first | omega | exact hj | assumption
                                            · have c40 : ¬ m9.toInt = 0 := tne rfl kp0 c40
                                              refine lv_iload hx hb dX12_order_216 (lv_at hl 0 rfl) ?_
                                              refine lv_iload hx hb dX12_order_218 (lv_at hl 2 rfl) ?_
                                              refine lv_icmp_eq (tgt := 237) hx hb dX12_order_220 (by decide) (fun c42 => ?_) (fun c42 => ?_)
                                              · have c42 : x37.toInt = m10.toInt := teq rfl rfl c42
                                                refine lv_iconst (v := 0) hx hb dX12_order_237 (by decide) ?_
                                                refine lv_istore (lv' := [(9, .int 0), (12, .int x37), (11, .int m11), (10, .int m10), (8, .int m8), (7, .int x11), (6, .int x10), (5, .int x8), (0, .ref (g.2.2.1 13)), (1, .int a0), (2, .int a1), (3, .int a2), (4, .int a3)]) hx hb dX12_order_238 hl (by decide) rfl (fun ls hl => ?_)
                                                refine lv_iload hx hb dX12_order_240 (lv_at hl 1 rfl) ?_
                                                refine lv_istore (lv' := [(10, .int x37), (9, .int 0), (12, .int x37), (11, .int m11), (8, .int m8), (7, .int x11), (6, .int x10), (5, .int x8), (0, .ref (g.2.2.1 13)), (1, .int a0), (2, .int a1), (3, .int a2), (4, .int a3)]) hx hb dX12_order_242 hl (by decide) rfl (fun ls hl => ?_)
                                                refine lv_iload hx hb dX12_order_244 (lv_at hl 3 rfl) ?_
                                                refine lv_bipush (v := 10) hx hb dX12_order_246 (by decide) ?_
                                                refine lv_idiv hx hb dX12_order_248 (by decide) ?_
                                                refine lv_topi (fun x43 (e43 : x43 = m11 / 10) => ?_)
                                                have t43 : x43.toInt = m11.toInt.tdiv 10 := tdiv e43 rfl kp10 (by decide)
                                                try rw [tdp (a := m11.toInt) (by omega)] at t43
                                                refine lv_istore (lv' := [(11, .int x43), (10, .int x37), (9, .int 0), (12, .int x37), (8, .int m8), (7, .int x11), (6, .int x10), (5, .int x8), (0, .ref (g.2.2.1 13)), (1, .int a0), (2, .int a1), (3, .int a2), (4, .int a3)]) hx hb dX12_order_249 hl (by decide) rfl (fun ls hl => ?_)
                                                refine lv_goto (tgt := 185) hx hb dX12_order_251 (by decide) ?_
                                                have hWl : WB g A s.heap H locs ((hv (up2 (up2 (up2 (hv (hv J [100, 169] [] Gl28) [169] [] Gl30) 169 a0.toNatClampNeg x8) 169 a1.toNatClampNeg x10) 169 a2.toNatClampNeg x11) [169] [] (up2 (hv (up2 (up2 (up2 (hv (hv J [100, 169] [] Gl28) [169] [] Gl30) 169 a0.toNatClampNeg x8) 169 a1.toNatClampNeg x10) 169 a2.toNatClampNeg x11) [169] [] Gl32) 169 x37.toNatClampNeg x39)), L, I, P, E, N) (sgM g) := by
                                                  rw [← ag_hvE (J := (up2 (up2 (up2 (hv (hv J [100, 169] [] Gl28) [169] [] Gl30) 169 a0.toNatClampNeg x8) 169 a1.toNatClampNeg x10) 169 a2.toNatClampNeg x11)) (R := [169]) (F := []) (ag_up (Or.inl rfl) (ag_hv rfl rfl ag_rf))]
                                                  exact hW
                                                refine ih185 0 x37 x43 (up2 (hv (up2 (up2 (up2 (hv (hv J [100, 169] [] Gl28) [169] [] Gl30) 169 a0.toNatClampNeg x8) 169 a1.toNatClampNeg x10) 169 a2.toNatClampNeg x11) [169] [] Gl32) 169 x37.toNatClampNeg x39) H locs ls ?_ ?_ hWl (lv_sub hl [0, 1, 2, 4, 5, 6, 7, 8, 9, 10, 11, 12] rfl)
                                                · show x43.toInt.toNat < n185
                                                  omega
                                                · show x43.toInt ≤ 10000
                                                  first | omega | exact hj | assumption
                                              · have c42 : ¬ x37.toInt = m10.toInt := tne rfl rfl c42
                                                refine lv_aload_n hx hb dX12_order_223 rfl (lv_at hl 8 rfl) ?_
                                                refine rg_13_69 C hW (mm_ rfl) tw_1092 dX12_order_224 ?_
                                                refine lv_iload hx hb dX12_order_227 (lv_at hl 0 rfl) ?_
                                                have hin : vp_in x37 10 := tin rfl (by omega)
                                                refine ra_169 C hW (mm_ rfl) hin dX12_order_229 ?_
                                                refine lv_topi (fun x44 (e44 : x44 = (up2 Gl32 169 x37.toNatClampNeg x39) 169 x37.toNatClampNeg) => ?_)
                                                refine lv_if_lt (tgt := 237) hx hb dX12_order_230 (by decide) (fun c45 => ?_) (fun c45 => ?_)
                                                · have c45 : x44.toInt < 0 := tlt rfl kp0 c45
                                                  refine lv_iconst (v := 0) hx hb dX12_order_237 (by decide) ?_
                                                  refine lv_istore (lv' := [(9, .int 0), (12, .int x37), (11, .int m11), (10, .int m10), (8, .int m8), (7, .int x11), (6, .int x10), (5, .int x8), (0, .ref (g.2.2.1 13)), (1, .int a0), (2, .int a1), (3, .int a2), (4, .int a3)]) hx hb dX12_order_238 hl (by decide) rfl (fun ls hl => ?_)
                                                  refine lv_iload hx hb dX12_order_240 (lv_at hl 1 rfl) ?_
                                                  refine lv_istore (lv' := [(10, .int x37), (9, .int 0), (12, .int x37), (11, .int m11), (8, .int m8), (7, .int x11), (6, .int x10), (5, .int x8), (0, .ref (g.2.2.1 13)), (1, .int a0), (2, .int a1), (3, .int a2), (4, .int a3)]) hx hb dX12_order_242 hl (by decide) rfl (fun ls hl => ?_)
                                                  refine lv_iload hx hb dX12_order_244 (lv_at hl 3 rfl) ?_
                                                  refine lv_bipush (v := 10) hx hb dX12_order_246 (by decide) ?_
                                                  refine lv_idiv hx hb dX12_order_248 (by decide) ?_
                                                  refine lv_topi (fun x46 (e46 : x46 = m11 / 10) => ?_)
                                                  have t46 : x46.toInt = m11.toInt.tdiv 10 := tdiv e46 rfl kp10 (by decide)
                                                  try rw [tdp (a := m11.toInt) (by omega)] at t46
                                                  refine lv_istore (lv' := [(11, .int x46), (10, .int x37), (9, .int 0), (12, .int x37), (8, .int m8), (7, .int x11), (6, .int x10), (5, .int x8), (0, .ref (g.2.2.1 13)), (1, .int a0), (2, .int a1), (3, .int a2), (4, .int a3)]) hx hb dX12_order_249 hl (by decide) rfl (fun ls hl => ?_)
                                                  refine lv_goto (tgt := 185) hx hb dX12_order_251 (by decide) ?_
                                                  have hWl : WB g A s.heap H locs ((hv (up2 (up2 (up2 (hv (hv J [100, 169] [] Gl28) [169] [] Gl30) 169 a0.toNatClampNeg x8) 169 a1.toNatClampNeg x10) 169 a2.toNatClampNeg x11) [169] [] (up2 (hv (up2 (up2 (up2 (hv (hv J [100, 169] [] Gl28) [169] [] Gl30) 169 a0.toNatClampNeg x8) 169 a1.toNatClampNeg x10) 169 a2.toNatClampNeg x11) [169] [] Gl32) 169 x37.toNatClampNeg x39)), L, I, P, E, N) (sgM g) := by
                                                    rw [← ag_hvE (J := (up2 (up2 (up2 (hv (hv J [100, 169] [] Gl28) [169] [] Gl30) 169 a0.toNatClampNeg x8) 169 a1.toNatClampNeg x10) 169 a2.toNatClampNeg x11)) (R := [169]) (F := []) (ag_up (Or.inl rfl) (ag_hv rfl rfl ag_rf))]
                                                    exact hW
                                                  refine ih185 0 x37 x46 (up2 (hv (up2 (up2 (up2 (hv (hv J [100, 169] [] Gl28) [169] [] Gl30) 169 a0.toNatClampNeg x8) 169 a1.toNatClampNeg x10) 169 a2.toNatClampNeg x11) [169] [] Gl32) 169 x37.toNatClampNeg x39) H locs ls ?_ ?_ hWl (lv_sub hl [0, 1, 2, 4, 5, 6, 7, 8, 9, 10, 11, 12] rfl)
                                                  · show x46.toInt.toNat < n185
                                                    omega
                                                  · show x46.toInt ≤ 10000
                                                    first | omega | exact hj | assumption
                                                · have c45 : 0 ≤ x44.toInt := tnlt rfl kp0 c45
                                                  refine lv_iconst (v := 1) hx hb dX12_order_233 (by decide) ?_
                                                  refine lv_goto (tgt := 238) hx hb dX12_order_234 (by decide) ?_
                                                  refine lv_istore (lv' := [(9, .int 1), (12, .int x37), (11, .int m11), (10, .int m10), (8, .int m8), (7, .int x11), (6, .int x10), (5, .int x8), (0, .ref (g.2.2.1 13)), (1, .int a0), (2, .int a1), (3, .int a2), (4, .int a3)]) hx hb dX12_order_238 hl (by decide) rfl (fun ls hl => ?_)
                                                  refine lv_iload hx hb dX12_order_240 (lv_at hl 1 rfl) ?_
                                                  refine lv_istore (lv' := [(10, .int x37), (9, .int 1), (12, .int x37), (11, .int m11), (8, .int m8), (7, .int x11), (6, .int x10), (5, .int x8), (0, .ref (g.2.2.1 13)), (1, .int a0), (2, .int a1), (3, .int a2), (4, .int a3)]) hx hb dX12_order_242 hl (by decide) rfl (fun ls hl => ?_)
                                                  refine lv_iload hx hb dX12_order_244 (lv_at hl 3 rfl) ?_
                                                  refine lv_bipush (v := 10) hx hb dX12_order_246 (by decide) ?_
                                                  refine lv_idiv hx hb dX12_order_248 (by decide) ?_
                                                  refine lv_topi (fun x47 (e47 : x47 = m11 / 10) => ?_)
                                                  have t47 : x47.toInt = m11.toInt.tdiv 10 := tdiv e47 rfl kp10 (by decide)
                                                  try rw [tdp (a := m11.toInt) (by omega)] at t47
                                                  refine lv_istore (lv' := [(11, .int x47), (10, .int x37), (9, .int 1), (12, .int x37), (8, .int m8), (7, .int x11), (6, .int x10), (5, .int x8), (0, .ref (g.2.2.1 13)), (1, .int a0), (2, .int a1), (3, .int a2), (4, .int a3)]) hx hb dX12_order_249 hl (by decide) rfl (fun ls hl => ?_)
                                                  refine lv_goto (tgt := 185) hx hb dX12_order_251 (by decide) ?_
                                                  have hWl : WB g A s.heap H locs ((hv (up2 (up2 (up2 (hv (hv J [100, 169] [] Gl28) [169] [] Gl30) 169 a0.toNatClampNeg x8) 169 a1.toNatClampNeg x10) 169 a2.toNatClampNeg x11) [169] [] (up2 (hv (up2 (up2 (up2 (hv (hv J [100, 169] [] Gl28) [169] [] Gl30) 169 a0.toNatClampNeg x8) 169 a1.toNatClampNeg x10) 169 a2.toNatClampNeg x11) [169] [] Gl32) 169 x37.toNatClampNeg x39)), L, I, P, E, N) (sgM g) := by
                                                    rw [← ag_hvE (J := (up2 (up2 (up2 (hv (hv J [100, 169] [] Gl28) [169] [] Gl30) 169 a0.toNatClampNeg x8) 169 a1.toNatClampNeg x10) 169 a2.toNatClampNeg x11)) (R := [169]) (F := []) (ag_up (Or.inl rfl) (ag_hv rfl rfl ag_rf))]
                                                    exact hW
                                                  refine ih185 1 x37 x47 (up2 (hv (up2 (up2 (up2 (hv (hv J [100, 169] [] Gl28) [169] [] Gl30) 169 a0.toNatClampNeg x8) 169 a1.toNatClampNeg x10) 169 a2.toNatClampNeg x11) [169] [] Gl32) 169 x37.toNatClampNeg x39) H locs ls ?_ ?_ hWl (lv_sub hl [0, 1, 2, 4, 5, 6, 7, 8, 9, 10, 11, 12] rfl)
                                                  · show x47.toInt.toNat < n185
                                                    omega
                                                  · show x47.toInt ≤ 10000
                                                    first | omega | exact hj | assumption
                                      -- into the loop
                                      have hWl : WB g A s.heap H locs ((hv (up2 (up2 (up2 (hv (hv J [100, 169] [] Gl28) [169] [] Gl30) 169 a0.toNatClampNeg x8) 169 a1.toNatClampNeg x10) 169 a2.toNatClampNeg x11) [169] [] (up2 (up2 (up2 (hv (hv J [100, 169] [] Gl28) [169] [] Gl30) 169 a0.toNatClampNeg x8) 169 a1.toNatClampNeg x10) 169 a2.toNatClampNeg x11)), L, I, P, E, N) (sgM g) := by
                                        rw [← ag_hvE (J := (up2 (up2 (up2 (hv (hv J [100, 169] [] Gl28) [169] [] Gl30) 169 a0.toNatClampNeg x8) 169 a1.toNatClampNeg x10) 169 a2.toNatClampNeg x11)) (R := [169]) (F := []) ag_rf]
                                        exact hW
                                      refine loop185 ((10000 : Int32).toInt.toNat + 1) 1 (-1) 10000 (up2 (up2 (up2 (hv (hv J [100, 169] [] Gl28) [169] [] Gl30) 169 a0.toNatClampNeg x8) 169 a1.toNatClampNeg x10) 169 a2.toNatClampNeg x11) H locs ls ?_ ?_ hWl (lv_sub hl [0, 1, 2, 3, 4, 5, 6, 7, 8, 9, 10, 11] rfl)
                                      · exact Nat.lt_succ_self _
                                      · show (10000 : Int32).toInt ≤ 10000
                                        try rw [kp1]
                                        try rw [kn1]
                                        try rw [kp10000]
                                        first | omega | exact hj | assumption
                                    · have c31 : m9.toInt < 10 := tnle kp10 rfl c31
                                      refine lv_aload_n hx hb dX12_order_136 rfl (lv_at hl 5 rfl) ?_
                                      refine rg_13_69 C hW (mm_ rfl) tw_1092 dX12_order_137 ?_
                                      refine lv_iload hx hb dX12_order_140 (lv_at hl 0 rfl) ?_
                                      refine lv_iconst (v := 0) hx hb dX12_order_142 (by decide) ?_
                                      have hin : vp_in m9 10 := tin rfl (by omega)
                                      refine rs_169 C hW (mm_ rfl) hin dX12_order_143 (fun H locs hW => ?_)
                                      obtain ⟨x48, e48⟩ : ∃ y : Int32, y = m9 + 1 := ⟨_, rfl⟩
                                      refine lv_iinc (v := x48) (lv' := [(9, .int x48), (8, .int m8), (7, .int x11), (6, .int x10), (5, .int x8), (0, .ref (g.2.2.1 13)), (1, .int a0), (2, .int a1), (3, .int a2), (4, .int a3)]) hx hb dX12_order_144 hl (k := 0) rfl (by rw [e48]; rfl) (by decide) rfl (fun ls hl => ?_)
                                      try have t48 : x48.toInt = m9.toInt + 1 := tadd e48 rfl kp1 (by omega)
                                      refine lv_goto (tgt := 129) hx hb dX12_order_147 (by decide) ?_
                                      have hWl : WB g A s.heap H locs ((hv (hv J [100, 169] [] Gl28) [169] [] (up2 (hv (hv J [100, 169] [] Gl28) [169] [] Gl30) 169 m9.toNatClampNeg 0)), L, I, P, E, N) (sgM g) := by
                                        rw [← ag_hvE (J := (hv J [100, 169] [] Gl28)) (R := [169]) (F := []) (ag_up (Or.inl rfl) (ag_hv rfl rfl ag_rf))]
                                        exact hW
                                      refine ih129 x48 (up2 (hv (hv J [100, 169] [] Gl28) [169] [] Gl30) 169 m9.toNatClampNeg 0) H locs ls ?_ ?_ hWl (lv_sub hl [0, 1, 2, 3, 4, 5, 6, 7, 8, 9] rfl)
                                      · show (10 - x48.toInt).toNat < n129
                                        omega
                                      · show 0 ≤ x48.toInt
                                        first | omega | exact hj | assumption
                                -- into the loop
                                have hWl : WB g A s.heap H locs ((hv (hv J [100, 169] [] Gl28) [169] [] (hv J [100, 169] [] Gl28)), L, I, P, E, N) (sgM g) := by
                                  rw [← ag_hvE (J := (hv J [100, 169] [] Gl28)) (R := [169]) (F := []) ag_rf]
                                  exact hW
                                refine loop129 ((10 - (0 : Int32).toInt).toNat + 1) 0 (hv J [100, 169] [] Gl28) H locs ls ?_ ?_ hWl (lv_sub hl [0, 1, 2, 3, 4, 5, 6, 7, 8, 9] rfl)
                                · exact Nat.lt_succ_self _
                                · show 0 ≤ (0 : Int32).toInt
                                  try rw [kp0]
                                  first | omega | exact hj | assumption
                          -- into the loop
                          have hWl : WB g A s.heap H locs ((hv J [100, 169] [] J), L, I, P, E, N) (sgM g) := by
                            rw [← ag_hvE (J := J) (R := [100, 169]) (F := []) ag_rf]
                            exact hW
                          refine loop118 ((100000 - (0 : Int32).toInt).toNat + 1) 0 J H locs ls ?_ ?_ hWl (lv_sub hl [0, 1, 2, 3, 4, 5, 6, 7, 8] rfl)
                          · exact Nat.lt_succ_self _
                          · show 0 ≤ (0 : Int32).toInt
                            try rw [kp0]
                            first | omega | exact hi | assumption
                        · have c27 : ¬ x26.toInt = 5 := tne rfl kp5 c27
                          refine lv_aload_n hx hb dX12_order_108 rfl (lv_at hl 3 rfl) ?_
                          refine lv_bipush (v := (-3)) hx hb dX12_order_109 (by decide) ?_
                          refine ci_ C hW (runV (x := (g.2.2.1 13)) (As := [.int (-3)]) (rest := []) (T := ((J, L, I, P, E, N), sgM g)) C hW (c_X12_refuse l g J L I P E N H.size (-3) (show -6 ≤ (-3 : Int32).toInt ∧ (-3 : Int32).toInt ≤ -1 from by (try simp only [kn3]); omega)) mi_X12_refuse tw_1239 (recv_ (T := ((J, L, I, P, E, N), sgM g)) C hW (mm_ rfl) rfl rfl) ⟨rfl, rfl, Nat.le_of_ble_eq_true rfl, Nat.le_of_ble_eq_true rfl⟩ rfl hl.1 rfl (Nat.le_of_ble_eq_true rfl) dX12_order_111 ⟨Nat.le_of_ble_eq_true rfl, Nat.le_of_ble_eq_true rfl⟩) (fun r49 u49 H locs hp49 hW => ?_)
                          have hc49 : ((r49 = (-3))) := hp49
                          clear hp49
                          have hr49 : r49.toInt = (-3) := by rw [hc49]; exact kn3
                          have hW : WB g A s.heap H locs ((hv J [100] [] u49), L, I, P, E, N) (sgM g) := hW
                          have hWr : WB g A s.heap H locs (hv J [100, 169] [] (hv J [100] [] u49), L, I, P, E, N) (sgM g) := by
                            rw [← ag_hvE (J := J) (R := [100, 169]) (F := []) (ag_hv rfl rfl ag_rf)]
                            exact hW
                          exact end_i C hr hlocks (hv J [100] [] u49) hWr trivial dX12_order_114
                · have c18 : 555 < a3.toInt := tnle rfl kp555 c18
                  refine lv_aload_n hx hb dX12_order_74 rfl (lv_at hl 3 rfl) ?_
                  refine lv_bipush (v := (-6)) hx hb dX12_order_75 (by decide) ?_
                  refine ci_ C hW (runV (x := (g.2.2.1 13)) (As := [.int (-6)]) (rest := []) (T := ((J, L, I, P, E, N), sgM g)) C hW (c_X12_refuse l g J L I P E N H.size (-6) (show -6 ≤ (-6 : Int32).toInt ∧ (-6 : Int32).toInt ≤ -1 from by (try simp only [kn6]); omega)) mi_X12_refuse tw_1239 (recv_ (T := ((J, L, I, P, E, N), sgM g)) C hW (mm_ rfl) rfl rfl) ⟨rfl, rfl, Nat.le_of_ble_eq_true rfl, Nat.le_of_ble_eq_true rfl⟩ rfl hl.1 rfl (Nat.le_of_ble_eq_true rfl) dX12_order_77 ⟨Nat.le_of_ble_eq_true rfl, Nat.le_of_ble_eq_true rfl⟩) (fun r50 u50 H locs hp50 hW => ?_)
                  have hc50 : ((r50 = (-6))) := hp50
                  clear hp50
                  have hr50 : r50.toInt = (-6) := by rw [hc50]; exact kn6
                  have hW : WB g A s.heap H locs ((hv J [100] [] u50), L, I, P, E, N) (sgM g) := hW
                  have hWr : WB g A s.heap H locs (hv J [100, 169] [] (hv J [100] [] u50), L, I, P, E, N) (sgM g) := by
                    rw [← ag_hvE (J := J) (R := [100, 169]) (F := []) (ag_hv rfl rfl ag_rf)]
                    exact hW
                  exact end_i C hr hlocks (hv J [100] [] u50) hWr trivial dX12_order_80
        · have c7 : a3.toInt < 0 := tnle kp0 rfl c7
          refine lv_aload_n hx hb dX12_order_17 rfl (lv_at hl 0 rfl) ?_
          refine lv_bipush (v := (-4)) hx hb dX12_order_18 (by decide) ?_
          refine ci_ C hW (runV (x := (g.2.2.1 13)) (As := [.int (-4)]) (rest := []) (T := ((J, L, I, P, E, N), sgM g)) C hW (c_X12_refuse l g J L I P E N H.size (-4) (show -6 ≤ (-4 : Int32).toInt ∧ (-4 : Int32).toInt ≤ -1 from by (try simp only [kn4]); omega)) mi_X12_refuse tw_1239 (recv_ (T := ((J, L, I, P, E, N), sgM g)) C hW (mm_ rfl) rfl rfl) ⟨rfl, rfl, Nat.le_of_ble_eq_true rfl, Nat.le_of_ble_eq_true rfl⟩ rfl hl.1 rfl (Nat.le_of_ble_eq_true rfl) dX12_order_20 ⟨Nat.le_of_ble_eq_true rfl, Nat.le_of_ble_eq_true rfl⟩) (fun r51 u51 H locs hp51 hW => ?_)
          have hc51 : ((r51 = (-4))) := hp51
          clear hp51
          have hr51 : r51.toInt = (-4) := by rw [hc51]; exact kn4
          have hW : WB g A s.heap H locs ((hv J [100] [] u51), L, I, P, E, N) (sgM g) := hW
          have hWr : WB g A s.heap H locs (hv J [100, 169] [] (hv J [100] [] u51), L, I, P, E, N) (sgM g) := by
            rw [← ag_hvE (J := J) (R := [100, 169]) (F := []) (ag_hv rfl rfl ag_rf)]
            exact hW
          exact end_i C hr hlocks (hv J [100] [] u51) hWr trivial dX12_order_23

set_option maxHeartbeats 4000000 in
set_option maxRecDepth 100000 in
theorem c_X12_count (l : Launch) (g : gG) (J : Nat → Nat → Int32) (L : Nat → Nat → Int64) (I : Nat → Nat → Nat → Int32) (P : Nat → Nat → Nat → Option Nat) (E : Nat → Option Nat) (N : Nat → Nat) (sz : Nat) (a0 : Int32) (hwm : WM J) : Met l yX12_count (WS yX12_count cX12_count 4 (some .int)) (RM (1) 0 0) (PC g [.ref (g.2.2.1 13), .int a0] ((J, L, I, P, E, N), sgM g) sz) (va_Qi (fun (r : Int32) (u : Unit) => True) (fun u t => at_ g (FR g ((J, L, I, P, E, N), sgM g) sz) ((J, L, I, P, E, N), sgM g) t) (FR g ((J, L, I, P, E, N), sgM g) sz)) 0 0 (FR g ((J, L, I, P, E, N), sgM g) sz) := by
  refine ent (by decide +kernel) (Nat.le_of_ble_eq_true rfl) ?_
  intro p e s m below meth c ls hsz C hW hr hlocks hname hl
  generalize FR g ((J, L, I, P, E, N), sgM g) sz = A at C hW ⊢
  have hx := C.1.1
  have hb := C.1.2.1
  have hts := C.1.2.2.2.2
  have hW : WB g A s.heap s.heap [] (J, L, I, P, E, N) (sgM g) := hW
  have hl : lv_has ls 4 [(0, .ref (g.2.2.1 13)), (1, .int a0)] := hl
  obtain ⟨H, hH⟩ : ∃ H : Heap, H = s.heap := ⟨_, rfl⟩
  obtain ⟨locs, hlocs⟩ : ∃ q : List Loc, q = [] := ⟨_, rfl⟩
  have hW : WB g A s.heap H locs (J, L, I, P, E, N) (sgM g) := by rw [hH, hlocs]; exact hW
  obtain ⟨⟨hnd1, hnd2, hon, hhm1, hhm2, hhN, hcu1, hcu2, hco1, hco2, hcN⟩, ⟨hrd1, hrd2⟩, ⟨hnw1, hnw2, hns1, hns2, hof⟩, ⟨htm1, htm2, hts_⟩, ⟨had1, had2, hrw1, hrw2, htp1, htp2⟩⟩ := id hwm
  refine start_ hH hlocs ?_
  refine lv_iload_n hx hb dX12_count_0 rfl (lv_at hl 1 rfl) ?_
  refine lv_bipush (v := 10) hx hb dX12_count_1 (by decide) ?_
  refine lv_icmp_le (tgt := 22) hx hb dX12_count_3 (by decide) (fun c1 => ?_) (fun c1 => ?_)
  · have c1 : a0.toInt ≤ 10 := tle rfl kp10 c1
    refine lv_iconst (v := 0) hx hb dX12_count_22 (by decide) ?_
    refine lv_istore_n (lv' := [(2, .int 0), (0, .ref (g.2.2.1 13)), (1, .int a0)]) hx hb dX12_count_23 rfl hl (by decide) rfl (fun ls hl => ?_)
    refine lv_iload_n hx hb dX12_count_24 rfl (lv_at hl 2 rfl) ?_
    rcases Int.lt_or_le a0.toInt 0 with c2 | c2
    · refine lv_tableOut (tgt := 243) hx hb dX12_count_25 (Or.inl c2) (by decide) ?_
      refine lv_bipush (v := (-9)) hx hb dX12_count_243 (by decide) ?_
      exact end_i C hr hlocks () hW trivial dX12_count_245
    · rcases Int.lt_or_le 18 a0.toInt with c2b | c2b
      · refine lv_tableOut (tgt := 243) hx hb dX12_count_25 (Or.inr c2b) (by decide) ?_
        refine lv_bipush (v := (-9)) hx hb dX12_count_243 (by decide) ?_
        exact end_i C hr hlocks () hW trivial dX12_count_245
      · rcases (show a0.toInt = 0 ∨ a0.toInt = 1 ∨ a0.toInt = 2 ∨ a0.toInt = 3 ∨ a0.toInt = 4 ∨ a0.toInt = 5 ∨ a0.toInt = 6 ∨ a0.toInt = 7 ∨ a0.toInt = 8 ∨ a0.toInt = 9 ∨ a0.toInt = 10 ∨ a0.toInt = 11 ∨ a0.toInt = 12 ∨ a0.toInt = 13 ∨ a0.toInt = 14 ∨ a0.toInt = 15 ∨ a0.toInt = 16 ∨ a0.toInt = 17 ∨ a0.toInt = 18 by omega) with c2k | c2k | c2k | c2k | c2k | c2k | c2k | c2k | c2k | c2k | c2k | c2k | c2k | c2k | c2k | c2k | c2k | c2k | c2k
        · refine lv_tableIn (off := 91) (tgt := 116) hx hb dX12_count_25 (Int.not_lt.mpr c2) (Int.not_lt.mpr c2b) (by rw [c2k]; rfl) (by decide) ?_
          refine lv_aload_n hx hb dX12_count_116 rfl (lv_at hl 1 rfl) ?_
          refine rg_13_31 C hW (mm_ rfl) tw_1054 dX12_count_117 ?_
          exact end_i C hr hlocks () hW trivial dX12_count_120
        · refine lv_tableIn (off := 96) (tgt := 121) hx hb dX12_count_25 (Int.not_lt.mpr c2) (Int.not_lt.mpr c2b) (by rw [c2k]; rfl) (by decide) ?_
          refine lv_aload_n hx hb dX12_count_121 rfl (lv_at hl 1 rfl) ?_
          refine rg_13_32 C hW (mm_ rfl) tw_1055 dX12_count_122 ?_
          exact end_i C hr hlocks () hW trivial dX12_count_125
        · refine lv_tableIn (off := 101) (tgt := 126) hx hb dX12_count_25 (Int.not_lt.mpr c2) (Int.not_lt.mpr c2b) (by rw [c2k]; rfl) (by decide) ?_
          refine lv_aload_n hx hb dX12_count_126 rfl (lv_at hl 1 rfl) ?_
          refine rg_13_35 C hW (mm_ rfl) tw_1058 dX12_count_127 ?_
          exact end_i C hr hlocks () hW trivial dX12_count_130
        · refine lv_tableIn (off := 106) (tgt := 131) hx hb dX12_count_25 (Int.not_lt.mpr c2) (Int.not_lt.mpr c2b) (by rw [c2k]; rfl) (by decide) ?_
          refine lv_aload_n hx hb dX12_count_131 rfl (lv_at hl 1 rfl) ?_
          refine rg_13_37 C hW (mm_ rfl) tw_1060 dX12_count_132 ?_
          exact end_i C hr hlocks () hW trivial dX12_count_135
        · refine lv_tableIn (off := 111) (tgt := 136) hx hb dX12_count_25 (Int.not_lt.mpr c2) (Int.not_lt.mpr c2b) (by rw [c2k]; rfl) (by decide) ?_
          refine lv_aload_n hx hb dX12_count_136 rfl (lv_at hl 1 rfl) ?_
          refine rg_13_34 C hW (mm_ rfl) tw_1057 dX12_count_137 ?_
          exact end_i C hr hlocks () hW trivial dX12_count_140
        · refine lv_tableIn (off := 116) (tgt := 141) hx hb dX12_count_25 (Int.not_lt.mpr c2) (Int.not_lt.mpr c2b) (by rw [c2k]; rfl) (by decide) ?_
          refine lv_aload_n hx hb dX12_count_141 rfl (lv_at hl 1 rfl) ?_
          refine rg_13_40 C hW (mm_ rfl) tw_1063 dX12_count_142 ?_
          exact end_i C hr hlocks () hW trivial dX12_count_145
        · refine lv_tableIn (off := 121) (tgt := 146) hx hb dX12_count_25 (Int.not_lt.mpr c2) (Int.not_lt.mpr c2b) (by rw [c2k]; rfl) (by decide) ?_
          refine lv_aload_n hx hb dX12_count_146 rfl (lv_at hl 1 rfl) ?_
          refine rg_13_42 C hW (mm_ rfl) tw_1065 dX12_count_147 ?_
          exact end_i C hr hlocks () hW trivial dX12_count_150
        · refine lv_tableIn (off := 126) (tgt := 151) hx hb dX12_count_25 (Int.not_lt.mpr c2) (Int.not_lt.mpr c2b) (by rw [c2k]; rfl) (by decide) ?_
          refine lv_aload_n hx hb dX12_count_151 rfl (lv_at hl 1 rfl) ?_
          refine rg_13_43 C hW (mm_ rfl) tw_1066 dX12_count_152 ?_
          exact end_i C hr hlocks () hW trivial dX12_count_155
        · refine lv_tableIn (off := 131) (tgt := 156) hx hb dX12_count_25 (Int.not_lt.mpr c2) (Int.not_lt.mpr c2b) (by rw [c2k]; rfl) (by decide) ?_
          refine lv_iconst (v := 0) hx hb dX12_count_156 (by decide) ?_
          refine lv_istore_n (lv' := [(3, .int 0), (2, .int 0), (0, .ref (g.2.2.1 13)), (1, .int a0)]) hx hb dX12_count_157 rfl hl (by decide) rfl (fun ls hl => ?_)
          have loop158 : ∀ (n : Nat) (m2 : Int32) (m3 : Int32) (H : Heap) (locs : List Loc) (ls : Array Slot), (10000 - m3.toInt).toNat < n → 0 ≤ m3.toInt → WB g A s.heap H locs (J, L, I, P, E, N) (sgM g) → lv_has ls 4 [(3, .int m3), (2, .int m2), (0, .ref (g.2.2.1 13)), (1, .int a0)] → W p l e (RM (1) 0 0) s m ([.ref (g.2.2.1 13), .int a0] : List Value).toArray below meth c H locs 0 0 (MQ below (va_Qi (fun (r : Int32) (u : Unit) => True) (fun u t => at_ g A ((J, L, I, P, E, N), sgM g) t) A) ([.ref (g.2.2.1 13), .int a0] : List Value).toArray s 0 0 A) (F0 m 158 ls []) := by
            intro n
            induction n with
            | zero => intro m2 m3 H locs ls hmeas; exact absurd hmeas (Nat.not_lt_zero _)
            | succ n ih =>
              intro m2 m3 H locs ls hmeas hi hW hl
              refine lv_iload_n hx hb dX12_count_158 rfl (lv_at hl 0 rfl) ?_
              refine lv_aload_n hx hb dX12_count_159 rfl (lv_at hl 2 rfl) ?_
              refine rg_13_31 C hW (mm_ rfl) tw_1054 dX12_count_160 ?_
              refine lv_icmp_ge (tgt := 191) hx hb dX12_count_163 (by decide) (fun c3 => ?_) (fun c3 => ?_)
              · have c3 : (J 13 31).toInt ≤ m3.toInt := tle rfl rfl c3
                refine lv_iload_n hx hb dX12_count_191 rfl (lv_at hl 1 rfl) ?_
                exact end_i C hr hlocks () hW trivial dX12_count_192
              · have c3 : m3.toInt < (J 13 31).toInt := tnle rfl rfl c3
                refine lv_iload_n hx hb dX12_count_166 rfl (lv_at hl 1 rfl) ?_
                refine lv_aload_n hx hb dX12_count_167 rfl (lv_at hl 2 rfl) ?_
                refine rg_13_16 C hW (mm_ rfl) tw_1039 dX12_count_168 ?_
                refine lv_iload_n hx hb dX12_count_171 rfl (lv_at hl 0 rfl) ?_
                have hin : vp_in m3 10000 := tin rfl (by omega)
                refine ra_116 C hW (mm_ rfl) hin dX12_count_172 ?_
                refine lv_topi (fun x4 (e4 : x4 = J 116 m3.toNatClampNeg) => ?_)
                refine lv_bipush (v := 6) hx hb dX12_count_173 (by decide) ?_
                refine lv_icmp_ne (tgt := 182) hx hb dX12_count_175 (by decide) (fun c5 => ?_) (fun c5 => ?_)
                · have c5 : ¬ x4.toInt = 6 := tne rfl kp6 c5
                  refine lv_iconst (v := 0) hx hb dX12_count_182 (by decide) ?_
                  refine lv_iadd hx hb dX12_count_183 ?_
                  refine lv_topi (fun x6 (e6 : x6 = m2 + 0) => ?_)
                  try have t6 : x6.toInt = m2.toInt + 0 := tadd e6 rfl kp0 (by omega)
                  refine lv_istore_n (lv' := [(2, .int x6), (3, .int m3), (0, .ref (g.2.2.1 13)), (1, .int a0)]) hx hb dX12_count_184 rfl hl (by decide) rfl (fun ls hl => ?_)
                  obtain ⟨x7, e7⟩ : ∃ y : Int32, y = m3 + 1 := ⟨_, rfl⟩
                  refine lv_iinc (v := x7) (lv' := [(3, .int x7), (2, .int x6), (0, .ref (g.2.2.1 13)), (1, .int a0)]) hx hb dX12_count_185 hl (k := 1) rfl (by rw [e7]; rfl) (by decide) rfl (fun ls hl => ?_)
                  try have t7 : x7.toInt = m3.toInt + 1 := tadd e7 rfl kp1 (by omega)
                  refine lv_goto (tgt := 158) hx hb dX12_count_188 (by decide) ?_
                  refine ih x6 x7 H locs ls ?_ ?_ hW (lv_sub hl [0, 1, 2, 3] rfl)
                  · show (10000 - x7.toInt).toNat < n
                    omega
                  · show 0 ≤ x7.toInt
                    first | omega | exact hi | assumption
                · have c5 : x4.toInt = 6 := teq rfl kp6 c5
                  refine lv_iconst (v := 1) hx hb dX12_count_178 (by decide) ?_
                  refine lv_goto (tgt := 183) hx hb dX12_count_179 (by decide) ?_
                  refine lv_iadd hx hb dX12_count_183 ?_
                  refine lv_topi (fun x8 (e8 : x8 = m2 + 1) => ?_)
                  try have t8 : x8.toInt = m2.toInt + 1 := tadd e8 rfl kp1 (by omega)
                  refine lv_istore_n (lv' := [(2, .int x8), (3, .int m3), (0, .ref (g.2.2.1 13)), (1, .int a0)]) hx hb dX12_count_184 rfl hl (by decide) rfl (fun ls hl => ?_)
                  obtain ⟨x9, e9⟩ : ∃ y : Int32, y = m3 + 1 := ⟨_, rfl⟩
                  refine lv_iinc (v := x9) (lv' := [(3, .int x9), (2, .int x8), (0, .ref (g.2.2.1 13)), (1, .int a0)]) hx hb dX12_count_185 hl (k := 1) rfl (by rw [e9]; rfl) (by decide) rfl (fun ls hl => ?_)
                  try have t9 : x9.toInt = m3.toInt + 1 := tadd e9 rfl kp1 (by omega)
                  refine lv_goto (tgt := 158) hx hb dX12_count_188 (by decide) ?_
                  refine ih x8 x9 H locs ls ?_ ?_ hW (lv_sub hl [0, 1, 2, 3] rfl)
                  · show (10000 - x9.toInt).toNat < n
                    omega
                  · show 0 ≤ x9.toInt
                    first | omega | exact hi | assumption
          -- into the loop
          refine loop158 ((10000 - (0 : Int32).toInt).toNat + 1) 0 0 H locs ls ?_ ?_ hW (lv_sub hl [0, 1, 2, 3] rfl)
          · exact Nat.lt_succ_self _
          · show 0 ≤ (0 : Int32).toInt
            try rw [kp0]
            try rw [kp0]
            first | omega | exact hi | assumption
        · refine lv_tableIn (off := 168) (tgt := 193) hx hb dX12_count_25 (Int.not_lt.mpr c2) (Int.not_lt.mpr c2b) (by rw [c2k]; rfl) (by decide) ?_
          refine lv_aload_n hx hb dX12_count_193 rfl (lv_at hl 1 rfl) ?_
          refine rg_13_55 C hW (mm_ rfl) tw_1078 dX12_count_194 ?_
          exact end_i C hr hlocks () hW trivial dX12_count_197
        · refine lv_tableIn (off := 173) (tgt := 198) hx hb dX12_count_25 (Int.not_lt.mpr c2) (Int.not_lt.mpr c2b) (by rw [c2k]; rfl) (by decide) ?_
          refine lv_aload_n hx hb dX12_count_198 rfl (lv_at hl 1 rfl) ?_
          refine rg_13_44 C hW (mm_ rfl) tw_1067 dX12_count_199 ?_
          exact end_i C hr hlocks () hW trivial dX12_count_202
        · refine lv_tableIn (off := 218) (tgt := 243) hx hb dX12_count_25 (Int.not_lt.mpr c2) (Int.not_lt.mpr c2b) (by rw [c2k]; rfl) (by decide) ?_
          refine lv_bipush (v := (-9)) hx hb dX12_count_243 (by decide) ?_
          exact end_i C hr hlocks () hW trivial dX12_count_245
        · refine lv_tableIn (off := 218) (tgt := 243) hx hb dX12_count_25 (Int.not_lt.mpr c2) (Int.not_lt.mpr c2b) (by rw [c2k]; rfl) (by decide) ?_
          refine lv_bipush (v := (-9)) hx hb dX12_count_243 (by decide) ?_
          exact end_i C hr hlocks () hW trivial dX12_count_245
        · refine lv_tableIn (off := 218) (tgt := 243) hx hb dX12_count_25 (Int.not_lt.mpr c2) (Int.not_lt.mpr c2b) (by rw [c2k]; rfl) (by decide) ?_
          refine lv_bipush (v := (-9)) hx hb dX12_count_243 (by decide) ?_
          exact end_i C hr hlocks () hW trivial dX12_count_245
        · refine lv_tableIn (off := 218) (tgt := 243) hx hb dX12_count_25 (Int.not_lt.mpr c2) (Int.not_lt.mpr c2b) (by rw [c2k]; rfl) (by decide) ?_
          refine lv_bipush (v := (-9)) hx hb dX12_count_243 (by decide) ?_
          exact end_i C hr hlocks () hW trivial dX12_count_245
        · refine lv_tableIn (off := 218) (tgt := 243) hx hb dX12_count_25 (Int.not_lt.mpr c2) (Int.not_lt.mpr c2b) (by rw [c2k]; rfl) (by decide) ?_
          refine lv_bipush (v := (-9)) hx hb dX12_count_243 (by decide) ?_
          exact end_i C hr hlocks () hW trivial dX12_count_245
        · refine lv_tableIn (off := 218) (tgt := 243) hx hb dX12_count_25 (Int.not_lt.mpr c2) (Int.not_lt.mpr c2b) (by rw [c2k]; rfl) (by decide) ?_
          refine lv_bipush (v := (-9)) hx hb dX12_count_243 (by decide) ?_
          exact end_i C hr hlocks () hW trivial dX12_count_245
        · refine lv_tableIn (off := 178) (tgt := 203) hx hb dX12_count_25 (Int.not_lt.mpr c2) (Int.not_lt.mpr c2b) (by rw [c2k]; rfl) (by decide) ?_
          refine lv_iconst (v := 0) hx hb dX12_count_203 (by decide) ?_
          refine lv_istore_n (lv' := [(3, .int 0), (2, .int 0), (0, .ref (g.2.2.1 13)), (1, .int a0)]) hx hb dX12_count_204 rfl hl (by decide) rfl (fun ls hl => ?_)
          have loop205 : ∀ (n : Nat) (m2 : Int32) (m3 : Int32) (H : Heap) (locs : List Loc) (ls : Array Slot), (40 - m3.toInt).toNat < n → 0 ≤ m3.toInt → WB g A s.heap H locs (J, L, I, P, E, N) (sgM g) → lv_has ls 4 [(3, .int m3), (2, .int m2), (0, .ref (g.2.2.1 13)), (1, .int a0)] → W p l e (RM (1) 0 0) s m ([.ref (g.2.2.1 13), .int a0] : List Value).toArray below meth c H locs 0 0 (MQ below (va_Qi (fun (r : Int32) (u : Unit) => True) (fun u t => at_ g A ((J, L, I, P, E, N), sgM g) t) A) ([.ref (g.2.2.1 13), .int a0] : List Value).toArray s 0 0 A) (F0 m 205 ls []) := by
            intro n
            induction n with
            | zero => intro m2 m3 H locs ls hmeas; exact absurd hmeas (Nat.not_lt_zero _)
            | succ n ih =>
              intro m2 m3 H locs ls hmeas hi hW hl
              refine lv_iload_n hx hb dX12_count_205 rfl (lv_at hl 0 rfl) ?_
              refine lv_aload_n hx hb dX12_count_206 rfl (lv_at hl 2 rfl) ?_
              refine rg_13_35 C hW (mm_ rfl) tw_1058 dX12_count_207 ?_
              refine lv_icmp_ge (tgt := 236) hx hb dX12_count_210 (by decide) (fun c10 => ?_) (fun c10 => ?_)
              · have c10 : (J 13 35).toInt ≤ m3.toInt := tle rfl rfl c10
                refine lv_iload_n hx hb dX12_count_236 rfl (lv_at hl 1 rfl) ?_
                exact end_i C hr hlocks () hW trivial dX12_count_237
              · have c10 : m3.toInt < (J 13 35).toInt := tnle rfl rfl c10
                refine lv_iload_n hx hb dX12_count_213 rfl (lv_at hl 1 rfl) ?_
                refine lv_aload_n hx hb dX12_count_214 rfl (lv_at hl 2 rfl) ?_
                refine rg_13_12 C hW (mm_ rfl) tw_1035 dX12_count_215 ?_
                refine lv_iload_n hx hb dX12_count_218 rfl (lv_at hl 0 rfl) ?_
                have hin : vp_in m3 40 := tin rfl (by omega)
                refine ra_112 C hW (mm_ rfl) hin dX12_count_219 ?_
                refine lv_topi (fun x11 (e11 : x11 = J 112 m3.toNatClampNeg) => ?_)
                refine lv_if_eq (tgt := 227) hx hb dX12_count_220 (by decide) (fun c12 => ?_) (fun c12 => ?_)
                · have c12 : x11.toInt = 0 := teq rfl kp0 c12
                  refine lv_iconst (v := 0) hx hb dX12_count_227 (by decide) ?_
                  refine lv_iadd hx hb dX12_count_228 ?_
                  refine lv_topi (fun x13 (e13 : x13 = m2 + 0) => ?_)
                  try have t13 : x13.toInt = m2.toInt + 0 := tadd e13 rfl kp0 (by omega)
                  refine lv_istore_n (lv' := [(2, .int x13), (3, .int m3), (0, .ref (g.2.2.1 13)), (1, .int a0)]) hx hb dX12_count_229 rfl hl (by decide) rfl (fun ls hl => ?_)
                  obtain ⟨x14, e14⟩ : ∃ y : Int32, y = m3 + 1 := ⟨_, rfl⟩
                  refine lv_iinc (v := x14) (lv' := [(3, .int x14), (2, .int x13), (0, .ref (g.2.2.1 13)), (1, .int a0)]) hx hb dX12_count_230 hl (k := 1) rfl (by rw [e14]; rfl) (by decide) rfl (fun ls hl => ?_)
                  try have t14 : x14.toInt = m3.toInt + 1 := tadd e14 rfl kp1 (by omega)
                  refine lv_goto (tgt := 205) hx hb dX12_count_233 (by decide) ?_
                  refine ih x13 x14 H locs ls ?_ ?_ hW (lv_sub hl [0, 1, 2, 3] rfl)
                  · show (40 - x14.toInt).toNat < n
                    omega
                  · show 0 ≤ x14.toInt
                    first | omega | exact hi | assumption
                · have c12 : ¬ x11.toInt = 0 := tne rfl kp0 c12
                  refine lv_iconst (v := 1) hx hb dX12_count_223 (by decide) ?_
                  refine lv_goto (tgt := 228) hx hb dX12_count_224 (by decide) ?_
                  refine lv_iadd hx hb dX12_count_228 ?_
                  refine lv_topi (fun x15 (e15 : x15 = m2 + 1) => ?_)
                  try have t15 : x15.toInt = m2.toInt + 1 := tadd e15 rfl kp1 (by omega)
                  refine lv_istore_n (lv' := [(2, .int x15), (3, .int m3), (0, .ref (g.2.2.1 13)), (1, .int a0)]) hx hb dX12_count_229 rfl hl (by decide) rfl (fun ls hl => ?_)
                  obtain ⟨x16, e16⟩ : ∃ y : Int32, y = m3 + 1 := ⟨_, rfl⟩
                  refine lv_iinc (v := x16) (lv' := [(3, .int x16), (2, .int x15), (0, .ref (g.2.2.1 13)), (1, .int a0)]) hx hb dX12_count_230 hl (k := 1) rfl (by rw [e16]; rfl) (by decide) rfl (fun ls hl => ?_)
                  try have t16 : x16.toInt = m3.toInt + 1 := tadd e16 rfl kp1 (by omega)
                  refine lv_goto (tgt := 205) hx hb dX12_count_233 (by decide) ?_
                  refine ih x15 x16 H locs ls ?_ ?_ hW (lv_sub hl [0, 1, 2, 3] rfl)
                  · show (40 - x16.toInt).toNat < n
                    omega
                  · show 0 ≤ x16.toInt
                    first | omega | exact hi | assumption
          -- into the loop
          refine loop205 ((40 - (0 : Int32).toInt).toNat + 1) 0 0 H locs ls ?_ ?_ hW (lv_sub hl [0, 1, 2, 3] rfl)
          · exact Nat.lt_succ_self _
          · show 0 ≤ (0 : Int32).toInt
            try rw [kp0]
            try rw [kp0]
            first | omega | exact hi | assumption
        · refine lv_tableIn (off := 213) (tgt := 238) hx hb dX12_count_25 (Int.not_lt.mpr c2) (Int.not_lt.mpr c2b) (by rw [c2k]; rfl) (by decide) ?_
          refine lv_aload_n hx hb dX12_count_238 rfl (lv_at hl 1 rfl) ?_
          refine rg_13_45 C hW (mm_ rfl) tw_1068 dX12_count_239 ?_
          exact end_i C hr hlocks () hW trivial dX12_count_242
  · have c1 : 10 < a0.toInt := tnle rfl kp10 c1
    refine lv_iload_n hx hb dX12_count_6 rfl (lv_at hl 1 rfl) ?_
    refine lv_bipush (v := 17) hx hb dX12_count_7 (by decide) ?_
    refine lv_icmp_ge (tgt := 22) hx hb dX12_count_9 (by decide) (fun c17 => ?_) (fun c17 => ?_)
    · have c17 : 17 ≤ a0.toInt := tle kp17 rfl c17
      refine lv_iconst (v := 0) hx hb dX12_count_22 (by decide) ?_
      refine lv_istore_n (lv' := [(2, .int 0), (0, .ref (g.2.2.1 13)), (1, .int a0)]) hx hb dX12_count_23 rfl hl (by decide) rfl (fun ls hl => ?_)
      refine lv_iload_n hx hb dX12_count_24 rfl (lv_at hl 2 rfl) ?_
      rcases Int.lt_or_le a0.toInt 0 with c18 | c18
      · refine lv_tableOut (tgt := 243) hx hb dX12_count_25 (Or.inl c18) (by decide) ?_
        refine lv_bipush (v := (-9)) hx hb dX12_count_243 (by decide) ?_
        exact end_i C hr hlocks () hW trivial dX12_count_245
      · rcases Int.lt_or_le 18 a0.toInt with c18b | c18b
        · refine lv_tableOut (tgt := 243) hx hb dX12_count_25 (Or.inr c18b) (by decide) ?_
          refine lv_bipush (v := (-9)) hx hb dX12_count_243 (by decide) ?_
          exact end_i C hr hlocks () hW trivial dX12_count_245
        · rcases (show a0.toInt = 0 ∨ a0.toInt = 1 ∨ a0.toInt = 2 ∨ a0.toInt = 3 ∨ a0.toInt = 4 ∨ a0.toInt = 5 ∨ a0.toInt = 6 ∨ a0.toInt = 7 ∨ a0.toInt = 8 ∨ a0.toInt = 9 ∨ a0.toInt = 10 ∨ a0.toInt = 11 ∨ a0.toInt = 12 ∨ a0.toInt = 13 ∨ a0.toInt = 14 ∨ a0.toInt = 15 ∨ a0.toInt = 16 ∨ a0.toInt = 17 ∨ a0.toInt = 18 by omega) with c18k | c18k | c18k | c18k | c18k | c18k | c18k | c18k | c18k | c18k | c18k | c18k | c18k | c18k | c18k | c18k | c18k | c18k | c18k
          · refine lv_tableIn (off := 91) (tgt := 116) hx hb dX12_count_25 (Int.not_lt.mpr c18) (Int.not_lt.mpr c18b) (by rw [c18k]; rfl) (by decide) ?_
            refine lv_aload_n hx hb dX12_count_116 rfl (lv_at hl 1 rfl) ?_
            refine rg_13_31 C hW (mm_ rfl) tw_1054 dX12_count_117 ?_
            exact end_i C hr hlocks () hW trivial dX12_count_120
          · refine lv_tableIn (off := 96) (tgt := 121) hx hb dX12_count_25 (Int.not_lt.mpr c18) (Int.not_lt.mpr c18b) (by rw [c18k]; rfl) (by decide) ?_
            refine lv_aload_n hx hb dX12_count_121 rfl (lv_at hl 1 rfl) ?_
            refine rg_13_32 C hW (mm_ rfl) tw_1055 dX12_count_122 ?_
            exact end_i C hr hlocks () hW trivial dX12_count_125
          · refine lv_tableIn (off := 101) (tgt := 126) hx hb dX12_count_25 (Int.not_lt.mpr c18) (Int.not_lt.mpr c18b) (by rw [c18k]; rfl) (by decide) ?_
            refine lv_aload_n hx hb dX12_count_126 rfl (lv_at hl 1 rfl) ?_
            refine rg_13_35 C hW (mm_ rfl) tw_1058 dX12_count_127 ?_
            exact end_i C hr hlocks () hW trivial dX12_count_130
          · refine lv_tableIn (off := 106) (tgt := 131) hx hb dX12_count_25 (Int.not_lt.mpr c18) (Int.not_lt.mpr c18b) (by rw [c18k]; rfl) (by decide) ?_
            refine lv_aload_n hx hb dX12_count_131 rfl (lv_at hl 1 rfl) ?_
            refine rg_13_37 C hW (mm_ rfl) tw_1060 dX12_count_132 ?_
            exact end_i C hr hlocks () hW trivial dX12_count_135
          · refine lv_tableIn (off := 111) (tgt := 136) hx hb dX12_count_25 (Int.not_lt.mpr c18) (Int.not_lt.mpr c18b) (by rw [c18k]; rfl) (by decide) ?_
            refine lv_aload_n hx hb dX12_count_136 rfl (lv_at hl 1 rfl) ?_
            refine rg_13_34 C hW (mm_ rfl) tw_1057 dX12_count_137 ?_
            exact end_i C hr hlocks () hW trivial dX12_count_140
          · refine lv_tableIn (off := 116) (tgt := 141) hx hb dX12_count_25 (Int.not_lt.mpr c18) (Int.not_lt.mpr c18b) (by rw [c18k]; rfl) (by decide) ?_
            refine lv_aload_n hx hb dX12_count_141 rfl (lv_at hl 1 rfl) ?_
            refine rg_13_40 C hW (mm_ rfl) tw_1063 dX12_count_142 ?_
            exact end_i C hr hlocks () hW trivial dX12_count_145
          · refine lv_tableIn (off := 121) (tgt := 146) hx hb dX12_count_25 (Int.not_lt.mpr c18) (Int.not_lt.mpr c18b) (by rw [c18k]; rfl) (by decide) ?_
            refine lv_aload_n hx hb dX12_count_146 rfl (lv_at hl 1 rfl) ?_
            refine rg_13_42 C hW (mm_ rfl) tw_1065 dX12_count_147 ?_
            exact end_i C hr hlocks () hW trivial dX12_count_150
          · refine lv_tableIn (off := 126) (tgt := 151) hx hb dX12_count_25 (Int.not_lt.mpr c18) (Int.not_lt.mpr c18b) (by rw [c18k]; rfl) (by decide) ?_
            refine lv_aload_n hx hb dX12_count_151 rfl (lv_at hl 1 rfl) ?_
            refine rg_13_43 C hW (mm_ rfl) tw_1066 dX12_count_152 ?_
            exact end_i C hr hlocks () hW trivial dX12_count_155
          · refine lv_tableIn (off := 131) (tgt := 156) hx hb dX12_count_25 (Int.not_lt.mpr c18) (Int.not_lt.mpr c18b) (by rw [c18k]; rfl) (by decide) ?_
            refine lv_iconst (v := 0) hx hb dX12_count_156 (by decide) ?_
            refine lv_istore_n (lv' := [(3, .int 0), (2, .int 0), (0, .ref (g.2.2.1 13)), (1, .int a0)]) hx hb dX12_count_157 rfl hl (by decide) rfl (fun ls hl => ?_)
            have loop158 : ∀ (n : Nat) (m2 : Int32) (m3 : Int32) (H : Heap) (locs : List Loc) (ls : Array Slot), (10000 - m3.toInt).toNat < n → 0 ≤ m3.toInt → WB g A s.heap H locs (J, L, I, P, E, N) (sgM g) → lv_has ls 4 [(3, .int m3), (2, .int m2), (0, .ref (g.2.2.1 13)), (1, .int a0)] → W p l e (RM (1) 0 0) s m ([.ref (g.2.2.1 13), .int a0] : List Value).toArray below meth c H locs 0 0 (MQ below (va_Qi (fun (r : Int32) (u : Unit) => True) (fun u t => at_ g A ((J, L, I, P, E, N), sgM g) t) A) ([.ref (g.2.2.1 13), .int a0] : List Value).toArray s 0 0 A) (F0 m 158 ls []) := by
              intro n
              induction n with
              | zero => intro m2 m3 H locs ls hmeas; exact absurd hmeas (Nat.not_lt_zero _)
              | succ n ih =>
                intro m2 m3 H locs ls hmeas hi hW hl
                refine lv_iload_n hx hb dX12_count_158 rfl (lv_at hl 0 rfl) ?_
                refine lv_aload_n hx hb dX12_count_159 rfl (lv_at hl 2 rfl) ?_
                refine rg_13_31 C hW (mm_ rfl) tw_1054 dX12_count_160 ?_
                refine lv_icmp_ge (tgt := 191) hx hb dX12_count_163 (by decide) (fun c19 => ?_) (fun c19 => ?_)
                · have c19 : (J 13 31).toInt ≤ m3.toInt := tle rfl rfl c19
                  refine lv_iload_n hx hb dX12_count_191 rfl (lv_at hl 1 rfl) ?_
                  exact end_i C hr hlocks () hW trivial dX12_count_192
                · have c19 : m3.toInt < (J 13 31).toInt := tnle rfl rfl c19
                  refine lv_iload_n hx hb dX12_count_166 rfl (lv_at hl 1 rfl) ?_
                  refine lv_aload_n hx hb dX12_count_167 rfl (lv_at hl 2 rfl) ?_
                  refine rg_13_16 C hW (mm_ rfl) tw_1039 dX12_count_168 ?_
                  refine lv_iload_n hx hb dX12_count_171 rfl (lv_at hl 0 rfl) ?_
                  have hin : vp_in m3 10000 := tin rfl (by omega)
                  refine ra_116 C hW (mm_ rfl) hin dX12_count_172 ?_
                  refine lv_topi (fun x20 (e20 : x20 = J 116 m3.toNatClampNeg) => ?_)
                  refine lv_bipush (v := 6) hx hb dX12_count_173 (by decide) ?_
                  refine lv_icmp_ne (tgt := 182) hx hb dX12_count_175 (by decide) (fun c21 => ?_) (fun c21 => ?_)
                  · have c21 : ¬ x20.toInt = 6 := tne rfl kp6 c21
                    refine lv_iconst (v := 0) hx hb dX12_count_182 (by decide) ?_
                    refine lv_iadd hx hb dX12_count_183 ?_
                    refine lv_topi (fun x22 (e22 : x22 = m2 + 0) => ?_)
                    try have t22 : x22.toInt = m2.toInt + 0 := tadd e22 rfl kp0 (by omega)
                    refine lv_istore_n (lv' := [(2, .int x22), (3, .int m3), (0, .ref (g.2.2.1 13)), (1, .int a0)]) hx hb dX12_count_184 rfl hl (by decide) rfl (fun ls hl => ?_)
                    obtain ⟨x23, e23⟩ : ∃ y : Int32, y = m3 + 1 := ⟨_, rfl⟩
                    refine lv_iinc (v := x23) (lv' := [(3, .int x23), (2, .int x22), (0, .ref (g.2.2.1 13)), (1, .int a0)]) hx hb dX12_count_185 hl (k := 1) rfl (by rw [e23]; rfl) (by decide) rfl (fun ls hl => ?_)
                    try have t23 : x23.toInt = m3.toInt + 1 := tadd e23 rfl kp1 (by omega)
                    refine lv_goto (tgt := 158) hx hb dX12_count_188 (by decide) ?_
                    refine ih x22 x23 H locs ls ?_ ?_ hW (lv_sub hl [0, 1, 2, 3] rfl)
                    · show (10000 - x23.toInt).toNat < n
                      omega
                    · show 0 ≤ x23.toInt
                      first | omega | exact hi | assumption
                  · have c21 : x20.toInt = 6 := teq rfl kp6 c21
                    refine lv_iconst (v := 1) hx hb dX12_count_178 (by decide) ?_
                    refine lv_goto (tgt := 183) hx hb dX12_count_179 (by decide) ?_
                    refine lv_iadd hx hb dX12_count_183 ?_
                    refine lv_topi (fun x24 (e24 : x24 = m2 + 1) => ?_)
                    try have t24 : x24.toInt = m2.toInt + 1 := tadd e24 rfl kp1 (by omega)
                    refine lv_istore_n (lv' := [(2, .int x24), (3, .int m3), (0, .ref (g.2.2.1 13)), (1, .int a0)]) hx hb dX12_count_184 rfl hl (by decide) rfl (fun ls hl => ?_)
                    obtain ⟨x25, e25⟩ : ∃ y : Int32, y = m3 + 1 := ⟨_, rfl⟩
                    refine lv_iinc (v := x25) (lv' := [(3, .int x25), (2, .int x24), (0, .ref (g.2.2.1 13)), (1, .int a0)]) hx hb dX12_count_185 hl (k := 1) rfl (by rw [e25]; rfl) (by decide) rfl (fun ls hl => ?_)
                    try have t25 : x25.toInt = m3.toInt + 1 := tadd e25 rfl kp1 (by omega)
                    refine lv_goto (tgt := 158) hx hb dX12_count_188 (by decide) ?_
                    refine ih x24 x25 H locs ls ?_ ?_ hW (lv_sub hl [0, 1, 2, 3] rfl)
                    · show (10000 - x25.toInt).toNat < n
                      omega
                    · show 0 ≤ x25.toInt
                      first | omega | exact hi | assumption
            -- into the loop
            refine loop158 ((10000 - (0 : Int32).toInt).toNat + 1) 0 0 H locs ls ?_ ?_ hW (lv_sub hl [0, 1, 2, 3] rfl)
            · exact Nat.lt_succ_self _
            · show 0 ≤ (0 : Int32).toInt
              try rw [kp0]
              try rw [kp0]
              first | omega | exact hi | assumption
          · refine lv_tableIn (off := 168) (tgt := 193) hx hb dX12_count_25 (Int.not_lt.mpr c18) (Int.not_lt.mpr c18b) (by rw [c18k]; rfl) (by decide) ?_
            refine lv_aload_n hx hb dX12_count_193 rfl (lv_at hl 1 rfl) ?_
            refine rg_13_55 C hW (mm_ rfl) tw_1078 dX12_count_194 ?_
            exact end_i C hr hlocks () hW trivial dX12_count_197
          · refine lv_tableIn (off := 173) (tgt := 198) hx hb dX12_count_25 (Int.not_lt.mpr c18) (Int.not_lt.mpr c18b) (by rw [c18k]; rfl) (by decide) ?_
            refine lv_aload_n hx hb dX12_count_198 rfl (lv_at hl 1 rfl) ?_
            refine rg_13_44 C hW (mm_ rfl) tw_1067 dX12_count_199 ?_
            exact end_i C hr hlocks () hW trivial dX12_count_202
          · refine lv_tableIn (off := 218) (tgt := 243) hx hb dX12_count_25 (Int.not_lt.mpr c18) (Int.not_lt.mpr c18b) (by rw [c18k]; rfl) (by decide) ?_
            refine lv_bipush (v := (-9)) hx hb dX12_count_243 (by decide) ?_
            exact end_i C hr hlocks () hW trivial dX12_count_245
          · refine lv_tableIn (off := 218) (tgt := 243) hx hb dX12_count_25 (Int.not_lt.mpr c18) (Int.not_lt.mpr c18b) (by rw [c18k]; rfl) (by decide) ?_
            refine lv_bipush (v := (-9)) hx hb dX12_count_243 (by decide) ?_
            exact end_i C hr hlocks () hW trivial dX12_count_245
          · refine lv_tableIn (off := 218) (tgt := 243) hx hb dX12_count_25 (Int.not_lt.mpr c18) (Int.not_lt.mpr c18b) (by rw [c18k]; rfl) (by decide) ?_
            refine lv_bipush (v := (-9)) hx hb dX12_count_243 (by decide) ?_
            exact end_i C hr hlocks () hW trivial dX12_count_245
          · refine lv_tableIn (off := 218) (tgt := 243) hx hb dX12_count_25 (Int.not_lt.mpr c18) (Int.not_lt.mpr c18b) (by rw [c18k]; rfl) (by decide) ?_
            refine lv_bipush (v := (-9)) hx hb dX12_count_243 (by decide) ?_
            exact end_i C hr hlocks () hW trivial dX12_count_245
          · refine lv_tableIn (off := 218) (tgt := 243) hx hb dX12_count_25 (Int.not_lt.mpr c18) (Int.not_lt.mpr c18b) (by rw [c18k]; rfl) (by decide) ?_
            refine lv_bipush (v := (-9)) hx hb dX12_count_243 (by decide) ?_
            exact end_i C hr hlocks () hW trivial dX12_count_245
          · refine lv_tableIn (off := 218) (tgt := 243) hx hb dX12_count_25 (Int.not_lt.mpr c18) (Int.not_lt.mpr c18b) (by rw [c18k]; rfl) (by decide) ?_
            refine lv_bipush (v := (-9)) hx hb dX12_count_243 (by decide) ?_
            exact end_i C hr hlocks () hW trivial dX12_count_245
          · refine lv_tableIn (off := 178) (tgt := 203) hx hb dX12_count_25 (Int.not_lt.mpr c18) (Int.not_lt.mpr c18b) (by rw [c18k]; rfl) (by decide) ?_
            refine lv_iconst (v := 0) hx hb dX12_count_203 (by decide) ?_
            refine lv_istore_n (lv' := [(3, .int 0), (2, .int 0), (0, .ref (g.2.2.1 13)), (1, .int a0)]) hx hb dX12_count_204 rfl hl (by decide) rfl (fun ls hl => ?_)
            have loop205 : ∀ (n : Nat) (m2 : Int32) (m3 : Int32) (H : Heap) (locs : List Loc) (ls : Array Slot), (40 - m3.toInt).toNat < n → 0 ≤ m3.toInt → WB g A s.heap H locs (J, L, I, P, E, N) (sgM g) → lv_has ls 4 [(3, .int m3), (2, .int m2), (0, .ref (g.2.2.1 13)), (1, .int a0)] → W p l e (RM (1) 0 0) s m ([.ref (g.2.2.1 13), .int a0] : List Value).toArray below meth c H locs 0 0 (MQ below (va_Qi (fun (r : Int32) (u : Unit) => True) (fun u t => at_ g A ((J, L, I, P, E, N), sgM g) t) A) ([.ref (g.2.2.1 13), .int a0] : List Value).toArray s 0 0 A) (F0 m 205 ls []) := by
              intro n
              induction n with
              | zero => intro m2 m3 H locs ls hmeas; exact absurd hmeas (Nat.not_lt_zero _)
              | succ n ih =>
                intro m2 m3 H locs ls hmeas hi hW hl
                refine lv_iload_n hx hb dX12_count_205 rfl (lv_at hl 0 rfl) ?_
                refine lv_aload_n hx hb dX12_count_206 rfl (lv_at hl 2 rfl) ?_
                refine rg_13_35 C hW (mm_ rfl) tw_1058 dX12_count_207 ?_
                refine lv_icmp_ge (tgt := 236) hx hb dX12_count_210 (by decide) (fun c26 => ?_) (fun c26 => ?_)
                · have c26 : (J 13 35).toInt ≤ m3.toInt := tle rfl rfl c26
                  refine lv_iload_n hx hb dX12_count_236 rfl (lv_at hl 1 rfl) ?_
                  exact end_i C hr hlocks () hW trivial dX12_count_237
                · have c26 : m3.toInt < (J 13 35).toInt := tnle rfl rfl c26
                  refine lv_iload_n hx hb dX12_count_213 rfl (lv_at hl 1 rfl) ?_
                  refine lv_aload_n hx hb dX12_count_214 rfl (lv_at hl 2 rfl) ?_
                  refine rg_13_12 C hW (mm_ rfl) tw_1035 dX12_count_215 ?_
                  refine lv_iload_n hx hb dX12_count_218 rfl (lv_at hl 0 rfl) ?_
                  have hin : vp_in m3 40 := tin rfl (by omega)
                  refine ra_112 C hW (mm_ rfl) hin dX12_count_219 ?_
                  refine lv_topi (fun x27 (e27 : x27 = J 112 m3.toNatClampNeg) => ?_)
                  refine lv_if_eq (tgt := 227) hx hb dX12_count_220 (by decide) (fun c28 => ?_) (fun c28 => ?_)
                  · have c28 : x27.toInt = 0 := teq rfl kp0 c28
                    refine lv_iconst (v := 0) hx hb dX12_count_227 (by decide) ?_
                    refine lv_iadd hx hb dX12_count_228 ?_
                    refine lv_topi (fun x29 (e29 : x29 = m2 + 0) => ?_)
                    try have t29 : x29.toInt = m2.toInt + 0 := tadd e29 rfl kp0 (by omega)
                    refine lv_istore_n (lv' := [(2, .int x29), (3, .int m3), (0, .ref (g.2.2.1 13)), (1, .int a0)]) hx hb dX12_count_229 rfl hl (by decide) rfl (fun ls hl => ?_)
                    obtain ⟨x30, e30⟩ : ∃ y : Int32, y = m3 + 1 := ⟨_, rfl⟩
                    refine lv_iinc (v := x30) (lv' := [(3, .int x30), (2, .int x29), (0, .ref (g.2.2.1 13)), (1, .int a0)]) hx hb dX12_count_230 hl (k := 1) rfl (by rw [e30]; rfl) (by decide) rfl (fun ls hl => ?_)
                    try have t30 : x30.toInt = m3.toInt + 1 := tadd e30 rfl kp1 (by omega)
                    refine lv_goto (tgt := 205) hx hb dX12_count_233 (by decide) ?_
                    refine ih x29 x30 H locs ls ?_ ?_ hW (lv_sub hl [0, 1, 2, 3] rfl)
                    · show (40 - x30.toInt).toNat < n
                      omega
                    · show 0 ≤ x30.toInt
                      first | omega | exact hi | assumption
                  · have c28 : ¬ x27.toInt = 0 := tne rfl kp0 c28
                    refine lv_iconst (v := 1) hx hb dX12_count_223 (by decide) ?_
                    refine lv_goto (tgt := 228) hx hb dX12_count_224 (by decide) ?_
                    refine lv_iadd hx hb dX12_count_228 ?_
                    refine lv_topi (fun x31 (e31 : x31 = m2 + 1) => ?_)
                    try have t31 : x31.toInt = m2.toInt + 1 := tadd e31 rfl kp1 (by omega)
                    refine lv_istore_n (lv' := [(2, .int x31), (3, .int m3), (0, .ref (g.2.2.1 13)), (1, .int a0)]) hx hb dX12_count_229 rfl hl (by decide) rfl (fun ls hl => ?_)
                    obtain ⟨x32, e32⟩ : ∃ y : Int32, y = m3 + 1 := ⟨_, rfl⟩
                    refine lv_iinc (v := x32) (lv' := [(3, .int x32), (2, .int x31), (0, .ref (g.2.2.1 13)), (1, .int a0)]) hx hb dX12_count_230 hl (k := 1) rfl (by rw [e32]; rfl) (by decide) rfl (fun ls hl => ?_)
                    try have t32 : x32.toInt = m3.toInt + 1 := tadd e32 rfl kp1 (by omega)
                    refine lv_goto (tgt := 205) hx hb dX12_count_233 (by decide) ?_
                    refine ih x31 x32 H locs ls ?_ ?_ hW (lv_sub hl [0, 1, 2, 3] rfl)
                    · show (40 - x32.toInt).toNat < n
                      omega
                    · show 0 ≤ x32.toInt
                      first | omega | exact hi | assumption
            -- into the loop
            refine loop205 ((40 - (0 : Int32).toInt).toNat + 1) 0 0 H locs ls ?_ ?_ hW (lv_sub hl [0, 1, 2, 3] rfl)
            · exact Nat.lt_succ_self _
            · show 0 ≤ (0 : Int32).toInt
              try rw [kp0]
              try rw [kp0]
              first | omega | exact hi | assumption
          · refine lv_tableIn (off := 213) (tgt := 238) hx hb dX12_count_25 (Int.not_lt.mpr c18) (Int.not_lt.mpr c18b) (by rw [c18k]; rfl) (by decide) ?_
            refine lv_aload_n hx hb dX12_count_238 rfl (lv_at hl 1 rfl) ?_
            refine rg_13_45 C hW (mm_ rfl) tw_1068 dX12_count_239 ?_
            exact end_i C hr hlocks () hW trivial dX12_count_242
    · have c17 : a0.toInt < 17 := tnle kp17 rfl c17
      refine lv_aload_n hx hb dX12_count_12 rfl (lv_at hl 0 rfl) ?_
      refine rg_13_0 C hW (mm_ rfl) tw_1023 dX12_count_13 ?_
      refine lv_iload_n hx hb dX12_count_16 rfl (lv_at hl 1 rfl) ?_
      refine lv_bipush (v := 10) hx hb dX12_count_17 (by decide) ?_
      refine lv_isub hx hb dX12_count_19 ?_
      refine lv_topi (fun x33 (e33 : x33 = a0 - 10) => ?_)
      try have t33 : x33.toInt = a0.toInt - 10 := tsub e33 rfl kp10 (by omega)
      have hin : vp_in x33 7 := tin rfl (by omega)
      refine ra_100 C hW (mm_ rfl) hin dX12_count_20 ?_
      refine lv_topi (fun x34 (e34 : x34 = J 100 x33.toNatClampNeg) => ?_)
      exact end_i C hr hlocks () hW trivial dX12_count_21
