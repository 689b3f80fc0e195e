theorem dX11_sumOf_0 : decode cX11_sumOf 0 = .ok (.aload_n 0, 1) := dk_aload_n_0 (by decide +kernel)
theorem dX11_sumOf_1 : decode cX11_sumOf 1 = .ok (.iload_n 1, 1) := dk_iload_n_1 (by decide +kernel)
theorem dX11_sumOf_2 : decode cX11_sumOf 2 = .ok (.iload_n 3, 1) := dk_iload_n_3 (by decide +kernel)
theorem dX11_sumOf_3 : decode cX11_sumOf 3 = .ok (.invokevirtual 347, 3) := dk_invokevirtual (by decide +kernel)
theorem dX11_sumOf_6 : decode cX11_sumOf 6 = .ok (.astore 5, 2) := dk_astore (by decide +kernel)
theorem dX11_sumOf_8 : decode cX11_sumOf 8 = .ok (.aload 5, 2) := dk_aload (by decide +kernel)
theorem dX11_sumOf_10 : decode cX11_sumOf 10 = .ok (.ifnonnull 5, 3) := dk_ifnonnull (by decide +kernel)
theorem dX11_sumOf_13 : decode cX11_sumOf 13 = .ok (.lconst 0, 1) := dk_lconst_0 (by decide +kernel)
theorem dX11_sumOf_14 : decode cX11_sumOf 14 = .ok (.lreturn, 1) := dk_lreturn (by decide +kernel)
theorem dX11_sumOf_15 : decode cX11_sumOf 15 = .ok (.aload 5, 2) := dk_aload (by decide +kernel)
theorem dX11_sumOf_17 : decode cX11_sumOf 17 = .ok (.getfield 384, 3) := dk_getfield (by decide +kernel)
theorem dX11_sumOf_20 : decode cX11_sumOf 20 = .ok (.ifCond .ne 21, 3) := dk_ifCond_ne (by decide +kernel)
theorem dX11_sumOf_23 : decode cX11_sumOf 23 = .ok (.aload_n 0, 1) := dk_aload_n_0 (by decide +kernel)
theorem dX11_sumOf_24 : decode cX11_sumOf 24 = .ok (.aload 5, 2) := dk_aload (by decide +kernel)
theorem dX11_sumOf_26 : decode cX11_sumOf 26 = .ok (.aload_n 2, 1) := dk_aload_n_2 (by decide +kernel)
theorem dX11_sumOf_27 : decode cX11_sumOf 27 = .ok (.iload_n 3, 1) := dk_iload_n_3 (by decide +kernel)
theorem dX11_sumOf_28 : decode cX11_sumOf 28 = .ok (.invokevirtual 374, 3) := dk_invokevirtual (by decide +kernel)
theorem dX11_sumOf_31 : decode cX11_sumOf 31 = .ok (.i2l, 1) := dk_i2l (by decide +kernel)
theorem dX11_sumOf_32 : decode cX11_sumOf 32 = .ok (.iload 4, 2) := dk_iload (by decide +kernel)
theorem dX11_sumOf_34 : decode cX11_sumOf 34 = .ok (.iload_n 3, 1) := dk_iload_n_3 (by decide +kernel)
theorem dX11_sumOf_35 : decode cX11_sumOf 35 = .ok (.isub, 1) := dk_isub (by decide +kernel)
theorem dX11_sumOf_36 : decode cX11_sumOf 36 = .ok (.iconst 1, 1) := dk_iconst_1 (by decide +kernel)
theorem dX11_sumOf_37 : decode cX11_sumOf 37 = .ok (.iadd, 1) := dk_iadd (by decide +kernel)
theorem dX11_sumOf_38 : decode cX11_sumOf 38 = .ok (.i2l, 1) := dk_i2l (by decide +kernel)
theorem dX11_sumOf_39 : decode cX11_sumOf 39 = .ok (.lmul, 1) := dk_lmul (by decide +kernel)
theorem dX11_sumOf_40 : decode cX11_sumOf 40 = .ok (.lreturn, 1) := dk_lreturn (by decide +kernel)
theorem dX11_sumOf_41 : decode cX11_sumOf 41 = .ok (.lconst 0, 1) := dk_lconst_0 (by decide +kernel)
theorem dX11_sumOf_42 : decode cX11_sumOf 42 = .ok (.lstore 6, 2) := dk_lstore (by decide +kernel)
theorem dX11_sumOf_44 : decode cX11_sumOf 44 = .ok (.iload_n 3, 1) := dk_iload_n_3 (by decide +kernel)
theorem dX11_sumOf_45 : decode cX11_sumOf 45 = .ok (.istore 8, 2) := dk_istore (by decide +kernel)
theorem dX11_sumOf_47 : decode cX11_sumOf 47 = .ok (.iload 8, 2) := dk_iload (by decide +kernel)
theorem dX11_sumOf_49 : decode cX11_sumOf 49 = .ok (.iload 4, 2) := dk_iload (by decide +kernel)
theorem dX11_sumOf_51 : decode cX11_sumOf 51 = .ok (.if_icmp .gt 24, 3) := dk_if_icmp_gt (by decide +kernel)
theorem dX11_sumOf_54 : decode cX11_sumOf 54 = .ok (.lload 6, 2) := dk_lload (by decide +kernel)
theorem dX11_sumOf_56 : decode cX11_sumOf 56 = .ok (.aload_n 0, 1) := dk_aload_n_0 (by decide +kernel)
theorem dX11_sumOf_57 : decode cX11_sumOf 57 = .ok (.aload 5, 2) := dk_aload (by decide +kernel)
theorem dX11_sumOf_59 : decode cX11_sumOf 59 = .ok (.aload_n 2, 1) := dk_aload_n_2 (by decide +kernel)
theorem dX11_sumOf_60 : decode cX11_sumOf 60 = .ok (.iload 8, 2) := dk_iload (by decide +kernel)
theorem dX11_sumOf_62 : decode cX11_sumOf 62 = .ok (.invokevirtual 374, 3) := dk_invokevirtual (by decide +kernel)
theorem dX11_sumOf_65 : decode cX11_sumOf 65 = .ok (.i2l, 1) := dk_i2l (by decide +kernel)
theorem dX11_sumOf_66 : decode cX11_sumOf 66 = .ok (.ladd, 1) := dk_ladd (by decide +kernel)
theorem dX11_sumOf_67 : decode cX11_sumOf 67 = .ok (.lstore 6, 2) := dk_lstore (by decide +kernel)
theorem dX11_sumOf_69 : decode cX11_sumOf 69 = .ok (.iinc 8 1, 3) := dk_iinc (by decide +kernel)
theorem dX11_sumOf_72 : decode cX11_sumOf 72 = .ok (.goto (-25), 3) := dk_goto (by decide +kernel)
theorem dX11_sumOf_75 : decode cX11_sumOf 75 = .ok (.lload 6, 2) := dk_lload (by decide +kernel)
theorem dX11_sumOf_77 : decode cX11_sumOf 77 = .ok (.lreturn, 1) := dk_lreturn (by decide +kernel)
theorem dX11_account_0 : decode cX11_account 0 = .ok (.iload_n 1, 1) := dk_iload_n_1 (by decide +kernel)
theorem dX11_account_1 : decode cX11_account 1 = .ok (.ifCond .lt 19, 3) := dk_ifCond_lt (by decide +kernel)
theorem dX11_account_4 : decode cX11_account 4 = .ok (.iload_n 2, 1) := dk_iload_n_2 (by decide +kernel)
theorem dX11_account_5 : decode cX11_account 5 = .ok (.aload_n 0, 1) := dk_aload_n_0 (by decide +kernel)
theorem dX11_account_6 : decode cX11_account 6 = .ok (.getfield 19, 3) := dk_getfield (by decide +kernel)
theorem dX11_account_9 : decode cX11_account 9 = .ok (.getfield 71, 3) := dk_getfield (by decide +kernel)
theorem dX11_account_12 : decode cX11_account 12 = .ok (.if_icmp .ge 8, 3) := dk_if_icmp_ge (by decide +kernel)
theorem dX11_account_15 : decode cX11_account 15 = .ok (.iload_n 2, 1) := dk_iload_n_2 (by decide +kernel)
theorem dX11_account_16 : decode cX11_account 16 = .ok (.iload_n 1, 1) := dk_iload_n_1 (by decide +kernel)
theorem dX11_account_17 : decode cX11_account 17 = .ok (.if_icmp .ge 14, 3) := dk_if_icmp_ge (by decide +kernel)
theorem dX11_account_20 : decode cX11_account 20 = .ok (.ldc2_w 241, 3) := dk_ldc2_w (by decide +kernel)
theorem dX11_account_23 : decode cX11_account 23 = .ok (.aload_n 0, 1) := dk_aload_n_0 (by decide +kernel)
theorem dX11_account_24 : decode cX11_account 24 = .ok (.iconst (-1), 1) := dk_iconst_m1 (by decide +kernel)
theorem dX11_account_25 : decode cX11_account 25 = .ok (.invokevirtual 67, 3) := dk_invokevirtual (by decide +kernel)
theorem dX11_account_28 : decode cX11_account 28 = .ok (.i2l, 1) := dk_i2l (by decide +kernel)
theorem dX11_account_29 : decode cX11_account 29 = .ok (.lsub, 1) := dk_lsub (by decide +kernel)
theorem dX11_account_30 : decode cX11_account 30 = .ok (.lreturn, 1) := dk_lreturn (by decide +kernel)
theorem dX11_account_31 : decode cX11_account 31 = .ok (.lconst 0, 1) := dk_lconst_0 (by decide +kernel)
theorem dX11_account_32 : decode cX11_account 32 = .ok (.lstore_n 3, 1) := dk_lstore_n_3 (by decide +kernel)
theorem dX11_account_33 : decode cX11_account 33 = .ok (.iload_n 1, 1) := dk_iload_n_1 (by decide +kernel)
theorem dX11_account_34 : decode cX11_account 34 = .ok (.istore 5, 2) := dk_istore (by decide +kernel)
theorem dX11_account_36 : decode cX11_account 36 = .ok (.iconst 0, 1) := dk_iconst_0 (by decide +kernel)
theorem dX11_account_37 : decode cX11_account 37 = .ok (.istore 6, 2) := dk_istore (by decide +kernel)
theorem dX11_account_39 : decode cX11_account 39 = .ok (.iload 6, 2) := dk_iload (by decide +kernel)
theorem dX11_account_41 : decode cX11_account 41 = .ok (.sipush 9999, 3) := dk_sipush (by decide +kernel)
theorem dX11_account_44 : decode cX11_account 44 = .ok (.if_icmp .gt 80, 3) := dk_if_icmp_gt (by decide +kernel)
theorem dX11_account_47 : decode cX11_account 47 = .ok (.iload 5, 2) := dk_iload (by decide +kernel)
theorem dX11_account_49 : decode cX11_account 49 = .ok (.iload_n 2, 1) := dk_iload_n_2 (by decide +kernel)
theorem dX11_account_50 : decode cX11_account 50 = .ok (.if_icmp .gt 74, 3) := dk_if_icmp_gt (by decide +kernel)
theorem dX11_account_53 : decode cX11_account 53 = .ok (.aload_n 0, 1) := dk_aload_n_0 (by decide +kernel)
theorem dX11_account_54 : decode cX11_account 54 = .ok (.getfield 19, 3) := dk_getfield (by decide +kernel)
theorem dX11_account_57 : decode cX11_account 57 = .ok (.iload 5, 2) := dk_iload (by decide +kernel)
theorem dX11_account_59 : decode cX11_account 59 = .ok (.invokevirtual 192, 3) := dk_invokevirtual (by decide +kernel)
theorem dX11_account_62 : decode cX11_account 62 = .ok (.astore 7, 2) := dk_astore (by decide +kernel)
theorem dX11_account_64 : decode cX11_account 64 = .ok (.aload 7, 2) := dk_aload (by decide +kernel)
theorem dX11_account_66 : decode cX11_account 66 = .ok (.ifnonnull 6, 3) := dk_ifnonnull (by decide +kernel)
theorem dX11_account_69 : decode cX11_account 69 = .ok (.goto 55, 3) := dk_goto (by decide +kernel)
theorem dX11_account_72 : decode cX11_account 72 = .ok (.iload_n 2, 1) := dk_iload_n_2 (by decide +kernel)
theorem dX11_account_73 : decode cX11_account 73 = .ok (.aload_n 0, 1) := dk_aload_n_0 (by decide +kernel)
theorem dX11_account_74 : decode cX11_account 74 = .ok (.aload 7, 2) := dk_aload (by decide +kernel)
theorem dX11_account_76 : decode cX11_account 76 = .ok (.iload 5, 2) := dk_iload (by decide +kernel)
theorem dX11_account_78 : decode cX11_account 78 = .ok (.invokevirtual 243, 3) := dk_invokevirtual (by decide +kernel)
theorem dX11_account_81 : decode cX11_account 81 = .ok (.invokestatic 247, 3) := dk_invokestatic (by decide +kernel)
theorem dX11_account_84 : decode cX11_account 84 = .ok (.istore 8, 2) := dk_istore (by decide +kernel)
theorem dX11_account_86 : decode cX11_account 86 = .ok (.lload_n 3, 1) := dk_lload_n_3 (by decide +kernel)
theorem dX11_account_87 : decode cX11_account 87 = .ok (.aload_n 0, 1) := dk_aload_n_0 (by decide +kernel)
theorem dX11_account_88 : decode cX11_account 88 = .ok (.iconst 1, 1) := dk_iconst_1 (by decide +kernel)
theorem dX11_account_89 : decode cX11_account 89 = .ok (.aload 7, 2) := dk_aload (by decide +kernel)
theorem dX11_account_91 : decode cX11_account 91 = .ok (.iload 5, 2) := dk_iload (by decide +kernel)
theorem dX11_account_93 : decode cX11_account 93 = .ok (.iload 8, 2) := dk_iload (by decide +kernel)
theorem dX11_account_95 : decode cX11_account 95 = .ok (.invokevirtual 253, 3) := dk_invokevirtual (by decide +kernel)
theorem dX11_account_98 : decode cX11_account 98 = .ok (.aload_n 0, 1) := dk_aload_n_0 (by decide +kernel)
theorem dX11_account_99 : decode cX11_account 99 = .ok (.iconst 0, 1) := dk_iconst_0 (by decide +kernel)
theorem dX11_account_100 : decode cX11_account 100 = .ok (.aload 7, 2) := dk_aload (by decide +kernel)
theorem dX11_account_102 : decode cX11_account 102 = .ok (.iload 5, 2) := dk_iload (by decide +kernel)
theorem dX11_account_104 : decode cX11_account 104 = .ok (.iload 8, 2) := dk_iload (by decide +kernel)
theorem dX11_account_106 : decode cX11_account 106 = .ok (.invokevirtual 253, 3) := dk_invokevirtual (by decide +kernel)
theorem dX11_account_109 : decode cX11_account 109 = .ok (.lsub, 1) := dk_lsub (by decide +kernel)
theorem dX11_account_110 : decode cX11_account 110 = .ok (.ladd, 1) := dk_ladd (by decide +kernel)
theorem dX11_account_111 : decode cX11_account 111 = .ok (.lstore_n 3, 1) := dk_lstore_n_3 (by decide +kernel)
theorem dX11_account_112 : decode cX11_account 112 = .ok (.iload 8, 2) := dk_iload (by decide +kernel)
theorem dX11_account_114 : decode cX11_account 114 = .ok (.iconst 1, 1) := dk_iconst_1 (by decide +kernel)
theorem dX11_account_115 : decode cX11_account 115 = .ok (.iadd, 1) := dk_iadd (by decide +kernel)
theorem dX11_account_116 : decode cX11_account 116 = .ok (.istore 5, 2) := dk_istore (by decide +kernel)
theorem dX11_account_118 : decode cX11_account 118 = .ok (.iinc 6 1, 3) := dk_iinc (by decide +kernel)
theorem dX11_account_121 : decode cX11_account 121 = .ok (.goto (-82), 3) := dk_goto (by decide +kernel)
theorem dX11_account_124 : decode cX11_account 124 = .ok (.lload_n 3, 1) := dk_lload_n_3 (by decide +kernel)
theorem dX11_account_125 : decode cX11_account 125 = .ok (.lreturn, 1) := dk_lreturn (by decide +kernel)
theorem dX11_feed_0 : decode cX11_feed 0 = .ok (.iload_n 1, 1) := dk_iload_n_1 (by decide +kernel)
theorem dX11_feed_1 : decode cX11_feed 1 = .ok (.iconst 1, 1) := dk_iconst_1 (by decide +kernel)
theorem dX11_feed_2 : decode cX11_feed 2 = .ok (.if_icmp .ge 10, 3) := dk_if_icmp_ge (by decide +kernel)
theorem dX11_feed_5 : decode cX11_feed 5 = .ok (.aload_n 0, 1) := dk_aload_n_0 (by decide +kernel)
theorem dX11_feed_6 : decode cX11_feed 6 = .ok (.bipush (-4), 2) := dk_bipush (by decide +kernel)
theorem dX11_feed_8 : decode cX11_feed 8 = .ok (.invokevirtual 67, 3) := dk_invokevirtual (by decide +kernel)
theorem dX11_feed_11 : decode cX11_feed 11 = .ok (.ireturn, 1) := dk_ireturn (by decide +kernel)
theorem dX11_feed_12 : decode cX11_feed 12 = .ok (.iload_n 1, 1) := dk_iload_n_1 (by decide +kernel)
theorem dX11_feed_13 : decode cX11_feed 13 = .ok (.bipush 8, 2) := dk_bipush (by decide +kernel)
theorem dX11_feed_15 : decode cX11_feed 15 = .ok (.if_icmp .gt 17, 3) := dk_if_icmp_gt (by decide +kernel)
theorem dX11_feed_18 : decode cX11_feed 18 = .ok (.iload_n 1, 1) := dk_iload_n_1 (by decide +kernel)
theorem dX11_feed_19 : decode cX11_feed 19 = .ok (.bipush 60, 2) := dk_bipush (by decide +kernel)
theorem dX11_feed_21 : decode cX11_feed 21 = .ok (.aload_n 0, 1) := dk_aload_n_0 (by decide +kernel)
theorem dX11_feed_22 : decode cX11_feed 22 = .ok (.getfield 39, 3) := dk_getfield (by decide +kernel)
theorem dX11_feed_25 : decode cX11_feed 25 = .ok (.getfield 214, 3) := dk_getfield (by decide +kernel)
theorem dX11_feed_28 : decode cX11_feed 28 = .ok (.isub, 1) := dk_isub (by decide +kernel)
theorem dX11_feed_29 : decode cX11_feed 29 = .ok (.if_icmp .le 10, 3) := dk_if_icmp_le (by decide +kernel)
theorem dX11_feed_32 : decode cX11_feed 32 = .ok (.aload_n 0, 1) := dk_aload_n_0 (by decide +kernel)
theorem dX11_feed_33 : decode cX11_feed 33 = .ok (.bipush (-6), 2) := dk_bipush (by decide +kernel)
theorem dX11_feed_35 : decode cX11_feed 35 = .ok (.invokevirtual 67, 3) := dk_invokevirtual (by decide +kernel)
theorem dX11_feed_38 : decode cX11_feed 38 = .ok (.ireturn, 1) := dk_ireturn (by decide +kernel)
theorem dX11_feed_39 : decode cX11_feed 39 = .ok (.iconst 0, 1) := dk_iconst_0 (by decide +kernel)
theorem dX11_feed_40 : decode cX11_feed 40 = .ok (.istore 4, 2) := dk_istore (by decide +kernel)
theorem dX11_feed_42 : decode cX11_feed 42 = .ok (.iload 4, 2) := dk_iload (by decide +kernel)
theorem dX11_feed_44 : decode cX11_feed 44 = .ok (.iload_n 1, 1) := dk_iload_n_1 (by decide +kernel)
theorem dX11_feed_45 : decode cX11_feed 45 = .ok (.if_icmp .ge 28, 3) := dk_if_icmp_ge (by decide +kernel)
theorem dX11_feed_48 : decode cX11_feed 48 = .ok (.aload_n 0, 1) := dk_aload_n_0 (by decide +kernel)
theorem dX11_feed_49 : decode cX11_feed 49 = .ok (.getfield 39, 3) := dk_getfield (by decide +kernel)
theorem dX11_feed_52 : decode cX11_feed 52 = .ok (.lload_n 2, 1) := dk_lload_n_2 (by decide +kernel)
theorem dX11_feed_53 : decode cX11_feed 53 = .ok (.bipush 8, 2) := dk_bipush (by decide +kernel)
theorem dX11_feed_55 : decode cX11_feed 55 = .ok (.iload 4, 2) := dk_iload (by decide +kernel)
theorem dX11_feed_57 : decode cX11_feed 57 = .ok (.imul, 1) := dk_imul (by decide +kernel)
theorem dX11_feed_58 : decode cX11_feed 58 = .ok (.lushr, 1) := dk_lushr (by decide +kernel)
theorem dX11_feed_59 : decode cX11_feed 59 = .ok (.l2i, 1) := dk_l2i (by decide +kernel)
theorem dX11_feed_60 : decode cX11_feed 60 = .ok (.sipush 255, 3) := dk_sipush (by decide +kernel)
theorem dX11_feed_63 : decode cX11_feed 63 = .ok (.iand, 1) := dk_iand (by decide +kernel)
theorem dX11_feed_64 : decode cX11_feed 64 = .ok (.invokevirtual 217, 3) := dk_invokevirtual (by decide +kernel)
theorem dX11_feed_67 : decode cX11_feed 67 = .ok (.iinc 4 1, 3) := dk_iinc (by decide +kernel)
theorem dX11_feed_70 : decode cX11_feed 70 = .ok (.goto (-28), 3) := dk_goto (by decide +kernel)
theorem dX11_feed_73 : decode cX11_feed 73 = .ok (.aload_n 0, 1) := dk_aload_n_0 (by decide +kernel)
theorem dX11_feed_74 : decode cX11_feed 74 = .ok (.getfield 39, 3) := dk_getfield (by decide +kernel)
theorem dX11_feed_77 : decode cX11_feed 77 = .ok (.getfield 214, 3) := dk_getfield (by decide +kernel)
theorem dX11_feed_80 : decode cX11_feed 80 = .ok (.ireturn, 1) := dk_ireturn (by decide +kernel)
theorem dX10_parseNumber_0 : decode cX10_parseNumber 0 = .ok (.iconst 0, 1) := dk_iconst_0 (by decide +kernel)
theorem dX10_parseNumber_1 : decode cX10_parseNumber 1 = .ok (.istore_n 1, 1) := dk_istore_n_1 (by decide +kernel)
theorem dX10_parseNumber_2 : decode cX10_parseNumber 2 = .ok (.iconst 0, 1) := dk_iconst_0 (by decide +kernel)
theorem dX10_parseNumber_3 : decode cX10_parseNumber 3 = .ok (.istore_n 2, 1) := dk_istore_n_2 (by decide +kernel)
theorem dX10_parseNumber_4 : decode cX10_parseNumber 4 = .ok (.iload_n 2, 1) := dk_iload_n_2 (by decide +kernel)
theorem dX10_parseNumber_5 : decode cX10_parseNumber 5 = .ok (.iconst 5, 1) := dk_iconst_5 (by decide +kernel)
theorem dX10_parseNumber_6 : decode cX10_parseNumber 6 = .ok (.if_icmp .ge 42, 3) := dk_if_icmp_ge (by decide +kernel)
theorem dX10_parseNumber_9 : decode cX10_parseNumber 9 = .ok (.aload_n 0, 1) := dk_aload_n_0 (by decide +kernel)
theorem dX10_parseNumber_10 : decode cX10_parseNumber 10 = .ok (.invokevirtual 50, 3) := dk_invokevirtual (by decide +kernel)
theorem dX10_parseNumber_13 : decode cX10_parseNumber 13 = .ok (.invokestatic 64, 3) := dk_invokestatic (by decide +kernel)
theorem dX10_parseNumber_16 : decode cX10_parseNumber 16 = .ok (.ifCond .eq 32, 3) := dk_ifCond_eq (by decide +kernel)
theorem dX10_parseNumber_19 : decode cX10_parseNumber 19 = .ok (.bipush 10, 2) := dk_bipush (by decide +kernel)
theorem dX10_parseNumber_21 : decode cX10_parseNumber 21 = .ok (.iload_n 1, 1) := dk_iload_n_1 (by decide +kernel)
theorem dX10_parseNumber_22 : decode cX10_parseNumber 22 = .ok (.imul, 1) := dk_imul (by decide +kernel)
theorem dX10_parseNumber_23 : decode cX10_parseNumber 23 = .ok (.aload_n 0, 1) := dk_aload_n_0 (by decide +kernel)
theorem dX10_parseNumber_24 : decode cX10_parseNumber 24 = .ok (.invokevirtual 50, 3) := dk_invokevirtual (by decide +kernel)
theorem dX10_parseNumber_27 : decode cX10_parseNumber 27 = .ok (.iadd, 1) := dk_iadd (by decide +kernel)
theorem dX10_parseNumber_28 : decode cX10_parseNumber 28 = .ok (.bipush 48, 2) := dk_bipush (by decide +kernel)
theorem dX10_parseNumber_30 : decode cX10_parseNumber 30 = .ok (.isub, 1) := dk_isub (by decide +kernel)
theorem dX10_parseNumber_31 : decode cX10_parseNumber 31 = .ok (.istore_n 1, 1) := dk_istore_n_1 (by decide +kernel)
theorem dX10_parseNumber_32 : decode cX10_parseNumber 32 = .ok (.aload_n 0, 1) := dk_aload_n_0 (by decide +kernel)
theorem dX10_parseNumber_33 : decode cX10_parseNumber 33 = .ok (.dup, 1) := dk_dup (by decide +kernel)
theorem dX10_parseNumber_34 : decode cX10_parseNumber 34 = .ok (.getfield 22, 3) := dk_getfield (by decide +kernel)
theorem dX10_parseNumber_37 : decode cX10_parseNumber 37 = .ok (.iconst 1, 1) := dk_iconst_1 (by decide +kernel)
theorem dX10_parseNumber_38 : decode cX10_parseNumber 38 = .ok (.iadd, 1) := dk_iadd (by decide +kernel)
theorem dX10_parseNumber_39 : decode cX10_parseNumber 39 = .ok (.putfield 22, 3) := dk_putfield (by decide +kernel)
theorem dX10_parseNumber_42 : decode cX10_parseNumber 42 = .ok (.iinc 2 1, 3) := dk_iinc (by decide +kernel)
theorem dX10_parseNumber_45 : decode cX10_parseNumber 45 = .ok (.goto (-41), 3) := dk_goto (by decide +kernel)
theorem dX10_parseNumber_48 : decode cX10_parseNumber 48 = .ok (.aload_n 0, 1) := dk_aload_n_0 (by decide +kernel)
theorem dX10_parseNumber_49 : decode cX10_parseNumber 49 = .ok (.iload_n 1, 1) := dk_iload_n_1 (by decide +kernel)
theorem dX10_parseNumber_50 : decode cX10_parseNumber 50 = .ok (.invokevirtual 54, 3) := dk_invokevirtual (by decide +kernel)
theorem dX10_parseNumber_53 : decode cX10_parseNumber 53 = .ok (.return_, 1) := dk_return_ (by decide +kernel)
theorem dX10_parseUnit_0 : decode cX10_parseUnit 0 = .ok (.aload_n 0, 1) := dk_aload_n_0 (by decide +kernel)
theorem dX10_parseUnit_1 : decode cX10_parseUnit 1 = .ok (.invokevirtual 50, 3) := dk_invokevirtual (by decide +kernel)
theorem dX10_parseUnit_4 : decode cX10_parseUnit 4 = .ok (.istore_n 2, 1) := dk_istore_n_2 (by decide +kernel)
theorem dX10_parseUnit_5 : decode cX10_parseUnit 5 = .ok (.iload_n 2, 1) := dk_iload_n_2 (by decide +kernel)
theorem dX10_parseUnit_6 : decode cX10_parseUnit 6 = .ok (.bipush 40, 2) := dk_bipush (by decide +kernel)
theorem dX10_parseUnit_8 : decode cX10_parseUnit 8 = .ok (.if_icmp .ne 24, 3) := dk_if_icmp_ne (by decide +kernel)
theorem dX10_parseUnit_11 : decode cX10_parseUnit 11 = .ok (.iload_n 1, 1) := dk_iload_n_1 (by decide +kernel)
theorem dX10_parseUnit_12 : decode cX10_parseUnit 12 = .ok (.iconst 5, 1) := dk_iconst_5 (by decide +kernel)
theorem dX10_parseUnit_13 : decode cX10_parseUnit 13 = .ok (.if_icmp .ge 17, 3) := dk_if_icmp_ge (by decide +kernel)
theorem dX10_parseUnit_16 : decode cX10_parseUnit 16 = .ok (.aload_n 0, 1) := dk_aload_n_0 (by decide +kernel)
theorem dX10_parseUnit_17 : decode cX10_parseUnit 17 = .ok (.iload_n 1, 1) := dk_iload_n_1 (by decide +kernel)
theorem dX10_parseUnit_18 : decode cX10_parseUnit 18 = .ok (.iconst 1, 1) := dk_iconst_1 (by decide +kernel)
theorem dX10_parseUnit_19 : decode cX10_parseUnit 19 = .ok (.iadd, 1) := dk_iadd (by decide +kernel)
theorem dX10_parseUnit_20 : decode cX10_parseUnit 20 = .ok (.invokevirtual 61, 3) := dk_invokevirtual (by decide +kernel)
theorem dX10_parseUnit_23 : decode cX10_parseUnit 23 = .ok (.ifCond .eq 7, 3) := dk_ifCond_eq (by decide +kernel)
theorem dX10_parseUnit_26 : decode cX10_parseUnit 26 = .ok (.iconst 1, 1) := dk_iconst_1 (by decide +kernel)
theorem dX10_parseUnit_27 : decode cX10_parseUnit 27 = .ok (.goto 4, 3) := dk_goto (by decide +kernel)
theorem dX10_parseUnit_30 : decode cX10_parseUnit 30 = .ok (.iconst 0, 1) := dk_iconst_0 (by decide +kernel)
theorem dX10_parseUnit_31 : decode cX10_parseUnit 31 = .ok (.ireturn, 1) := dk_ireturn (by decide +kernel)
theorem dX10_parseUnit_32 : decode cX10_parseUnit 32 = .ok (.iload_n 2, 1) := dk_iload_n_2 (by decide +kernel)
theorem dX10_parseUnit_33 : decode cX10_parseUnit 33 = .ok (.invokestatic 64, 3) := dk_invokestatic (by decide +kernel)
theorem dX10_parseUnit_36 : decode cX10_parseUnit 36 = .ok (.ifCond .eq 9, 3) := dk_ifCond_eq (by decide +kernel)
theorem dX10_parseUnit_39 : decode cX10_parseUnit 39 = .ok (.aload_n 0, 1) := dk_aload_n_0 (by decide +kernel)
theorem dX10_parseUnit_40 : decode cX10_parseUnit 40 = .ok (.invokevirtual 67, 3) := dk_invokevirtual (by decide +kernel)
theorem dX10_parseUnit_43 : decode cX10_parseUnit 43 = .ok (.iconst 1, 1) := dk_iconst_1 (by decide +kernel)
theorem dX10_parseUnit_44 : decode cX10_parseUnit 44 = .ok (.ireturn, 1) := dk_ireturn (by decide +kernel)
theorem dX10_parseUnit_45 : decode cX10_parseUnit 45 = .ok (.iload_n 2, 1) := dk_iload_n_2 (by decide +kernel)
theorem dX10_parseUnit_46 : decode cX10_parseUnit 46 = .ok (.invokestatic 70, 3) := dk_invokestatic (by decide +kernel)
theorem dX10_parseUnit_49 : decode cX10_parseUnit 49 = .ok (.ifCond .ne 5, 3) := dk_ifCond_ne (by decide +kernel)
theorem dX10_parseUnit_52 : decode cX10_parseUnit 52 = .ok (.iconst 0, 1) := dk_iconst_0 (by decide +kernel)
theorem dX10_parseUnit_53 : decode cX10_parseUnit 53 = .ok (.ireturn, 1) := dk_ireturn (by decide +kernel)
theorem dX10_parseUnit_54 : decode cX10_parseUnit 54 = .ok (.aload_n 0, 1) := dk_aload_n_0 (by decide +kernel)
theorem dX10_parseUnit_55 : decode cX10_parseUnit 55 = .ok (.iload_n 2, 1) := dk_iload_n_2 (by decide +kernel)
theorem dX10_parseUnit_56 : decode cX10_parseUnit 56 = .ok (.ineg, 1) := dk_ineg (by decide +kernel)
theorem dX10_parseUnit_57 : decode cX10_parseUnit 57 = .ok (.invokevirtual 54, 3) := dk_invokevirtual (by decide +kernel)
theorem dX10_parseUnit_60 : decode cX10_parseUnit 60 = .ok (.aload_n 0, 1) := dk_aload_n_0 (by decide +kernel)
theorem dX10_parseUnit_61 : decode cX10_parseUnit 61 = .ok (.dup, 1) := dk_dup (by decide +kernel)
theorem dX10_parseUnit_62 : decode cX10_parseUnit 62 = .ok (.getfield 22, 3) := dk_getfield (by decide +kernel)
theorem dX10_parseUnit_65 : decode cX10_parseUnit 65 = .ok (.iconst 1, 1) := dk_iconst_1 (by decide +kernel)
theorem dX10_parseUnit_66 : decode cX10_parseUnit 66 = .ok (.iadd, 1) := dk_iadd (by decide +kernel)
theorem dX10_parseUnit_67 : decode cX10_parseUnit 67 = .ok (.putfield 22, 3) := dk_putfield (by decide +kernel)
theorem dX10_parseUnit_70 : decode cX10_parseUnit 70 = .ok (.iconst 1, 1) := dk_iconst_1 (by decide +kernel)
theorem dX10_parseUnit_71 : decode cX10_parseUnit 71 = .ok (.ireturn, 1) := dk_ireturn (by decide +kernel)
theorem dX10_parseProduct_0 : decode cX10_parseProduct 0 = .ok (.aload_n 0, 1) := dk_aload_n_0 (by decide +kernel)
theorem dX10_parseProduct_1 : decode cX10_parseProduct 1 = .ok (.iload_n 1, 1) := dk_iload_n_1 (by decide +kernel)
theorem dX10_parseProduct_2 : decode cX10_parseProduct 2 = .ok (.invokevirtual 58, 3) := dk_invokevirtual (by decide +kernel)
theorem dX10_parseProduct_5 : decode cX10_parseProduct 5 = .ok (.ifCond .ne 5, 3) := dk_ifCond_ne (by decide +kernel)
theorem dX10_parseProduct_8 : decode cX10_parseProduct 8 = .ok (.iconst 0, 1) := dk_iconst_0 (by decide +kernel)
theorem dX10_parseProduct_9 : decode cX10_parseProduct 9 = .ok (.ireturn, 1) := dk_ireturn (by decide +kernel)
theorem dX10_parseProduct_10 : decode cX10_parseProduct 10 = .ok (.iconst 0, 1) := dk_iconst_0 (by decide +kernel)
theorem dX10_parseProduct_11 : decode cX10_parseProduct 11 = .ok (.istore_n 2, 1) := dk_istore_n_2 (by decide +kernel)
theorem dX10_parseProduct_12 : decode cX10_parseProduct 12 = .ok (.iload_n 2, 1) := dk_iload_n_2 (by decide +kernel)
theorem dX10_parseProduct_13 : decode cX10_parseProduct 13 = .ok (.bipush 60, 2) := dk_bipush (by decide +kernel)
theorem dX10_parseProduct_15 : decode cX10_parseProduct 15 = .ok (.if_icmp .ge 54, 3) := dk_if_icmp_ge (by decide +kernel)
theorem dX10_parseProduct_18 : decode cX10_parseProduct 18 = .ok (.aload_n 0, 1) := dk_aload_n_0 (by decide +kernel)
theorem dX10_parseProduct_19 : decode cX10_parseProduct 19 = .ok (.invokevirtual 50, 3) := dk_invokevirtual (by decide +kernel)
theorem dX10_parseProduct_22 : decode cX10_parseProduct 22 = .ok (.istore_n 3, 1) := dk_istore_n_3 (by decide +kernel)
theorem dX10_parseProduct_23 : decode cX10_parseProduct 23 = .ok (.iload_n 3, 1) := dk_iload_n_3 (by decide +kernel)
theorem dX10_parseProduct_24 : decode cX10_parseProduct 24 = .ok (.bipush 42, 2) := dk_bipush (by decide +kernel)
theorem dX10_parseProduct_26 : decode cX10_parseProduct 26 = .ok (.if_icmp .eq 11, 3) := dk_if_icmp_eq (by decide +kernel)
theorem dX10_parseProduct_29 : decode cX10_parseProduct 29 = .ok (.iload_n 3, 1) := dk_iload_n_3 (by decide +kernel)
theorem dX10_parseProduct_30 : decode cX10_parseProduct 30 = .ok (.bipush 47, 2) := dk_bipush (by decide +kernel)
theorem dX10_parseProduct_32 : decode cX10_parseProduct 32 = .ok (.if_icmp .eq 5, 3) := dk_if_icmp_eq (by decide +kernel)
theorem dX10_parseProduct_35 : decode cX10_parseProduct 35 = .ok (.iconst 1, 1) := dk_iconst_1 (by decide +kernel)
theorem dX10_parseProduct_36 : decode cX10_parseProduct 36 = .ok (.ireturn, 1) := dk_ireturn (by decide +kernel)
theorem dX10_parseProduct_37 : decode cX10_parseProduct 37 = .ok (.aload_n 0, 1) := dk_aload_n_0 (by decide +kernel)
theorem dX10_parseProduct_38 : decode cX10_parseProduct 38 = .ok (.dup, 1) := dk_dup (by decide +kernel)
theorem dX10_parseProduct_39 : decode cX10_parseProduct 39 = .ok (.getfield 22, 3) := dk_getfield (by decide +kernel)
theorem dX10_parseProduct_42 : decode cX10_parseProduct 42 = .ok (.iconst 1, 1) := dk_iconst_1 (by decide +kernel)
theorem dX10_parseProduct_43 : decode cX10_parseProduct 43 = .ok (.iadd, 1) := dk_iadd (by decide +kernel)
theorem dX10_parseProduct_44 : decode cX10_parseProduct 44 = .ok (.putfield 22, 3) := dk_putfield (by decide +kernel)
theorem dX10_parseProduct_47 : decode cX10_parseProduct 47 = .ok (.aload_n 0, 1) := dk_aload_n_0 (by decide +kernel)
theorem dX10_parseProduct_48 : decode cX10_parseProduct 48 = .ok (.iload_n 1, 1) := dk_iload_n_1 (by decide +kernel)
theorem dX10_parseProduct_49 : decode cX10_parseProduct 49 = .ok (.invokevirtual 58, 3) := dk_invokevirtual (by decide +kernel)
theorem dX10_parseProduct_52 : decode cX10_parseProduct 52 = .ok (.ifCond .ne 5, 3) := dk_ifCond_ne (by decide +kernel)
theorem dX10_parseProduct_55 : decode cX10_parseProduct 55 = .ok (.iconst 0, 1) := dk_iconst_0 (by decide +kernel)
theorem dX10_parseProduct_56 : decode cX10_parseProduct 56 = .ok (.ireturn, 1) := dk_ireturn (by decide +kernel)
theorem dX10_parseProduct_57 : decode cX10_parseProduct 57 = .ok (.aload_n 0, 1) := dk_aload_n_0 (by decide +kernel)
theorem dX10_parseProduct_58 : decode cX10_parseProduct 58 = .ok (.iload_n 3, 1) := dk_iload_n_3 (by decide +kernel)
theorem dX10_parseProduct_59 : decode cX10_parseProduct 59 = .ok (.ineg, 1) := dk_ineg (by decide +kernel)
theorem dX10_parseProduct_60 : decode cX10_parseProduct 60 = .ok (.invokevirtual 54, 3) := dk_invokevirtual (by decide +kernel)
theorem dX10_parseProduct_63 : decode cX10_parseProduct 63 = .ok (.iinc 2 1, 3) := dk_iinc (by decide +kernel)
theorem dX10_parseProduct_66 : decode cX10_parseProduct 66 = .ok (.goto (-54), 3) := dk_goto (by decide +kernel)
theorem dX10_parseProduct_69 : decode cX10_parseProduct 69 = .ok (.iconst 0, 1) := dk_iconst_0 (by decide +kernel)
theorem dX10_parseProduct_70 : decode cX10_parseProduct 70 = .ok (.ireturn, 1) := dk_ireturn (by decide +kernel)
theorem dX10_parseSum_0 : decode cX10_parseSum 0 = .ok (.aload_n 0, 1) := dk_aload_n_0 (by decide +kernel)
theorem dX10_parseSum_1 : decode cX10_parseSum 1 = .ok (.iload_n 1, 1) := dk_iload_n_1 (by decide +kernel)
theorem dX10_parseSum_2 : decode cX10_parseSum 2 = .ok (.invokevirtual 47, 3) := dk_invokevirtual (by decide +kernel)
theorem dX10_parseSum_5 : decode cX10_parseSum 5 = .ok (.ifCond .ne 5, 3) := dk_ifCond_ne (by decide +kernel)
theorem dX10_parseSum_8 : decode cX10_parseSum 8 = .ok (.iconst 0, 1) := dk_iconst_0 (by decide +kernel)
theorem dX10_parseSum_9 : decode cX10_parseSum 9 = .ok (.ireturn, 1) := dk_ireturn (by decide +kernel)
theorem dX10_parseSum_10 : decode cX10_parseSum 10 = .ok (.iconst 0, 1) := dk_iconst_0 (by decide +kernel)
theorem dX10_parseSum_11 : decode cX10_parseSum 11 = .ok (.istore_n 2, 1) := dk_istore_n_2 (by decide +kernel)
theorem dX10_parseSum_12 : decode cX10_parseSum 12 = .ok (.iload_n 2, 1) := dk_iload_n_2 (by decide +kernel)
theorem dX10_parseSum_13 : decode cX10_parseSum 13 = .ok (.bipush 60, 2) := dk_bipush (by decide +kernel)
theorem dX10_parseSum_15 : decode cX10_parseSum 15 = .ok (.if_icmp .ge 54, 3) := dk_if_icmp_ge (by decide +kernel)
theorem dX10_parseSum_18 : decode cX10_parseSum 18 = .ok (.aload_n 0, 1) := dk_aload_n_0 (by decide +kernel)
theorem dX10_parseSum_19 : decode cX10_parseSum 19 = .ok (.invokevirtual 50, 3) := dk_invokevirtual (by decide +kernel)
theorem dX10_parseSum_22 : decode cX10_parseSum 22 = .ok (.istore_n 3, 1) := dk_istore_n_3 (by decide +kernel)
theorem dX10_parseSum_23 : decode cX10_parseSum 23 = .ok (.iload_n 3, 1) := dk_iload_n_3 (by decide +kernel)
theorem dX10_parseSum_24 : decode cX10_parseSum 24 = .ok (.bipush 43, 2) := dk_bipush (by decide +kernel)
theorem dX10_parseSum_26 : decode cX10_parseSum 26 = .ok (.if_icmp .eq 11, 3) := dk_if_icmp_eq (by decide +kernel)
theorem dX10_parseSum_29 : decode cX10_parseSum 29 = .ok (.iload_n 3, 1) := dk_iload_n_3 (by decide +kernel)
theorem dX10_parseSum_30 : decode cX10_parseSum 30 = .ok (.bipush 45, 2) := dk_bipush (by decide +kernel)
theorem dX10_parseSum_32 : decode cX10_parseSum 32 = .ok (.if_icmp .eq 5, 3) := dk_if_icmp_eq (by decide +kernel)
theorem dX10_parseSum_35 : decode cX10_parseSum 35 = .ok (.iconst 1, 1) := dk_iconst_1 (by decide +kernel)
theorem dX10_parseSum_36 : decode cX10_parseSum 36 = .ok (.ireturn, 1) := dk_ireturn (by decide +kernel)
theorem dX10_parseSum_37 : decode cX10_parseSum 37 = .ok (.aload_n 0, 1) := dk_aload_n_0 (by decide +kernel)
theorem dX10_parseSum_38 : decode cX10_parseSum 38 = .ok (.dup, 1) := dk_dup (by decide +kernel)
theorem dX10_parseSum_39 : decode cX10_parseSum 39 = .ok (.getfield 22, 3) := dk_getfield (by decide +kernel)
theorem dX10_parseSum_42 : decode cX10_parseSum 42 = .ok (.iconst 1, 1) := dk_iconst_1 (by decide +kernel)
theorem dX10_parseSum_43 : decode cX10_parseSum 43 = .ok (.iadd, 1) := dk_iadd (by decide +kernel)
theorem dX10_parseSum_44 : decode cX10_parseSum 44 = .ok (.putfield 22, 3) := dk_putfield (by decide +kernel)
theorem dX10_parseSum_47 : decode cX10_parseSum 47 = .ok (.aload_n 0, 1) := dk_aload_n_0 (by decide +kernel)
theorem dX10_parseSum_48 : decode cX10_parseSum 48 = .ok (.iload_n 1, 1) := dk_iload_n_1 (by decide +kernel)
theorem dX10_parseSum_49 : decode cX10_parseSum 49 = .ok (.invokevirtual 47, 3) := dk_invokevirtual (by decide +kernel)
theorem dX10_parseSum_52 : decode cX10_parseSum 52 = .ok (.ifCond .ne 5, 3) := dk_ifCond_ne (by decide +kernel)
theorem dX10_parseSum_55 : decode cX10_parseSum 55 = .ok (.iconst 0, 1) := dk_iconst_0 (by decide +kernel)
theorem dX10_parseSum_56 : decode cX10_parseSum 56 = .ok (.ireturn, 1) := dk_ireturn (by decide +kernel)
theorem dX10_parseSum_57 : decode cX10_parseSum 57 = .ok (.aload_n 0, 1) := dk_aload_n_0 (by decide +kernel)
theorem dX10_parseSum_58 : decode cX10_parseSum 58 = .ok (.iload_n 3, 1) := dk_iload_n_3 (by decide +kernel)
theorem dX10_parseSum_59 : decode cX10_parseSum 59 = .ok (.ineg, 1) := dk_ineg (by decide +kernel)
theorem dX10_parseSum_60 : decode cX10_parseSum 60 = .ok (.invokevirtual 54, 3) := dk_invokevirtual (by decide +kernel)
theorem dX10_parseSum_63 : decode cX10_parseSum 63 = .ok (.iinc 2 1, 3) := dk_iinc (by decide +kernel)
theorem dX10_parseSum_66 : decode cX10_parseSum 66 = .ok (.goto (-54), 3) := dk_goto (by decide +kernel)
theorem dX10_parseSum_69 : decode cX10_parseSum 69 = .ok (.iconst 0, 1) := dk_iconst_0 (by decide +kernel)
theorem dX10_parseSum_70 : decode cX10_parseSum 70 = .ok (.ireturn, 1) := dk_ireturn (by decide +kernel)
theorem dX10_parseBracket_0 : decode cX10_parseBracket 0 = .ok (.aload_n 0, 1) := dk_aload_n_0 (by decide +kernel)
theorem dX10_parseBracket_1 : decode cX10_parseBracket 1 = .ok (.dup, 1) := dk_dup (by decide +kernel)
theorem dX10_parseBracket_2 : decode cX10_parseBracket 2 = .ok (.getfield 22, 3) := dk_getfield (by decide +kernel)
theorem dX10_parseBracket_5 : decode cX10_parseBracket 5 = .ok (.iconst 1, 1) := dk_iconst_1 (by decide +kernel)
theorem dX10_parseBracket_6 : decode cX10_parseBracket 6 = .ok (.iadd, 1) := dk_iadd (by decide +kernel)
theorem dX10_parseBracket_7 : decode cX10_parseBracket 7 = .ok (.putfield 22, 3) := dk_putfield (by decide +kernel)
theorem dX10_parseBracket_10 : decode cX10_parseBracket 10 = .ok (.aload_n 0, 1) := dk_aload_n_0 (by decide +kernel)
theorem dX10_parseBracket_11 : decode cX10_parseBracket 11 = .ok (.iload_n 1, 1) := dk_iload_n_1 (by decide +kernel)
theorem dX10_parseBracket_12 : decode cX10_parseBracket 12 = .ok (.invokevirtual 28, 3) := dk_invokevirtual (by decide +kernel)
theorem dX10_parseBracket_15 : decode cX10_parseBracket 15 = .ok (.ifCond .ne 5, 3) := dk_ifCond_ne (by decide +kernel)
theorem dX10_parseBracket_18 : decode cX10_parseBracket 18 = .ok (.iconst 0, 1) := dk_iconst_0 (by decide +kernel)
theorem dX10_parseBracket_19 : decode cX10_parseBracket 19 = .ok (.ireturn, 1) := dk_ireturn (by decide +kernel)
theorem dX10_parseBracket_20 : decode cX10_parseBracket 20 = .ok (.aload_n 0, 1) := dk_aload_n_0 (by decide +kernel)
theorem dX10_parseBracket_21 : decode cX10_parseBracket 21 = .ok (.invokevirtual 50, 3) := dk_invokevirtual (by decide +kernel)
theorem dX10_parseBracket_24 : decode cX10_parseBracket 24 = .ok (.istore_n 2, 1) := dk_istore_n_2 (by decide +kernel)
theorem dX10_parseBracket_25 : decode cX10_parseBracket 25 = .ok (.iload_n 2, 1) := dk_iload_n_2 (by decide +kernel)
theorem dX10_parseBracket_26 : decode cX10_parseBracket 26 = .ok (.bipush 60, 2) := dk_bipush (by decide +kernel)
theorem dX10_parseBracket_28 : decode cX10_parseBracket 28 = .ok (.if_icmp .eq 15, 3) := dk_if_icmp_eq (by decide +kernel)
theorem dX10_parseBracket_31 : decode cX10_parseBracket 31 = .ok (.iload_n 2, 1) := dk_iload_n_2 (by decide +kernel)
theorem dX10_parseBracket_32 : decode cX10_parseBracket 32 = .ok (.bipush 61, 2) := dk_bipush (by decide +kernel)
theorem dX10_parseBracket_34 : decode cX10_parseBracket 34 = .ok (.if_icmp .eq 9, 3) := dk_if_icmp_eq (by decide +kernel)
theorem dX10_parseBracket_37 : decode cX10_parseBracket 37 = .ok (.iload_n 2, 1) := dk_iload_n_2 (by decide +kernel)
theorem dX10_parseBracket_38 : decode cX10_parseBracket 38 = .ok (.bipush 62, 2) := dk_bipush (by decide +kernel)
theorem dX10_parseBracket_40 : decode cX10_parseBracket 40 = .ok (.if_icmp .ne 29, 3) := dk_if_icmp_ne (by decide +kernel)
theorem dX10_parseBracket_43 : decode cX10_parseBracket 43 = .ok (.aload_n 0, 1) := dk_aload_n_0 (by decide +kernel)
theorem dX10_parseBracket_44 : decode cX10_parseBracket 44 = .ok (.dup, 1) := dk_dup (by decide +kernel)
theorem dX10_parseBracket_45 : decode cX10_parseBracket 45 = .ok (.getfield 22, 3) := dk_getfield (by decide +kernel)
theorem dX10_parseBracket_48 : decode cX10_parseBracket 48 = .ok (.iconst 1, 1) := dk_iconst_1 (by decide +kernel)
theorem dX10_parseBracket_49 : decode cX10_parseBracket 49 = .ok (.iadd, 1) := dk_iadd (by decide +kernel)
theorem dX10_parseBracket_50 : decode cX10_parseBracket 50 = .ok (.putfield 22, 3) := dk_putfield (by decide +kernel)
theorem dX10_parseBracket_53 : decode cX10_parseBracket 53 = .ok (.aload_n 0, 1) := dk_aload_n_0 (by decide +kernel)
theorem dX10_parseBracket_54 : decode cX10_parseBracket 54 = .ok (.iload_n 1, 1) := dk_iload_n_1 (by decide +kernel)
theorem dX10_parseBracket_55 : decode cX10_parseBracket 55 = .ok (.invokevirtual 28, 3) := dk_invokevirtual (by decide +kernel)
theorem dX10_parseBracket_58 : decode cX10_parseBracket 58 = .ok (.ifCond .ne 5, 3) := dk_ifCond_ne (by decide +kernel)
theorem dX10_parseBracket_61 : decode cX10_parseBracket 61 = .ok (.iconst 0, 1) := dk_iconst_0 (by decide +kernel)
theorem dX10_parseBracket_62 : decode cX10_parseBracket 62 = .ok (.ireturn, 1) := dk_ireturn (by decide +kernel)
theorem dX10_parseBracket_63 : decode cX10_parseBracket 63 = .ok (.aload_n 0, 1) := dk_aload_n_0 (by decide +kernel)
theorem dX10_parseBracket_64 : decode cX10_parseBracket 64 = .ok (.iload_n 2, 1) := dk_iload_n_2 (by decide +kernel)
theorem dX10_parseBracket_65 : decode cX10_parseBracket 65 = .ok (.ineg, 1) := dk_ineg (by decide +kernel)
theorem dX10_parseBracket_66 : decode cX10_parseBracket 66 = .ok (.invokevirtual 54, 3) := dk_invokevirtual (by decide +kernel)
theorem dX10_parseBracket_69 : decode cX10_parseBracket 69 = .ok (.aload_n 0, 1) := dk_aload_n_0 (by decide +kernel)
theorem dX10_parseBracket_70 : decode cX10_parseBracket 70 = .ok (.invokevirtual 50, 3) := dk_invokevirtual (by decide +kernel)
theorem dX10_parseBracket_73 : decode cX10_parseBracket 73 = .ok (.bipush 41, 2) := dk_bipush (by decide +kernel)
theorem dX10_parseBracket_75 : decode cX10_parseBracket 75 = .ok (.if_icmp .eq 5, 3) := dk_if_icmp_eq (by decide +kernel)
theorem dX10_parseBracket_78 : decode cX10_parseBracket 78 = .ok (.iconst 0, 1) := dk_iconst_0 (by decide +kernel)
theorem dX10_parseBracket_79 : decode cX10_parseBracket 79 = .ok (.ireturn, 1) := dk_ireturn (by decide +kernel)
theorem dX10_parseBracket_80 : decode cX10_parseBracket 80 = .ok (.aload_n 0, 1) := dk_aload_n_0 (by decide +kernel)
theorem dX10_parseBracket_81 : decode cX10_parseBracket 81 = .ok (.dup, 1) := dk_dup (by decide +kernel)
theorem dX10_parseBracket_82 : decode cX10_parseBracket 82 = .ok (.getfield 22, 3) := dk_getfield (by decide +kernel)
theorem dX10_parseBracket_85 : decode cX10_parseBracket 85 = .ok (.iconst 1, 1) := dk_iconst_1 (by decide +kernel)
theorem dX10_parseBracket_86 : decode cX10_parseBracket 86 = .ok (.iadd, 1) := dk_iadd (by decide +kernel)
theorem dX10_parseBracket_87 : decode cX10_parseBracket 87 = .ok (.putfield 22, 3) := dk_putfield (by decide +kernel)
theorem dX10_parseBracket_90 : decode cX10_parseBracket 90 = .ok (.iconst 1, 1) := dk_iconst_1 (by decide +kernel)
theorem dX10_parseBracket_91 : decode cX10_parseBracket 91 = .ok (.ireturn, 1) := dk_ireturn (by decide +kernel)
theorem dX10_parse_0 : decode cX10_parse 0 = .ok (.aload_n 0, 1) := dk_aload_n_0 (by decide +kernel)
theorem dX10_parse_1 : decode cX10_parse 1 = .ok (.iconst 0, 1) := dk_iconst_0 (by decide +kernel)
theorem dX10_parse_2 : decode cX10_parse 2 = .ok (.putfield 22, 3) := dk_putfield (by decide +kernel)
theorem dX10_parse_5 : decode cX10_parse 5 = .ok (.aload_n 0, 1) := dk_aload_n_0 (by decide +kernel)
theorem dX10_parse_6 : decode cX10_parse 6 = .ok (.iconst 0, 1) := dk_iconst_0 (by decide +kernel)
theorem dX10_parse_7 : decode cX10_parse 7 = .ok (.putfield 25, 3) := dk_putfield (by decide +kernel)
theorem dX10_parse_10 : decode cX10_parse 10 = .ok (.aload_n 0, 1) := dk_aload_n_0 (by decide +kernel)
theorem dX10_parse_11 : decode cX10_parse 11 = .ok (.iconst 0, 1) := dk_iconst_0 (by decide +kernel)
theorem dX10_parse_12 : decode cX10_parse 12 = .ok (.invokevirtual 28, 3) := dk_invokevirtual (by decide +kernel)
theorem dX10_parse_15 : decode cX10_parse 15 = .ok (.ifCond .eq 18, 3) := dk_ifCond_eq (by decide +kernel)
theorem dX10_parse_18 : decode cX10_parse 18 = .ok (.aload_n 0, 1) := dk_aload_n_0 (by decide +kernel)
theorem dX10_parse_19 : decode cX10_parse 19 = .ok (.getfield 22, 3) := dk_getfield (by decide +kernel)
theorem dX10_parse_22 : decode cX10_parse 22 = .ok (.aload_n 0, 1) := dk_aload_n_0 (by decide +kernel)
theorem dX10_parse_23 : decode cX10_parse 23 = .ok (.getfield 18, 3) := dk_getfield (by decide +kernel)
theorem dX10_parse_26 : decode cX10_parse 26 = .ok (.if_icmp .lt 7, 3) := dk_if_icmp_lt (by decide +kernel)
theorem dX10_parse_29 : decode cX10_parse 29 = .ok (.iconst 1, 1) := dk_iconst_1 (by decide +kernel)
theorem dX10_parse_30 : decode cX10_parse 30 = .ok (.goto 4, 3) := dk_goto (by decide +kernel)
theorem dX10_parse_33 : decode cX10_parse 33 = .ok (.iconst 0, 1) := dk_iconst_0 (by decide +kernel)
theorem dX10_parse_34 : decode cX10_parse 34 = .ok (.ireturn, 1) := dk_ireturn (by decide +kernel)
abbrev PBRA (d : Nat) : Prop := ∀ (l : Launch) (g : gG) (J : Nat → Nat → Int32) (L : Nat → Nat → Int64) (I : Nat → Nat → Nat → Int32) (P : Nat → Nat → Nat → Option Nat) (E : Nat → Option Nat) (N : Nat → Nat) (dy : List (Nat × Nat)) (sz : Nat) (a0 : Int32) (hd : a0.toInt = 5 - (d : Int)) (hd5 : (d : Int) ≤ 5), Met l yX10_parseBracket (WS yX10_parseBracket cX10_parseBracket 3 (some .boolean)) (RM (4 * d + 7) 0 0) (PC g [.ref (g.2.2.1 11), .int a0] ((J, L, I, P, E, N), sgX g ++ dy) sz) (va_Qi (fun (r : Int32) (u : (Nat → Nat → Int32)) => ((r.toInt = 1) ∨ (r.toInt = 0))) (fun u t => at_ g (FR g ((J, L, I, P, E, N), sgX g ++ dy) sz) (((hv J [44] [(11, 3), (11, 4)] u), L, I, P, E, N), sgX g ++ dy) t) (FR g ((J, L, I, P, E, N), sgX g ++ dy) sz)) 0 0 (FR g ((J, L, I, P, E, N), sgX g ++ dy) sz)
abbrev PSUM (d : Nat) : Prop := ∀ (l : Launch) (g : gG) (J : Nat → Nat → Int32) (L : Nat → Nat → Int64) (I : Nat → Nat → Nat → Int32) (P : Nat → Nat → Nat → Option Nat) (E : Nat → Option Nat) (N : Nat → Nat) (dy : List (Nat × Nat)) (sz : Nat) (a0 : Int32) (hd : a0.toInt = 5 - (d : Int)) (hd5 : (d : Int) ≤ 5), Met l yX10_parseSum (WS yX10_parseSum cX10_parseSum 4 (some .boolean)) (RM (4 * d + 6) 0 0) (PC g [.ref (g.2.2.1 11), .int a0] ((J, L, I, P, E, N), sgX g ++ dy) sz) (va_Qi (fun (r : Int32) (u : (Nat → Nat → Int32)) => ((r.toInt = 1) ∨ (r.toInt = 0))) (fun u t => at_ g (FR g ((J, L, I, P, E, N), sgX g ++ dy) sz) (((hv J [44] [(11, 3), (11, 4)] u), L, I, P, E, N), sgX g ++ dy) t) (FR g ((J, L, I, P, E, N), sgX g ++ dy) sz)) 0 0 (FR g ((J, L, I, P, E, N), sgX g ++ dy) sz)
abbrev PPRO (d : Nat) : Prop := ∀ (l : Launch) (g : gG) (J : Nat → Nat → Int32) (L : Nat → Nat → Int64) (I : Nat → Nat → Nat → Int32) (P : Nat → Nat → Nat → Option Nat) (E : Nat → Option Nat) (N : Nat → Nat) (dy : List (Nat × Nat)) (sz : Nat) (a0 : Int32) (hd : a0.toInt = 5 - (d : Int)) (hd5 : (d : Int) ≤ 5), Met l yX10_parseProduct (WS yX10_parseProduct cX10_parseProduct 4 (some .boolean)) (RM (4 * d + 5) 0 0) (PC g [.ref (g.2.2.1 11), .int a0] ((J, L, I, P, E, N), sgX g ++ dy) sz) (va_Qi (fun (r : Int32) (u : (Nat → Nat → Int32)) => ((r.toInt = 1) ∨ (r.toInt = 0))) (fun u t => at_ g (FR g ((J, L, I, P, E, N), sgX g ++ dy) sz) (((hv J [44] [(11, 3), (11, 4)] u), L, I, P, E, N), sgX g ++ dy) t) (FR g ((J, L, I, P, E, N), sgX g ++ dy) sz)) 0 0 (FR g ((J, L, I, P, E, N), sgX g ++ dy) sz)
abbrev PUNIT (d : Nat) : Prop := ∀ (l : Launch) (g : gG) (J : Nat → Nat → Int32) (L : Nat → Nat → Int64) (I : Nat → Nat → Nat → Int32) (P : Nat → Nat → Nat → Option Nat) (E : Nat → Option Nat) (N : Nat → Nat) (dy : List (Nat × Nat)) (sz : Nat) (a0 : Int32) (hd : a0.toInt = 5 - (d : Int)) (hd5 : (d : Int) ≤ 5), Met l yX10_parseUnit (WS yX10_parseUnit cX10_parseUnit 3 (some .boolean)) (RM (4 * d + 4) 0 0) (PC g [.ref (g.2.2.1 11), .int a0] ((J, L, I, P, E, N), sgX g ++ dy) sz) (va_Qi (fun (r : Int32) (u : (Nat → Nat → Int32)) => ((r.toInt = 1) ∨ (r.toInt = 0))) (fun u t => at_ g (FR g ((J, L, I, P, E, N), sgX g ++ dy) sz) (((hv J [44] [(11, 3), (11, 4)] u), L, I, P, E, N), sgX g ++ dy) t) (FR g ((J, L, I, P, E, N), sgX g ++ dy) sz)) 0 0 (FR g ((J, L, I, P, E, N), sgX g ++ dy) sz)
set_option maxHeartbeats 4000000 in
set_option maxRecDepth 100000 in
theorem c_X11_sumOf (l : Launch) (g : gG) (J : Nat → Nat → Int32) (L : Nat → Nat → Int64) (I : Nat → Nat → Nat → Int32) (P : Nat → Nat → Nat → Option Nat) (E : Nat → Option Nat) (N : Nat → Nat) (dy : List (Nat × Nat)) (sz : Nat) (a0 : Int32) (a1 : Nat) (hma1 : (9, a1) ∈ dy) (a2 : Int32) (a3 : Int32) (hwf : WXF g J P E N dy) (ha3 : a3.toInt ≤ 2147483646) : Met l yX11_sumOf (WS yX11_sumOf cX11_sumOf 9 (some .long)) (RM (7) 0 0) (PC g [.ref (g.2.2.1 12), .int a0, .ref a1, .int a2, .int a3] ((J, L, I, P, E, N), sgX g ++ dy) sz) (va_Ql (fun (r : Int64) (u : (Nat → Nat → Int32) × (Nat → Nat → Nat → Int32)) => True) (fun u t => at_ g (FR g ((J, L, I, P, E, N), sgX g ++ dy) sz) (((hv J [45] [(4, 6), (4, 7), (8, 1), (8, 2), (8, 3), (8, 4), (8, 5), (8, 6), (8, 7), (8, 8), (8, 9)] u.1), L, (hv I [] [(6, 6), (6, 7)] u.2), P, E, N), sgX g ++ dy) t) (FR g ((J, L, I, P, E, N), sgX g ++ dy) sz)) 0 0 (FR g ((J, L, I, P, E, N), sgX g ++ dy) sz) := by
  refine ent (by decide +kernel) (Nat.le_of_ble_eq_true rfl) ?_
  intro p e s m below meth c ls hsz C hW hr hlocks hname hl
  generalize FR g ((J, L, I, P, E, N), sgX g ++ dy) sz = A at C hW ⊢
  have hx := C.1.1
  have hb := C.1.2.1
  have hts := C.1.2.2.2.2
  have hl : lv_has ls 9 [(0, .ref (g.2.2.1 12)), (1, .int a0), (2, .ref a1), (3, .int a2), (4, .int a3)] := hl
  obtain ⟨H, hH⟩ : ∃ H : Heap, H = s.heap := ⟨_, rfl⟩
  obtain ⟨locs, hlocs⟩ : ∃ q : List Loc, q = [] := ⟨_, rfl⟩
  have hW : WB g A s.heap H locs (J, L, I, P, E, N) (sgX g ++ dy) := by rw [hH, hlocs]; exact hW
  refine start_ hH hlocs ?_
  refine lv_aload_n hx hb dX11_sumOf_0 rfl (lv_at hl 0 rfl) ?_
  refine lv_iload_n hx hb dX11_sumOf_1 rfl (lv_at hl 1 rfl) ?_
  refine lv_iload_n hx hb dX11_sumOf_2 rfl (lv_at hl 3 rfl) ?_
  refine cq_ C hW (runV (x := (g.2.2.1 12)) (As := [.int a0, .int a2]) (rest := []) (T := ((J, L, I, P, E, N), sgX g ++ dy)) C hW (c_X11_inForce l g J L I P E N dy H.size a0 a2 hwf) mi_X11_inForce tw_658 (recv_ (T := ((J, L, I, P, E, N), sgX g ++ dy)) C hW (mx_ rfl) rfl rfl) ⟨rfl, rfl, Nat.le_of_ble_eq_true rfl, Nat.le_of_ble_eq_true rfl⟩ rfl hl.1 rfl (Nat.le_of_ble_eq_true rfl) dX11_sumOf_3 ⟨Nat.le_of_ble_eq_true rfl, Nat.le_of_ble_eq_true rfl⟩) (fun q1 u1 H locs hp1 hW => ?_)
  have hq1 : (q1 = none ∨ (∃ o9 : Nat, q1 = some o9 ∧ (10, o9) ∈ dy)) := hp1
  clear hp1
  have hW : WB g A s.heap H locs (J, L, I, P, E, N) (sgX g ++ dy) := hW
  rcases hq1 with ho1 | ⟨o1, ho1, hm1⟩ <;> subst ho1
  · refine lv_asv (v' := .null) rfl ?_
    refine lv_astoreN (lv' := [(5, .null), (0, .ref (g.2.2.1 12)), (1, .int a0), (2, .ref a1), (3, .int a2), (4, .int a3)]) hx hb dX11_sumOf_6 hl (by decide) rfl (fun ls hl => ?_)
    refine lv_aloadN hx hb dX11_sumOf_8 (lv_at hl 0 rfl) ?_
    refine lv_ifnonnullN hx hb dX11_sumOf_10 ?_
    refine lv_lconst (v := 0) hx hb dX11_sumOf_13 (by decide) ?_
    have hWr : WB g A s.heap H locs ((hv J [45] [(4, 6), (4, 7), (8, 1), (8, 2), (8, 3), (8, 4), (8, 5), (8, 6), (8, 7), (8, 8), (8, 9)] J), L, (hv I [] [(6, 6), (6, 7)] I), P, E, N) (sgX g ++ dy) := by
      rw [← ag_hvE (J := J) (R := [45]) (F := [(4, 6), (4, 7), (8, 1), (8, 2), (8, 3), (8, 4), (8, 5), (8, 6), (8, 7), (8, 8), (8, 9)]) ag_rf]
      rw [← ag_hvE (J := I) (R := []) (F := [(6, 6), (6, 7)]) ag_rf]
      exact hW
    exact end_l C hr hlocks (J, I) hWr trivial dX11_sumOf_14
  · refine lv_asv (v' := .ref o1) rfl ?_
    refine lv_astore (lv' := [(5, .ref o1), (0, .ref (g.2.2.1 12)), (1, .int a0), (2, .ref a1), (3, .int a2), (4, .int a3)]) hx hb dX11_sumOf_6 hl (by decide) rfl (fun ls hl => ?_)
    refine lv_aload hx hb dX11_sumOf_8 (lv_at hl 0 rfl) ?_
    refine lv_ifnonnull (tgt := 15) hx hb dX11_sumOf_10 (by decide) ?_
    refine lv_aload hx hb dX11_sumOf_15 (lv_at hl 0 rfl) ?_
    refine rg_10_4 C hW (List.mem_append_right _ hm1) tw_809 dX11_sumOf_17 ?_
    refine lv_topi (fun x2 (e2 : x2 = I 10 4 o1) => ?_)
    have t2 : x2.toInt = (I 10 4 o1).toInt := by rw [e2]
    refine lv_if_ne (tgt := 41) hx hb dX11_sumOf_20 (by decide) (fun c3 => ?_) (fun c3 => ?_)
    · have c3 : ¬ x2.toInt = 0 := tne rfl kp0 c3
      refine lv_lconst (v := 0) hx hb dX11_sumOf_41 (by decide) ?_
      refine lv_lstore (lv' := [(6, .long (0 : Int64)), (5, .ref o1), (0, .ref (g.2.2.1 12)), (1, .int a0), (2, .ref a1), (3, .int a2), (4, .int a3)]) hx hb dX11_sumOf_42 hl (by decide) rfl (fun ls hl => ?_)
      refine lv_iload_n hx hb dX11_sumOf_44 rfl (lv_at hl 5 rfl) ?_
      refine lv_istore (lv' := [(8, .int a2), (6, .long (0 : Int64)), (5, .ref o1), (0, .ref (g.2.2.1 12)), (1, .int a0), (2, .ref a1), (3, .int a2), (4, .int a3)]) hx hb dX11_sumOf_45 hl (by decide) rfl (fun ls hl => ?_)
      have loop47 : ∀ (n : Nat) (m6 : Int64) (m8 : Int32) (Gl4 : Nat → Nat → Int32) (Kl5 : Nat → Nat → Nat → Int32) (H : Heap) (locs : List Loc) (ls : Array Slot), (2147483647 - m8.toInt).toNat < n → WB g A s.heap H locs ((hv J [45] [(4, 6), (4, 7), (8, 1), (8, 2), (8, 3), (8, 4), (8, 5), (8, 6), (8, 7), (8, 8), (8, 9)] Gl4), L, (hv I [] [(6, 6), (6, 7)] Kl5), P, E, N) (sgX g ++ dy) → lv_has ls 9 [(8, .int m8), (6, .long m6), (5, .ref o1), (0, .ref (g.2.2.1 12)), (1, .int a0), (2, .ref a1), (3, .int a2), (4, .int a3)] → W p l e (RM (7) 0 0) s m ([.ref (g.2.2.1 12), .int a0, .ref a1, .int a2, .int a3] : List Value).toArray below meth c H locs 0 0 (MQ below (va_Ql (fun (r : Int64) (u : (Nat → Nat → Int32) × (Nat → Nat → Nat → Int32)) => True) (fun u t => at_ g A (((hv J [45] [(4, 6), (4, 7), (8, 1), (8, 2), (8, 3), (8, 4), (8, 5), (8, 6), (8, 7), (8, 8), (8, 9)] u.1), L, (hv I [] [(6, 6), (6, 7)] u.2), P, E, N), sgX g ++ dy) t) A) ([.ref (g.2.2.1 12), .int a0, .ref a1, .int a2, .int a3] : List Value).toArray s 0 0 A) (F0 m 47 ls []) := by
        intro n
        induction n with
        | zero => intro m6 m8 Gl4 Kl5 H locs ls hmeas; exact absurd hmeas (Nat.not_lt_zero _)
        | succ n ih =>
          intro m6 m8 Gl4 Kl5 H locs ls hmeas  hW hl
          have hr8 := i32r m8
          refine lv_iload hx hb dX11_sumOf_47 (lv_at hl 0 rfl) ?_
          refine lv_iload hx hb dX11_sumOf_49 (lv_at hl 7 rfl) ?_
          refine lv_icmp_gt (tgt := 75) hx hb dX11_sumOf_51 (by decide) (fun c6 => ?_) (fun c6 => ?_)
          · have c6 : a3.toInt < m8.toInt := tlt rfl rfl c6
            refine lv_lload hx hb dX11_sumOf_75 (lv_at hl 1 rfl) ?_
            have hWr : WB g A s.heap H locs ((hv J [45] [(4, 6), (4, 7), (8, 1), (8, 2), (8, 3), (8, 4), (8, 5), (8, 6), (8, 7), (8, 8), (8, 9)] (hv J [45] [(4, 6), (4, 7), (8, 1), (8, 2), (8, 3), (8, 4), (8, 5), (8, 6), (8, 7), (8, 8), (8, 9)] Gl4)), L, (hv I [] [(6, 6), (6, 7)] (hv I [] [(6, 6), (6, 7)] Kl5)), P, E, N) (sgX g ++ dy) := by
              rw [← ag_hvE (J := J) (R := [45]) (F := [(4, 6), (4, 7), (8, 1), (8, 2), (8, 3), (8, 4), (8, 5), (8, 6), (8, 7), (8, 8), (8, 9)]) (ag_hv rfl rfl ag_rf)]
              rw [← ag_hvE (J := I) (R := []) (F := [(6, 6), (6, 7)]) (ag_hv rfl rfl ag_rf)]
              exact hW
            exact end_l C hr hlocks ((hv J [45] [(4, 6), (4, 7), (8, 1), (8, 2), (8, 3), (8, 4), (8, 5), (8, 6), (8, 7), (8, 8), (8, 9)] Gl4), (hv I [] [(6, 6), (6, 7)] Kl5)) hWr trivial dX11_sumOf_77
          · have c6 : m8.toInt ≤ a3.toInt := tnlt rfl rfl c6
            refine lv_lload hx hb dX11_sumOf_54 (lv_at hl 1 rfl) ?_
            refine lv_aload_n hx hb dX11_sumOf_56 rfl (lv_at hl 3 rfl) ?_
            refine lv_aload hx hb dX11_sumOf_57 (lv_at hl 2 rfl) ?_
            refine lv_aload_n hx hb dX11_sumOf_59 rfl (lv_at hl 5 rfl) ?_
            refine lv_iload hx hb dX11_sumOf_60 (lv_at hl 0 rfl) ?_
            refine ci_ C hW (runV (x := (g.2.2.1 12)) (As := [.ref o1, .ref a1, .int m8]) (rest := [.long m6]) (T := (((hv J [45] [(4, 6), (4, 7), (8, 1), (8, 2), (8, 3), (8, 4), (8, 5), (8, 6), (8, 7), (8, 8), (8, 9)] Gl4), L, (hv I [] [(6, 6), (6, 7)] Kl5), P, E, N), sgX g ++ dy)) C hW (c_X11_valueOf l g (hv J [45] [(4, 6), (4, 7), (8, 1), (8, 2), (8, 3), (8, 4), (8, 5), (8, 6), (8, 7), (8, 8), (8, 9)] Gl4) L (hv I [] [(6, 6), (6, 7)] Kl5) P E N dy H.size o1 hm1 a1 hma1 m8 hwf) mi_X11_valueOf tw_830 (recv_ (T := (((hv J [45] [(4, 6), (4, 7), (8, 1), (8, 2), (8, 3), (8, 4), (8, 5), (8, 6), (8, 7), (8, 8), (8, 9)] Gl4), L, (hv I [] [(6, 6), (6, 7)] Kl5), P, E, N), sgX g ++ dy)) C hW (mx_ rfl) rfl rfl) ⟨rfl, rfl, Nat.le_of_ble_eq_true rfl, Nat.le_of_ble_eq_true rfl⟩ rfl hl.1 rfl (Nat.le_of_ble_eq_true rfl) dX11_sumOf_62 ⟨Nat.le_of_ble_eq_true rfl, Nat.le_of_ble_eq_true rfl⟩) (fun r7 u7 H locs hp7 hW => ?_)
            have hW : WB g A s.heap H locs ((hv (hv J [45] [(4, 6), (4, 7), (8, 1), (8, 2), (8, 3), (8, 4), (8, 5), (8, 6), (8, 7), (8, 8), (8, 9)] Gl4) [45] [(4, 6), (4, 7), (8, 1), (8, 2), (8, 3), (8, 4), (8, 5), (8, 6), (8, 7), (8, 8), (8, 9)] u7.1), L, (hv (hv I [] [(6, 6), (6, 7)] Kl5) [] [(6, 6), (6, 7)] u7.2), P, E, N) (sgX g ++ dy) := hW
            refine lv_i2l (v := r7.toInt64) hx hb dX11_sumOf_65 rfl ?_
            refine lv_ladd hx hb dX11_sumOf_66 ?_
            refine lv_topl (fun z8 ez8 => ?_)
            refine lv_lstore (lv' := [(6, .long z8), (8, .int m8), (5, .ref o1), (0, .ref (g.2.2.1 12)), (1, .int a0), (2, .ref a1), (3, .int a2), (4, .int a3)]) hx hb dX11_sumOf_67 hl (by decide) rfl (fun ls hl => ?_)
            obtain ⟨x9, e9⟩ : ∃ y : Int32, y = m8 + 1 := ⟨_, rfl⟩
            refine lv_iinc (v := x9) (lv' := [(8, .int x9), (6, .long z8), (5, .ref o1), (0, .ref (g.2.2.1 12)), (1, .int a0), (2, .ref a1), (3, .int a2), (4, .int a3)]) hx hb dX11_sumOf_69 hl (k := 1) rfl (by rw [e9]; rfl) (by decide) rfl (fun ls hl => ?_)
            try have t9 : x9.toInt = m8.toInt + 1 := tadd e9 rfl kp1 (by omega)
            refine lv_goto (tgt := 47) hx hb dX11_sumOf_72 (by decide) ?_
            have hWl : WB g A s.heap H locs ((hv J [45] [(4, 6), (4, 7), (8, 1), (8, 2), (8, 3), (8, 4), (8, 5), (8, 6), (8, 7), (8, 8), (8, 9)] (hv (hv J [45] [(4, 6), (4, 7), (8, 1), (8, 2), (8, 3), (8, 4), (8, 5), (8, 6), (8, 7), (8, 8), (8, 9)] Gl4) [45] [(4, 6), (4, 7), (8, 1), (8, 2), (8, 3), (8, 4), (8, 5), (8, 6), (8, 7), (8, 8), (8, 9)] u7.1)), L, (hv I [] [(6, 6), (6, 7)] (hv (hv I [] [(6, 6), (6, 7)] Kl5) [] [(6, 6), (6, 7)] u7.2)), P, E, N) (sgX g ++ dy) := by
              rw [← ag_hvE (J := J) (R := [45]) (F := [(4, 6), (4, 7), (8, 1), (8, 2), (8, 3), (8, 4), (8, 5), (8, 6), (8, 7), (8, 8), (8, 9)]) (ag_hv rfl rfl (ag_hv rfl rfl ag_rf))]
              rw [← ag_hvE (J := I) (R := []) (F := [(6, 6), (6, 7)]) (ag_hv rfl rfl (ag_hv rfl rfl ag_rf))]
              exact hW
            refine ih z8 x9 (hv (hv J [45] [(4, 6), (4, 7), (8, 1), (8, 2), (8, 3), (8, 4), (8, 5), (8, 6), (8, 7), (8, 8), (8, 9)] Gl4) [45] [(4, 6), (4, 7), (8, 1), (8, 2), (8, 3), (8, 4), (8, 5), (8, 6), (8, 7), (8, 8), (8, 9)] u7.1) (hv (hv I [] [(6, 6), (6, 7)] Kl5) [] [(6, 6), (6, 7)] u7.2) H locs ls ?_  hWl (lv_sub hl [0, 1, 2, 3, 4, 5, 6, 7] rfl)
            · show (2147483647 - x9.toInt).toNat < n
              omega
      -- into the loop
      have hWl : WB g A s.heap H locs ((hv J [45] [(4, 6), (4, 7), (8, 1), (8, 2), (8, 3), (8, 4), (8, 5), (8, 6), (8, 7), (8, 8), (8, 9)] J), L, (hv I [] [(6, 6), (6, 7)] I), P, E, N) (sgX g ++ dy) := by
        rw [← ag_hvE (J := J) (R := [45]) (F := [(4, 6), (4, 7), (8, 1), (8, 2), (8, 3), (8, 4), (8, 5), (8, 6), (8, 7), (8, 8), (8, 9)]) ag_rf]
        rw [← ag_hvE (J := I) (R := []) (F := [(6, 6), (6, 7)]) ag_rf]
        exact hW
      refine loop47 ((2147483647 - a2.toInt).toNat + 1) (0 : Int64) a2 J I H locs ls ?_  hWl (lv_sub hl [0, 1, 2, 3, 4, 5, 6, 7] rfl)
      · exact Nat.lt_succ_self _
    · have c3 : x2.toInt = 0 := teq rfl kp0 c3
      refine lv_aload_n hx hb dX11_sumOf_23 rfl (lv_at hl 1 rfl) ?_
      refine lv_aload hx hb dX11_sumOf_24 (lv_at hl 0 rfl) ?_
      refine lv_aload_n hx hb dX11_sumOf_26 rfl (lv_at hl 3 rfl) ?_
      refine lv_iload_n hx hb dX11_sumOf_27 rfl (lv_at hl 4 rfl) ?_
      refine ci_ C hW (runV (x := (g.2.2.1 12)) (As := [.ref o1, .ref a1, .int a2]) (rest := []) (T := ((J, L, I, P, E, N), sgX g ++ dy)) C hW (c_X11_valueOf l g J L I P E N dy H.size o1 hm1 a1 hma1 a2 hwf) mi_X11_valueOf tw_830 (recv_ (T := ((J, L, I, P, E, N), sgX g ++ dy)) C hW (mx_ rfl) rfl rfl) ⟨rfl, rfl, Nat.le_of_ble_eq_true rfl, Nat.le_of_ble_eq_true rfl⟩ rfl hl.1 rfl (Nat.le_of_ble_eq_true rfl) dX11_sumOf_28 ⟨Nat.le_of_ble_eq_true rfl, Nat.le_of_ble_eq_true rfl⟩) (fun r10 u10 H locs hp10 hW => ?_)
      have hW : WB g A s.heap H locs ((hv J [45] [(4, 6), (4, 7), (8, 1), (8, 2), (8, 3), (8, 4), (8, 5), (8, 6), (8, 7), (8, 8), (8, 9)] u10.1), L, (hv I [] [(6, 6), (6, 7)] u10.2), P, E, N) (sgX g ++ dy) := hW
      refine lv_i2l (v := r10.toInt64) hx hb dX11_sumOf_31 rfl ?_
      refine lv_iload hx hb dX11_sumOf_32 (lv_at hl 5 rfl) ?_
      refine lv_iload_n hx hb dX11_sumOf_34 rfl (lv_at hl 4 rfl) ?_
      refine lv_isub hx hb dX11_sumOf_35 ?_
      refine lv_topi (fun x11 (e11 : x11 = a3 - a2) => ?_)
      refine lv_iconst (v := 1) hx hb dX11_sumOf_36 (by decide) ?_
      refine lv_iadd hx hb dX11_sumOf_37 ?_
      refine lv_topi (fun x12 (e12 : x12 = x11 + 1) => ?_)
      refine lv_i2l (v := x12.toInt64) hx hb dX11_sumOf_38 rfl ?_
      refine lv_lmul hx hb dX11_sumOf_39 ?_
      refine lv_topl (fun z13 ez13 => ?_)
      have hWr : WB g A s.heap H locs ((hv J [45] [(4, 6), (4, 7), (8, 1), (8, 2), (8, 3), (8, 4), (8, 5), (8, 6), (8, 7), (8, 8), (8, 9)] (hv J [45] [(4, 6), (4, 7), (8, 1), (8, 2), (8, 3), (8, 4), (8, 5), (8, 6), (8, 7), (8, 8), (8, 9)] u10.1)), L, (hv I [] [(6, 6), (6, 7)] (hv I [] [(6, 6), (6, 7)] u10.2)), P, E, N) (sgX g ++ dy) := by
        rw [← ag_hvE (J := J) (R := [45]) (F := [(4, 6), (4, 7), (8, 1), (8, 2), (8, 3), (8, 4), (8, 5), (8, 6), (8, 7), (8, 8), (8, 9)]) (ag_hv rfl rfl ag_rf)]
        rw [← ag_hvE (J := I) (R := []) (F := [(6, 6), (6, 7)]) (ag_hv rfl rfl ag_rf)]
        exact hW
      exact end_l C hr hlocks ((hv J [45] [(4, 6), (4, 7), (8, 1), (8, 2), (8, 3), (8, 4), (8, 5), (8, 6), (8, 7), (8, 8), (8, 9)] u10.1), (hv I [] [(6, 6), (6, 7)] u10.2)) hWr trivial dX11_sumOf_40

set_option maxHeartbeats 4000000 in
set_option maxRecDepth 100000 in
theorem c_X11_account (l : Launch) (g : gG) (J : Nat → Nat → Int32) (L : Nat → Nat → Int64) (I : Nat → Nat → Nat → Int32) (P : Nat → Nat → Nat → Option Nat) (E : Nat → Option Nat) (N : Nat → Nat) (dy : List (Nat × Nat)) (sz : Nat) (a0 : Int32) (a1 : Int32) (hwf : WXF g J P E N dy) : Met l yX11_account (WS yX11_account cX11_account 9 (some .long)) (RM (8) 0 0) (PC g [.ref (g.2.2.1 12), .int a0, .int a1] ((J, L, I, P, E, N), sgX g ++ dy) sz) (va_Ql (fun (r : Int64) (u : (Nat → Nat → Int32) × (Nat → Nat → Nat → Int32)) => True) (fun u t => at_ g (FR g ((J, L, I, P, E, N), sgX g ++ dy) sz) (((hv J [42, 45] [(4, 6), (4, 7), (8, 1), (8, 2), (8, 3), (8, 4), (8, 5), (8, 6), (8, 7), (8, 8), (8, 9)] u.1), L, (hv I [] [(6, 6), (6, 7)] u.2), P, E, N), sgX g ++ dy) t) (FR g ((J, L, I, P, E, N), sgX g ++ dy) sz)) 0 0 (FR g ((J, L, I, P, E, N), sgX g ++ dy) sz) := by
  refine ent (by decide +kernel) (Nat.le_of_ble_eq_true rfl) ?_
  intro p e s m below meth c ls hsz C hW hr hlocks hname hl
  generalize FR g ((J, L, I, P, E, N), sgX g ++ dy) sz = A at C hW ⊢
  have hx := C.1.1
  have hb := C.1.2.1
  have hts := C.1.2.2.2.2
  have hl : lv_has ls 9 [(0, .ref (g.2.2.1 12)), (1, .int a0), (2, .int a1)] := hl
  obtain ⟨H, hH⟩ : ∃ H : Heap, H = s.heap := ⟨_, rfl⟩
  obtain ⟨locs, hlocs⟩ : ∃ q : List Loc, q = [] := ⟨_, rfl⟩
  have hW : WB g A s.heap H locs (J, L, I, P, E, N) (sgX g ++ dy) := by rw [hH, hlocs]; exact hW
  have hrn := i32r (J 3 1)
  refine start_ hH hlocs ?_
  refine lv_iload_n hx hb dX11_account_0 rfl (lv_at hl 1 rfl) ?_
  refine lv_if_lt (tgt := 20) hx hb dX11_account_1 (by decide) (fun c1 => ?_) (fun c1 => ?_)
  · have c1 : a0.toInt < 0 := tlt rfl kp0 c1
    refine lv_ldc2 hx hb C.1.2.2.2.1 (hts _ tw_838) dX11_account_20 ?_
    refine lv_aload_n hx hb dX11_account_23 rfl (lv_at hl 0 rfl) ?_
    refine lv_iconst (v := (-1)) hx hb dX11_account_24 (by decide) ?_
    refine ci_ C hW (runV (x := (g.2.2.1 12)) (As := [.int (-1)]) (rest := [.long (4000000000000000000 : Int64)]) (T := ((J, L, I, P, E, N), sgX g ++ dy)) C hW (c_X11_refuse l g J L I P E N dy H.size (-1) hwf) mi_X11_refuse tw_411 (recv_ (T := ((J, L, I, P, E, N), sgX g ++ dy)) C hW (mx_ rfl) rfl rfl) ⟨rfl, rfl, Nat.le_of_ble_eq_true rfl, Nat.le_of_ble_eq_true rfl⟩ rfl hl.1 rfl (Nat.le_of_ble_eq_true rfl) dX11_account_25 ⟨Nat.le_of_ble_eq_true rfl, Nat.le_of_ble_eq_true rfl⟩) (fun r2 u2 H locs hp2 hW => ?_)
    have hc2 : ((r2 = (-1))) := hp2
    clear hp2
    have hr2 : r2.toInt = (-1) := by rw [hc2]; exact kn1
    have hW : WB g A s.heap H locs ((hv J [42] [] u2), L, I, P, E, N) (sgX g ++ dy) := hW
    refine lv_i2l (v := r2.toInt64) hx hb dX11_account_28 rfl ?_
    refine lv_lsub hx hb dX11_account_29 ?_
    refine lv_topl (fun z3 ez3 => ?_)
    have hWr : WB g A s.heap H locs ((hv J [42, 45] [(4, 6), (4, 7), (8, 1), (8, 2), (8, 3), (8, 4), (8, 5), (8, 6), (8, 7), (8, 8), (8, 9)] (hv J [42] [] u2)), L, (hv I [] [(6, 6), (6, 7)] I), P, E, N) (sgX g ++ dy) := by
      rw [← ag_hvE (J := J) (R := [42, 45]) (F := [(4, 6), (4, 7), (8, 1), (8, 2), (8, 3), (8, 4), (8, 5), (8, 6), (8, 7), (8, 8), (8, 9)]) (ag_hv rfl rfl ag_rf)]
      rw [← ag_hvE (J := I) (R := []) (F := [(6, 6), (6, 7)]) ag_rf]
      exact hW
    exact end_l C hr hlocks ((hv J [42] [] u2), I) hWr trivial dX11_account_30
  · have c1 : 0 ≤ a0.toInt := tnlt rfl kp0 c1
    refine lv_iload_n hx hb dX11_account_4 rfl (lv_at hl 2 rfl) ?_
    refine lv_aload_n hx hb dX11_account_5 rfl (lv_at hl 0 rfl) ?_
    refine rg_12_1 C hW (mx_ rfl) tw_365 dX11_account_6 ?_
    refine rg_3_1 C hW (mx_ rfl) tw_278 dX11_account_9 ?_
    refine lv_icmp_ge (tgt := 20) hx hb dX11_account_12 (by decide) (fun c4 => ?_) (fun c4 => ?_)
    · have c4 : (J 3 1).toInt ≤ a1.toInt := tle rfl rfl c4
      refine lv_ldc2 hx hb C.1.2.2.2.1 (hts _ tw_838) dX11_account_20 ?_
      refine lv_aload_n hx hb dX11_account_23 rfl (lv_at hl 0 rfl) ?_
      refine lv_iconst (v := (-1)) hx hb dX11_account_24 (by decide) ?_
      refine ci_ C hW (runV (x := (g.2.2.1 12)) (As := [.int (-1)]) (rest := [.long (4000000000000000000 : Int64)]) (T := ((J, L, I, P, E, N), sgX g ++ dy)) C hW (c_X11_refuse l g J L I P E N dy H.size (-1) hwf) mi_X11_refuse tw_411 (recv_ (T := ((J, L, I, P, E, N), sgX g ++ dy)) C hW (mx_ rfl) rfl rfl) ⟨rfl, rfl, Nat.le_of_ble_eq_true rfl, Nat.le_of_ble_eq_true rfl⟩ rfl hl.1 rfl (Nat.le_of_ble_eq_true rfl) dX11_account_25 ⟨Nat.le_of_ble_eq_true rfl, Nat.le_of_ble_eq_true rfl⟩) (fun r5 u5 H locs hp5 hW => ?_)
      have hc5 : ((r5 = (-1))) := hp5
      clear hp5
      have hr5 : r5.toInt = (-1) := by rw [hc5]; exact kn1
      have hW : WB g A s.heap H locs ((hv J [42] [] u5), L, I, P, E, N) (sgX g ++ dy) := hW
      refine lv_i2l (v := r5.toInt64) hx hb dX11_account_28 rfl ?_
      refine lv_lsub hx hb dX11_account_29 ?_
      refine lv_topl (fun z6 ez6 => ?_)
      have hWr : WB g A s.heap H locs ((hv J [42, 45] [(4, 6), (4, 7), (8, 1), (8, 2), (8, 3), (8, 4), (8, 5), (8, 6), (8, 7), (8, 8), (8, 9)] (hv J [42] [] u5)), L, (hv I [] [(6, 6), (6, 7)] I), P, E, N) (sgX g ++ dy) := by
        rw [← ag_hvE (J := J) (R := [42, 45]) (F := [(4, 6), (4, 7), (8, 1), (8, 2), (8, 3), (8, 4), (8, 5), (8, 6), (8, 7), (8, 8), (8, 9)]) (ag_hv rfl rfl ag_rf)]
        rw [← ag_hvE (J := I) (R := []) (F := [(6, 6), (6, 7)]) ag_rf]
        exact hW
      exact end_l C hr hlocks ((hv J [42] [] u5), I) hWr trivial dX11_account_30
    · have c4 : a1.toInt < (J 3 1).toInt := tnle rfl rfl c4
      refine lv_iload_n hx hb dX11_account_15 rfl (lv_at hl 2 rfl) ?_
      refine lv_iload_n hx hb dX11_account_16 rfl (lv_at hl 1 rfl) ?_
      refine lv_icmp_ge (tgt := 31) hx hb dX11_account_17 (by decide) (fun c7 => ?_) (fun c7 => ?_)
      · have c7 : a0.toInt ≤ a1.toInt := tle rfl rfl c7
        refine lv_lconst (v := 0) hx hb dX11_account_31 (by decide) ?_
        refine lv_lstore_n (lv' := [(3, .long (0 : Int64)), (0, .ref (g.2.2.1 12)), (1, .int a0), (2, .int a1)]) hx hb dX11_account_32 rfl hl (by decide) rfl (fun ls hl => ?_)
        refine lv_iload_n hx hb dX11_account_33 rfl (lv_at hl 2 rfl) ?_
        refine lv_istore (lv' := [(5, .int a0), (3, .long (0 : Int64)), (0, .ref (g.2.2.1 12)), (1, .int a0), (2, .int a1)]) hx hb dX11_account_34 hl (by decide) rfl (fun ls hl => ?_)
        refine lv_iconst (v := 0) hx hb dX11_account_36 (by decide) ?_
        refine lv_istore (lv' := [(6, .int 0), (5, .int a0), (3, .long (0 : Int64)), (0, .ref (g.2.2.1 12)), (1, .int a0), (2, .int a1)]) hx hb dX11_account_37 hl (by decide) rfl (fun ls hl => ?_)
        have loop39 : ∀ (n : Nat) (m3 : Int64) (m5 : Int32) (m6 : Int32) (Gl8 : Nat → Nat → Int32) (Kl9 : Nat → Nat → Nat → Int32) (H : Heap) (locs : List Loc) (ls : Array Slot), (10000 - m6.toInt).toNat < n → 0 ≤ m6.toInt → WB g A s.heap H locs ((hv J [42, 45] [(4, 6), (4, 7), (8, 1), (8, 2), (8, 3), (8, 4), (8, 5), (8, 6), (8, 7), (8, 8), (8, 9)] Gl8), L, (hv I [] [(6, 6), (6, 7)] Kl9), P, E, N) (sgX g ++ dy) → lv_has ls 9 [(6, .int m6), (5, .int m5), (3, .long m3), (0, .ref (g.2.2.1 12)), (1, .int a0), (2, .int a1)] → W p l e (RM (8) 0 0) s m ([.ref (g.2.2.1 12), .int a0, .int a1] : List Value).toArray below meth c H locs 0 0 (MQ below (va_Ql (fun (r : Int64) (u : (Nat → Nat → Int32) × (Nat → Nat → Nat → Int32)) => True) (fun u t => at_ g A (((hv J [42, 45] [(4, 6), (4, 7), (8, 1), (8, 2), (8, 3), (8, 4), (8, 5), (8, 6), (8, 7), (8, 8), (8, 9)] u.1), L, (hv I [] [(6, 6), (6, 7)] u.2), P, E, N), sgX g ++ dy) t) A) ([.ref (g.2.2.1 12), .int a0, .int a1] : List Value).toArray s 0 0 A) (F0 m 39 ls []) := by
          intro n
          induction n with
          | zero => intro m3 m5 m6 Gl8 Kl9 H locs ls hmeas; exact absurd hmeas (Nat.not_lt_zero _)
          | succ n ih =>
            intro m3 m5 m6 Gl8 Kl9 H locs ls hmeas hi hW hl
            refine lv_iload hx hb dX11_account_39 (lv_at hl 0 rfl) ?_
            refine lv_sipush (v := 9999) hx hb dX11_account_41 (by decide) ?_
            refine lv_icmp_gt (tgt := 124) hx hb dX11_account_44 (by decide) (fun c10 => ?_) (fun c10 => ?_)
            · have c10 : 9999 < m6.toInt := tlt kp9999 rfl c10
              refine lv_lload_n hx hb dX11_account_124 rfl (lv_at hl 2 rfl) ?_
              have hWr : WB g A s.heap H locs ((hv J [42, 45] [(4, 6), (4, 7), (8, 1), (8, 2), (8, 3), (8, 4), (8, 5), (8, 6), (8, 7), (8, 8), (8, 9)] (hv J [42, 45] [(4, 6), (4, 7), (8, 1), (8, 2), (8, 3), (8, 4), (8, 5), (8, 6), (8, 7), (8, 8), (8, 9)] Gl8)), L, (hv I [] [(6, 6), (6, 7)] (hv I [] [(6, 6), (6, 7)] Kl9)), P, E, N) (sgX g ++ dy) := by
                rw [← ag_hvE (J := J) (R := [42, 45]) (F := [(4, 6), (4, 7), (8, 1), (8, 2), (8, 3), (8, 4), (8, 5), (8, 6), (8, 7), (8, 8), (8, 9)]) (ag_hv rfl rfl ag_rf)]
                rw [← ag_hvE (J := I) (R := []) (F := [(6, 6), (6, 7)]) (ag_hv rfl rfl ag_rf)]
                exact hW
              exact end_l C hr hlocks ((hv J [42, 45] [(4, 6), (4, 7), (8, 1), (8, 2), (8, 3), (8, 4), (8, 5), (8, 6), (8, 7), (8, 8), (8, 9)] Gl8), (hv I [] [(6, 6), (6, 7)] Kl9)) hWr trivial dX11_account_125
            · have c10 : m6.toInt ≤ 9999 := tnlt kp9999 rfl c10
              refine lv_iload hx hb dX11_account_47 (lv_at hl 1 rfl) ?_
              refine lv_iload_n hx hb dX11_account_49 rfl (lv_at hl 5 rfl) ?_
              refine lv_icmp_gt (tgt := 124) hx hb dX11_account_50 (by decide) (fun c11 => ?_) (fun c11 => ?_)
              · have c11 : a1.toInt < m5.toInt := tlt rfl rfl c11
                refine lv_lload_n hx hb dX11_account_124 rfl (lv_at hl 2 rfl) ?_
                have hWr : WB g A s.heap H locs ((hv J [42, 45] [(4, 6), (4, 7), (8, 1), (8, 2), (8, 3), (8, 4), (8, 5), (8, 6), (8, 7), (8, 8), (8, 9)] (hv J [42, 45] [(4, 6), (4, 7), (8, 1), (8, 2), (8, 3), (8, 4), (8, 5), (8, 6), (8, 7), (8, 8), (8, 9)] Gl8)), L, (hv I [] [(6, 6), (6, 7)] (hv I [] [(6, 6), (6, 7)] Kl9)), P, E, N) (sgX g ++ dy) := by
                  rw [← ag_hvE (J := J) (R := [42, 45]) (F := [(4, 6), (4, 7), (8, 1), (8, 2), (8, 3), (8, 4), (8, 5), (8, 6), (8, 7), (8, 8), (8, 9)]) (ag_hv rfl rfl ag_rf)]
                  rw [← ag_hvE (J := I) (R := []) (F := [(6, 6), (6, 7)]) (ag_hv rfl rfl ag_rf)]
                  exact hW
                exact end_l C hr hlocks ((hv J [42, 45] [(4, 6), (4, 7), (8, 1), (8, 2), (8, 3), (8, 4), (8, 5), (8, 6), (8, 7), (8, 8), (8, 9)] Gl8), (hv I [] [(6, 6), (6, 7)] Kl9)) hWr trivial dX11_account_125
              · have c11 : m5.toInt ≤ a1.toInt := tnlt rfl rfl c11
                refine lv_aload_n hx hb dX11_account_53 rfl (lv_at hl 3 rfl) ?_
                refine rg_12_1 C hW (mx_ rfl) tw_365 dX11_account_54 ?_
                refine lv_iload hx hb dX11_account_57 (lv_at hl 1 rfl) ?_
                refine cq_ C hW (runV (x := (g.2.2.1 3)) (As := [.int m5]) (rest := []) (T := (((hv J [42, 45] [(4, 6), (4, 7), (8, 1), (8, 2), (8, 3), (8, 4), (8, 5), (8, 6), (8, 7), (8, 8), (8, 9)] Gl8), L, (hv I [] [(6, 6), (6, 7)] Kl9), P, E, N), sgX g ++ dy)) C hW (c_X2_spanOf l g (hv J [42, 45] [(4, 6), (4, 7), (8, 1), (8, 2), (8, 3), (8, 4), (8, 5), (8, 6), (8, 7), (8, 8), (8, 9)] Gl8) L (hv I [] [(6, 6), (6, 7)] Kl9) P E N dy H.size m5 hwf) mi_X2_spanOf tw_639 (recv_ (T := (((hv J [42, 45] [(4, 6), (4, 7), (8, 1), (8, 2), (8, 3), (8, 4), (8, 5), (8, 6), (8, 7), (8, 8), (8, 9)] Gl8), L, (hv I [] [(6, 6), (6, 7)] Kl9), P, E, N), sgX g ++ dy)) C hW (mx_ rfl) rfl rfl) ⟨rfl, rfl, Nat.le_of_ble_eq_true rfl, Nat.le_of_ble_eq_true rfl⟩ rfl hl.1 rfl (Nat.le_of_ble_eq_true rfl) dX11_account_59 ⟨Nat.le_of_ble_eq_true rfl, Nat.le_of_ble_eq_true rfl⟩) (fun q12 u12 H locs hp12 hW => ?_)
                have hq12 : (q12 = none ∨ (∃ o9 : Nat, q12 = some o9 ∧ (9, o9) ∈ dy)) := hp12
                clear hp12
                have hW : WB g A s.heap H locs ((hv J [42, 45] [(4, 6), (4, 7), (8, 1), (8, 2), (8, 3), (8, 4), (8, 5), (8, 6), (8, 7), (8, 8), (8, 9)] Gl8), L, (hv I [] [(6, 6), (6, 7)] Kl9), P, E, N) (sgX g ++ dy) := hW
                rcases hq12 with ho12 | ⟨o12, ho12, hm12⟩ <;> subst ho12
                · refine lv_asv (v' := .null) rfl ?_
                  refine lv_astoreN (lv' := [(7, .null), (6, .int m6), (5, .int m5), (3, .long m3), (0, .ref (g.2.2.1 12)), (1, .int a0), (2, .int a1)]) hx hb dX11_account_62 hl (by decide) rfl (fun ls hl => ?_)
                  refine lv_aloadN hx hb dX11_account_64 (lv_at hl 0 rfl) ?_
                  refine lv_ifnonnullN hx hb dX11_account_66 ?_
                  refine lv_goto (tgt := 124) hx hb dX11_account_69 (by decide) ?_
                  refine lv_lload_n hx hb dX11_account_124 rfl (lv_at hl 3 rfl) ?_
                  have hWr : WB g A s.heap H locs ((hv J [42, 45] [(4, 6), (4, 7), (8, 1), (8, 2), (8, 3), (8, 4), (8, 5), (8, 6), (8, 7), (8, 8), (8, 9)] (hv J [42, 45] [(4, 6), (4, 7), (8, 1), (8, 2), (8, 3), (8, 4), (8, 5), (8, 6), (8, 7), (8, 8), (8, 9)] Gl8)), L, (hv I [] [(6, 6), (6, 7)] (hv I [] [(6, 6), (6, 7)] Kl9)), P, E, N) (sgX g ++ dy) := by
                    rw [← ag_hvE (J := J) (R := [42, 45]) (F := [(4, 6), (4, 7), (8, 1), (8, 2), (8, 3), (8, 4), (8, 5), (8, 6), (8, 7), (8, 8), (8, 9)]) (ag_hv rfl rfl ag_rf)]
                    rw [← ag_hvE (J := I) (R := []) (F := [(6, 6), (6, 7)]) (ag_hv rfl rfl ag_rf)]
                    exact hW
                  exact end_l C hr hlocks ((hv J [42, 45] [(4, 6), (4, 7), (8, 1), (8, 2), (8, 3), (8, 4), (8, 5), (8, 6), (8, 7), (8, 8), (8, 9)] Gl8), (hv I [] [(6, 6), (6, 7)] Kl9)) hWr trivial dX11_account_125
                · refine lv_asv (v' := .ref o12) rfl ?_
                  refine lv_astore (lv' := [(7, .ref o12), (6, .int m6), (5, .int m5), (3, .long m3), (0, .ref (g.2.2.1 12)), (1, .int a0), (2, .int a1)]) hx hb dX11_account_62 hl (by decide) rfl (fun ls hl => ?_)
                  refine lv_aload hx hb dX11_account_64 (lv_at hl 0 rfl) ?_
                  refine lv_ifnonnull (tgt := 72) hx hb dX11_account_66 (by decide) ?_
                  refine lv_iload_n hx hb dX11_account_72 rfl (lv_at hl 6 rfl) ?_
                  refine lv_aload_n hx hb dX11_account_73 rfl (lv_at hl 4 rfl) ?_
                  refine lv_aload hx hb dX11_account_74 (lv_at hl 0 rfl) ?_
                  refine lv_iload hx hb dX11_account_76 (lv_at hl 2 rfl) ?_
                  refine ci_ C hW (runV (x := (g.2.2.1 12)) (As := [.ref o12, .int m5]) (rest := [.int a1]) (T := (((hv J [42, 45] [(4, 6), (4, 7), (8, 1), (8, 2), (8, 3), (8, 4), (8, 5), (8, 6), (8, 7), (8, 8), (8, 9)] Gl8), L, (hv I [] [(6, 6), (6, 7)] Kl9), P, E, N), sgX g ++ dy)) C hW (c_X11_evenUntil l g (hv J [42, 45] [(4, 6), (4, 7), (8, 1), (8, 2), (8, 3), (8, 4), (8, 5), (8, 6), (8, 7), (8, 8), (8, 9)] Gl8) L (hv I [] [(6, 6), (6, 7)] Kl9) P E N dy H.size o12 hm12 m5 hwf) mi_X11_evenUntil tw_839 (recv_ (T := (((hv J [42, 45] [(4, 6), (4, 7), (8, 1), (8, 2), (8, 3), (8, 4), (8, 5), (8, 6), (8, 7), (8, 8), (8, 9)] Gl8), L, (hv I [] [(6, 6), (6, 7)] Kl9), P, E, N), sgX g ++ dy)) C hW (mx_ rfl) rfl rfl) ⟨rfl, rfl, Nat.le_of_ble_eq_true rfl, Nat.le_of_ble_eq_true rfl⟩ rfl hl.1 rfl (Nat.le_of_ble_eq_true rfl) dX11_account_78 ⟨Nat.le_of_ble_eq_true rfl, Nat.le_of_ble_eq_true rfl⟩) (fun r13 u13 H locs hp13 hW => ?_)
                  have hW : WB g A s.heap H locs ((hv J [42, 45] [(4, 6), (4, 7), (8, 1), (8, 2), (8, 3), (8, 4), (8, 5), (8, 6), (8, 7), (8, 8), (8, 9)] Gl8), L, (hv I [] [(6, 6), (6, 7)] Kl9), P, E, N) (sgX g ++ dy) := hW
                  refine va_mmin hx hb (C.1.2.2.1.trans hl.1.symm) C.1.2.2.2.1 (hts _ tw_843) (hts _ tw_225) (hts _ tw_74) (hts _ tw_226) (Nat.le_of_ble_eq_true rfl) (Nat.le_of_ble_eq_true rfl) (Nat.le_of_ble_eq_true rfl) (Nat.le_of_ble_eq_true rfl) dX11_account_81 ?_
                  refine lv_topi (fun x14 (e14 : x14 = if r13 < a1 then r13 else a1) => ?_)
                  have t14 : x14.toInt = min a1.toInt r13.toInt := tmin e14 rfl rfl
                  refine lv_istore (lv' := [(8, .int x14), (7, .ref o12), (6, .int m6), (5, .int m5), (3, .long m3), (0, .ref (g.2.2.1 12)), (1, .int a0), (2, .int a1)]) hx hb dX11_account_84 hl (by decide) rfl (fun ls hl => ?_)
                  refine lv_lload_n hx hb dX11_account_86 rfl (lv_at hl 4 rfl) ?_
                  refine lv_aload_n hx hb dX11_account_87 rfl (lv_at hl 5 rfl) ?_
                  refine lv_iconst (v := 1) hx hb dX11_account_88 (by decide) ?_
                  refine lv_aload hx hb dX11_account_89 (lv_at hl 1 rfl) ?_
                  refine lv_iload hx hb dX11_account_91 (lv_at hl 3 rfl) ?_
                  refine lv_iload hx hb dX11_account_93 (lv_at hl 0 rfl) ?_
                  refine cl_ C hW (runV (x := (g.2.2.1 12)) (As := [.int 1, .ref o12, .int m5, .int x14]) (rest := [.long m3]) (T := (((hv J [42, 45] [(4, 6), (4, 7), (8, 1), (8, 2), (8, 3), (8, 4), (8, 5), (8, 6), (8, 7), (8, 8), (8, 9)] Gl8), L, (hv I [] [(6, 6), (6, 7)] Kl9), P, E, N), sgX g ++ dy)) C hW (c_X11_sumOf l g (hv J [42, 45] [(4, 6), (4, 7), (8, 1), (8, 2), (8, 3), (8, 4), (8, 5), (8, 6), (8, 7), (8, 8), (8, 9)] Gl8) L (hv I [] [(6, 6), (6, 7)] Kl9) P E N dy H.size 1 o12 hm12 m5 x14 hwf (show x14.toInt ≤ 2147483646 from by (try simp only [kp1]); omega)) mi_X11_sumOf tw_844 (recv_ (T := (((hv J [42, 45] [(4, 6), (4, 7), (8, 1), (8, 2), (8, 3), (8, 4), (8, 5), (8, 6), (8, 7), (8, 8), (8, 9)] Gl8), L, (hv I [] [(6, 6), (6, 7)] Kl9), P, E, N), sgX g ++ dy)) C hW (mx_ rfl) rfl rfl) ⟨rfl, rfl, Nat.le_of_ble_eq_true rfl, Nat.le_of_ble_eq_true rfl⟩ rfl hl.1 rfl (Nat.le_of_ble_eq_true rfl) dX11_account_95 ⟨Nat.le_of_ble_eq_true rfl, Nat.le_of_ble_eq_true rfl⟩) (fun z15 u15 H locs hp15 hW => ?_)
                  have hW : WB g A s.heap H locs ((hv (hv J [42, 45] [(4, 6), (4, 7), (8, 1), (8, 2), (8, 3), (8, 4), (8, 5), (8, 6), (8, 7), (8, 8), (8, 9)] Gl8) [45] [(4, 6), (4, 7), (8, 1), (8, 2), (8, 3), (8, 4), (8, 5), (8, 6), (8, 7), (8, 8), (8, 9)] u15.1), L, (hv (hv I [] [(6, 6), (6, 7)] Kl9) [] [(6, 6), (6, 7)] u15.2), P, E, N) (sgX g ++ dy) := hW
                  refine lv_aload_n hx hb dX11_account_98 rfl (lv_at hl 5 rfl) ?_
                  refine lv_iconst (v := 0) hx hb dX11_account_99 (by decide) ?_
                  refine lv_aload hx hb dX11_account_100 (lv_at hl 1 rfl) ?_
                  refine lv_iload hx hb dX11_account_102 (lv_at hl 3 rfl) ?_
                  refine lv_iload hx hb dX11_account_104 (lv_at hl 0 rfl) ?_
                  refine cl_ C hW (runV (x := (g.2.2.1 12)) (As := [.int 0, .ref o12, .int m5, .int x14]) (rest := [.long z15, .long m3]) (T := (((hv (hv J [42, 45] [(4, 6), (4, 7), (8, 1), (8, 2), (8, 3), (8, 4), (8, 5), (8, 6), (8, 7), (8, 8), (8, 9)] Gl8) [45] [(4, 6), (4, 7), (8, 1), (8, 2), (8, 3), (8, 4), (8, 5), (8, 6), (8, 7), (8, 8), (8, 9)] u15.1), L, (hv (hv I [] [(6, 6), (6, 7)] Kl9) [] [(6, 6), (6, 7)] u15.2), P, E, N), sgX g ++ dy)) C hW (c_X11_sumOf l g (hv (hv J [42, 45] [(4, 6), (4, 7), (8, 1), (8, 2), (8, 3), (8, 4), (8, 5), (8, 6), (8, 7), (8, 8), (8, 9)] Gl8) [45] [(4, 6), (4, 7), (8, 1), (8, 2), (8, 3), (8, 4), (8, 5), (8, 6), (8, 7), (8, 8), (8, 9)] u15.1) L (hv (hv I [] [(6, 6), (6, 7)] Kl9) [] [(6, 6), (6, 7)] u15.2) P E N dy H.size 0 o12 hm12 m5 x14 hwf (show x14.toInt ≤ 2147483646 from by (try simp only [kp0]); omega)) mi_X11_sumOf tw_844 (recv_ (T := (((hv (hv J [42, 45] [(4, 6), (4, 7), (8, 1), (8, 2), (8, 3), (8, 4), (8, 5), (8, 6), (8, 7), (8, 8), (8, 9)] Gl8) [45] [(4, 6), (4, 7), (8, 1), (8, 2), (8, 3), (8, 4), (8, 5), (8, 6), (8, 7), (8, 8), (8, 9)] u15.1), L, (hv (hv I [] [(6, 6), (6, 7)] Kl9) [] [(6, 6), (6, 7)] u15.2), P, E, N), sgX g ++ dy)) C hW (mx_ rfl) rfl rfl) ⟨rfl, rfl, Nat.le_of_ble_eq_true rfl, Nat.le_of_ble_eq_true rfl⟩ rfl hl.1 rfl (Nat.le_of_ble_eq_true rfl) dX11_account_106 ⟨Nat.le_of_ble_eq_true rfl, Nat.le_of_ble_eq_true rfl⟩) (fun z16 u16 H locs hp16 hW => ?_)
                  have hW : WB g A s.heap H locs ((hv (hv (hv J [42, 45] [(4, 6), (4, 7), (8, 1), (8, 2), (8, 3), (8, 4), (8, 5), (8, 6), (8, 7), (8, 8), (8, 9)] Gl8) [45] [(4, 6), (4, 7), (8, 1), (8, 2), (8, 3), (8, 4), (8, 5), (8, 6), (8, 7), (8, 8), (8, 9)] u15.1) [45] [(4, 6), (4, 7), (8, 1), (8, 2), (8, 3), (8, 4), (8, 5), (8, 6), (8, 7), (8, 8), (8, 9)] u16.1), L, (hv (hv (hv I [] [(6, 6), (6, 7)] Kl9) [] [(6, 6), (6, 7)] u15.2) [] [(6, 6), (6, 7)] u16.2), P, E, N) (sgX g ++ dy) := hW
                  refine lv_lsub hx hb dX11_account_109 ?_
                  refine lv_topl (fun z17 ez17 => ?_)
                  refine lv_ladd hx hb dX11_account_110 ?_
                  refine lv_topl (fun z18 ez18 => ?_)
                  refine lv_lstore_n (lv' := [(3, .long z18), (8, .int x14), (7, .ref o12), (6, .int m6), (5, .int m5), (0, .ref (g.2.2.1 12)), (1, .int a0), (2, .int a1)]) hx hb dX11_account_111 rfl hl (by decide) rfl (fun ls hl => ?_)
                  refine lv_iload hx hb dX11_account_112 (lv_at hl 1 rfl) ?_
                  refine lv_iconst (v := 1) hx hb dX11_account_114 (by decide) ?_
                  refine lv_iadd hx hb dX11_account_115 ?_
                  refine lv_topi (fun x19 (e19 : x19 = x14 + 1) => ?_)
                  refine lv_istore (lv' := [(5, .int x19), (3, .long z18), (8, .int x14), (7, .ref o12), (6, .int m6), (0, .ref (g.2.2.1 12)), (1, .int a0), (2, .int a1)]) hx hb dX11_account_116 hl (by decide) rfl (fun ls hl => ?_)
                  obtain ⟨x20, e20⟩ : ∃ y : Int32, y = m6 + 1 := ⟨_, rfl⟩
                  refine lv_iinc (v := x20) (lv' := [(6, .int x20), (5, .int x19), (3, .long z18), (8, .int x14), (7, .ref o12), (0, .ref (g.2.2.1 12)), (1, .int a0), (2, .int a1)]) hx hb dX11_account_118 hl (k := 4) rfl (by rw [e20]; rfl) (by decide) rfl (fun ls hl => ?_)
                  try have t20 : x20.toInt = m6.toInt + 1 := tadd e20 rfl kp1 (by omega)
                  refine lv_goto (tgt := 39) hx hb dX11_account_121 (by decide) ?_
                  have hWl : WB g A s.heap H locs ((hv J [42, 45] [(4, 6), (4, 7), (8, 1), (8, 2), (8, 3), (8, 4), (8, 5), (8, 6), (8, 7), (8, 8), (8, 9)] (hv (hv (hv J [42, 45] [(4, 6), (4, 7), (8, 1), (8, 2), (8, 3), (8, 4), (8, 5), (8, 6), (8, 7), (8, 8), (8, 9)] Gl8) [45] [(4, 6), (4, 7), (8, 1), (8, 2), (8, 3), (8, 4), (8, 5), (8, 6), (8, 7), (8, 8), (8, 9)] u15.1) [45] [(4, 6), (4, 7), (8, 1), (8, 2), (8, 3), (8, 4), (8, 5), (8, 6), (8, 7), (8, 8), (8, 9)] u16.1)), L, (hv I [] [(6, 6), (6, 7)] (hv (hv (hv I [] [(6, 6), (6, 7)] Kl9) [] [(6, 6), (6, 7)] u15.2) [] [(6, 6), (6, 7)] u16.2)), P, E, N) (sgX g ++ dy) := by
                    rw [← ag_hvE (J := J) (R := [42, 45]) (F := [(4, 6), (4, 7), (8, 1), (8, 2), (8, 3), (8, 4), (8, 5), (8, 6), (8, 7), (8, 8), (8, 9)]) (ag_hv rfl rfl (ag_hv rfl rfl (ag_hv rfl rfl ag_rf)))]
                    rw [← ag_hvE (J := I) (R := []) (F := [(6, 6), (6, 7)]) (ag_hv rfl rfl (ag_hv rfl rfl (ag_hv rfl rfl ag_rf)))]
                    exact hW
                  refine ih z18 x19 x20 (hv (hv (hv J [42, 45] [(4, 6), (4, 7), (8, 1), (8, 2), (8, 3), (8, 4), (8, 5), (8, 6), (8, 7), (8, 8), (8, 9)] Gl8) [45] [(4, 6), (4, 7), (8, 1), (8, 2), (8, 3), (8, 4), (8, 5), (8, 6), (8, 7), (8, 8), (8, 9)] u15.1) [45] [(4, 6), (4, 7), (8, 1), (8, 2), (8, 3), (8, 4), (8, 5), (8, 6), (8, 7), (8, 8), (8, 9)] u16.1) (hv (hv (hv I [] [(6, 6), (6, 7)] Kl9) [] [(6, 6), (6, 7)] u15.2) [] [(6, 6), (6, 7)] u16.2) H locs ls ?_ ?_ hWl (lv_sub hl [0, 1, 2, 5, 6, 7] rfl)
                  · show (10000 - x20.toInt).toNat < n
                    omega
                  · show 0 ≤ x20.toInt
                    first | omega | exact hi | assumption
        -- into the loop
        have hWl : WB g A s.heap H locs ((hv J [42, 45] [(4, 6), (4, 7), (8, 1), (8, 2), (8, 3), (8, 4), (8, 5), (8, 6), (8, 7), (8, 8), (8, 9)] J), L, (hv I [] [(6, 6), (6, 7)] I), P, E, N) (sgX g ++ dy) := by
          rw [← ag_hvE (J := J) (R := [42, 45]) (F := [(4, 6), (4, 7), (8, 1), (8, 2), (8, 3), (8, 4), (8, 5), (8, 6), (8, 7), (8, 8), (8, 9)]) ag_rf]
          rw [← ag_hvE (J := I) (R := []) (F := [(6, 6), (6, 7)]) ag_rf]
          exact hW
        refine loop39 ((10000 - (0 : Int32).toInt).toNat + 1) (0 : Int64) a0 0 J I H locs ls ?_ ?_ hWl (lv_sub hl [0, 1, 2, 3, 4, 5] rfl)
        · exact Nat.lt_succ_self _
        · show 0 ≤ (0 : Int32).toInt
          try rw [kp0]
          first | omega | exact hi | assumption
      · have c7 : a1.toInt < a0.toInt := tnle rfl rfl c7
        refine lv_ldc2 hx hb C.1.2.2.2.1 (hts _ tw_838) dX11_account_20 ?_
        refine lv_aload_n hx hb dX11_account_23 rfl (lv_at hl 0 rfl) ?_
        refine lv_iconst (v := (-1)) hx hb dX11_account_24 (by decide) ?_
        refine ci_ C hW (runV (x := (g.2.2.1 12)) (As := [.int (-1)]) (rest := [.long (4000000000000000000 : Int64)]) (T := ((J, L, I, P, E, N), sgX g ++ dy)) C hW (c_X11_refuse l g J L I P E N dy H.size (-1) hwf) mi_X11_refuse tw_411 (recv_ (T := ((J, L, I, P, E, N), sgX g ++ dy)) C hW (mx_ rfl) rfl rfl) ⟨rfl, rfl, Nat.le_of_ble_eq_true rfl, Nat.le_of_ble_eq_true rfl⟩ rfl hl.1 rfl (Nat.le_of_ble_eq_true rfl) dX11_account_25 ⟨Nat.le_of_ble_eq_true rfl, Nat.le_of_ble_eq_true rfl⟩) (fun r21 u21 H locs hp21 hW => ?_)
        have hc21 : ((r21 = (-1))) := hp21
        clear hp21
        have hr21 : r21.toInt = (-1) := by rw [hc21]; exact kn1
        have hW : WB g A s.heap H locs ((hv J [42] [] u21), L, I, P, E, N) (sgX g ++ dy) := hW
        refine lv_i2l (v := r21.toInt64) hx hb dX11_account_28 rfl ?_
        refine lv_lsub hx hb dX11_account_29 ?_
        refine lv_topl (fun z22 ez22 => ?_)
        have hWr : WB g A s.heap H locs ((hv J [42, 45] [(4, 6), (4, 7), (8, 1), (8, 2), (8, 3), (8, 4), (8, 5), (8, 6), (8, 7), (8, 8), (8, 9)] (hv J [42] [] u21)), L, (hv I [] [(6, 6), (6, 7)] I), P, E, N) (sgX g ++ dy) := by
          rw [← ag_hvE (J := J) (R := [42, 45]) (F := [(4, 6), (4, 7), (8, 1), (8, 2), (8, 3), (8, 4), (8, 5), (8, 6), (8, 7), (8, 8), (8, 9)]) (ag_hv rfl rfl ag_rf)]
          rw [← ag_hvE (J := I) (R := []) (F := [(6, 6), (6, 7)]) ag_rf]
          exact hW
        exact end_l C hr hlocks ((hv J [42] [] u21), I) hWr trivial dX11_account_30
