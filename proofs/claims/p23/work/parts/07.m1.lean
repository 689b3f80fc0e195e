theorem dX12_isIn_0 : decode cX12_isIn 0 = .ok (.iload_n 0, 1) := dk_iload_n_0 (by decide +kernel)
theorem dX12_isIn_1 : decode cX12_isIn 1 = .ok (.ifCond .lt 12, 3) := dk_ifCond_lt (by decide +kernel)
theorem dX12_isIn_4 : decode cX12_isIn 4 = .ok (.iload_n 0, 1) := dk_iload_n_0 (by decide +kernel)
theorem dX12_isIn_5 : decode cX12_isIn 5 = .ok (.iload_n 1, 1) := dk_iload_n_1 (by decide +kernel)
theorem dX12_isIn_6 : decode cX12_isIn 6 = .ok (.if_icmp .ge 7, 3) := dk_if_icmp_ge (by decide +kernel)
theorem dX12_isIn_9 : decode cX12_isIn 9 = .ok (.iconst 1, 1) := dk_iconst_1 (by decide +kernel)
theorem dX12_isIn_10 : decode cX12_isIn 10 = .ok (.goto 4, 3) := dk_goto (by decide +kernel)
theorem dX12_isIn_13 : decode cX12_isIn 13 = .ok (.iconst 0, 1) := dk_iconst_0 (by decide +kernel)
theorem dX12_isIn_14 : decode cX12_isIn 14 = .ok (.ireturn, 1) := dk_ireturn (by decide +kernel)
theorem dX12_within_0 : decode cX12_within 0 = .ok (.iload_n 0, 1) := dk_iload_n_0 (by decide +kernel)
theorem dX12_within_1 : decode cX12_within 1 = .ok (.iload_n 1, 1) := dk_iload_n_1 (by decide +kernel)
theorem dX12_within_2 : decode cX12_within 2 = .ok (.if_icmp .ge 8, 3) := dk_if_icmp_ge (by decide +kernel)
theorem dX12_within_5 : decode cX12_within 5 = .ok (.bipush (-4), 2) := dk_bipush (by decide +kernel)
theorem dX12_within_7 : decode cX12_within 7 = .ok (.goto 14, 3) := dk_goto (by decide +kernel)
theorem dX12_within_10 : decode cX12_within 10 = .ok (.iload_n 0, 1) := dk_iload_n_0 (by decide +kernel)
theorem dX12_within_11 : decode cX12_within 11 = .ok (.iload_n 2, 1) := dk_iload_n_2 (by decide +kernel)
theorem dX12_within_12 : decode cX12_within 12 = .ok (.if_icmp .le 8, 3) := dk_if_icmp_le (by decide +kernel)
theorem dX12_within_15 : decode cX12_within 15 = .ok (.bipush (-6), 2) := dk_bipush (by decide +kernel)
theorem dX12_within_17 : decode cX12_within 17 = .ok (.goto 4, 3) := dk_goto (by decide +kernel)
theorem dX12_within_20 : decode cX12_within 20 = .ok (.iconst 0, 1) := dk_iconst_0 (by decide +kernel)
theorem dX12_within_21 : decode cX12_within 21 = .ok (.ireturn, 1) := dk_ireturn (by decide +kernel)
theorem dX12_refuse_0 : decode cX12_refuse 0 = .ok (.aload_n 0, 1) := dk_aload_n_0 (by decide +kernel)
theorem dX12_refuse_1 : decode cX12_refuse 1 = .ok (.getfield 7, 3) := dk_getfield (by decide +kernel)
theorem dX12_refuse_4 : decode cX12_refuse 4 = .ok (.iload_n 1, 1) := dk_iload_n_1 (by decide +kernel)
theorem dX12_refuse_5 : decode cX12_refuse 5 = .ok (.ineg, 1) := dk_ineg (by decide +kernel)
theorem dX12_refuse_6 : decode cX12_refuse 6 = .ok (.dup2, 1) := dk_dup2 (by decide +kernel)
theorem dX12_refuse_7 : decode cX12_refuse 7 = .ok (.iaload, 1) := dk_iaload (by decide +kernel)
theorem dX12_refuse_8 : decode cX12_refuse 8 = .ok (.iconst 1, 1) := dk_iconst_1 (by decide +kernel)
theorem dX12_refuse_9 : decode cX12_refuse 9 = .ok (.iadd, 1) := dk_iadd (by decide +kernel)
theorem dX12_refuse_10 : decode cX12_refuse 10 = .ok (.iastore, 1) := dk_iastore (by decide +kernel)
theorem dX12_refuse_11 : decode cX12_refuse 11 = .ok (.iload_n 1, 1) := dk_iload_n_1 (by decide +kernel)
theorem dX12_refuse_12 : decode cX12_refuse 12 = .ok (.ireturn, 1) := dk_ireturn (by decide +kernel)
theorem dX12_isNode_0 : decode cX12_isNode 0 = .ok (.iload_n 1, 1) := dk_iload_n_1 (by decide +kernel)
theorem dX12_isNode_1 : decode cX12_isNode 1 = .ok (.aload_n 0, 1) := dk_aload_n_0 (by decide +kernel)
theorem dX12_isNode_2 : decode cX12_isNode 2 = .ok (.getfield 104, 3) := dk_getfield (by decide +kernel)
theorem dX12_isNode_5 : decode cX12_isNode 5 = .ok (.invokestatic 162, 3) := dk_invokestatic (by decide +kernel)
theorem dX12_isNode_8 : decode cX12_isNode 8 = .ok (.ireturn, 1) := dk_ireturn (by decide +kernel)
theorem dX12_isHome_0 : decode cX12_isHome 0 = .ok (.iload_n 1, 1) := dk_iload_n_1 (by decide +kernel)
theorem dX12_isHome_1 : decode cX12_isHome 1 = .ok (.aload_n 0, 1) := dk_aload_n_0 (by decide +kernel)
theorem dX12_isHome_2 : decode cX12_isHome 2 = .ok (.getfield 166, 3) := dk_getfield (by decide +kernel)
theorem dX12_isHome_5 : decode cX12_isHome 5 = .ok (.invokestatic 162, 3) := dk_invokestatic (by decide +kernel)
theorem dX12_isHome_8 : decode cX12_isHome 8 = .ok (.ireturn, 1) := dk_ireturn (by decide +kernel)
theorem dX12_isPast_0 : decode cX12_isPast 0 = .ok (.iload_n 1, 1) := dk_iload_n_1 (by decide +kernel)
theorem dX12_isPast_1 : decode cX12_isPast 1 = .ok (.aload_n 0, 1) := dk_aload_n_0 (by decide +kernel)
theorem dX12_isPast_2 : decode cX12_isPast 2 = .ok (.getfield 169, 3) := dk_getfield (by decide +kernel)
theorem dX12_isPast_5 : decode cX12_isPast 5 = .ok (.invokestatic 162, 3) := dk_invokestatic (by decide +kernel)
theorem dX12_isPast_8 : decode cX12_isPast 8 = .ok (.ireturn, 1) := dk_ireturn (by decide +kernel)
theorem dX12_goesBy_0 : decode cX12_goesBy 0 = .ok (.aload_n 0, 1) := dk_aload_n_0 (by decide +kernel)
theorem dX12_goesBy_1 : decode cX12_goesBy 1 = .ok (.getfield 59, 3) := dk_getfield (by decide +kernel)
theorem dX12_goesBy_4 : decode cX12_goesBy 4 = .ok (.aload_n 0, 1) := dk_aload_n_0 (by decide +kernel)
theorem dX12_goesBy_5 : decode cX12_goesBy 5 = .ok (.getfield 169, 3) := dk_getfield (by decide +kernel)
theorem dX12_goesBy_8 : decode cX12_goesBy 8 = .ok (.iload_n 1, 1) := dk_iload_n_1 (by decide +kernel)
theorem dX12_goesBy_9 : decode cX12_goesBy 9 = .ok (.iastore, 1) := dk_iastore (by decide +kernel)
theorem dX12_goesBy_10 : decode cX12_goesBy 10 = .ok (.aload_n 0, 1) := dk_aload_n_0 (by decide +kernel)
theorem dX12_goesBy_11 : decode cX12_goesBy 11 = .ok (.getfield 62, 3) := dk_getfield (by decide +kernel)
theorem dX12_goesBy_14 : decode cX12_goesBy 14 = .ok (.aload_n 0, 1) := dk_aload_n_0 (by decide +kernel)
theorem dX12_goesBy_15 : decode cX12_goesBy 15 = .ok (.getfield 169, 3) := dk_getfield (by decide +kernel)
theorem dX12_goesBy_18 : decode cX12_goesBy 18 = .ok (.iload_n 2, 1) := dk_iload_n_2 (by decide +kernel)
theorem dX12_goesBy_19 : decode cX12_goesBy 19 = .ok (.iastore, 1) := dk_iastore (by decide +kernel)
theorem dX12_goesBy_20 : decode cX12_goesBy 20 = .ok (.aload_n 0, 1) := dk_aload_n_0 (by decide +kernel)
theorem dX12_goesBy_21 : decode cX12_goesBy 21 = .ok (.getfield 65, 3) := dk_getfield (by decide +kernel)
theorem dX12_goesBy_24 : decode cX12_goesBy 24 = .ok (.aload_n 0, 1) := dk_aload_n_0 (by decide +kernel)
theorem dX12_goesBy_25 : decode cX12_goesBy 25 = .ok (.getfield 169, 3) := dk_getfield (by decide +kernel)
theorem dX12_goesBy_28 : decode cX12_goesBy 28 = .ok (.iload_n 3, 1) := dk_iload_n_3 (by decide +kernel)
theorem dX12_goesBy_29 : decode cX12_goesBy 29 = .ok (.iastore, 1) := dk_iastore (by decide +kernel)
theorem dX12_goesBy_30 : decode cX12_goesBy 30 = .ok (.aload_n 0, 1) := dk_aload_n_0 (by decide +kernel)
theorem dX12_goesBy_31 : decode cX12_goesBy 31 = .ok (.getfield 68, 3) := dk_getfield (by decide +kernel)
theorem dX12_goesBy_34 : decode cX12_goesBy 34 = .ok (.aload_n 0, 1) := dk_aload_n_0 (by decide +kernel)
theorem dX12_goesBy_35 : decode cX12_goesBy 35 = .ok (.getfield 169, 3) := dk_getfield (by decide +kernel)
theorem dX12_goesBy_38 : decode cX12_goesBy 38 = .ok (.iload 4, 2) := dk_iload (by decide +kernel)
theorem dX12_goesBy_40 : decode cX12_goesBy 40 = .ok (.iastore, 1) := dk_iastore (by decide +kernel)
theorem dX12_goesBy_41 : decode cX12_goesBy 41 = .ok (.aload_n 0, 1) := dk_aload_n_0 (by decide +kernel)
theorem dX12_goesBy_42 : decode cX12_goesBy 42 = .ok (.getfield 71, 3) := dk_getfield (by decide +kernel)
theorem dX12_goesBy_45 : decode cX12_goesBy 45 = .ok (.aload_n 0, 1) := dk_aload_n_0 (by decide +kernel)
theorem dX12_goesBy_46 : decode cX12_goesBy 46 = .ok (.getfield 169, 3) := dk_getfield (by decide +kernel)
theorem dX12_goesBy_49 : decode cX12_goesBy 49 = .ok (.aload_n 0, 1) := dk_aload_n_0 (by decide +kernel)
theorem dX12_goesBy_50 : decode cX12_goesBy 50 = .ok (.getfield 172, 3) := dk_getfield (by decide +kernel)
theorem dX12_goesBy_53 : decode cX12_goesBy 53 = .ok (.iastore, 1) := dk_iastore (by decide +kernel)
theorem dX12_goesBy_54 : decode cX12_goesBy 54 = .ok (.aload_n 0, 1) := dk_aload_n_0 (by decide +kernel)
theorem dX12_goesBy_55 : decode cX12_goesBy 55 = .ok (.dup, 1) := dk_dup (by decide +kernel)
theorem dX12_goesBy_56 : decode cX12_goesBy 56 = .ok (.getfield 169, 3) := dk_getfield (by decide +kernel)
theorem dX12_goesBy_59 : decode cX12_goesBy 59 = .ok (.iconst 1, 1) := dk_iconst_1 (by decide +kernel)
theorem dX12_goesBy_60 : decode cX12_goesBy 60 = .ok (.iadd, 1) := dk_iadd (by decide +kernel)
theorem dX12_goesBy_61 : decode cX12_goesBy 61 = .ok (.putfield 169, 3) := dk_putfield (by decide +kernel)
theorem dX12_goesBy_64 : decode cX12_goesBy 64 = .ok (.aload_n 0, 1) := dk_aload_n_0 (by decide +kernel)
theorem dX12_goesBy_65 : decode cX12_goesBy 65 = .ok (.getfield 169, 3) := dk_getfield (by decide +kernel)
theorem dX12_goesBy_68 : decode cX12_goesBy 68 = .ok (.iconst 1, 1) := dk_iconst_1 (by decide +kernel)
theorem dX12_goesBy_69 : decode cX12_goesBy 69 = .ok (.isub, 1) := dk_isub (by decide +kernel)
theorem dX12_goesBy_70 : decode cX12_goesBy 70 = .ok (.ireturn, 1) := dk_ireturn (by decide +kernel)
theorem dX12_pass_0 : decode cX12_pass 0 = .ok (.iload_n 1, 1) := dk_iload_n_1 (by decide +kernel)
theorem dX12_pass_1 : decode cX12_pass 1 = .ok (.iconst 1, 1) := dk_iconst_1 (by decide +kernel)
theorem dX12_pass_2 : decode cX12_pass 2 = .ok (.if_icmp .ge 10, 3) := dk_if_icmp_ge (by decide +kernel)
theorem dX12_pass_5 : decode cX12_pass 5 = .ok (.aload_n 0, 1) := dk_aload_n_0 (by decide +kernel)
theorem dX12_pass_6 : decode cX12_pass 6 = .ok (.bipush (-4), 2) := dk_bipush (by decide +kernel)
theorem dX12_pass_8 : decode cX12_pass 8 = .ok (.invokevirtual 175, 3) := dk_invokevirtual (by decide +kernel)
theorem dX12_pass_11 : decode cX12_pass 11 = .ok (.ireturn, 1) := dk_ireturn (by decide +kernel)
theorem dX12_pass_12 : decode cX12_pass 12 = .ok (.iload_n 1, 1) := dk_iload_n_1 (by decide +kernel)
theorem dX12_pass_13 : decode cX12_pass 13 = .ok (.sipush 9999, 3) := dk_sipush (by decide +kernel)
theorem dX12_pass_16 : decode cX12_pass 16 = .ok (.aload_n 0, 1) := dk_aload_n_0 (by decide +kernel)
theorem dX12_pass_17 : decode cX12_pass 17 = .ok (.getfield 169, 3) := dk_getfield (by decide +kernel)
theorem dX12_pass_20 : decode cX12_pass 20 = .ok (.isub, 1) := dk_isub (by decide +kernel)
theorem dX12_pass_21 : decode cX12_pass 21 = .ok (.if_icmp .le 10, 3) := dk_if_icmp_le (by decide +kernel)
theorem dX12_pass_24 : decode cX12_pass 24 = .ok (.aload_n 0, 1) := dk_aload_n_0 (by decide +kernel)
theorem dX12_pass_25 : decode cX12_pass 25 = .ok (.bipush (-6), 2) := dk_bipush (by decide +kernel)
theorem dX12_pass_27 : decode cX12_pass 27 = .ok (.invokevirtual 175, 3) := dk_invokevirtual (by decide +kernel)
theorem dX12_pass_30 : decode cX12_pass 30 = .ok (.ireturn, 1) := dk_ireturn (by decide +kernel)
theorem dX12_pass_31 : decode cX12_pass 31 = .ok (.iconst 0, 1) := dk_iconst_0 (by decide +kernel)
theorem dX12_pass_32 : decode cX12_pass 32 = .ok (.istore_n 2, 1) := dk_istore_n_2 (by decide +kernel)
theorem dX12_pass_33 : decode cX12_pass 33 = .ok (.iload_n 2, 1) := dk_iload_n_2 (by decide +kernel)
theorem dX12_pass_34 : decode cX12_pass 34 = .ok (.iload_n 1, 1) := dk_iload_n_1 (by decide +kernel)
theorem dX12_pass_35 : decode cX12_pass 35 = .ok (.if_icmp .ge 21, 3) := dk_if_icmp_ge (by decide +kernel)
theorem dX12_pass_38 : decode cX12_pass 38 = .ok (.aload_n 0, 1) := dk_aload_n_0 (by decide +kernel)
theorem dX12_pass_39 : decode cX12_pass 39 = .ok (.bipush 6, 2) := dk_bipush (by decide +kernel)
theorem dX12_pass_41 : decode cX12_pass 41 = .ok (.bipush (-9), 2) := dk_bipush (by decide +kernel)
theorem dX12_pass_43 : decode cX12_pass 43 = .ok (.iconst 0, 1) := dk_iconst_0 (by decide +kernel)
theorem dX12_pass_44 : decode cX12_pass 44 = .ok (.bipush (-9), 2) := dk_bipush (by decide +kernel)
theorem dX12_pass_46 : decode cX12_pass 46 = .ok (.invokevirtual 179, 3) := dk_invokevirtual (by decide +kernel)
theorem dX12_pass_49 : decode cX12_pass 49 = .ok (.pop, 1) := dk_pop (by decide +kernel)
theorem dX12_pass_50 : decode cX12_pass 50 = .ok (.iinc 2 1, 3) := dk_iinc (by decide +kernel)
theorem dX12_pass_53 : decode cX12_pass 53 = .ok (.goto (-20), 3) := dk_goto (by decide +kernel)
theorem dX12_pass_56 : decode cX12_pass 56 = .ok (.aload_n 0, 1) := dk_aload_n_0 (by decide +kernel)
theorem dX12_pass_57 : decode cX12_pass 57 = .ok (.getfield 169, 3) := dk_getfield (by decide +kernel)
theorem dX12_pass_60 : decode cX12_pass 60 = .ok (.ireturn, 1) := dk_ireturn (by decide +kernel)
theorem dX12_isCut_0 : decode cX12_isCut 0 = .ok (.iconst 0, 1) := dk_iconst_0 (by decide +kernel)
theorem dX12_isCut_1 : decode cX12_isCut 1 = .ok (.istore_n 3, 1) := dk_istore_n_3 (by decide +kernel)
theorem dX12_isCut_2 : decode cX12_isCut 2 = .ok (.iload_n 3, 1) := dk_iload_n_3 (by decide +kernel)
theorem dX12_isCut_3 : decode cX12_isCut 3 = .ok (.aload_n 0, 1) := dk_aload_n_0 (by decide +kernel)
theorem dX12_isCut_4 : decode cX12_isCut 4 = .ok (.getfield 191, 3) := dk_getfield (by decide +kernel)
theorem dX12_isCut_7 : decode cX12_isCut 7 = .ok (.if_icmp .ge 41, 3) := dk_if_icmp_ge (by decide +kernel)
theorem dX12_isCut_10 : decode cX12_isCut 10 = .ok (.aload_n 0, 1) := dk_aload_n_0 (by decide +kernel)
theorem dX12_isCut_11 : decode cX12_isCut 11 = .ok (.getfield 25, 3) := dk_getfield (by decide +kernel)
theorem dX12_isCut_14 : decode cX12_isCut 14 = .ok (.iload_n 3, 1) := dk_iload_n_3 (by decide +kernel)
theorem dX12_isCut_15 : decode cX12_isCut 15 = .ok (.iaload, 1) := dk_iaload (by decide +kernel)
theorem dX12_isCut_16 : decode cX12_isCut 16 = .ok (.iload_n 1, 1) := dk_iload_n_1 (by decide +kernel)
theorem dX12_isCut_17 : decode cX12_isCut 17 = .ok (.if_icmp .ne 25, 3) := dk_if_icmp_ne (by decide +kernel)
theorem dX12_isCut_20 : decode cX12_isCut 20 = .ok (.iload_n 2, 1) := dk_iload_n_2 (by decide +kernel)
theorem dX12_isCut_21 : decode cX12_isCut 21 = .ok (.aload_n 0, 1) := dk_aload_n_0 (by decide +kernel)
theorem dX12_isCut_22 : decode cX12_isCut 22 = .ok (.getfield 28, 3) := dk_getfield (by decide +kernel)
theorem dX12_isCut_25 : decode cX12_isCut 25 = .ok (.iload_n 3, 1) := dk_iload_n_3 (by decide +kernel)
theorem dX12_isCut_26 : decode cX12_isCut 26 = .ok (.iaload, 1) := dk_iaload (by decide +kernel)
theorem dX12_isCut_27 : decode cX12_isCut 27 = .ok (.if_icmp .lt 15, 3) := dk_if_icmp_lt (by decide +kernel)
theorem dX12_isCut_30 : decode cX12_isCut 30 = .ok (.iload_n 2, 1) := dk_iload_n_2 (by decide +kernel)
theorem dX12_isCut_31 : decode cX12_isCut 31 = .ok (.aload_n 0, 1) := dk_aload_n_0 (by decide +kernel)
theorem dX12_isCut_32 : decode cX12_isCut 32 = .ok (.getfield 31, 3) := dk_getfield (by decide +kernel)
theorem dX12_isCut_35 : decode cX12_isCut 35 = .ok (.iload_n 3, 1) := dk_iload_n_3 (by decide +kernel)
theorem dX12_isCut_36 : decode cX12_isCut 36 = .ok (.iaload, 1) := dk_iaload (by decide +kernel)
theorem dX12_isCut_37 : decode cX12_isCut 37 = .ok (.if_icmp .gt 5, 3) := dk_if_icmp_gt (by decide +kernel)
theorem dX12_isCut_40 : decode cX12_isCut 40 = .ok (.iconst 1, 1) := dk_iconst_1 (by decide +kernel)
theorem dX12_isCut_41 : decode cX12_isCut 41 = .ok (.ireturn, 1) := dk_ireturn (by decide +kernel)
theorem dX12_isCut_42 : decode cX12_isCut 42 = .ok (.iinc 3 1, 3) := dk_iinc (by decide +kernel)
theorem dX12_isCut_45 : decode cX12_isCut 45 = .ok (.goto (-43), 3) := dk_goto (by decide +kernel)
theorem dX12_isCut_48 : decode cX12_isCut 48 = .ok (.iconst 0, 1) := dk_iconst_0 (by decide +kernel)
theorem dX12_isCut_49 : decode cX12_isCut 49 = .ok (.ireturn, 1) := dk_ireturn (by decide +kernel)
theorem dX12_sounds_0 : decode cX12_sounds 0 = .ok (.aload_n 0, 1) := dk_aload_n_0 (by decide +kernel)
theorem dX12_sounds_1 : decode cX12_sounds 1 = .ok (.getfield 117, 3) := dk_getfield (by decide +kernel)
theorem dX12_sounds_4 : decode cX12_sounds 4 = .ok (.iconst 0, 1) := dk_iconst_0 (by decide +kernel)
theorem dX12_sounds_5 : decode cX12_sounds 5 = .ok (.iload_n 1, 1) := dk_iload_n_1 (by decide +kernel)
theorem dX12_sounds_6 : decode cX12_sounds 6 = .ok (.iastore, 1) := dk_iastore (by decide +kernel)
theorem dX12_sounds_7 : decode cX12_sounds 7 = .ok (.iconst 1, 1) := dk_iconst_1 (by decide +kernel)
theorem dX12_sounds_8 : decode cX12_sounds 8 = .ok (.istore 4, 2) := dk_istore (by decide +kernel)
theorem dX12_sounds_10 : decode cX12_sounds 10 = .ok (.iload 4, 2) := dk_iload (by decide +kernel)
theorem dX12_sounds_12 : decode cX12_sounds 12 = .ok (.aload_n 0, 1) := dk_aload_n_0 (by decide +kernel)
theorem dX12_sounds_13 : decode cX12_sounds 13 = .ok (.getfield 104, 3) := dk_getfield (by decide +kernel)
theorem dX12_sounds_16 : decode cX12_sounds 16 = .ok (.if_icmp .ge 105, 3) := dk_if_icmp_ge (by decide +kernel)
theorem dX12_sounds_19 : decode cX12_sounds 19 = .ok (.aload_n 0, 1) := dk_aload_n_0 (by decide +kernel)
theorem dX12_sounds_20 : decode cX12_sounds 20 = .ok (.getfield 117, 3) := dk_getfield (by decide +kernel)
theorem dX12_sounds_23 : decode cX12_sounds 23 = .ok (.aload_n 0, 1) := dk_aload_n_0 (by decide +kernel)
theorem dX12_sounds_24 : decode cX12_sounds 24 = .ok (.getfield 13, 3) := dk_getfield (by decide +kernel)
theorem dX12_sounds_27 : decode cX12_sounds 27 = .ok (.iload 4, 2) := dk_iload (by decide +kernel)
theorem dX12_sounds_29 : decode cX12_sounds 29 = .ok (.iaload, 1) := dk_iaload (by decide +kernel)
theorem dX12_sounds_30 : decode cX12_sounds 30 = .ok (.iaload, 1) := dk_iaload (by decide +kernel)
theorem dX12_sounds_31 : decode cX12_sounds 31 = .ok (.aload_n 0, 1) := dk_aload_n_0 (by decide +kernel)
theorem dX12_sounds_32 : decode cX12_sounds 32 = .ok (.getfield 16, 3) := dk_getfield (by decide +kernel)
theorem dX12_sounds_35 : decode cX12_sounds 35 = .ok (.iload 4, 2) := dk_iload (by decide +kernel)
theorem dX12_sounds_37 : decode cX12_sounds 37 = .ok (.iaload, 1) := dk_iaload (by decide +kernel)
theorem dX12_sounds_38 : decode cX12_sounds 38 = .ok (.bipush 10, 2) := dk_bipush (by decide +kernel)
theorem dX12_sounds_40 : decode cX12_sounds 40 = .ok (.iload_n 2, 1) := dk_iload_n_2 (by decide +kernel)
theorem dX12_sounds_41 : decode cX12_sounds 41 = .ok (.iadd, 1) := dk_iadd (by decide +kernel)
theorem dX12_sounds_42 : decode cX12_sounds 42 = .ok (.imul, 1) := dk_imul (by decide +kernel)
theorem dX12_sounds_43 : decode cX12_sounds 43 = .ok (.bipush 10, 2) := dk_bipush (by decide +kernel)
theorem dX12_sounds_45 : decode cX12_sounds 45 = .ok (.idiv, 1) := dk_idiv (by decide +kernel)
theorem dX12_sounds_46 : decode cX12_sounds 46 = .ok (.isub, 1) := dk_isub (by decide +kernel)
theorem dX12_sounds_47 : decode cX12_sounds 47 = .ok (.istore 5, 2) := dk_istore (by decide +kernel)
theorem dX12_sounds_49 : decode cX12_sounds 49 = .ok (.iload 5, 2) := dk_iload (by decide +kernel)
theorem dX12_sounds_51 : decode cX12_sounds 51 = .ok (.ifCond .le 17, 3) := dk_ifCond_le (by decide +kernel)
theorem dX12_sounds_54 : decode cX12_sounds 54 = .ok (.iload_n 3, 1) := dk_iload_n_3 (by decide +kernel)
theorem dX12_sounds_55 : decode cX12_sounds 55 = .ok (.ifCond .lt 17, 3) := dk_ifCond_lt (by decide +kernel)
theorem dX12_sounds_58 : decode cX12_sounds 58 = .ok (.aload_n 0, 1) := dk_aload_n_0 (by decide +kernel)
theorem dX12_sounds_59 : decode cX12_sounds 59 = .ok (.iload 4, 2) := dk_iload (by decide +kernel)
theorem dX12_sounds_61 : decode cX12_sounds 61 = .ok (.iload_n 3, 1) := dk_iload_n_3 (by decide +kernel)
theorem dX12_sounds_62 : decode cX12_sounds 62 = .ok (.invokevirtual 194, 3) := dk_invokevirtual (by decide +kernel)
theorem dX12_sounds_65 : decode cX12_sounds 65 = .ok (.ifCond .eq 7, 3) := dk_ifCond_eq (by decide +kernel)
theorem dX12_sounds_68 : decode cX12_sounds 68 = .ok (.iconst 0, 1) := dk_iconst_0 (by decide +kernel)
theorem dX12_sounds_69 : decode cX12_sounds 69 = .ok (.goto 21, 3) := dk_goto (by decide +kernel)
theorem dX12_sounds_72 : decode cX12_sounds 72 = .ok (.iload 5, 2) := dk_iload (by decide +kernel)
theorem dX12_sounds_74 : decode cX12_sounds 74 = .ok (.aload_n 0, 1) := dk_aload_n_0 (by decide +kernel)
theorem dX12_sounds_75 : decode cX12_sounds 75 = .ok (.getfield 19, 3) := dk_getfield (by decide +kernel)
theorem dX12_sounds_78 : decode cX12_sounds 78 = .ok (.iload 4, 2) := dk_iload (by decide +kernel)
theorem dX12_sounds_80 : decode cX12_sounds 80 = .ok (.iaload, 1) := dk_iaload (by decide +kernel)
theorem dX12_sounds_81 : decode cX12_sounds 81 = .ok (.iadd, 1) := dk_iadd (by decide +kernel)
theorem dX12_sounds_82 : decode cX12_sounds 82 = .ok (.aload_n 0, 1) := dk_aload_n_0 (by decide +kernel)
theorem dX12_sounds_83 : decode cX12_sounds 83 = .ok (.getfield 22, 3) := dk_getfield (by decide +kernel)
theorem dX12_sounds_86 : decode cX12_sounds 86 = .ok (.iload 4, 2) := dk_iload (by decide +kernel)
theorem dX12_sounds_88 : decode cX12_sounds 88 = .ok (.iaload, 1) := dk_iaload (by decide +kernel)
theorem dX12_sounds_89 : decode cX12_sounds 89 = .ok (.iadd, 1) := dk_iadd (by decide +kernel)
theorem dX12_sounds_90 : decode cX12_sounds 90 = .ok (.istore 5, 2) := dk_istore (by decide +kernel)
theorem dX12_sounds_92 : decode cX12_sounds 92 = .ok (.aload_n 0, 1) := dk_aload_n_0 (by decide +kernel)
theorem dX12_sounds_93 : decode cX12_sounds 93 = .ok (.getfield 117, 3) := dk_getfield (by decide +kernel)
theorem dX12_sounds_96 : decode cX12_sounds 96 = .ok (.iload 4, 2) := dk_iload (by decide +kernel)
theorem dX12_sounds_98 : decode cX12_sounds 98 = .ok (.iload 5, 2) := dk_iload (by decide +kernel)
theorem dX12_sounds_100 : decode cX12_sounds 100 = .ok (.sipush 999, 3) := dk_sipush (by decide +kernel)
theorem dX12_sounds_103 : decode cX12_sounds 103 = .ok (.if_icmp .le 9, 3) := dk_if_icmp_le (by decide +kernel)
theorem dX12_sounds_106 : decode cX12_sounds 106 = .ok (.sipush 999, 3) := dk_sipush (by decide +kernel)
theorem dX12_sounds_109 : decode cX12_sounds 109 = .ok (.goto 5, 3) := dk_goto (by decide +kernel)
theorem dX12_sounds_112 : decode cX12_sounds 112 = .ok (.iload 5, 2) := dk_iload (by decide +kernel)
theorem dX12_sounds_114 : decode cX12_sounds 114 = .ok (.iastore, 1) := dk_iastore (by decide +kernel)
theorem dX12_sounds_115 : decode cX12_sounds 115 = .ok (.iinc 4 1, 3) := dk_iinc (by decide +kernel)
theorem dX12_sounds_118 : decode cX12_sounds 118 = .ok (.goto (-108), 3) := dk_goto (by decide +kernel)
theorem dX12_sounds_121 : decode cX12_sounds 121 = .ok (.return_, 1) := dk_return_ (by decide +kernel)
theorem dX12_node_0 : decode cX12_node 0 = .ok (.aload_n 0, 1) := dk_aload_n_0 (by decide +kernel)
theorem dX12_node_1 : decode cX12_node 1 = .ok (.iload_n 1, 1) := dk_iload_n_1 (by decide +kernel)
theorem dX12_node_2 : decode cX12_node 2 = .ok (.invokevirtual 183, 3) := dk_invokevirtual (by decide +kernel)
theorem dX12_node_5 : decode cX12_node 5 = .ok (.ifCond .ne 9, 3) := dk_ifCond_ne (by decide +kernel)
theorem dX12_node_8 : decode cX12_node 8 = .ok (.aload_n 0, 1) := dk_aload_n_0 (by decide +kernel)
theorem dX12_node_9 : decode cX12_node 9 = .ok (.iconst (-1), 1) := dk_iconst_m1 (by decide +kernel)
theorem dX12_node_10 : decode cX12_node 10 = .ok (.invokevirtual 175, 3) := dk_invokevirtual (by decide +kernel)
theorem dX12_node_13 : decode cX12_node 13 = .ok (.ireturn, 1) := dk_ireturn (by decide +kernel)
theorem dX12_node_14 : decode cX12_node 14 = .ok (.iload_n 2, 1) := dk_iload_n_2 (by decide +kernel)
theorem dX12_node_15 : decode cX12_node 15 = .ok (.iconst 1, 1) := dk_iconst_1 (by decide +kernel)
theorem dX12_node_16 : decode cX12_node 16 = .ok (.bipush 99, 2) := dk_bipush (by decide +kernel)
theorem dX12_node_18 : decode cX12_node 18 = .ok (.invokestatic 187, 3) := dk_invokestatic (by decide +kernel)
theorem dX12_node_21 : decode cX12_node 21 = .ok (.istore_n 3, 1) := dk_istore_n_3 (by decide +kernel)
theorem dX12_node_22 : decode cX12_node 22 = .ok (.iload_n 3, 1) := dk_iload_n_3 (by decide +kernel)
theorem dX12_node_23 : decode cX12_node 23 = .ok (.ifCond .ne 15, 3) := dk_ifCond_ne (by decide +kernel)
theorem dX12_node_26 : decode cX12_node 26 = .ok (.aload_n 0, 1) := dk_aload_n_0 (by decide +kernel)
theorem dX12_node_27 : decode cX12_node 27 = .ok (.getfield 104, 3) := dk_getfield (by decide +kernel)
theorem dX12_node_30 : decode cX12_node 30 = .ok (.bipush 20, 2) := dk_bipush (by decide +kernel)
theorem dX12_node_32 : decode cX12_node 32 = .ok (.if_icmp .ne 6, 3) := dk_if_icmp_ne (by decide +kernel)
theorem dX12_node_35 : decode cX12_node 35 = .ok (.bipush (-6), 2) := dk_bipush (by decide +kernel)
theorem dX12_node_37 : decode cX12_node 37 = .ok (.istore_n 3, 1) := dk_istore_n_3 (by decide +kernel)
theorem dX12_node_38 : decode cX12_node 38 = .ok (.iload_n 3, 1) := dk_iload_n_3 (by decide +kernel)
theorem dX12_node_39 : decode cX12_node 39 = .ok (.ifCond .eq 9, 3) := dk_ifCond_eq (by decide +kernel)
theorem dX12_node_42 : decode cX12_node 42 = .ok (.aload_n 0, 1) := dk_aload_n_0 (by decide +kernel)
theorem dX12_node_43 : decode cX12_node 43 = .ok (.iload_n 3, 1) := dk_iload_n_3 (by decide +kernel)
theorem dX12_node_44 : decode cX12_node 44 = .ok (.invokevirtual 175, 3) := dk_invokevirtual (by decide +kernel)
theorem dX12_node_47 : decode cX12_node 47 = .ok (.ireturn, 1) := dk_ireturn (by decide +kernel)
theorem dX12_node_48 : decode cX12_node 48 = .ok (.aload_n 0, 1) := dk_aload_n_0 (by decide +kernel)
theorem dX12_node_49 : decode cX12_node 49 = .ok (.getfield 13, 3) := dk_getfield (by decide +kernel)
theorem dX12_node_52 : decode cX12_node 52 = .ok (.aload_n 0, 1) := dk_aload_n_0 (by decide +kernel)
theorem dX12_node_53 : decode cX12_node 53 = .ok (.getfield 104, 3) := dk_getfield (by decide +kernel)
theorem dX12_node_56 : decode cX12_node 56 = .ok (.iload_n 1, 1) := dk_iload_n_1 (by decide +kernel)
theorem dX12_node_57 : decode cX12_node 57 = .ok (.iastore, 1) := dk_iastore (by decide +kernel)
theorem dX12_node_58 : decode cX12_node 58 = .ok (.aload_n 0, 1) := dk_aload_n_0 (by decide +kernel)
theorem dX12_node_59 : decode cX12_node 59 = .ok (.getfield 16, 3) := dk_getfield (by decide +kernel)
theorem dX12_node_62 : decode cX12_node 62 = .ok (.aload_n 0, 1) := dk_aload_n_0 (by decide +kernel)
theorem dX12_node_63 : decode cX12_node 63 = .ok (.getfield 104, 3) := dk_getfield (by decide +kernel)
theorem dX12_node_66 : decode cX12_node 66 = .ok (.iload_n 2, 1) := dk_iload_n_2 (by decide +kernel)
theorem dX12_node_67 : decode cX12_node 67 = .ok (.iastore, 1) := dk_iastore (by decide +kernel)
theorem dX12_node_68 : decode cX12_node 68 = .ok (.aload_n 0, 1) := dk_aload_n_0 (by decide +kernel)
theorem dX12_node_69 : decode cX12_node 69 = .ok (.dup, 1) := dk_dup (by decide +kernel)
theorem dX12_node_70 : decode cX12_node 70 = .ok (.getfield 104, 3) := dk_getfield (by decide +kernel)
theorem dX12_node_73 : decode cX12_node 73 = .ok (.iconst 1, 1) := dk_iconst_1 (by decide +kernel)
theorem dX12_node_74 : decode cX12_node 74 = .ok (.iadd, 1) := dk_iadd (by decide +kernel)
theorem dX12_node_75 : decode cX12_node 75 = .ok (.putfield 104, 3) := dk_putfield (by decide +kernel)
theorem dX12_node_78 : decode cX12_node 78 = .ok (.aload_n 0, 1) := dk_aload_n_0 (by decide +kernel)
theorem dX12_node_79 : decode cX12_node 79 = .ok (.dup, 1) := dk_dup (by decide +kernel)
theorem dX12_node_80 : decode cX12_node 80 = .ok (.getfield 120, 3) := dk_getfield (by decide +kernel)
theorem dX12_node_83 : decode cX12_node 83 = .ok (.iconst 1, 1) := dk_iconst_1 (by decide +kernel)
theorem dX12_node_84 : decode cX12_node 84 = .ok (.iadd, 1) := dk_iadd (by decide +kernel)
theorem dX12_node_85 : decode cX12_node 85 = .ok (.putfield 120, 3) := dk_putfield (by decide +kernel)
theorem dX12_node_88 : decode cX12_node 88 = .ok (.aload_n 0, 1) := dk_aload_n_0 (by decide +kernel)
theorem dX12_node_89 : decode cX12_node 89 = .ok (.getfield 104, 3) := dk_getfield (by decide +kernel)
theorem dX12_node_92 : decode cX12_node 92 = .ok (.iconst 1, 1) := dk_iconst_1 (by decide +kernel)
theorem dX12_node_93 : decode cX12_node 93 = .ok (.isub, 1) := dk_isub (by decide +kernel)
theorem dX12_node_94 : decode cX12_node 94 = .ok (.ireturn, 1) := dk_ireturn (by decide +kernel)
theorem dX12_boost_0 : decode cX12_boost 0 = .ok (.aload_n 0, 1) := dk_aload_n_0 (by decide +kernel)
theorem dX12_boost_1 : decode cX12_boost 1 = .ok (.iload_n 1, 1) := dk_iload_n_1 (by decide +kernel)
theorem dX12_boost_2 : decode cX12_boost 2 = .ok (.invokevirtual 183, 3) := dk_invokevirtual (by decide +kernel)
theorem dX12_boost_5 : decode cX12_boost 5 = .ok (.ifCond .eq 13, 3) := dk_ifCond_eq (by decide +kernel)
theorem dX12_boost_8 : decode cX12_boost 8 = .ok (.iload_n 2, 1) := dk_iload_n_2 (by decide +kernel)
theorem dX12_boost_9 : decode cX12_boost 9 = .ok (.iconst 0, 1) := dk_iconst_0 (by decide +kernel)
theorem dX12_boost_10 : decode cX12_boost 10 = .ok (.bipush 99, 2) := dk_bipush (by decide +kernel)
theorem dX12_boost_12 : decode cX12_boost 12 = .ok (.invokestatic 187, 3) := dk_invokestatic (by decide +kernel)
theorem dX12_boost_15 : decode cX12_boost 15 = .ok (.goto 4, 3) := dk_goto (by decide +kernel)
theorem dX12_boost_18 : decode cX12_boost 18 = .ok (.iconst (-1), 1) := dk_iconst_m1 (by decide +kernel)
theorem dX12_boost_19 : decode cX12_boost 19 = .ok (.istore_n 3, 1) := dk_istore_n_3 (by decide +kernel)
theorem dX12_boost_20 : decode cX12_boost 20 = .ok (.iload_n 3, 1) := dk_iload_n_3 (by decide +kernel)
theorem dX12_boost_21 : decode cX12_boost 21 = .ok (.ifCond .eq 9, 3) := dk_ifCond_eq (by decide +kernel)
theorem dX12_boost_24 : decode cX12_boost 24 = .ok (.aload_n 0, 1) := dk_aload_n_0 (by decide +kernel)
theorem dX12_boost_25 : decode cX12_boost 25 = .ok (.iload_n 3, 1) := dk_iload_n_3 (by decide +kernel)
theorem dX12_boost_26 : decode cX12_boost 26 = .ok (.invokevirtual 175, 3) := dk_invokevirtual (by decide +kernel)
theorem dX12_boost_29 : decode cX12_boost 29 = .ok (.ireturn, 1) := dk_ireturn (by decide +kernel)
theorem dX12_boost_30 : decode cX12_boost 30 = .ok (.aload_n 0, 1) := dk_aload_n_0 (by decide +kernel)
theorem dX12_boost_31 : decode cX12_boost 31 = .ok (.getfield 19, 3) := dk_getfield (by decide +kernel)
theorem dX12_boost_34 : decode cX12_boost 34 = .ok (.iload_n 1, 1) := dk_iload_n_1 (by decide +kernel)
theorem dX12_boost_35 : decode cX12_boost 35 = .ok (.iaload, 1) := dk_iaload (by decide +kernel)
theorem dX12_boost_36 : decode cX12_boost 36 = .ok (.istore 4, 2) := dk_istore (by decide +kernel)
theorem dX12_boost_38 : decode cX12_boost 38 = .ok (.aload_n 0, 1) := dk_aload_n_0 (by decide +kernel)
theorem dX12_boost_39 : decode cX12_boost 39 = .ok (.getfield 19, 3) := dk_getfield (by decide +kernel)
theorem dX12_boost_42 : decode cX12_boost 42 = .ok (.iload_n 1, 1) := dk_iload_n_1 (by decide +kernel)
theorem dX12_boost_43 : decode cX12_boost 43 = .ok (.iload_n 2, 1) := dk_iload_n_2 (by decide +kernel)
theorem dX12_boost_44 : decode cX12_boost 44 = .ok (.iastore, 1) := dk_iastore (by decide +kernel)
theorem dX12_boost_45 : decode cX12_boost 45 = .ok (.aload_n 0, 1) := dk_aload_n_0 (by decide +kernel)
theorem dX12_boost_46 : decode cX12_boost 46 = .ok (.dup, 1) := dk_dup (by decide +kernel)
theorem dX12_boost_47 : decode cX12_boost 47 = .ok (.getfield 120, 3) := dk_getfield (by decide +kernel)
theorem dX12_boost_50 : decode cX12_boost 50 = .ok (.iconst 1, 1) := dk_iconst_1 (by decide +kernel)
theorem dX12_boost_51 : decode cX12_boost 51 = .ok (.iadd, 1) := dk_iadd (by decide +kernel)
theorem dX12_boost_52 : decode cX12_boost 52 = .ok (.putfield 120, 3) := dk_putfield (by decide +kernel)
theorem dX12_boost_55 : decode cX12_boost 55 = .ok (.iload 4, 2) := dk_iload (by decide +kernel)
theorem dX12_boost_57 : decode cX12_boost 57 = .ok (.ireturn, 1) := dk_ireturn (by decide +kernel)
theorem dX12_weather_0 : decode cX12_weather 0 = .ok (.iload_n 1, 1) := dk_iload_n_1 (by decide +kernel)
theorem dX12_weather_1 : decode cX12_weather 1 = .ok (.iconst 0, 1) := dk_iconst_0 (by decide +kernel)
theorem dX12_weather_2 : decode cX12_weather 2 = .ok (.bipush 20, 2) := dk_bipush (by decide +kernel)
theorem dX12_weather_4 : decode cX12_weather 4 = .ok (.invokestatic 187, 3) := dk_invokestatic (by decide +kernel)
theorem dX12_weather_7 : decode cX12_weather 7 = .ok (.istore_n 2, 1) := dk_istore_n_2 (by decide +kernel)
theorem dX12_weather_8 : decode cX12_weather 8 = .ok (.iload_n 2, 1) := dk_iload_n_2 (by decide +kernel)
theorem dX12_weather_9 : decode cX12_weather 9 = .ok (.ifCond .eq 9, 3) := dk_ifCond_eq (by decide +kernel)
theorem dX12_weather_12 : decode cX12_weather 12 = .ok (.aload_n 0, 1) := dk_aload_n_0 (by decide +kernel)
theorem dX12_weather_13 : decode cX12_weather 13 = .ok (.iload_n 2, 1) := dk_iload_n_2 (by decide +kernel)
theorem dX12_weather_14 : decode cX12_weather 14 = .ok (.invokevirtual 175, 3) := dk_invokevirtual (by decide +kernel)
theorem dX12_weather_17 : decode cX12_weather 17 = .ok (.ireturn, 1) := dk_ireturn (by decide +kernel)
theorem dX12_weather_18 : decode cX12_weather 18 = .ok (.aload_n 0, 1) := dk_aload_n_0 (by decide +kernel)
theorem dX12_weather_19 : decode cX12_weather 19 = .ok (.getfield 172, 3) := dk_getfield (by decide +kernel)
theorem dX12_weather_22 : decode cX12_weather 22 = .ok (.istore_n 3, 1) := dk_istore_n_3 (by decide +kernel)
theorem dX12_weather_23 : decode cX12_weather 23 = .ok (.aload_n 0, 1) := dk_aload_n_0 (by decide +kernel)
theorem dX12_weather_24 : decode cX12_weather 24 = .ok (.iload_n 1, 1) := dk_iload_n_1 (by decide +kernel)
theorem dX12_weather_25 : decode cX12_weather 25 = .ok (.putfield 172, 3) := dk_putfield (by decide +kernel)
theorem dX12_weather_28 : decode cX12_weather 28 = .ok (.iload_n 3, 1) := dk_iload_n_3 (by decide +kernel)
theorem dX12_weather_29 : decode cX12_weather 29 = .ok (.ireturn, 1) := dk_ireturn (by decide +kernel)
theorem dX12_cut_0 : decode cX12_cut 0 = .ok (.aload_n 0, 1) := dk_aload_n_0 (by decide +kernel)
theorem dX12_cut_1 : decode cX12_cut 1 = .ok (.iload_n 1, 1) := dk_iload_n_1 (by decide +kernel)
theorem dX12_cut_2 : decode cX12_cut 2 = .ok (.invokevirtual 183, 3) := dk_invokevirtual (by decide +kernel)
theorem dX12_cut_5 : decode cX12_cut 5 = .ok (.ifCond .eq 7, 3) := dk_ifCond_eq (by decide +kernel)
theorem dX12_cut_8 : decode cX12_cut 8 = .ok (.iload_n 1, 1) := dk_iload_n_1 (by decide +kernel)
theorem dX12_cut_9 : decode cX12_cut 9 = .ok (.ifCond .ne 9, 3) := dk_ifCond_ne (by decide +kernel)
theorem dX12_cut_12 : decode cX12_cut 12 = .ok (.aload_n 0, 1) := dk_aload_n_0 (by decide +kernel)
theorem dX12_cut_13 : decode cX12_cut 13 = .ok (.iconst (-1), 1) := dk_iconst_m1 (by decide +kernel)
theorem dX12_cut_14 : decode cX12_cut 14 = .ok (.invokevirtual 175, 3) := dk_invokevirtual (by decide +kernel)
theorem dX12_cut_17 : decode cX12_cut 17 = .ok (.ireturn, 1) := dk_ireturn (by decide +kernel)
theorem dX12_cut_18 : decode cX12_cut 18 = .ok (.iload_n 2, 1) := dk_iload_n_2 (by decide +kernel)
theorem dX12_cut_19 : decode cX12_cut 19 = .ok (.aload_n 0, 1) := dk_aload_n_0 (by decide +kernel)
theorem dX12_cut_20 : decode cX12_cut 20 = .ok (.getfield 169, 3) := dk_getfield (by decide +kernel)
theorem dX12_cut_23 : decode cX12_cut 23 = .ok (.if_icmp .lt 8, 3) := dk_if_icmp_lt (by decide +kernel)
theorem dX12_cut_26 : decode cX12_cut 26 = .ok (.iload_n 3, 1) := dk_iload_n_3 (by decide +kernel)
theorem dX12_cut_27 : decode cX12_cut 27 = .ok (.iload_n 2, 1) := dk_iload_n_2 (by decide +kernel)
theorem dX12_cut_28 : decode cX12_cut 28 = .ok (.if_icmp .ge 10, 3) := dk_if_icmp_ge (by decide +kernel)
theorem dX12_cut_31 : decode cX12_cut 31 = .ok (.aload_n 0, 1) := dk_aload_n_0 (by decide +kernel)
theorem dX12_cut_32 : decode cX12_cut 32 = .ok (.bipush (-4), 2) := dk_bipush (by decide +kernel)
theorem dX12_cut_34 : decode cX12_cut 34 = .ok (.invokevirtual 175, 3) := dk_invokevirtual (by decide +kernel)
theorem dX12_cut_37 : decode cX12_cut 37 = .ok (.ireturn, 1) := dk_ireturn (by decide +kernel)
theorem dX12_cut_38 : decode cX12_cut 38 = .ok (.iload_n 3, 1) := dk_iload_n_3 (by decide +kernel)
theorem dX12_cut_39 : decode cX12_cut 39 = .ok (.sipush 9999, 3) := dk_sipush (by decide +kernel)
theorem dX12_cut_42 : decode cX12_cut 42 = .ok (.if_icmp .gt 12, 3) := dk_if_icmp_gt (by decide +kernel)
theorem dX12_cut_45 : decode cX12_cut 45 = .ok (.aload_n 0, 1) := dk_aload_n_0 (by decide +kernel)
theorem dX12_cut_46 : decode cX12_cut 46 = .ok (.getfield 191, 3) := dk_getfield (by decide +kernel)
theorem dX12_cut_49 : decode cX12_cut 49 = .ok (.bipush 40, 2) := dk_bipush (by decide +kernel)
theorem dX12_cut_51 : decode cX12_cut 51 = .ok (.if_icmp .ne 10, 3) := dk_if_icmp_ne (by decide +kernel)
theorem dX12_cut_54 : decode cX12_cut 54 = .ok (.aload_n 0, 1) := dk_aload_n_0 (by decide +kernel)
theorem dX12_cut_55 : decode cX12_cut 55 = .ok (.bipush (-6), 2) := dk_bipush (by decide +kernel)
theorem dX12_cut_57 : decode cX12_cut 57 = .ok (.invokevirtual 175, 3) := dk_invokevirtual (by decide +kernel)
theorem dX12_cut_60 : decode cX12_cut 60 = .ok (.ireturn, 1) := dk_ireturn (by decide +kernel)
theorem dX12_cut_61 : decode cX12_cut 61 = .ok (.aload_n 0, 1) := dk_aload_n_0 (by decide +kernel)
theorem dX12_cut_62 : decode cX12_cut 62 = .ok (.getfield 25, 3) := dk_getfield (by decide +kernel)
theorem dX12_cut_65 : decode cX12_cut 65 = .ok (.aload_n 0, 1) := dk_aload_n_0 (by decide +kernel)
theorem dX12_cut_66 : decode cX12_cut 66 = .ok (.getfield 191, 3) := dk_getfield (by decide +kernel)
theorem dX12_cut_69 : decode cX12_cut 69 = .ok (.iload_n 1, 1) := dk_iload_n_1 (by decide +kernel)
theorem dX12_cut_70 : decode cX12_cut 70 = .ok (.iastore, 1) := dk_iastore (by decide +kernel)
theorem dX12_cut_71 : decode cX12_cut 71 = .ok (.aload_n 0, 1) := dk_aload_n_0 (by decide +kernel)
theorem dX12_cut_72 : decode cX12_cut 72 = .ok (.getfield 28, 3) := dk_getfield (by decide +kernel)
theorem dX12_cut_75 : decode cX12_cut 75 = .ok (.aload_n 0, 1) := dk_aload_n_0 (by decide +kernel)
theorem dX12_cut_76 : decode cX12_cut 76 = .ok (.getfield 191, 3) := dk_getfield (by decide +kernel)
theorem dX12_cut_79 : decode cX12_cut 79 = .ok (.iload_n 2, 1) := dk_iload_n_2 (by decide +kernel)
theorem dX12_cut_80 : decode cX12_cut 80 = .ok (.iastore, 1) := dk_iastore (by decide +kernel)
theorem dX12_cut_81 : decode cX12_cut 81 = .ok (.aload_n 0, 1) := dk_aload_n_0 (by decide +kernel)
theorem dX12_cut_82 : decode cX12_cut 82 = .ok (.getfield 31, 3) := dk_getfield (by decide +kernel)
theorem dX12_cut_85 : decode cX12_cut 85 = .ok (.aload_n 0, 1) := dk_aload_n_0 (by decide +kernel)
theorem dX12_cut_86 : decode cX12_cut 86 = .ok (.getfield 191, 3) := dk_getfield (by decide +kernel)
theorem dX12_cut_89 : decode cX12_cut 89 = .ok (.iload_n 3, 1) := dk_iload_n_3 (by decide +kernel)
theorem dX12_cut_90 : decode cX12_cut 90 = .ok (.iastore, 1) := dk_iastore (by decide +kernel)
theorem dX12_cut_91 : decode cX12_cut 91 = .ok (.aload_n 0, 1) := dk_aload_n_0 (by decide +kernel)
theorem dX12_cut_92 : decode cX12_cut 92 = .ok (.dup, 1) := dk_dup (by decide +kernel)
theorem dX12_cut_93 : decode cX12_cut 93 = .ok (.getfield 191, 3) := dk_getfield (by decide +kernel)
theorem dX12_cut_96 : decode cX12_cut 96 = .ok (.iconst 1, 1) := dk_iconst_1 (by decide +kernel)
theorem dX12_cut_97 : decode cX12_cut 97 = .ok (.iadd, 1) := dk_iadd (by decide +kernel)
theorem dX12_cut_98 : decode cX12_cut 98 = .ok (.putfield 191, 3) := dk_putfield (by decide +kernel)
theorem dX12_cut_101 : decode cX12_cut 101 = .ok (.aload_n 0, 1) := dk_aload_n_0 (by decide +kernel)
theorem dX12_cut_102 : decode cX12_cut 102 = .ok (.getfield 191, 3) := dk_getfield (by decide +kernel)
theorem dX12_cut_105 : decode cX12_cut 105 = .ok (.ireturn, 1) := dk_ireturn (by decide +kernel)
theorem dX12_loud_0 : decode cX12_loud 0 = .ok (.aload_n 0, 1) := dk_aload_n_0 (by decide +kernel)
theorem dX12_loud_1 : decode cX12_loud 1 = .ok (.iload_n 1, 1) := dk_iload_n_1 (by decide +kernel)
theorem dX12_loud_2 : decode cX12_loud 2 = .ok (.invokevirtual 183, 3) := dk_invokevirtual (by decide +kernel)
theorem dX12_loud_5 : decode cX12_loud 5 = .ok (.ifCond .eq 14, 3) := dk_ifCond_eq (by decide +kernel)
theorem dX12_loud_8 : decode cX12_loud 8 = .ok (.iload_n 2, 1) := dk_iload_n_2 (by decide +kernel)
theorem dX12_loud_9 : decode cX12_loud 9 = .ok (.iconst 1, 1) := dk_iconst_1 (by decide +kernel)
theorem dX12_loud_10 : decode cX12_loud 10 = .ok (.sipush 999, 3) := dk_sipush (by decide +kernel)
theorem dX12_loud_13 : decode cX12_loud 13 = .ok (.invokestatic 187, 3) := dk_invokestatic (by decide +kernel)
theorem dX12_loud_16 : decode cX12_loud 16 = .ok (.goto 4, 3) := dk_goto (by decide +kernel)
theorem dX12_loud_19 : decode cX12_loud 19 = .ok (.iconst (-1), 1) := dk_iconst_m1 (by decide +kernel)
theorem dX12_loud_20 : decode cX12_loud 20 = .ok (.istore_n 3, 1) := dk_istore_n_3 (by decide +kernel)
theorem dX12_loud_21 : decode cX12_loud 21 = .ok (.iload_n 3, 1) := dk_iload_n_3 (by decide +kernel)
theorem dX12_loud_22 : decode cX12_loud 22 = .ok (.ifCond .eq 9, 3) := dk_ifCond_eq (by decide +kernel)
theorem dX12_loud_25 : decode cX12_loud 25 = .ok (.aload_n 0, 1) := dk_aload_n_0 (by decide +kernel)
theorem dX12_loud_26 : decode cX12_loud 26 = .ok (.iload_n 3, 1) := dk_iload_n_3 (by decide +kernel)
theorem dX12_loud_27 : decode cX12_loud 27 = .ok (.invokevirtual 175, 3) := dk_invokevirtual (by decide +kernel)
theorem dX12_loud_30 : decode cX12_loud 30 = .ok (.ireturn, 1) := dk_ireturn (by decide +kernel)
theorem dX12_loud_31 : decode cX12_loud 31 = .ok (.aload_n 0, 1) := dk_aload_n_0 (by decide +kernel)
theorem dX12_loud_32 : decode cX12_loud 32 = .ok (.iload_n 2, 1) := dk_iload_n_2 (by decide +kernel)
theorem dX12_loud_33 : decode cX12_loud 33 = .ok (.aload_n 0, 1) := dk_aload_n_0 (by decide +kernel)
theorem dX12_loud_34 : decode cX12_loud 34 = .ok (.getfield 172, 3) := dk_getfield (by decide +kernel)
theorem dX12_loud_37 : decode cX12_loud 37 = .ok (.aload_n 0, 1) := dk_aload_n_0 (by decide +kernel)
theorem dX12_loud_38 : decode cX12_loud 38 = .ok (.getfield 169, 3) := dk_getfield (by decide +kernel)
theorem dX12_loud_41 : decode cX12_loud 41 = .ok (.invokevirtual 197, 3) := dk_invokevirtual (by decide +kernel)
theorem dX12_loud_44 : decode cX12_loud 44 = .ok (.aload_n 0, 1) := dk_aload_n_0 (by decide +kernel)
theorem dX12_loud_45 : decode cX12_loud 45 = .ok (.getfield 117, 3) := dk_getfield (by decide +kernel)
theorem dX12_loud_48 : decode cX12_loud 48 = .ok (.iload_n 1, 1) := dk_iload_n_1 (by decide +kernel)
theorem dX12_loud_49 : decode cX12_loud 49 = .ok (.iaload, 1) := dk_iaload (by decide +kernel)
theorem dX12_loud_50 : decode cX12_loud 50 = .ok (.ireturn, 1) := dk_ireturn (by decide +kernel)
theorem dX12_home_0 : decode cX12_home 0 = .ok (.aload_n 0, 1) := dk_aload_n_0 (by decide +kernel)
theorem dX12_home_1 : decode cX12_home 1 = .ok (.iload_n 1, 1) := dk_iload_n_1 (by decide +kernel)
theorem dX12_home_2 : decode cX12_home 2 = .ok (.invokevirtual 183, 3) := dk_invokevirtual (by decide +kernel)
theorem dX12_home_5 : decode cX12_home 5 = .ok (.ifCond .ne 9, 3) := dk_ifCond_ne (by decide +kernel)
theorem dX12_home_8 : decode cX12_home 8 = .ok (.aload_n 0, 1) := dk_aload_n_0 (by decide +kernel)
theorem dX12_home_9 : decode cX12_home 9 = .ok (.iconst (-1), 1) := dk_iconst_m1 (by decide +kernel)
theorem dX12_home_10 : decode cX12_home 10 = .ok (.invokevirtual 175, 3) := dk_invokevirtual (by decide +kernel)
theorem dX12_home_13 : decode cX12_home 13 = .ok (.ireturn, 1) := dk_ireturn (by decide +kernel)
theorem dX12_home_14 : decode cX12_home 14 = .ok (.iload_n 2, 1) := dk_iload_n_2 (by decide +kernel)
theorem dX12_home_15 : decode cX12_home 15 = .ok (.iconst 1, 1) := dk_iconst_1 (by decide +kernel)
theorem dX12_home_16 : decode cX12_home 16 = .ok (.if_icmp .lt 12, 3) := dk_if_icmp_lt (by decide +kernel)
theorem dX12_home_19 : decode cX12_home 19 = .ok (.iload_n 3, 1) := dk_iload_n_3 (by decide +kernel)
theorem dX12_home_20 : decode cX12_home 20 = .ok (.ifCond .lt 8, 3) := dk_ifCond_lt (by decide +kernel)
theorem dX12_home_23 : decode cX12_home 23 = .ok (.iload 4, 2) := dk_iload (by decide +kernel)
theorem dX12_home_25 : decode cX12_home 25 = .ok (.ifCond .ge 10, 3) := dk_ifCond_ge (by decide +kernel)
theorem dX12_home_28 : decode cX12_home 28 = .ok (.aload_n 0, 1) := dk_aload_n_0 (by decide +kernel)
theorem dX12_home_29 : decode cX12_home 29 = .ok (.bipush (-4), 2) := dk_bipush (by decide +kernel)
theorem dX12_home_31 : decode cX12_home 31 = .ok (.invokevirtual 175, 3) := dk_invokevirtual (by decide +kernel)
theorem dX12_home_34 : decode cX12_home 34 = .ok (.ireturn, 1) := dk_ireturn (by decide +kernel)
theorem dX12_home_35 : decode cX12_home 35 = .ok (.iload_n 2, 1) := dk_iload_n_2 (by decide +kernel)
theorem dX12_home_36 : decode cX12_home 36 = .ok (.bipush 9, 2) := dk_bipush (by decide +kernel)
theorem dX12_home_38 : decode cX12_home 38 = .ok (.if_icmp .gt 25, 3) := dk_if_icmp_gt (by decide +kernel)
theorem dX12_home_41 : decode cX12_home 41 = .ok (.iload_n 3, 1) := dk_iload_n_3 (by decide +kernel)
theorem dX12_home_42 : decode cX12_home 42 = .ok (.ldc 201, 2) := dk_ldc (by decide +kernel)
theorem dX12_home_44 : decode cX12_home 44 = .ok (.if_icmp .gt 19, 3) := dk_if_icmp_gt (by decide +kernel)
theorem dX12_home_47 : decode cX12_home 47 = .ok (.iload 4, 2) := dk_iload (by decide +kernel)
theorem dX12_home_49 : decode cX12_home 49 = .ok (.ldc 201, 2) := dk_ldc (by decide +kernel)
theorem dX12_home_51 : decode cX12_home 51 = .ok (.if_icmp .gt 12, 3) := dk_if_icmp_gt (by decide +kernel)
theorem dX12_home_54 : decode cX12_home 54 = .ok (.aload_n 0, 1) := dk_aload_n_0 (by decide +kernel)
theorem dX12_home_55 : decode cX12_home 55 = .ok (.getfield 166, 3) := dk_getfield (by decide +kernel)
theorem dX12_home_58 : decode cX12_home 58 = .ok (.bipush 40, 2) := dk_bipush (by decide +kernel)
theorem dX12_home_60 : decode cX12_home 60 = .ok (.if_icmp .ne 10, 3) := dk_if_icmp_ne (by decide +kernel)
theorem dX12_home_63 : decode cX12_home 63 = .ok (.aload_n 0, 1) := dk_aload_n_0 (by decide +kernel)
theorem dX12_home_64 : decode cX12_home 64 = .ok (.bipush (-6), 2) := dk_bipush (by decide +kernel)
theorem dX12_home_66 : decode cX12_home 66 = .ok (.invokevirtual 175, 3) := dk_invokevirtual (by decide +kernel)
theorem dX12_home_69 : decode cX12_home 69 = .ok (.ireturn, 1) := dk_ireturn (by decide +kernel)
theorem dX12_home_70 : decode cX12_home 70 = .ok (.aload_n 0, 1) := dk_aload_n_0 (by decide +kernel)
theorem dX12_home_71 : decode cX12_home 71 = .ok (.getfield 34, 3) := dk_getfield (by decide +kernel)
theorem dX12_home_74 : decode cX12_home 74 = .ok (.aload_n 0, 1) := dk_aload_n_0 (by decide +kernel)
theorem dX12_home_75 : decode cX12_home 75 = .ok (.getfield 166, 3) := dk_getfield (by decide +kernel)
theorem dX12_home_78 : decode cX12_home 78 = .ok (.iload_n 1, 1) := dk_iload_n_1 (by decide +kernel)
theorem dX12_home_79 : decode cX12_home 79 = .ok (.iastore, 1) := dk_iastore (by decide +kernel)
theorem dX12_home_80 : decode cX12_home 80 = .ok (.aload_n 0, 1) := dk_aload_n_0 (by decide +kernel)
theorem dX12_home_81 : decode cX12_home 81 = .ok (.getfield 37, 3) := dk_getfield (by decide +kernel)
theorem dX12_home_84 : decode cX12_home 84 = .ok (.aload_n 0, 1) := dk_aload_n_0 (by decide +kernel)
theorem dX12_home_85 : decode cX12_home 85 = .ok (.getfield 166, 3) := dk_getfield (by decide +kernel)
theorem dX12_home_88 : decode cX12_home 88 = .ok (.iload_n 2, 1) := dk_iload_n_2 (by decide +kernel)
theorem dX12_home_89 : decode cX12_home 89 = .ok (.iastore, 1) := dk_iastore (by decide +kernel)
theorem dX12_home_90 : decode cX12_home 90 = .ok (.aload_n 0, 1) := dk_aload_n_0 (by decide +kernel)
theorem dX12_home_91 : decode cX12_home 91 = .ok (.getfield 40, 3) := dk_getfield (by decide +kernel)
theorem dX12_home_94 : decode cX12_home 94 = .ok (.aload_n 0, 1) := dk_aload_n_0 (by decide +kernel)
theorem dX12_home_95 : decode cX12_home 95 = .ok (.getfield 166, 3) := dk_getfield (by decide +kernel)
theorem dX12_home_98 : decode cX12_home 98 = .ok (.iload_n 3, 1) := dk_iload_n_3 (by decide +kernel)
theorem dX12_home_99 : decode cX12_home 99 = .ok (.iastore, 1) := dk_iastore (by decide +kernel)
theorem dX12_home_100 : decode cX12_home 100 = .ok (.aload_n 0, 1) := dk_aload_n_0 (by decide +kernel)
theorem dX12_home_101 : decode cX12_home 101 = .ok (.getfield 43, 3) := dk_getfield (by decide +kernel)
theorem dX12_home_104 : decode cX12_home 104 = .ok (.aload_n 0, 1) := dk_aload_n_0 (by decide +kernel)
theorem dX12_home_105 : decode cX12_home 105 = .ok (.getfield 166, 3) := dk_getfield (by decide +kernel)
theorem dX12_home_108 : decode cX12_home 108 = .ok (.iload 4, 2) := dk_iload (by decide +kernel)
theorem dX12_home_110 : decode cX12_home 110 = .ok (.iastore, 1) := dk_iastore (by decide +kernel)
theorem dX12_home_111 : decode cX12_home 111 = .ok (.aload_n 0, 1) := dk_aload_n_0 (by decide +kernel)
theorem dX12_home_112 : decode cX12_home 112 = .ok (.dup, 1) := dk_dup (by decide +kernel)
theorem dX12_home_113 : decode cX12_home 113 = .ok (.getfield 166, 3) := dk_getfield (by decide +kernel)
theorem dX12_home_116 : decode cX12_home 116 = .ok (.iconst 1, 1) := dk_iconst_1 (by decide +kernel)
theorem dX12_home_117 : decode cX12_home 117 = .ok (.iadd, 1) := dk_iadd (by decide +kernel)
theorem dX12_home_118 : decode cX12_home 118 = .ok (.putfield 166, 3) := dk_putfield (by decide +kernel)
theorem dX12_home_121 : decode cX12_home 121 = .ok (.aload_n 0, 1) := dk_aload_n_0 (by decide +kernel)
theorem dX12_home_122 : decode cX12_home 122 = .ok (.dup, 1) := dk_dup (by decide +kernel)
theorem dX12_home_123 : decode cX12_home 123 = .ok (.getfield 120, 3) := dk_getfield (by decide +kernel)
theorem dX12_home_126 : decode cX12_home 126 = .ok (.iconst 1, 1) := dk_iconst_1 (by decide +kernel)
theorem dX12_home_127 : decode cX12_home 127 = .ok (.iadd, 1) := dk_iadd (by decide +kernel)
theorem dX12_home_128 : decode cX12_home 128 = .ok (.putfield 120, 3) := dk_putfield (by decide +kernel)
theorem dX12_home_131 : decode cX12_home 131 = .ok (.aload_n 0, 1) := dk_aload_n_0 (by decide +kernel)
theorem dX12_home_132 : decode cX12_home 132 = .ok (.getfield 166, 3) := dk_getfield (by decide +kernel)
theorem dX12_home_135 : decode cX12_home 135 = .ok (.iconst 1, 1) := dk_iconst_1 (by decide +kernel)
theorem dX12_home_136 : decode cX12_home 136 = .ok (.isub, 1) := dk_isub (by decide +kernel)
theorem dX12_home_137 : decode cX12_home 137 = .ok (.ireturn, 1) := dk_ireturn (by decide +kernel)
theorem dX12_least_0 : decode cX12_least 0 = .ok (.iload_n 1, 1) := dk_iload_n_1 (by decide +kernel)
theorem dX12_least_1 : decode cX12_least 1 = .ok (.iconst 1, 1) := dk_iconst_1 (by decide +kernel)
theorem dX12_least_2 : decode cX12_least 2 = .ok (.bipush 99, 2) := dk_bipush (by decide +kernel)
theorem dX12_least_4 : decode cX12_least 4 = .ok (.invokestatic 187, 3) := dk_invokestatic (by decide +kernel)
theorem dX12_least_7 : decode cX12_least 7 = .ok (.istore_n 2, 1) := dk_istore_n_2 (by decide +kernel)
theorem dX12_least_8 : decode cX12_least 8 = .ok (.iload_n 2, 1) := dk_iload_n_2 (by decide +kernel)
theorem dX12_least_9 : decode cX12_least 9 = .ok (.ifCond .eq 9, 3) := dk_ifCond_eq (by decide +kernel)
theorem dX12_least_12 : decode cX12_least 12 = .ok (.aload_n 0, 1) := dk_aload_n_0 (by decide +kernel)
theorem dX12_least_13 : decode cX12_least 13 = .ok (.iload_n 2, 1) := dk_iload_n_2 (by decide +kernel)
theorem dX12_least_14 : decode cX12_least 14 = .ok (.invokevirtual 175, 3) := dk_invokevirtual (by decide +kernel)
theorem dX12_least_17 : decode cX12_least 17 = .ok (.ireturn, 1) := dk_ireturn (by decide +kernel)
theorem dX12_least_18 : decode cX12_least 18 = .ok (.aload_n 0, 1) := dk_aload_n_0 (by decide +kernel)
theorem dX12_least_19 : decode cX12_least 19 = .ok (.getfield 108, 3) := dk_getfield (by decide +kernel)
theorem dX12_least_22 : decode cX12_least 22 = .ok (.istore_n 3, 1) := dk_istore_n_3 (by decide +kernel)
theorem dX12_least_23 : decode cX12_least 23 = .ok (.aload_n 0, 1) := dk_aload_n_0 (by decide +kernel)
theorem dX12_least_24 : decode cX12_least 24 = .ok (.iload_n 1, 1) := dk_iload_n_1 (by decide +kernel)
theorem dX12_least_25 : decode cX12_least 25 = .ok (.putfield 108, 3) := dk_putfield (by decide +kernel)
theorem dX12_least_28 : decode cX12_least 28 = .ok (.aload_n 0, 1) := dk_aload_n_0 (by decide +kernel)
theorem dX12_least_29 : decode cX12_least 29 = .ok (.dup, 1) := dk_dup (by decide +kernel)
theorem dX12_least_30 : decode cX12_least 30 = .ok (.getfield 120, 3) := dk_getfield (by decide +kernel)
theorem dX12_least_33 : decode cX12_least 33 = .ok (.iconst 1, 1) := dk_iconst_1 (by decide +kernel)
theorem dX12_least_34 : decode cX12_least 34 = .ok (.iadd, 1) := dk_iadd (by decide +kernel)
theorem dX12_least_35 : decode cX12_least 35 = .ok (.putfield 120, 3) := dk_putfield (by decide +kernel)
theorem dX12_least_38 : decode cX12_least 38 = .ok (.iload_n 3, 1) := dk_iload_n_3 (by decide +kernel)
theorem dX12_least_39 : decode cX12_least 39 = .ok (.ireturn, 1) := dk_ireturn (by decide +kernel)
theorem dX12_hearsNow_0 : decode cX12_hearsNow 0 = .ok (.aload_n 0, 1) := dk_aload_n_0 (by decide +kernel)
theorem dX12_hearsNow_1 : decode cX12_hearsNow 1 = .ok (.getfield 117, 3) := dk_getfield (by decide +kernel)
theorem dX12_hearsNow_4 : decode cX12_hearsNow 4 = .ok (.aload_n 0, 1) := dk_aload_n_0 (by decide +kernel)
theorem dX12_hearsNow_5 : decode cX12_hearsNow 5 = .ok (.getfield 34, 3) := dk_getfield (by decide +kernel)
theorem dX12_hearsNow_8 : decode cX12_hearsNow 8 = .ok (.iload_n 1, 1) := dk_iload_n_1 (by decide +kernel)
theorem dX12_hearsNow_9 : decode cX12_hearsNow 9 = .ok (.iaload, 1) := dk_iaload (by decide +kernel)
theorem dX12_hearsNow_10 : decode cX12_hearsNow 10 = .ok (.iaload, 1) := dk_iaload (by decide +kernel)
theorem dX12_hearsNow_11 : decode cX12_hearsNow 11 = .ok (.aload_n 0, 1) := dk_aload_n_0 (by decide +kernel)
theorem dX12_hearsNow_12 : decode cX12_hearsNow 12 = .ok (.getfield 37, 3) := dk_getfield (by decide +kernel)
theorem dX12_hearsNow_15 : decode cX12_hearsNow 15 = .ok (.iload_n 1, 1) := dk_iload_n_1 (by decide +kernel)
theorem dX12_hearsNow_16 : decode cX12_hearsNow 16 = .ok (.iaload, 1) := dk_iaload (by decide +kernel)
theorem dX12_hearsNow_17 : decode cX12_hearsNow 17 = .ok (.idiv, 1) := dk_idiv (by decide +kernel)
theorem dX12_hearsNow_18 : decode cX12_hearsNow 18 = .ok (.aload_n 0, 1) := dk_aload_n_0 (by decide +kernel)
theorem dX12_hearsNow_19 : decode cX12_hearsNow 19 = .ok (.getfield 108, 3) := dk_getfield (by decide +kernel)
theorem dX12_hearsNow_22 : decode cX12_hearsNow 22 = .ok (.if_icmp .lt 7, 3) := dk_if_icmp_lt (by decide +kernel)
theorem dX12_hearsNow_25 : decode cX12_hearsNow 25 = .ok (.iconst 1, 1) := dk_iconst_1 (by decide +kernel)
theorem dX12_hearsNow_26 : decode cX12_hearsNow 26 = .ok (.goto 4, 3) := dk_goto (by decide +kernel)
theorem dX12_hearsNow_29 : decode cX12_hearsNow 29 = .ok (.iconst 0, 1) := dk_iconst_0 (by decide +kernel)
theorem dX12_hearsNow_30 : decode cX12_hearsNow 30 = .ok (.ireturn, 1) := dk_ireturn (by decide +kernel)
theorem dX12_hears_0 : decode cX12_hears 0 = .ok (.aload_n 0, 1) := dk_aload_n_0 (by decide +kernel)
theorem dX12_hears_1 : decode cX12_hears 1 = .ok (.iload_n 1, 1) := dk_iload_n_1 (by decide +kernel)
theorem dX12_hears_2 : decode cX12_hears 2 = .ok (.invokevirtual 202, 3) := dk_invokevirtual (by decide +kernel)
theorem dX12_hears_5 : decode cX12_hears 5 = .ok (.ifCond .eq 14, 3) := dk_ifCond_eq (by decide +kernel)
theorem dX12_hears_8 : decode cX12_hears 8 = .ok (.iload_n 2, 1) := dk_iload_n_2 (by decide +kernel)
theorem dX12_hears_9 : decode cX12_hears 9 = .ok (.iconst 1, 1) := dk_iconst_1 (by decide +kernel)
theorem dX12_hears_10 : decode cX12_hears 10 = .ok (.sipush 999, 3) := dk_sipush (by decide +kernel)
theorem dX12_hears_13 : decode cX12_hears 13 = .ok (.invokestatic 187, 3) := dk_invokestatic (by decide +kernel)
theorem dX12_hears_16 : decode cX12_hears 16 = .ok (.goto 4, 3) := dk_goto (by decide +kernel)
theorem dX12_hears_19 : decode cX12_hears 19 = .ok (.iconst (-1), 1) := dk_iconst_m1 (by decide +kernel)
theorem dX12_hears_20 : decode cX12_hears 20 = .ok (.istore_n 3, 1) := dk_istore_n_3 (by decide +kernel)
theorem dX12_hears_21 : decode cX12_hears 21 = .ok (.iload_n 3, 1) := dk_iload_n_3 (by decide +kernel)
theorem dX12_hears_22 : decode cX12_hears 22 = .ok (.ifCond .eq 9, 3) := dk_ifCond_eq (by decide +kernel)
theorem dX12_hears_25 : decode cX12_hears 25 = .ok (.aload_n 0, 1) := dk_aload_n_0 (by decide +kernel)
theorem dX12_hears_26 : decode cX12_hears 26 = .ok (.iload_n 3, 1) := dk_iload_n_3 (by decide +kernel)
theorem dX12_hears_27 : decode cX12_hears 27 = .ok (.invokevirtual 175, 3) := dk_invokevirtual (by decide +kernel)
theorem dX12_hears_30 : decode cX12_hears 30 = .ok (.ireturn, 1) := dk_ireturn (by decide +kernel)
theorem dX12_hears_31 : decode cX12_hears 31 = .ok (.aload_n 0, 1) := dk_aload_n_0 (by decide +kernel)
theorem dX12_hears_32 : decode cX12_hears 32 = .ok (.iload_n 2, 1) := dk_iload_n_2 (by decide +kernel)
theorem dX12_hears_33 : decode cX12_hears 33 = .ok (.aload_n 0, 1) := dk_aload_n_0 (by decide +kernel)
theorem dX12_hears_34 : decode cX12_hears 34 = .ok (.getfield 172, 3) := dk_getfield (by decide +kernel)
theorem dX12_hears_37 : decode cX12_hears 37 = .ok (.aload_n 0, 1) := dk_aload_n_0 (by decide +kernel)
theorem dX12_hears_38 : decode cX12_hears 38 = .ok (.getfield 169, 3) := dk_getfield (by decide +kernel)
theorem dX12_hears_41 : decode cX12_hears 41 = .ok (.invokevirtual 197, 3) := dk_invokevirtual (by decide +kernel)
theorem dX12_hears_44 : decode cX12_hears 44 = .ok (.aload_n 0, 1) := dk_aload_n_0 (by decide +kernel)
theorem dX12_hears_45 : decode cX12_hears 45 = .ok (.iload_n 1, 1) := dk_iload_n_1 (by decide +kernel)
theorem dX12_hears_46 : decode cX12_hears 46 = .ok (.invokevirtual 205, 3) := dk_invokevirtual (by decide +kernel)
theorem dX12_hears_49 : decode cX12_hears 49 = .ok (.ifCond .eq 7, 3) := dk_ifCond_eq (by decide +kernel)
theorem dX12_hears_52 : decode cX12_hears 52 = .ok (.iconst 1, 1) := dk_iconst_1 (by decide +kernel)
theorem dX12_hears_53 : decode cX12_hears 53 = .ok (.goto 4, 3) := dk_goto (by decide +kernel)
theorem dX12_hears_56 : decode cX12_hears 56 = .ok (.iconst 0, 1) := dk_iconst_0 (by decide +kernel)
theorem dX12_hears_57 : decode cX12_hears 57 = .ok (.ireturn, 1) := dk_ireturn (by decide +kernel)
theorem dX12_reader_0 : decode cX12_reader 0 = .ok (.iload_n 1, 1) := dk_iload_n_1 (by decide +kernel)
theorem dX12_reader_1 : decode cX12_reader 1 = .ok (.iconst 1, 1) := dk_iconst_1 (by decide +kernel)
theorem dX12_reader_2 : decode cX12_reader 2 = .ok (.sipush 999, 3) := dk_sipush (by decide +kernel)
theorem dX12_reader_5 : decode cX12_reader 5 = .ok (.invokestatic 187, 3) := dk_invokestatic (by decide +kernel)
theorem dX12_reader_8 : decode cX12_reader 8 = .ok (.istore_n 2, 1) := dk_istore_n_2 (by decide +kernel)
theorem dX12_reader_9 : decode cX12_reader 9 = .ok (.iload_n 2, 1) := dk_iload_n_2 (by decide +kernel)
theorem dX12_reader_10 : decode cX12_reader 10 = .ok (.ifCond .ne 15, 3) := dk_ifCond_ne (by decide +kernel)
theorem dX12_reader_13 : decode cX12_reader 13 = .ok (.aload_n 0, 1) := dk_aload_n_0 (by decide +kernel)
theorem dX12_reader_14 : decode cX12_reader 14 = .ok (.getfield 208, 3) := dk_getfield (by decide +kernel)
theorem dX12_reader_17 : decode cX12_reader 17 = .ok (.bipush 8, 2) := dk_bipush (by decide +kernel)
theorem dX12_reader_19 : decode cX12_reader 19 = .ok (.if_icmp .ne 6, 3) := dk_if_icmp_ne (by decide +kernel)
theorem dX12_reader_22 : decode cX12_reader 22 = .ok (.bipush (-6), 2) := dk_bipush (by decide +kernel)
theorem dX12_reader_24 : decode cX12_reader 24 = .ok (.istore_n 2, 1) := dk_istore_n_2 (by decide +kernel)
theorem dX12_reader_25 : decode cX12_reader 25 = .ok (.iload_n 2, 1) := dk_iload_n_2 (by decide +kernel)
theorem dX12_reader_26 : decode cX12_reader 26 = .ok (.ifCond .eq 9, 3) := dk_ifCond_eq (by decide +kernel)
theorem dX12_reader_29 : decode cX12_reader 29 = .ok (.aload_n 0, 1) := dk_aload_n_0 (by decide +kernel)
theorem dX12_reader_30 : decode cX12_reader 30 = .ok (.iload_n 2, 1) := dk_iload_n_2 (by decide +kernel)
theorem dX12_reader_31 : decode cX12_reader 31 = .ok (.invokevirtual 175, 3) := dk_invokevirtual (by decide +kernel)
theorem dX12_reader_34 : decode cX12_reader 34 = .ok (.ireturn, 1) := dk_ireturn (by decide +kernel)
theorem dX12_reader_35 : decode cX12_reader 35 = .ok (.aload_n 0, 1) := dk_aload_n_0 (by decide +kernel)
theorem dX12_reader_36 : decode cX12_reader 36 = .ok (.getfield 50, 3) := dk_getfield (by decide +kernel)
theorem dX12_reader_39 : decode cX12_reader 39 = .ok (.aload_n 0, 1) := dk_aload_n_0 (by decide +kernel)
theorem dX12_reader_40 : decode cX12_reader 40 = .ok (.getfield 208, 3) := dk_getfield (by decide +kernel)
theorem dX12_reader_43 : decode cX12_reader 43 = .ok (.iload_n 1, 1) := dk_iload_n_1 (by decide +kernel)
theorem dX12_reader_44 : decode cX12_reader 44 = .ok (.iastore, 1) := dk_iastore (by decide +kernel)
theorem dX12_reader_45 : decode cX12_reader 45 = .ok (.aload_n 0, 1) := dk_aload_n_0 (by decide +kernel)
theorem dX12_reader_46 : decode cX12_reader 46 = .ok (.getfield 53, 3) := dk_getfield (by decide +kernel)
theorem dX12_reader_49 : decode cX12_reader 49 = .ok (.aload_n 0, 1) := dk_aload_n_0 (by decide +kernel)
theorem dX12_reader_50 : decode cX12_reader 50 = .ok (.getfield 208, 3) := dk_getfield (by decide +kernel)
theorem dX12_reader_53 : decode cX12_reader 53 = .ok (.bipush (-9), 2) := dk_bipush (by decide +kernel)
theorem dX12_reader_55 : decode cX12_reader 55 = .ok (.iastore, 1) := dk_iastore (by decide +kernel)
theorem dX12_reader_56 : decode cX12_reader 56 = .ok (.aload_n 0, 1) := dk_aload_n_0 (by decide +kernel)
theorem dX12_reader_57 : decode cX12_reader 57 = .ok (.dup, 1) := dk_dup (by decide +kernel)
theorem dX12_reader_58 : decode cX12_reader 58 = .ok (.getfield 208, 3) := dk_getfield (by decide +kernel)
theorem dX12_reader_61 : decode cX12_reader 61 = .ok (.iconst 1, 1) := dk_iconst_1 (by decide +kernel)
theorem dX12_reader_62 : decode cX12_reader 62 = .ok (.iadd, 1) := dk_iadd (by decide +kernel)
theorem dX12_reader_63 : decode cX12_reader 63 = .ok (.putfield 208, 3) := dk_putfield (by decide +kernel)
theorem dX12_reader_66 : decode cX12_reader 66 = .ok (.aload_n 0, 1) := dk_aload_n_0 (by decide +kernel)
theorem dX12_reader_67 : decode cX12_reader 67 = .ok (.getfield 208, 3) := dk_getfield (by decide +kernel)
theorem dX12_reader_70 : decode cX12_reader 70 = .ok (.iconst 1, 1) := dk_iconst_1 (by decide +kernel)
theorem dX12_reader_71 : decode cX12_reader 71 = .ok (.isub, 1) := dk_isub (by decide +kernel)
theorem dX12_reader_72 : decode cX12_reader 72 = .ok (.ireturn, 1) := dk_ireturn (by decide +kernel)
theorem dX12_rests_0 : decode cX12_rests 0 = .ok (.iload_n 1, 1) := dk_iload_n_1 (by decide +kernel)
theorem dX12_rests_1 : decode cX12_rests 1 = .ok (.iconst 1, 1) := dk_iconst_1 (by decide +kernel)
theorem dX12_rests_2 : decode cX12_rests 2 = .ok (.if_icmp .lt 7, 3) := dk_if_icmp_lt (by decide +kernel)
theorem dX12_rests_5 : decode cX12_rests 5 = .ok (.iload_n 2, 1) := dk_iload_n_2 (by decide +kernel)
theorem dX12_rests_6 : decode cX12_rests 6 = .ok (.ifCond .ge 10, 3) := dk_ifCond_ge (by decide +kernel)
theorem dX12_rests_9 : decode cX12_rests 9 = .ok (.aload_n 0, 1) := dk_aload_n_0 (by decide +kernel)
theorem dX12_rests_10 : decode cX12_rests 10 = .ok (.bipush (-4), 2) := dk_bipush (by decide +kernel)
theorem dX12_rests_12 : decode cX12_rests 12 = .ok (.invokevirtual 175, 3) := dk_invokevirtual (by decide +kernel)
theorem dX12_rests_15 : decode cX12_rests 15 = .ok (.ireturn, 1) := dk_ireturn (by decide +kernel)
theorem dX12_rests_16 : decode cX12_rests 16 = .ok (.iload_n 1, 1) := dk_iload_n_1 (by decide +kernel)
theorem dX12_rests_17 : decode cX12_rests 17 = .ok (.sipush 240, 3) := dk_sipush (by decide +kernel)
theorem dX12_rests_20 : decode cX12_rests 20 = .ok (.if_icmp .gt 10, 3) := dk_if_icmp_gt (by decide +kernel)
theorem dX12_rests_23 : decode cX12_rests 23 = .ok (.iload_n 2, 1) := dk_iload_n_2 (by decide +kernel)
theorem dX12_rests_24 : decode cX12_rests 24 = .ok (.sipush 240, 3) := dk_sipush (by decide +kernel)
theorem dX12_rests_27 : decode cX12_rests 27 = .ok (.if_icmp .le 10, 3) := dk_if_icmp_le (by decide +kernel)
theorem dX12_rests_30 : decode cX12_rests 30 = .ok (.aload_n 0, 1) := dk_aload_n_0 (by decide +kernel)
theorem dX12_rests_31 : decode cX12_rests 31 = .ok (.bipush (-6), 2) := dk_bipush (by decide +kernel)
theorem dX12_rests_33 : decode cX12_rests 33 = .ok (.invokevirtual 175, 3) := dk_invokevirtual (by decide +kernel)
theorem dX12_rests_36 : decode cX12_rests 36 = .ok (.ireturn, 1) := dk_ireturn (by decide +kernel)
theorem dX12_rests_37 : decode cX12_rests 37 = .ok (.sipush 1000, 3) := dk_sipush (by decide +kernel)
theorem dX12_rests_40 : decode cX12_rests 40 = .ok (.aload_n 0, 1) := dk_aload_n_0 (by decide +kernel)
theorem dX12_rests_41 : decode cX12_rests 41 = .ok (.getfield 111, 3) := dk_getfield (by decide +kernel)
theorem dX12_rests_44 : decode cX12_rests 44 = .ok (.imul, 1) := dk_imul (by decide +kernel)
theorem dX12_rests_45 : decode cX12_rests 45 = .ok (.aload_n 0, 1) := dk_aload_n_0 (by decide +kernel)
theorem dX12_rests_46 : decode cX12_rests 46 = .ok (.getfield 114, 3) := dk_getfield (by decide +kernel)
theorem dX12_rests_49 : decode cX12_rests 49 = .ok (.iadd, 1) := dk_iadd (by decide +kernel)
theorem dX12_rests_50 : decode cX12_rests 50 = .ok (.istore_n 3, 1) := dk_istore_n_3 (by decide +kernel)
theorem dX12_rests_51 : decode cX12_rests 51 = .ok (.aload_n 0, 1) := dk_aload_n_0 (by decide +kernel)
theorem dX12_rests_52 : decode cX12_rests 52 = .ok (.iload_n 1, 1) := dk_iload_n_1 (by decide +kernel)
theorem dX12_rests_53 : decode cX12_rests 53 = .ok (.putfield 111, 3) := dk_putfield (by decide +kernel)
theorem dX12_rests_56 : decode cX12_rests 56 = .ok (.aload_n 0, 1) := dk_aload_n_0 (by decide +kernel)
theorem dX12_rests_57 : decode cX12_rests 57 = .ok (.iload_n 2, 1) := dk_iload_n_2 (by decide +kernel)
theorem dX12_rests_58 : decode cX12_rests 58 = .ok (.putfield 114, 3) := dk_putfield (by decide +kernel)
theorem dX12_rests_61 : decode cX12_rests 61 = .ok (.iload_n 3, 1) := dk_iload_n_3 (by decide +kernel)
theorem dX12_rests_62 : decode cX12_rests 62 = .ok (.ireturn, 1) := dk_ireturn (by decide +kernel)
theorem dX12_may_0 : decode cX12_may 0 = .ok (.aload_n 0, 1) := dk_aload_n_0 (by decide +kernel)
theorem dX12_may_1 : decode cX12_may 1 = .ok (.getfield 56, 3) := dk_getfield (by decide +kernel)
theorem dX12_may_4 : decode cX12_may 4 = .ok (.iload_n 1, 1) := dk_iload_n_1 (by decide +kernel)
theorem dX12_may_5 : decode cX12_may 5 = .ok (.iaload, 1) := dk_iaload (by decide +kernel)
theorem dX12_may_6 : decode cX12_may 6 = .ok (.aload_n 0, 1) := dk_aload_n_0 (by decide +kernel)
theorem dX12_may_7 : decode cX12_may 7 = .ok (.getfield 111, 3) := dk_getfield (by decide +kernel)
theorem dX12_may_10 : decode cX12_may 10 = .ok (.if_icmp .lt 21, 3) := dk_if_icmp_lt (by decide +kernel)
theorem dX12_may_13 : decode cX12_may 13 = .ok (.aload_n 0, 1) := dk_aload_n_0 (by decide +kernel)
theorem dX12_may_14 : decode cX12_may 14 = .ok (.getfield 169, 3) := dk_getfield (by decide +kernel)
theorem dX12_may_17 : decode cX12_may 17 = .ok (.aload_n 0, 1) := dk_aload_n_0 (by decide +kernel)
theorem dX12_may_18 : decode cX12_may 18 = .ok (.getfield 53, 3) := dk_getfield (by decide +kernel)
theorem dX12_may_21 : decode cX12_may 21 = .ok (.iload_n 1, 1) := dk_iload_n_1 (by decide +kernel)
theorem dX12_may_22 : decode cX12_may 22 = .ok (.iaload, 1) := dk_iaload (by decide +kernel)
theorem dX12_may_23 : decode cX12_may 23 = .ok (.aload_n 0, 1) := dk_aload_n_0 (by decide +kernel)
theorem dX12_may_24 : decode cX12_may 24 = .ok (.getfield 114, 3) := dk_getfield (by decide +kernel)
theorem dX12_may_27 : decode cX12_may 27 = .ok (.iadd, 1) := dk_iadd (by decide +kernel)
theorem dX12_may_28 : decode cX12_may 28 = .ok (.if_icmp .le 7, 3) := dk_if_icmp_le (by decide +kernel)
theorem dX12_may_31 : decode cX12_may 31 = .ok (.iconst 1, 1) := dk_iconst_1 (by decide +kernel)
theorem dX12_may_32 : decode cX12_may 32 = .ok (.goto 4, 3) := dk_goto (by decide +kernel)
theorem dX12_may_35 : decode cX12_may 35 = .ok (.iconst 0, 1) := dk_iconst_0 (by decide +kernel)
theorem dX12_may_36 : decode cX12_may 36 = .ok (.ireturn, 1) := dk_ireturn (by decide +kernel)
theorem dX12_mayRead_0 : decode cX12_mayRead 0 = .ok (.iload_n 1, 1) := dk_iload_n_1 (by decide +kernel)
theorem dX12_mayRead_1 : decode cX12_mayRead 1 = .ok (.aload_n 0, 1) := dk_aload_n_0 (by decide +kernel)
theorem dX12_mayRead_2 : decode cX12_mayRead 2 = .ok (.getfield 208, 3) := dk_getfield (by decide +kernel)
theorem dX12_mayRead_5 : decode cX12_mayRead 5 = .ok (.invokestatic 162, 3) := dk_invokestatic (by decide +kernel)
theorem dX12_mayRead_8 : decode cX12_mayRead 8 = .ok (.ifCond .eq 19, 3) := dk_ifCond_eq (by decide +kernel)
theorem dX12_mayRead_11 : decode cX12_mayRead 11 = .ok (.aload_n 0, 1) := dk_aload_n_0 (by decide +kernel)
theorem dX12_mayRead_12 : decode cX12_mayRead 12 = .ok (.iload_n 1, 1) := dk_iload_n_1 (by decide +kernel)
theorem dX12_mayRead_13 : decode cX12_mayRead 13 = .ok (.invokevirtual 211, 3) := dk_invokevirtual (by decide +kernel)
theorem dX12_mayRead_16 : decode cX12_mayRead 16 = .ok (.ifCond .eq 7, 3) := dk_ifCond_eq (by decide +kernel)
theorem dX12_mayRead_19 : decode cX12_mayRead 19 = .ok (.iconst 1, 1) := dk_iconst_1 (by decide +kernel)
theorem dX12_mayRead_20 : decode cX12_mayRead 20 = .ok (.goto 12, 3) := dk_goto (by decide +kernel)
theorem dX12_mayRead_23 : decode cX12_mayRead 23 = .ok (.iconst 0, 1) := dk_iconst_0 (by decide +kernel)
theorem dX12_mayRead_24 : decode cX12_mayRead 24 = .ok (.goto 8, 3) := dk_goto (by decide +kernel)
theorem dX12_mayRead_27 : decode cX12_mayRead 27 = .ok (.aload_n 0, 1) := dk_aload_n_0 (by decide +kernel)
theorem dX12_mayRead_28 : decode cX12_mayRead 28 = .ok (.iconst (-1), 1) := dk_iconst_m1 (by decide +kernel)
theorem dX12_mayRead_29 : decode cX12_mayRead 29 = .ok (.invokevirtual 175, 3) := dk_invokevirtual (by decide +kernel)
theorem dX12_mayRead_32 : decode cX12_mayRead 32 = .ok (.ireturn, 1) := dk_ireturn (by decide +kernel)
theorem dX12_reads_0 : decode cX12_reads 0 = .ok (.aload_n 0, 1) := dk_aload_n_0 (by decide +kernel)
theorem dX12_reads_1 : decode cX12_reads 1 = .ok (.getfield 56, 3) := dk_getfield (by decide +kernel)
theorem dX12_reads_4 : decode cX12_reads 4 = .ok (.iload_n 2, 1) := dk_iload_n_2 (by decide +kernel)
theorem dX12_reads_5 : decode cX12_reads 5 = .ok (.aload_n 0, 1) := dk_aload_n_0 (by decide +kernel)
theorem dX12_reads_6 : decode cX12_reads 6 = .ok (.getfield 53, 3) := dk_getfield (by decide +kernel)
theorem dX12_reads_9 : decode cX12_reads 9 = .ok (.iload_n 2, 1) := dk_iload_n_2 (by decide +kernel)
theorem dX12_reads_10 : decode cX12_reads 10 = .ok (.iaload, 1) := dk_iaload (by decide +kernel)
theorem dX12_reads_11 : decode cX12_reads 11 = .ok (.ifCond .lt 29, 3) := dk_ifCond_lt (by decide +kernel)
theorem dX12_reads_14 : decode cX12_reads 14 = .ok (.aload_n 0, 1) := dk_aload_n_0 (by decide +kernel)
theorem dX12_reads_15 : decode cX12_reads 15 = .ok (.getfield 53, 3) := dk_getfield (by decide +kernel)
theorem dX12_reads_18 : decode cX12_reads 18 = .ok (.iload_n 2, 1) := dk_iload_n_2 (by decide +kernel)
theorem dX12_reads_19 : decode cX12_reads 19 = .ok (.iaload, 1) := dk_iaload (by decide +kernel)
theorem dX12_reads_20 : decode cX12_reads 20 = .ok (.aload_n 0, 1) := dk_aload_n_0 (by decide +kernel)
theorem dX12_reads_21 : decode cX12_reads 21 = .ok (.getfield 169, 3) := dk_getfield (by decide +kernel)
theorem dX12_reads_24 : decode cX12_reads 24 = .ok (.iconst 1, 1) := dk_iconst_1 (by decide +kernel)
theorem dX12_reads_25 : decode cX12_reads 25 = .ok (.isub, 1) := dk_isub (by decide +kernel)
theorem dX12_reads_26 : decode cX12_reads 26 = .ok (.if_icmp .ne 14, 3) := dk_if_icmp_ne (by decide +kernel)
theorem dX12_reads_29 : decode cX12_reads 29 = .ok (.aload_n 0, 1) := dk_aload_n_0 (by decide +kernel)
theorem dX12_reads_30 : decode cX12_reads 30 = .ok (.getfield 56, 3) := dk_getfield (by decide +kernel)
theorem dX12_reads_33 : decode cX12_reads 33 = .ok (.iload_n 2, 1) := dk_iload_n_2 (by decide +kernel)
theorem dX12_reads_34 : decode cX12_reads 34 = .ok (.iaload, 1) := dk_iaload (by decide +kernel)
theorem dX12_reads_35 : decode cX12_reads 35 = .ok (.iconst 1, 1) := dk_iconst_1 (by decide +kernel)
theorem dX12_reads_36 : decode cX12_reads 36 = .ok (.iadd, 1) := dk_iadd (by decide +kernel)
theorem dX12_reads_37 : decode cX12_reads 37 = .ok (.goto 4, 3) := dk_goto (by decide +kernel)
theorem dX12_reads_40 : decode cX12_reads 40 = .ok (.iconst 1, 1) := dk_iconst_1 (by decide +kernel)
theorem dX12_reads_41 : decode cX12_reads 41 = .ok (.iastore, 1) := dk_iastore (by decide +kernel)
theorem dX12_reads_42 : decode cX12_reads 42 = .ok (.aload_n 0, 1) := dk_aload_n_0 (by decide +kernel)
theorem dX12_reads_43 : decode cX12_reads 43 = .ok (.getfield 53, 3) := dk_getfield (by decide +kernel)
theorem dX12_reads_46 : decode cX12_reads 46 = .ok (.iload_n 2, 1) := dk_iload_n_2 (by decide +kernel)
theorem dX12_reads_47 : decode cX12_reads 47 = .ok (.aload_n 0, 1) := dk_aload_n_0 (by decide +kernel)
theorem dX12_reads_48 : decode cX12_reads 48 = .ok (.getfield 169, 3) := dk_getfield (by decide +kernel)
theorem dX12_reads_51 : decode cX12_reads 51 = .ok (.iastore, 1) := dk_iastore (by decide +kernel)
theorem dX12_reads_52 : decode cX12_reads 52 = .ok (.aload_n 0, 1) := dk_aload_n_0 (by decide +kernel)
theorem dX12_reads_53 : decode cX12_reads 53 = .ok (.dup, 1) := dk_dup (by decide +kernel)
theorem dX12_reads_54 : decode cX12_reads 54 = .ok (.getfield 214, 3) := dk_getfield (by decide +kernel)
theorem dX12_reads_57 : decode cX12_reads 57 = .ok (.iload_n 1, 1) := dk_iload_n_1 (by decide +kernel)
theorem dX12_reads_58 : decode cX12_reads 58 = .ok (.iconst 4, 1) := dk_iconst_4 (by decide +kernel)
theorem dX12_reads_59 : decode cX12_reads 59 = .ok (.if_icmp .ne 7, 3) := dk_if_icmp_ne (by decide +kernel)
theorem dX12_reads_62 : decode cX12_reads 62 = .ok (.iconst 1, 1) := dk_iconst_1 (by decide +kernel)
theorem dX12_reads_63 : decode cX12_reads 63 = .ok (.goto 4, 3) := dk_goto (by decide +kernel)
theorem dX12_reads_66 : decode cX12_reads 66 = .ok (.iconst 0, 1) := dk_iconst_0 (by decide +kernel)
theorem dX12_reads_67 : decode cX12_reads 67 = .ok (.iadd, 1) := dk_iadd (by decide +kernel)
theorem dX12_reads_68 : decode cX12_reads 68 = .ok (.putfield 214, 3) := dk_putfield (by decide +kernel)
theorem dX12_reads_71 : decode cX12_reads 71 = .ok (.aload_n 0, 1) := dk_aload_n_0 (by decide +kernel)
theorem dX12_reads_72 : decode cX12_reads 72 = .ok (.iload_n 1, 1) := dk_iload_n_1 (by decide +kernel)
theorem dX12_reads_73 : decode cX12_reads 73 = .ok (.iload_n 2, 1) := dk_iload_n_2 (by decide +kernel)
theorem dX12_reads_74 : decode cX12_reads 74 = .ok (.aload_n 0, 1) := dk_aload_n_0 (by decide +kernel)
theorem dX12_reads_75 : decode cX12_reads 75 = .ok (.getfield 50, 3) := dk_getfield (by decide +kernel)
theorem dX12_reads_78 : decode cX12_reads 78 = .ok (.iload_n 2, 1) := dk_iload_n_2 (by decide +kernel)
theorem dX12_reads_79 : decode cX12_reads 79 = .ok (.iaload, 1) := dk_iaload (by decide +kernel)
theorem dX12_reads_80 : decode cX12_reads 80 = .ok (.iload_n 3, 1) := dk_iload_n_3 (by decide +kernel)
theorem dX12_reads_81 : decode cX12_reads 81 = .ok (.invokevirtual 179, 3) := dk_invokevirtual (by decide +kernel)
theorem dX12_reads_84 : decode cX12_reads 84 = .ok (.ireturn, 1) := dk_ireturn (by decide +kernel)
set_option maxHeartbeats 4000000 in
set_option maxRecDepth 100000 in
theorem c_X12_isIn (l : Launch) (g : gG) (J : Nat → Nat → Int32) (L : Nat → Nat → Int64) (I : Nat → Nat → Nat → Int32) (P : Nat → Nat → Nat → Option Nat) (E : Nat → Option Nat) (N : Nat → Nat) (sz : Nat) (a0 : Int32) (a1 : Int32)  : Met l yX12_isIn (WS yX12_isIn cX12_isIn 2 (some .boolean)) (RM (1) 0 0) (PC g [.int a0, .int a1] ((J, L, I, P, E, N), sgM g) sz) (va_Qi (fun (r : Int32) (u : Unit) => ((r.toInt = 1 ∧ (0 ≤ a0.toInt ∧ a0.toInt < a1.toInt)) ∨ (r.toInt = 0 ∧ (¬ (0 ≤ a0.toInt ∧ a0.toInt < a1.toInt))))) (fun u t => at_ g (FR g ((J, L, I, P, E, N), sgM g) sz) ((J, L, I, P, E, N), sgM g) t) (FR g ((J, L, I, P, E, N), sgM g) sz)) 0 0 (FR g ((J, L, I, P, E, N), sgM g) sz) := by
  refine ent (by decide +kernel) (Nat.le_of_ble_eq_true rfl) ?_
  intro p e s m below meth c ls hsz C hW hr hlocks hname hl
  generalize FR g ((J, L, I, P, E, N), sgM g) sz = A at C hW ⊢
  have hx := C.1.1
  have hb := C.1.2.1
  have hts := C.1.2.2.2.2
  have hW : WB g A s.heap s.heap [] (J, L, I, P, E, N) (sgM g) := hW
  have hl : lv_has ls 2 [(0, .int a0), (1, .int a1)] := hl
  obtain ⟨H, hH⟩ : ∃ H : Heap, H = s.heap := ⟨_, rfl⟩
  obtain ⟨locs, hlocs⟩ : ∃ q : List Loc, q = [] := ⟨_, rfl⟩
  have hW : WB g A s.heap H locs (J, L, I, P, E, N) (sgM g) := by rw [hH, hlocs]; exact hW
  refine start_ hH hlocs ?_
  refine lv_iload_n hx hb dX12_isIn_0 rfl (lv_at hl 0 rfl) ?_
  refine lv_if_lt (tgt := 13) hx hb dX12_isIn_1 (by decide) (fun c1 => ?_) (fun c1 => ?_)
  · have c1 : a0.toInt < 0 := tlt rfl kp0 c1
    refine lv_iconst (v := 0) hx hb dX12_isIn_13 (by decide) ?_
    exact end_z C hr hlocks (by decide) () hW (by first | exact Or.inr (⟨by decide, by omega⟩)) dX12_isIn_14
  · have c1 : 0 ≤ a0.toInt := tnlt rfl kp0 c1
    refine lv_iload_n hx hb dX12_isIn_4 rfl (lv_at hl 0 rfl) ?_
    refine lv_iload_n hx hb dX12_isIn_5 rfl (lv_at hl 1 rfl) ?_
    refine lv_icmp_ge (tgt := 13) hx hb dX12_isIn_6 (by decide) (fun c2 => ?_) (fun c2 => ?_)
    · have c2 : a1.toInt ≤ a0.toInt := tle rfl rfl c2
      refine lv_iconst (v := 0) hx hb dX12_isIn_13 (by decide) ?_
      exact end_z C hr hlocks (by decide) () hW (by first | exact Or.inr (⟨by decide, by omega⟩)) dX12_isIn_14
    · have c2 : a0.toInt < a1.toInt := tnle rfl rfl c2
      refine lv_iconst (v := 1) hx hb dX12_isIn_9 (by decide) ?_
      refine lv_goto (tgt := 14) hx hb dX12_isIn_10 (by decide) ?_
      exact end_z C hr hlocks (by decide) () hW (by first | exact Or.inl ⟨by decide, by omega⟩) dX12_isIn_14

set_option maxHeartbeats 4000000 in
set_option maxRecDepth 100000 in
theorem c_X12_within (l : Launch) (g : gG) (J : Nat → Nat → Int32) (L : Nat → Nat → Int64) (I : Nat → Nat → Nat → Int32) (P : Nat → Nat → Nat → Option Nat) (E : Nat → Option Nat) (N : Nat → Nat) (sz : Nat) (a0 : Int32) (a1 : Int32) (a2 : Int32)  : Met l yX12_within (WS yX12_within cX12_within 3 (some .int)) (RM (1) 0 0) (PC g [.int a0, .int a1, .int a2] ((J, L, I, P, E, N), sgM g) sz) (va_Qi (fun (r : Int32) (u : Unit) => ((r.toInt = (-4) ∧ (a0.toInt < a1.toInt)) ∨ (r.toInt = (-6) ∧ (a1.toInt ≤ a0.toInt ∧ a2.toInt < a0.toInt)) ∨ (r.toInt = 0 ∧ (a1.toInt ≤ a0.toInt ∧ a0.toInt ≤ a2.toInt)))) (fun u t => at_ g (FR g ((J, L, I, P, E, N), sgM g) sz) ((J, L, I, P, E, N), sgM g) t) (FR g ((J, L, I, P, E, N), sgM g) sz)) 0 0 (FR g ((J, L, I, P, E, N), sgM g) sz) := by
  refine ent (by decide +kernel) (Nat.le_of_ble_eq_true rfl) ?_
  intro p e s m below meth c ls hsz C hW hr hlocks hname hl
  generalize FR g ((J, L, I, P, E, N), sgM g) sz = A at C hW ⊢
  have hx := C.1.1
  have hb := C.1.2.1
  have hts := C.1.2.2.2.2
  have hW : WB g A s.heap s.heap [] (J, L, I, P, E, N) (sgM g) := hW
  have hl : lv_has ls 3 [(0, .int a0), (1, .int a1), (2, .int a2)] := hl
  obtain ⟨H, hH⟩ : ∃ H : Heap, H = s.heap := ⟨_, rfl⟩
  obtain ⟨locs, hlocs⟩ : ∃ q : List Loc, q = [] := ⟨_, rfl⟩
  have hW : WB g A s.heap H locs (J, L, I, P, E, N) (sgM g) := by rw [hH, hlocs]; exact hW
  refine start_ hH hlocs ?_
  refine lv_iload_n hx hb dX12_within_0 rfl (lv_at hl 0 rfl) ?_
  refine lv_iload_n hx hb dX12_within_1 rfl (lv_at hl 1 rfl) ?_
  refine lv_icmp_ge (tgt := 10) hx hb dX12_within_2 (by decide) (fun c1 => ?_) (fun c1 => ?_)
  · have c1 : a1.toInt ≤ a0.toInt := tle rfl rfl c1
    refine lv_iload_n hx hb dX12_within_10 rfl (lv_at hl 0 rfl) ?_
    refine lv_iload_n hx hb dX12_within_11 rfl (lv_at hl 2 rfl) ?_
    refine lv_icmp_le (tgt := 20) hx hb dX12_within_12 (by decide) (fun c2 => ?_) (fun c2 => ?_)
    · have c2 : a0.toInt ≤ a2.toInt := tle rfl rfl c2
      refine lv_iconst (v := 0) hx hb dX12_within_20 (by decide) ?_
      exact end_i C hr hlocks () hW (by first | exact Or.inr (Or.inr (⟨by decide, by omega⟩))) dX12_within_21
    · have c2 : a2.toInt < a0.toInt := tnle rfl rfl c2
      refine lv_bipush (v := (-6)) hx hb dX12_within_15 (by decide) ?_
      refine lv_goto (tgt := 21) hx hb dX12_within_17 (by decide) ?_
      exact end_i C hr hlocks () hW (by first | exact Or.inr (Or.inl ⟨by decide, by omega⟩)) dX12_within_21
  · have c1 : a0.toInt < a1.toInt := tnle rfl rfl c1
    refine lv_bipush (v := (-4)) hx hb dX12_within_5 (by decide) ?_
    refine lv_goto (tgt := 21) hx hb dX12_within_7 (by decide) ?_
    exact end_i C hr hlocks () hW (by first | exact Or.inl ⟨by decide, by omega⟩) dX12_within_21

set_option maxHeartbeats 4000000 in
set_option maxRecDepth 100000 in
theorem c_X12_refuse (l : Launch) (g : gG) (J : Nat → Nat → Int32) (L : Nat → Nat → Int64) (I : Nat → Nat → Nat → Int32) (P : Nat → Nat → Nat → Option Nat) (E : Nat → Option Nat) (N : Nat → Nat) (sz : Nat) (a0 : Int32) (hcode : -6 ≤ a0.toInt ∧ a0.toInt ≤ -1) : Met l yX12_refuse (WS yX12_refuse cX12_refuse 2 (some .int)) (RM (1) 0 0) (PC g [.ref (g.2.2.1 13), .int a0] ((J, L, I, P, E, N), sgM g) sz) (va_Qi (fun (r : Int32) (u : (Nat → Nat → Int32)) => ((r = a0))) (fun u t => at_ g (FR g ((J, L, I, P, E, N), sgM g) sz) ((hv J [100] [] u, L, I, P, E, N), sgM g) t) (FR g ((J, L, I, P, E, N), sgM g) sz)) 0 0 (FR g ((J, L, I, P, E, N), sgM g) sz) := by
  refine ent (by decide +kernel) (Nat.le_of_ble_eq_true rfl) ?_
  intro p e s m below meth c ls hsz C hW hr hlocks hname hl
  generalize FR g ((J, L, I, P, E, N), sgM g) sz = A at C hW ⊢
  have hx := C.1.1
  have hb := C.1.2.1
  have hts := C.1.2.2.2.2
  have hW : WB g A s.heap s.heap [] (J, L, I, P, E, N) (sgM g) := hW
  have hl : lv_has ls 2 [(0, .ref (g.2.2.1 13)), (1, .int a0)] := hl
  obtain ⟨H, hH⟩ : ∃ H : Heap, H = s.heap := ⟨_, rfl⟩
  obtain ⟨locs, hlocs⟩ : ∃ q : List Loc, q = [] := ⟨_, rfl⟩
  have hW : WB g A s.heap H locs (J, L, I, P, E, N) (sgM g) := by rw [hH, hlocs]; exact hW
  refine start_ hH hlocs ?_
  refine lv_aload_n hx hb dX12_refuse_0 rfl (lv_at hl 0 rfl) ?_
  refine rg_13_0 C hW (mm_ rfl) tw_1023 dX12_refuse_1 ?_
  refine lv_iload_n hx hb dX12_refuse_4 rfl (lv_at hl 1 rfl) ?_
  refine lv_ineg hx hb dX12_refuse_5 ?_
  refine lv_topi (fun x1 (e1 : x1 = -a0) => ?_)
  try have t1 : x1.toInt = -a0.toInt := tneg e1 rfl (by omega)
  refine lv_dup2_11 hx hb dX12_refuse_6 rfl rfl ?_
  have hin : vp_in x1 7 := tin rfl (by omega)
  refine ra_100 C hW (mm_ rfl) hin dX12_refuse_7 ?_
  refine lv_topi (fun x2 (e2 : x2 = J 100 x1.toNatClampNeg) => ?_)
  refine lv_iconst (v := 1) hx hb dX12_refuse_8 (by decide) ?_
  refine lv_iadd hx hb dX12_refuse_9 ?_
  refine lv_topi (fun x3 (e3 : x3 = x2 + 1) => ?_)
  try have t3 : x3.toInt = x2.toInt + 1 := tadd e3 rfl kp1 (by omega)
  have hin : vp_in x1 7 := tin rfl (by omega)
  refine rs_100 C hW (mm_ rfl) hin dX12_refuse_10 (fun H locs hW => ?_)
  refine lv_iload_n hx hb dX12_refuse_11 rfl (lv_at hl 1 rfl) ?_
  have hWr : WB g A s.heap H locs (hv J [100] [] (up2 J 100 x1.toNatClampNeg x3), L, I, P, E, N) (sgM g) := by
    rw [← ag_hvE (J := J) (R := [100]) (F := []) (ag_up (Or.inl rfl) ag_rf)]
    exact hW
  exact end_i C hr hlocks (up2 J 100 x1.toNatClampNeg x3) hWr (by first | exact (by first | rfl | assumption)) dX12_refuse_12

set_option maxHeartbeats 4000000 in
set_option maxRecDepth 100000 in
theorem c_X12_isNode (l : Launch) (g : gG) (J : Nat → Nat → Int32) (L : Nat → Nat → Int64) (I : Nat → Nat → Nat → Int32) (P : Nat → Nat → Nat → Option Nat) (E : Nat → Option Nat) (N : Nat → Nat) (sz : Nat) (a0 : Int32) (hwm : WM J) : Met l yX12_isNode (WS yX12_isNode cX12_isNode 2 (some .boolean)) (RM (2) 0 0) (PC g [.ref (g.2.2.1 13), .int a0] ((J, L, I, P, E, N), sgM g) sz) (va_Qi (fun (r : Int32) (u : Unit) => ((r.toInt = 1 ∧ (0 ≤ a0.toInt ∧ a0.toInt < (J 13 32).toInt)) ∨ (r.toInt = 0 ∧ (¬ (0 ≤ a0.toInt ∧ a0.toInt < (J 13 32).toInt))))) (fun u t => at_ g (FR g ((J, L, I, P, E, N), sgM g) sz) ((J, L, I, P, E, N), sgM g) t) (FR g ((J, L, I, P, E, N), sgM g) sz)) 0 0 (FR g ((J, L, I, P, E, N), sgM g) sz) := by
  refine ent (by decide +kernel) (Nat.le_of_ble_eq_true rfl) ?_
  intro p e s m below meth c ls hsz C hW hr hlocks hname hl
  generalize FR g ((J, L, I, P, E, N), sgM g) sz = A at C hW ⊢
  have hx := C.1.1
  have hb := C.1.2.1
  have hts := C.1.2.2.2.2
  have hW : WB g A s.heap s.heap [] (J, L, I, P, E, N) (sgM g) := hW
  have hl : lv_has ls 2 [(0, .ref (g.2.2.1 13)), (1, .int a0)] := hl
  obtain ⟨H, hH⟩ : ∃ H : Heap, H = s.heap := ⟨_, rfl⟩
  obtain ⟨locs, hlocs⟩ : ∃ q : List Loc, q = [] := ⟨_, rfl⟩
  have hW : WB g A s.heap H locs (J, L, I, P, E, N) (sgM g) := by rw [hH, hlocs]; exact hW
  obtain ⟨⟨hnd1, hnd2, hon, hhm1, hhm2, hhN, hcu1, hcu2, hco1, hco2, hcN⟩, ⟨hrd1, hrd2⟩, ⟨hnw1, hnw2, hns1, hns2, hof⟩, ⟨htm1, htm2, hts_⟩, ⟨had1, had2, hrw1, hrw2, htp1, htp2⟩⟩ := id hwm
  refine start_ hH hlocs ?_
  refine lv_iload_n hx hb dX12_isNode_0 rfl (lv_at hl 1 rfl) ?_
  refine lv_aload_n hx hb dX12_isNode_1 rfl (lv_at hl 0 rfl) ?_
  refine rg_13_32 C hW (mm_ rfl) tw_1055 dX12_isNode_2 ?_
  refine ci_ C hW (runS (As := [.int a0, .int (J 13 32)]) (rest := []) (T := ((J, L, I, P, E, N), sgM g)) C hW (c_X12_isIn l g J L I P E N H.size a0 (J 13 32) ) mi_X12_isIn tw_1255 ⟨rfl, rfl, Nat.le_of_ble_eq_true rfl, Nat.le_of_ble_eq_true rfl⟩ rfl hl.1 rfl (Nat.le_of_ble_eq_true rfl) dX12_isNode_5 ⟨Nat.le_of_ble_eq_true rfl, Nat.le_of_ble_eq_true rfl⟩) (fun r1 u1 H locs hp1 hW => ?_)
  have hc1 : ((r1.toInt = 1 ∧ (0 ≤ a0.toInt ∧ a0.toInt < (J 13 32).toInt)) ∨ (r1.toInt = 0 ∧ (¬ (0 ≤ a0.toInt ∧ a0.toInt < (J 13 32).toInt)))) := hp1
  clear hp1
  have hW : WB g A s.heap H locs (J, L, I, P, E, N) (sgM g) := hW
  exact end_z C hr hlocks (b01 (by omega)) () hW (by first | omega | exact Or.inl ⟨by omega, by omega⟩ | exact Or.inr (⟨by omega, by omega⟩) | (rcases hc1 with qhc1 | qhc1 <;> first | omega | exact Or.inl ⟨by omega, by omega⟩ | exact Or.inr (⟨by omega, by omega⟩) | (exfalso; omega))) dX12_isNode_8

set_option maxHeartbeats 4000000 in
set_option maxRecDepth 100000 in
theorem c_X12_isHome (l : Launch) (g : gG) (J : Nat → Nat → Int32) (L : Nat → Nat → Int64) (I : Nat → Nat → Nat → Int32) (P : Nat → Nat → Nat → Option Nat) (E : Nat → Option Nat) (N : Nat → Nat) (sz : Nat) (a0 : Int32) (hwm : WM J) : Met l yX12_isHome (WS yX12_isHome cX12_isHome 2 (some .boolean)) (RM (2) 0 0) (PC g [.ref (g.2.2.1 13), .int a0] ((J, L, I, P, E, N), sgM g) sz) (va_Qi (fun (r : Int32) (u : Unit) => ((r.toInt = 1 ∧ (0 ≤ a0.toInt ∧ a0.toInt < (J 13 35).toInt)) ∨ (r.toInt = 0 ∧ (¬ (0 ≤ a0.toInt ∧ a0.toInt < (J 13 35).toInt))))) (fun u t => at_ g (FR g ((J, L, I, P, E, N), sgM g) sz) ((J, L, I, P, E, N), sgM g) t) (FR g ((J, L, I, P, E, N), sgM g) sz)) 0 0 (FR g ((J, L, I, P, E, N), sgM g) sz) := by
  refine ent (by decide +kernel) (Nat.le_of_ble_eq_true rfl) ?_
  intro p e s m below meth c ls hsz C hW hr hlocks hname hl
  generalize FR g ((J, L, I, P, E, N), sgM g) sz = A at C hW ⊢
  have hx := C.1.1
  have hb := C.1.2.1
  have hts := C.1.2.2.2.2
  have hW : WB g A s.heap s.heap [] (J, L, I, P, E, N) (sgM g) := hW
  have hl : lv_has ls 2 [(0, .ref (g.2.2.1 13)), (1, .int a0)] := hl
  obtain ⟨H, hH⟩ : ∃ H : Heap, H = s.heap := ⟨_, rfl⟩
  obtain ⟨locs, hlocs⟩ : ∃ q : List Loc, q = [] := ⟨_, rfl⟩
  have hW : WB g A s.heap H locs (J, L, I, P, E, N) (sgM g) := by rw [hH, hlocs]; exact hW
  obtain ⟨⟨hnd1, hnd2, hon, hhm1, hhm2, hhN, hcu1, hcu2, hco1, hco2, hcN⟩, ⟨hrd1, hrd2⟩, ⟨hnw1, hnw2, hns1, hns2, hof⟩, ⟨htm1, htm2, hts_⟩, ⟨had1, had2, hrw1, hrw2, htp1, htp2⟩⟩ := id hwm
  refine start_ hH hlocs ?_
  refine lv_iload_n hx hb dX12_isHome_0 rfl (lv_at hl 1 rfl) ?_
  refine lv_aload_n hx hb dX12_isHome_1 rfl (lv_at hl 0 rfl) ?_
  refine rg_13_35 C hW (mm_ rfl) tw_1058 dX12_isHome_2 ?_
  refine ci_ C hW (runS (As := [.int a0, .int (J 13 35)]) (rest := []) (T := ((J, L, I, P, E, N), sgM g)) C hW (c_X12_isIn l g J L I P E N H.size a0 (J 13 35) ) mi_X12_isIn tw_1255 ⟨rfl, rfl, Nat.le_of_ble_eq_true rfl, Nat.le_of_ble_eq_true rfl⟩ rfl hl.1 rfl (Nat.le_of_ble_eq_true rfl) dX12_isHome_5 ⟨Nat.le_of_ble_eq_true rfl, Nat.le_of_ble_eq_true rfl⟩) (fun r1 u1 H locs hp1 hW => ?_)
  have hc1 : ((r1.toInt = 1 ∧ (0 ≤ a0.toInt ∧ a0.toInt < (J 13 35).toInt)) ∨ (r1.toInt = 0 ∧ (¬ (0 ≤ a0.toInt ∧ a0.toInt < (J 13 35).toInt)))) := hp1
  clear hp1
  have hW : WB g A s.heap H locs (J, L, I, P, E, N) (sgM g) := hW
  exact end_z C hr hlocks (b01 (by omega)) () hW (by first | omega | exact Or.inl ⟨by omega, by omega⟩ | exact Or.inr (⟨by omega, by omega⟩) | (rcases hc1 with qhc1 | qhc1 <;> first | omega | exact Or.inl ⟨by omega, by omega⟩ | exact Or.inr (⟨by omega, by omega⟩) | (exfalso; omega))) dX12_isHome_8

set_option maxHeartbeats 4000000 in
set_option maxRecDepth 100000 in
theorem c_X12_isPast (l : Launch) (g : gG) (J : Nat → Nat → Int32) (L : Nat → Nat → Int64) (I : Nat → Nat → Nat → Int32) (P : Nat → Nat → Nat → Option Nat) (E : Nat → Option Nat) (N : Nat → Nat) (sz : Nat) (a0 : Int32) (hwm : WM J) : Met l yX12_isPast (WS yX12_isPast cX12_isPast 2 (some .boolean)) (RM (2) 0 0) (PC g [.ref (g.2.2.1 13), .int a0] ((J, L, I, P, E, N), sgM g) sz) (va_Qi (fun (r : Int32) (u : Unit) => ((r.toInt = 1 ∧ (0 ≤ a0.toInt ∧ a0.toInt < (J 13 31).toInt)) ∨ (r.toInt = 0 ∧ (¬ (0 ≤ a0.toInt ∧ a0.toInt < (J 13 31).toInt))))) (fun u t => at_ g (FR g ((J, L, I, P, E, N), sgM g) sz) ((J, L, I, P, E, N), sgM g) t) (FR g ((J, L, I, P, E, N), sgM g) sz)) 0 0 (FR g ((J, L, I, P, E, N), sgM g) sz) := by
  refine ent (by decide +kernel) (Nat.le_of_ble_eq_true rfl) ?_
  intro p e s m below meth c ls hsz C hW hr hlocks hname hl
  generalize FR g ((J, L, I, P, E, N), sgM g) sz = A at C hW ⊢
  have hx := C.1.1
  have hb := C.1.2.1
  have hts := C.1.2.2.2.2
  have hW : WB g A s.heap s.heap [] (J, L, I, P, E, N) (sgM g) := hW
  have hl : lv_has ls 2 [(0, .ref (g.2.2.1 13)), (1, .int a0)] := hl
  obtain ⟨H, hH⟩ : ∃ H : Heap, H = s.heap := ⟨_, rfl⟩
  obtain ⟨locs, hlocs⟩ : ∃ q : List Loc, q = [] := ⟨_, rfl⟩
  have hW : WB g A s.heap H locs (J, L, I, P, E, N) (sgM g) := by rw [hH, hlocs]; exact hW
  obtain ⟨⟨hnd1, hnd2, hon, hhm1, hhm2, hhN, hcu1, hcu2, hco1, hco2, hcN⟩, ⟨hrd1, hrd2⟩, ⟨hnw1, hnw2, hns1, hns2, hof⟩, ⟨htm1, htm2, hts_⟩, ⟨had1, had2, hrw1, hrw2, htp1, htp2⟩⟩ := id hwm
  refine start_ hH hlocs ?_
  refine lv_iload_n hx hb dX12_isPast_0 rfl (lv_at hl 1 rfl) ?_
  refine lv_aload_n hx hb dX12_isPast_1 rfl (lv_at hl 0 rfl) ?_
  refine rg_13_31 C hW (mm_ rfl) tw_1054 dX12_isPast_2 ?_
  refine ci_ C hW (runS (As := [.int a0, .int (J 13 31)]) (rest := []) (T := ((J, L, I, P, E, N), sgM g)) C hW (c_X12_isIn l g J L I P E N H.size a0 (J 13 31) ) mi_X12_isIn tw_1255 ⟨rfl, rfl, Nat.le_of_ble_eq_true rfl, Nat.le_of_ble_eq_true rfl⟩ rfl hl.1 rfl (Nat.le_of_ble_eq_true rfl) dX12_isPast_5 ⟨Nat.le_of_ble_eq_true rfl, Nat.le_of_ble_eq_true rfl⟩) (fun r1 u1 H locs hp1 hW => ?_)
  have hc1 : ((r1.toInt = 1 ∧ (0 ≤ a0.toInt ∧ a0.toInt < (J 13 31).toInt)) ∨ (r1.toInt = 0 ∧ (¬ (0 ≤ a0.toInt ∧ a0.toInt < (J 13 31).toInt)))) := hp1
  clear hp1
  have hW : WB g A s.heap H locs (J, L, I, P, E, N) (sgM g) := hW
  exact end_z C hr hlocks (b01 (by omega)) () hW (by first | omega | exact Or.inl ⟨by omega, by omega⟩ | exact Or.inr (⟨by omega, by omega⟩) | (rcases hc1 with qhc1 | qhc1 <;> first | omega | exact Or.inl ⟨by omega, by omega⟩ | exact Or.inr (⟨by omega, by omega⟩) | (exfalso; omega))) dX12_isPast_8

set_option maxHeartbeats 4000000 in
set_option maxRecDepth 100000 in
theorem c_X12_weather (l : Launch) (g : gG) (J : Nat → Nat → Int32) (L : Nat → Nat → Int64) (I : Nat → Nat → Nat → Int32) (P : Nat → Nat → Nat → Option Nat) (E : Nat → Option Nat) (N : Nat → Nat) (sz : Nat) (a0 : Int32) (hwm : WM J) : Met l yX12_weather (WS yX12_weather cX12_weather 4 (some .int)) (RM (3) 0 0) (PC g [.ref (g.2.2.1 13), .int a0] ((J, L, I, P, E, N), sgM g) sz) (va_Qi (fun (r : Int32) (u : (Nat → Nat → Int32)) => ((r.toInt = (-4) ∧ (a0.toInt < 0) ∧ u 13 33 = J 13 33) ∨ (r.toInt = (-6) ∧ (20 < a0.toInt) ∧ u 13 33 = J 13 33) ∨ (r = J 13 33 ∧ (0 ≤ a0.toInt ∧ a0.toInt ≤ 20) ∧ u 13 33 = a0))) (fun u t => at_ g (FR g ((J, L, I, P, E, N), sgM g) sz) ((hv J [100] [(13, 33)] u, L, I, P, E, N), sgM g) t) (FR g ((J, L, I, P, E, N), sgM g) sz)) 0 0 (FR g ((J, L, I, P, E, N), sgM g) sz) := by
  refine ent (by decide +kernel) (Nat.le_of_ble_eq_true rfl) ?_
  intro p e s m below meth c ls hsz C hW hr hlocks hname hl
  generalize FR g ((J, L, I, P, E, N), sgM g) sz = A at C hW ⊢
  have hx := C.1.1
  have hb := C.1.2.1
  have hts := C.1.2.2.2.2
  have hW : WB g A s.heap s.heap [] (J, L, I, P, E, N) (sgM g) := hW
  have hl : lv_has ls 4 [(0, .ref (g.2.2.1 13)), (1, .int a0)] := hl
  obtain ⟨H, hH⟩ : ∃ H : Heap, H = s.heap := ⟨_, rfl⟩
  obtain ⟨locs, hlocs⟩ : ∃ q : List Loc, q = [] := ⟨_, rfl⟩
  have hW : WB g A s.heap H locs (J, L, I, P, E, N) (sgM g) := by rw [hH, hlocs]; exact hW
  obtain ⟨⟨hnd1, hnd2, hon, hhm1, hhm2, hhN, hcu1, hcu2, hco1, hco2, hcN⟩, ⟨hrd1, hrd2⟩, ⟨hnw1, hnw2, hns1, hns2, hof⟩, ⟨htm1, htm2, hts_⟩, ⟨had1, had2, hrw1, hrw2, htp1, htp2⟩⟩ := id hwm
  refine start_ hH hlocs ?_
  refine lv_iload_n hx hb dX12_weather_0 rfl (lv_at hl 1 rfl) ?_
  refine lv_iconst (v := 0) hx hb dX12_weather_1 (by decide) ?_
  refine lv_bipush (v := 20) hx hb dX12_weather_2 (by decide) ?_
  refine ci_ C hW (runS (As := [.int a0, .int 0, .int 20]) (rest := []) (T := ((J, L, I, P, E, N), sgM g)) C hW (c_X12_within l g J L I P E N H.size a0 0 20 ) mi_X12_within tw_1258 ⟨rfl, rfl, Nat.le_of_ble_eq_true rfl, Nat.le_of_ble_eq_true rfl⟩ rfl hl.1 rfl (Nat.le_of_ble_eq_true rfl) dX12_weather_4 ⟨Nat.le_of_ble_eq_true rfl, Nat.le_of_ble_eq_true rfl⟩) (fun r1 u1 H locs hp1 hW => ?_)
  have hc1 : ((r1.toInt = (-4) ∧ (a0.toInt < 0)) ∨ (r1.toInt = (-6) ∧ (0 ≤ a0.toInt ∧ 20 < a0.toInt)) ∨ (r1.toInt = 0 ∧ (0 ≤ a0.toInt ∧ a0.toInt ≤ 20))) := hp1
  clear hp1
  have hW : WB g A s.heap H locs (J, L, I, P, E, N) (sgM g) := hW
  refine lv_istore_n (lv' := [(2, .int r1), (0, .ref (g.2.2.1 13)), (1, .int a0)]) hx hb dX12_weather_7 rfl hl (by decide) rfl (fun ls hl => ?_)
  refine lv_iload_n hx hb dX12_weather_8 rfl (lv_at hl 0 rfl) ?_
  refine lv_if_eq (tgt := 18) hx hb dX12_weather_9 (by decide) (fun c2 => ?_) (fun c2 => ?_)
  · have c2 : r1.toInt = 0 := teq rfl kp0 c2
    refine lv_aload_n hx hb dX12_weather_18 rfl (lv_at hl 1 rfl) ?_
    refine rg_13_33 C hW (mm_ rfl) tw_1056 dX12_weather_19 ?_
    refine lv_istore_n (lv' := [(3, .int (J 13 33)), (2, .int r1), (0, .ref (g.2.2.1 13)), (1, .int a0)]) hx hb dX12_weather_22 rfl hl (by decide) rfl (fun ls hl => ?_)
    refine lv_aload_n hx hb dX12_weather_23 rfl (lv_at hl 2 rfl) ?_
    refine lv_iload_n hx hb dX12_weather_24 rfl (lv_at hl 3 rfl) ?_
    refine rp_13_33 C hW (mm_ rfl) tw_1056 dX12_weather_25 (fun H locs hW => ?_)
    refine lv_iload_n hx hb dX12_weather_28 rfl (lv_at hl 0 rfl) ?_
    have hWr : WB g A s.heap H locs (hv J [100] [(13, 33)] (up2 J 13 33 a0), L, I, P, E, N) (sgM g) := by
      rw [← ag_hvE (J := J) (R := [100]) (F := [(13, 33)]) (ag_up (Or.inr rfl) ag_rf)]
      exact hW
    exact end_i C hr hlocks (up2 J 13 33 a0) hWr (by first | exact Or.inl ⟨by omega, by omega, show a0 = J 13 33 from by first | rfl | assumption⟩ | exact Or.inr (Or.inl ⟨by omega, by omega, show a0 = J 13 33 from by first | rfl | assumption⟩) | exact Or.inr (Or.inr (⟨by first | rfl | assumption, by omega, show a0 = a0 from by first | rfl | assumption⟩)) | (rcases hc1 with qhc1 | qhc1 | qhc1 <;> first | exact Or.inl ⟨by omega, by omega, show a0 = J 13 33 from by first | rfl | assumption⟩ | exact Or.inr (Or.inl ⟨by omega, by omega, show a0 = J 13 33 from by first | rfl | assumption⟩) | exact Or.inr (Or.inr (⟨by first | rfl | assumption, by omega, show a0 = a0 from by first | rfl | assumption⟩)) | (exfalso; omega))) dX12_weather_29
  · have c2 : ¬ r1.toInt = 0 := tne rfl kp0 c2
    refine lv_aload_n hx hb dX12_weather_12 rfl (lv_at hl 1 rfl) ?_
    refine lv_iload_n hx hb dX12_weather_13 rfl (lv_at hl 0 rfl) ?_
    refine ci_ C hW (runV (x := (g.2.2.1 13)) (As := [.int r1]) (rest := []) (T := ((J, L, I, P, E, N), sgM g)) C hW (c_X12_refuse l g J L I P E N H.size r1 (show -6 ≤ r1.toInt ∧ r1.toInt ≤ -1 from by omega)) mi_X12_refuse tw_1239 (recv_ (T := ((J, L, I, P, E, N), sgM g)) C hW (mm_ rfl) rfl rfl) ⟨rfl, rfl, Nat.le_of_ble_eq_true rfl, Nat.le_of_ble_eq_true rfl⟩ rfl hl.1 rfl (Nat.le_of_ble_eq_true rfl) dX12_weather_14 ⟨Nat.le_of_ble_eq_true rfl, Nat.le_of_ble_eq_true rfl⟩) (fun r3 u3 H locs hp3 hW => ?_)
    have hc3 : ((r3 = r1)) := hp3
    clear hp3
    have hr3 : r3.toInt = (r1).toInt := by rw [hc3]
    have hW : WB g A s.heap H locs ((hv J [100] [] u3), L, I, P, E, N) (sgM g) := hW
    have hWr : WB g A s.heap H locs (hv J [100] [(13, 33)] (hv J [100] [] u3), L, I, P, E, N) (sgM g) := by
      rw [← ag_hvE (J := J) (R := [100]) (F := [(13, 33)]) (ag_hv rfl rfl ag_rf)]
      exact hW
    exact end_i C hr hlocks (hv J [100] [] u3) hWr (by first | exact Or.inl ⟨by omega, by omega, show J 13 33 = J 13 33 from by first | rfl | assumption⟩ | exact Or.inr (Or.inl ⟨by omega, by omega, show J 13 33 = J 13 33 from by first | rfl | assumption⟩) | exact Or.inr (Or.inr (⟨by first | rfl | assumption, by omega, show J 13 33 = a0 from by first | rfl | assumption⟩)) | (rcases hc1 with qhc1 | qhc1 | qhc1 <;> first | exact Or.inl ⟨by omega, by omega, show J 13 33 = J 13 33 from by first | rfl | assumption⟩ | exact Or.inr (Or.inl ⟨by omega, by omega, show J 13 33 = J 13 33 from by first | rfl | assumption⟩) | exact Or.inr (Or.inr (⟨by first | rfl | assumption, by omega, show J 13 33 = a0 from by first | rfl | assumption⟩)) | (exfalso; omega))) dX12_weather_17

set_option maxHeartbeats 4000000 in
set_option maxRecDepth 100000 in
theorem c_X12_rests (l : Launch) (g : gG) (J : Nat → Nat → Int32) (L : Nat → Nat → Int64) (I : Nat → Nat → Nat → Int32) (P : Nat → Nat → Nat → Option Nat) (E : Nat → Option Nat) (N : Nat → Nat) (sz : Nat) (a0 : Int32) (a1 : Int32) (hwm : WM J) : Met l yX12_rests (WS yX12_rests cX12_rests 4 (some .int)) (RM (3) 0 0) (PC g [.ref (g.2.2.1 13), .int a0, .int a1] ((J, L, I, P, E, N), sgM g) sz) (va_Qi (fun (r : Int32) (u : (Nat → Nat → Int32)) => ((r.toInt = (-4) ∧ (a0.toInt < 1 ∨ a1.toInt < 0) ∧ u 13 38 = J 13 38 ∧ u 13 39 = J 13 39) ∨ (r.toInt = (-6) ∧ (1 ≤ a0.toInt ∧ 0 ≤ a1.toInt ∧ (240 < a0.toInt ∨ 240 < a1.toInt)) ∧ u 13 38 = J 13 38 ∧ u 13 39 = J 13 39) ∨ (r = 1000 * J 13 38 + J 13 39 ∧ (1 ≤ a0.toInt ∧ 0 ≤ a1.toInt ∧ a0.toInt ≤ 240 ∧ a1.toInt ≤ 240) ∧ u 13 38 = a0 ∧ u 13 39 = a1))) (fun u t => at_ g (FR g ((J, L, I, P, E, N), sgM g) sz) ((hv J [100] [(13, 38), (13, 39)] u, L, I, P, E, N), sgM g) t) (FR g ((J, L, I, P, E, N), sgM g) sz)) 0 0 (FR g ((J, L, I, P, E, N), sgM g) sz) := by
  refine ent (by decide +kernel) (Nat.le_of_ble_eq_true rfl) ?_
  intro p e s m below meth c ls hsz C hW hr hlocks hname hl
  generalize FR g ((J, L, I, P, E, N), sgM g) sz = A at C hW ⊢
  have hx := C.1.1
  have hb := C.1.2.1
  have hts := C.1.2.2.2.2
  have hW : WB g A s.heap s.heap [] (J, L, I, P, E, N) (sgM g) := hW
  have hl : lv_has ls 4 [(0, .ref (g.2.2.1 13)), (1, .int a0), (2, .int a1)] := hl
  obtain ⟨H, hH⟩ : ∃ H : Heap, H = s.heap := ⟨_, rfl⟩
  obtain ⟨locs, hlocs⟩ : ∃ q : List Loc, q = [] := ⟨_, rfl⟩
  have hW : WB g A s.heap H locs (J, L, I, P, E, N) (sgM g) := by rw [hH, hlocs]; exact hW
  obtain ⟨⟨hnd1, hnd2, hon, hhm1, hhm2, hhN, hcu1, hcu2, hco1, hco2, hcN⟩, ⟨hrd1, hrd2⟩, ⟨hnw1, hnw2, hns1, hns2, hof⟩, ⟨htm1, htm2, hts_⟩, ⟨had1, had2, hrw1, hrw2, htp1, htp2⟩⟩ := id hwm
  refine start_ hH hlocs ?_
  refine lv_iload_n hx hb dX12_rests_0 rfl (lv_at hl 1 rfl) ?_
  refine lv_iconst (v := 1) hx hb dX12_rests_1 (by decide) ?_
  refine lv_icmp_lt (tgt := 9) hx hb dX12_rests_2 (by decide) (fun c1 => ?_) (fun c1 => ?_)
  · have c1 : a0.toInt < 1 := tlt rfl kp1 c1
    refine lv_aload_n hx hb dX12_rests_9 rfl (lv_at hl 0 rfl) ?_
    refine lv_bipush (v := (-4)) hx hb dX12_rests_10 (by decide) ?_
    refine ci_ C hW (runV (x := (g.2.2.1 13)) (As := [.int (-4)]) (rest := []) (T := ((J, L, I, P, E, N), sgM g)) C hW (c_X12_refuse l g J L I P E N H.size (-4) (show -6 ≤ (-4 : Int32).toInt ∧ (-4 : Int32).toInt ≤ -1 from by (try simp only [kn4]); omega)) mi_X12_refuse tw_1239 (recv_ (T := ((J, L, I, P, E, N), sgM g)) C hW (mm_ rfl) rfl rfl) ⟨rfl, rfl, Nat.le_of_ble_eq_true rfl, Nat.le_of_ble_eq_true rfl⟩ rfl hl.1 rfl (Nat.le_of_ble_eq_true rfl) dX12_rests_12 ⟨Nat.le_of_ble_eq_true rfl, Nat.le_of_ble_eq_true rfl⟩) (fun r2 u2 H locs hp2 hW => ?_)
    have hc2 : ((r2 = (-4))) := hp2
    clear hp2
    have hr2 : r2.toInt = (-4) := by rw [hc2]; exact kn4
    have hW : WB g A s.heap H locs ((hv J [100] [] u2), L, I, P, E, N) (sgM g) := hW
    have hWr : WB g A s.heap H locs (hv J [100] [(13, 38), (13, 39)] (hv J [100] [] u2), L, I, P, E, N) (sgM g) := by
      rw [← ag_hvE (J := J) (R := [100]) (F := [(13, 38), (13, 39)]) (ag_hv rfl rfl ag_rf)]
      exact hW
    exact end_i C hr hlocks (hv J [100] [] u2) hWr (by first | exact Or.inl ⟨by omega, by omega, show J 13 38 = J 13 38 from by first | rfl | assumption, show J 13 39 = J 13 39 from by first | rfl | assumption⟩ | exact Or.inr (Or.inl ⟨by omega, by omega, show J 13 38 = J 13 38 from by first | rfl | assumption, show J 13 39 = J 13 39 from by first | rfl | assumption⟩) | exact Or.inr (Or.inr (⟨by simp only [*], by omega, show J 13 38 = a0 from by first | rfl | assumption, show J 13 39 = a1 from by first | rfl | assumption⟩))) dX12_rests_15
  · have c1 : 1 ≤ a0.toInt := tnlt rfl kp1 c1
    refine lv_iload_n hx hb dX12_rests_5 rfl (lv_at hl 2 rfl) ?_
    refine lv_if_ge (tgt := 16) hx hb dX12_rests_6 (by decide) (fun c3 => ?_) (fun c3 => ?_)
    · have c3 : 0 ≤ a1.toInt := tle kp0 rfl c3
      refine lv_iload_n hx hb dX12_rests_16 rfl (lv_at hl 1 rfl) ?_
      refine lv_sipush (v := 240) hx hb dX12_rests_17 (by decide) ?_
      refine lv_icmp_gt (tgt := 30) hx hb dX12_rests_20 (by decide) (fun c4 => ?_) (fun c4 => ?_)
      · have c4 : 240 < a0.toInt := tlt kp240 rfl c4
        refine lv_aload_n hx hb dX12_rests_30 rfl (lv_at hl 0 rfl) ?_
        refine lv_bipush (v := (-6)) hx hb dX12_rests_31 (by decide) ?_
        refine ci_ C hW (runV (x := (g.2.2.1 13)) (As := [.int (-6)]) (rest := []) (T := ((J, L, I, P, E, N), sgM g)) C hW (c_X12_refuse l g J L I P E N H.size (-6) (show -6 ≤ (-6 : Int32).toInt ∧ (-6 : Int32).toInt ≤ -1 from by (try simp only [kn6]); omega)) mi_X12_refuse tw_1239 (recv_ (T := ((J, L, I, P, E, N), sgM g)) C hW (mm_ rfl) rfl rfl) ⟨rfl, rfl, Nat.le_of_ble_eq_true rfl, Nat.le_of_ble_eq_true rfl⟩ rfl hl.1 rfl (Nat.le_of_ble_eq_true rfl) dX12_rests_33 ⟨Nat.le_of_ble_eq_true rfl, Nat.le_of_ble_eq_true rfl⟩) (fun r5 u5 H locs hp5 hW => ?_)
        have hc5 : ((r5 = (-6))) := hp5
        clear hp5
        have hr5 : r5.toInt = (-6) := by rw [hc5]; exact kn6
        have hW : WB g A s.heap H locs ((hv J [100] [] u5), L, I, P, E, N) (sgM g) := hW
        have hWr : WB g A s.heap H locs (hv J [100] [(13, 38), (13, 39)] (hv J [100] [] u5), L, I, P, E, N) (sgM g) := by
          rw [← ag_hvE (J := J) (R := [100]) (F := [(13, 38), (13, 39)]) (ag_hv rfl rfl ag_rf)]
          exact hW
        exact end_i C hr hlocks (hv J [100] [] u5) hWr (by first | exact Or.inl ⟨by omega, by omega, show J 13 38 = J 13 38 from by first | rfl | assumption, show J 13 39 = J 13 39 from by first | rfl | assumption⟩ | exact Or.inr (Or.inl ⟨by omega, by omega, show J 13 38 = J 13 38 from by first | rfl | assumption, show J 13 39 = J 13 39 from by first | rfl | assumption⟩) | exact Or.inr (Or.inr (⟨by simp only [*], by omega, show J 13 38 = a0 from by first | rfl | assumption, show J 13 39 = a1 from by first | rfl | assumption⟩))) dX12_rests_36
      · have c4 : a0.toInt ≤ 240 := tnlt kp240 rfl c4
        refine lv_iload_n hx hb dX12_rests_23 rfl (lv_at hl 2 rfl) ?_
        refine lv_sipush (v := 240) hx hb dX12_rests_24 (by decide) ?_
        refine lv_icmp_le (tgt := 37) hx hb dX12_rests_27 (by decide) (fun c6 => ?_) (fun c6 => ?_)
        · have c6 : a1.toInt ≤ 240 := tle rfl kp240 c6
          refine lv_sipush (v := 1000) hx hb dX12_rests_37 (by decide) ?_
          refine lv_aload_n hx hb dX12_rests_40 rfl (lv_at hl 0 rfl) ?_
          refine rg_13_38 C hW (mm_ rfl) tw_1061 dX12_rests_41 ?_
          refine lv_imul hx hb dX12_rests_44 ?_
          refine lv_topi (fun x7 (e7 : x7 = 1000 * (J 13 38)) => ?_)
          refine lv_aload_n hx hb dX12_rests_45 rfl (lv_at hl 0 rfl) ?_
          refine rg_13_39 C hW (mm_ rfl) tw_1062 dX12_rests_46 ?_
          refine lv_iadd hx hb dX12_rests_49 ?_
          refine lv_topi (fun x8 (e8 : x8 = x7 + (J 13 39)) => ?_)
          refine lv_istore_n (lv' := [(3, .int x8), (0, .ref (g.2.2.1 13)), (1, .int a0), (2, .int a1)]) hx hb dX12_rests_50 rfl hl (by decide) rfl (fun ls hl => ?_)
          refine lv_aload_n hx hb dX12_rests_51 rfl (lv_at hl 1 rfl) ?_
          refine lv_iload_n hx hb dX12_rests_52 rfl (lv_at hl 2 rfl) ?_
          refine rp_13_38 C hW (mm_ rfl) tw_1061 dX12_rests_53 (fun H locs hW => ?_)
          refine lv_aload_n hx hb dX12_rests_56 rfl (lv_at hl 1 rfl) ?_
          refine lv_iload_n hx hb dX12_rests_57 rfl (lv_at hl 3 rfl) ?_
          refine rp_13_39 C hW (mm_ rfl) tw_1062 dX12_rests_58 (fun H locs hW => ?_)
          refine lv_iload_n hx hb dX12_rests_61 rfl (lv_at hl 0 rfl) ?_
          have hWr : WB g A s.heap H locs (hv J [100] [(13, 38), (13, 39)] (up2 (up2 J 13 38 a0) 13 39 a1), L, I, P, E, N) (sgM g) := by
            rw [← ag_hvE (J := J) (R := [100]) (F := [(13, 38), (13, 39)]) (ag_up (Or.inr rfl) (ag_up (Or.inr rfl) ag_rf))]
            exact hW
          exact end_i C hr hlocks (up2 (up2 J 13 38 a0) 13 39 a1) hWr (by first | exact Or.inl ⟨by omega, by omega, show a0 = J 13 38 from by first | rfl | assumption, show a1 = J 13 39 from by first | rfl | assumption⟩ | exact Or.inr (Or.inl ⟨by omega, by omega, show a0 = J 13 38 from by first | rfl | assumption, show a1 = J 13 39 from by first | rfl | assumption⟩) | exact Or.inr (Or.inr (⟨by simp only [*], by omega, show a0 = a0 from by first | rfl | assumption, show a1 = a1 from by first | rfl | assumption⟩))) dX12_rests_62
        · have c6 : 240 < a1.toInt := tnle rfl kp240 c6
          refine lv_aload_n hx hb dX12_rests_30 rfl (lv_at hl 0 rfl) ?_
          refine lv_bipush (v := (-6)) hx hb dX12_rests_31 (by decide) ?_
          refine ci_ C hW (runV (x := (g.2.2.1 13)) (As := [.int (-6)]) (rest := []) (T := ((J, L, I, P, E, N), sgM g)) C hW (c_X12_refuse l g J L I P E N H.size (-6) (show -6 ≤ (-6 : Int32).toInt ∧ (-6 : Int32).toInt ≤ -1 from by (try simp only [kn6]); omega)) mi_X12_refuse tw_1239 (recv_ (T := ((J, L, I, P, E, N), sgM g)) C hW (mm_ rfl) rfl rfl) ⟨rfl, rfl, Nat.le_of_ble_eq_true rfl, Nat.le_of_ble_eq_true rfl⟩ rfl hl.1 rfl (Nat.le_of_ble_eq_true rfl) dX12_rests_33 ⟨Nat.le_of_ble_eq_true rfl, Nat.le_of_ble_eq_true rfl⟩) (fun r9 u9 H locs hp9 hW => ?_)
          have hc9 : ((r9 = (-6))) := hp9
          clear hp9
          have hr9 : r9.toInt = (-6) := by rw [hc9]; exact kn6
          have hW : WB g A s.heap H locs ((hv J [100] [] u9), L, I, P, E, N) (sgM g) := hW
          have hWr : WB g A s.heap H locs (hv J [100] [(13, 38), (13, 39)] (hv J [100] [] u9), L, I, P, E, N) (sgM g) := by
            rw [← ag_hvE (J := J) (R := [100]) (F := [(13, 38), (13, 39)]) (ag_hv rfl rfl ag_rf)]
            exact hW
          exact end_i C hr hlocks (hv J [100] [] u9) hWr (by first | exact Or.inl ⟨by omega, by omega, show J 13 38 = J 13 38 from by first | rfl | assumption, show J 13 39 = J 13 39 from by first | rfl | assumption⟩ | exact Or.inr (Or.inl ⟨by omega, by omega, show J 13 38 = J 13 38 from by first | rfl | assumption, show J 13 39 = J 13 39 from by first | rfl | assumption⟩) | exact Or.inr (Or.inr (⟨by simp only [*], by omega, show J 13 38 = a0 from by first | rfl | assumption, show J 13 39 = a1 from by first | rfl | assumption⟩))) dX12_rests_36
    · have c3 : a1.toInt < 0 := tnle kp0 rfl c3
      refine lv_aload_n hx hb dX12_rests_9 rfl (lv_at hl 0 rfl) ?_
      refine lv_bipush (v := (-4)) hx hb dX12_rests_10 (by decide) ?_
      refine ci_ C hW (runV (x := (g.2.2.1 13)) (As := [.int (-4)]) (rest := []) (T := ((J, L, I, P, E, N), sgM g)) C hW (c_X12_refuse l g J L I P E N H.size (-4) (show -6 ≤ (-4 : Int32).toInt ∧ (-4 : Int32).toInt ≤ -1 from by (try simp only [kn4]); omega)) mi_X12_refuse tw_1239 (recv_ (T := ((J, L, I, P, E, N), sgM g)) C hW (mm_ rfl) rfl rfl) ⟨rfl, rfl, Nat.le_of_ble_eq_true rfl, Nat.le_of_ble_eq_true rfl⟩ rfl hl.1 rfl (Nat.le_of_ble_eq_true rfl) dX12_rests_12 ⟨Nat.le_of_ble_eq_true rfl, Nat.le_of_ble_eq_true rfl⟩) (fun r10 u10 H locs hp10 hW => ?_)
      have hc10 : ((r10 = (-4))) := hp10
      clear hp10
      have hr10 : r10.toInt = (-4) := by rw [hc10]; exact kn4
      have hW : WB g A s.heap H locs ((hv J [100] [] u10), L, I, P, E, N) (sgM g) := hW
      have hWr : WB g A s.heap H locs (hv J [100] [(13, 38), (13, 39)] (hv J [100] [] u10), L, I, P, E, N) (sgM g) := by
        rw [← ag_hvE (J := J) (R := [100]) (F := [(13, 38), (13, 39)]) (ag_hv rfl rfl ag_rf)]
        exact hW
      exact end_i C hr hlocks (hv J [100] [] u10) hWr (by first | exact Or.inl ⟨by omega, by omega, show J 13 38 = J 13 38 from by first | rfl | assumption, show J 13 39 = J 13 39 from by first | rfl | assumption⟩ | exact Or.inr (Or.inl ⟨by omega, by omega, show J 13 38 = J 13 38 from by first | rfl | assumption, show J 13 39 = J 13 39 from by first | rfl | assumption⟩) | exact Or.inr (Or.inr (⟨by simp only [*], by omega, show J 13 38 = a0 from by first | rfl | assumption, show J 13 39 = a1 from by first | rfl | assumption⟩))) dX12_rests_15
