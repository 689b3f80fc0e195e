theorem dX12_goesThrough_0 : decode cX12_goesThrough 0 = .ok (.aload_n 0, 1) := dk_aload_n_0 (by decide +kernel)
theorem dX12_goesThrough_1 : decode cX12_goesThrough 1 = .ok (.iload_n 1, 1) := dk_iload_n_1 (by decide +kernel)
theorem dX12_goesThrough_2 : decode cX12_goesThrough 2 = .ok (.putfield 263, 3) := dk_putfield (by decide +kernel)
theorem dX12_goesThrough_5 : decode cX12_goesThrough 5 = .ok (.aload_n 0, 1) := dk_aload_n_0 (by decide +kernel)
theorem dX12_goesThrough_6 : decode cX12_goesThrough 6 = .ok (.iload_n 2, 1) := dk_iload_n_2 (by decide +kernel)
theorem dX12_goesThrough_7 : decode cX12_goesThrough 7 = .ok (.putfield 260, 3) := dk_putfield (by decide +kernel)
theorem dX12_goesThrough_10 : decode cX12_goesThrough 10 = .ok (.aload_n 0, 1) := dk_aload_n_0 (by decide +kernel)
theorem dX12_goesThrough_11 : decode cX12_goesThrough 11 = .ok (.iconst 0, 1) := dk_iconst_0 (by decide +kernel)
theorem dX12_goesThrough_12 : decode cX12_goesThrough 12 = .ok (.putfield 257, 3) := dk_putfield (by decide +kernel)
theorem dX12_goesThrough_15 : decode cX12_goesThrough 15 = .ok (.aload_n 0, 1) := dk_aload_n_0 (by decide +kernel)
theorem dX12_goesThrough_16 : decode cX12_goesThrough 16 = .ok (.iconst 0, 1) := dk_iconst_0 (by decide +kernel)
theorem dX12_goesThrough_17 : decode cX12_goesThrough 17 = .ok (.putfield 291, 3) := dk_putfield (by decide +kernel)
theorem dX12_goesThrough_20 : decode cX12_goesThrough 20 = .ok (.aload_n 0, 1) := dk_aload_n_0 (by decide +kernel)
theorem dX12_goesThrough_21 : decode cX12_goesThrough 21 = .ok (.iconst 1, 1) := dk_iconst_1 (by decide +kernel)
theorem dX12_goesThrough_22 : decode cX12_goesThrough 22 = .ok (.putfield 270, 3) := dk_putfield (by decide +kernel)
theorem dX12_goesThrough_25 : decode cX12_goesThrough 25 = .ok (.aload_n 0, 1) := dk_aload_n_0 (by decide +kernel)
theorem dX12_goesThrough_26 : decode cX12_goesThrough 26 = .ok (.invokevirtual 297, 3) := dk_invokevirtual (by decide +kernel)
theorem dX12_goesThrough_29 : decode cX12_goesThrough 29 = .ok (.ireturn, 1) := dk_ireturn (by decide +kernel)
theorem dX12_inForce_0 : decode cX12_inForce 0 = .ok (.iconst (-1), 1) := dk_iconst_m1 (by decide +kernel)
theorem dX12_inForce_1 : decode cX12_inForce 1 = .ok (.istore_n 3, 1) := dk_istore_n_3 (by decide +kernel)
theorem dX12_inForce_2 : decode cX12_inForce 2 = .ok (.iconst 0, 1) := dk_iconst_0 (by decide +kernel)
theorem dX12_inForce_3 : decode cX12_inForce 3 = .ok (.istore 4, 2) := dk_istore (by decide +kernel)
theorem dX12_inForce_5 : decode cX12_inForce 5 = .ok (.iload 4, 2) := dk_iload (by decide +kernel)
theorem dX12_inForce_7 : decode cX12_inForce 7 = .ok (.aload_n 0, 1) := dk_aload_n_0 (by decide +kernel)
theorem dX12_inForce_8 : decode cX12_inForce 8 = .ok (.getfield 303, 3) := dk_getfield (by decide +kernel)
theorem dX12_inForce_11 : decode cX12_inForce 11 = .ok (.if_icmp .ge 54, 3) := dk_if_icmp_ge (by decide +kernel)
theorem dX12_inForce_14 : decode cX12_inForce 14 = .ok (.aload_n 0, 1) := dk_aload_n_0 (by decide +kernel)
theorem dX12_inForce_15 : decode cX12_inForce 15 = .ok (.getfield 77, 3) := dk_getfield (by decide +kernel)
theorem dX12_inForce_18 : decode cX12_inForce 18 = .ok (.iload 4, 2) := dk_iload (by decide +kernel)
theorem dX12_inForce_20 : decode cX12_inForce 20 = .ok (.iaload, 1) := dk_iaload (by decide +kernel)
theorem dX12_inForce_21 : decode cX12_inForce 21 = .ok (.iload_n 1, 1) := dk_iload_n_1 (by decide +kernel)
theorem dX12_inForce_22 : decode cX12_inForce 22 = .ok (.if_icmp .ne 37, 3) := dk_if_icmp_ne (by decide +kernel)
theorem dX12_inForce_25 : decode cX12_inForce 25 = .ok (.aload_n 0, 1) := dk_aload_n_0 (by decide +kernel)
theorem dX12_inForce_26 : decode cX12_inForce 26 = .ok (.getfield 80, 3) := dk_getfield (by decide +kernel)
theorem dX12_inForce_29 : decode cX12_inForce 29 = .ok (.iload 4, 2) := dk_iload (by decide +kernel)
theorem dX12_inForce_31 : decode cX12_inForce 31 = .ok (.iaload, 1) := dk_iaload (by decide +kernel)
theorem dX12_inForce_32 : decode cX12_inForce 32 = .ok (.iload_n 2, 1) := dk_iload_n_2 (by decide +kernel)
theorem dX12_inForce_33 : decode cX12_inForce 33 = .ok (.if_icmp .gt 26, 3) := dk_if_icmp_gt (by decide +kernel)
theorem dX12_inForce_36 : decode cX12_inForce 36 = .ok (.iload_n 3, 1) := dk_iload_n_3 (by decide +kernel)
theorem dX12_inForce_37 : decode cX12_inForce 37 = .ok (.ifCond .lt 19, 3) := dk_ifCond_lt (by decide +kernel)
theorem dX12_inForce_40 : decode cX12_inForce 40 = .ok (.aload_n 0, 1) := dk_aload_n_0 (by decide +kernel)
theorem dX12_inForce_41 : decode cX12_inForce 41 = .ok (.getfield 80, 3) := dk_getfield (by decide +kernel)
theorem dX12_inForce_44 : decode cX12_inForce 44 = .ok (.iload 4, 2) := dk_iload (by decide +kernel)
theorem dX12_inForce_46 : decode cX12_inForce 46 = .ok (.iaload, 1) := dk_iaload (by decide +kernel)
theorem dX12_inForce_47 : decode cX12_inForce 47 = .ok (.aload_n 0, 1) := dk_aload_n_0 (by decide +kernel)
theorem dX12_inForce_48 : decode cX12_inForce 48 = .ok (.getfield 80, 3) := dk_getfield (by decide +kernel)
theorem dX12_inForce_51 : decode cX12_inForce 51 = .ok (.iload_n 3, 1) := dk_iload_n_3 (by decide +kernel)
theorem dX12_inForce_52 : decode cX12_inForce 52 = .ok (.iaload, 1) := dk_iaload (by decide +kernel)
theorem dX12_inForce_53 : decode cX12_inForce 53 = .ok (.if_icmp .lt 6, 3) := dk_if_icmp_lt (by decide +kernel)
theorem dX12_inForce_56 : decode cX12_inForce 56 = .ok (.iload 4, 2) := dk_iload (by decide +kernel)
theorem dX12_inForce_58 : decode cX12_inForce 58 = .ok (.istore_n 3, 1) := dk_istore_n_3 (by decide +kernel)
theorem dX12_inForce_59 : decode cX12_inForce 59 = .ok (.iinc 4 1, 3) := dk_iinc (by decide +kernel)
theorem dX12_inForce_62 : decode cX12_inForce 62 = .ok (.goto (-57), 3) := dk_goto (by decide +kernel)
theorem dX12_inForce_65 : decode cX12_inForce 65 = .ok (.iload_n 3, 1) := dk_iload_n_3 (by decide +kernel)
theorem dX12_inForce_66 : decode cX12_inForce 66 = .ok (.ireturn, 1) := dk_ireturn (by decide +kernel)
theorem dX12_worth_0 : decode cX12_worth 0 = .ok (.aload_n 0, 1) := dk_aload_n_0 (by decide +kernel)
theorem dX12_worth_1 : decode cX12_worth 1 = .ok (.iload_n 1, 1) := dk_iload_n_1 (by decide +kernel)
theorem dX12_worth_2 : decode cX12_worth 2 = .ok (.iload_n 2, 1) := dk_iload_n_2 (by decide +kernel)
theorem dX12_worth_3 : decode cX12_worth 3 = .ok (.invokevirtual 309, 3) := dk_invokevirtual (by decide +kernel)
theorem dX12_worth_6 : decode cX12_worth 6 = .ok (.istore 4, 2) := dk_istore (by decide +kernel)
theorem dX12_worth_8 : decode cX12_worth 8 = .ok (.iload 4, 2) := dk_iload (by decide +kernel)
theorem dX12_worth_10 : decode cX12_worth 10 = .ok (.ifCond .ge 7, 3) := dk_ifCond_ge (by decide +kernel)
theorem dX12_worth_13 : decode cX12_worth 13 = .ok (.iload_n 3, 1) := dk_iload_n_3 (by decide +kernel)
theorem dX12_worth_14 : decode cX12_worth 14 = .ok (.goto 19, 3) := dk_goto (by decide +kernel)
theorem dX12_worth_17 : decode cX12_worth 17 = .ok (.aload_n 0, 1) := dk_aload_n_0 (by decide +kernel)
theorem dX12_worth_18 : decode cX12_worth 18 = .ok (.bipush 60, 2) := dk_bipush (by decide +kernel)
theorem dX12_worth_20 : decode cX12_worth 20 = .ok (.iload 4, 2) := dk_iload (by decide +kernel)
theorem dX12_worth_22 : decode cX12_worth 22 = .ok (.imul, 1) := dk_imul (by decide +kernel)
theorem dX12_worth_23 : decode cX12_worth 23 = .ok (.aload_n 0, 1) := dk_aload_n_0 (by decide +kernel)
theorem dX12_worth_24 : decode cX12_worth 24 = .ok (.getfield 74, 3) := dk_getfield (by decide +kernel)
theorem dX12_worth_27 : decode cX12_worth 27 = .ok (.iload 4, 2) := dk_iload (by decide +kernel)
theorem dX12_worth_29 : decode cX12_worth 29 = .ok (.iaload, 1) := dk_iaload (by decide +kernel)
theorem dX12_worth_30 : decode cX12_worth 30 = .ok (.invokevirtual 306, 3) := dk_invokevirtual (by decide +kernel)
theorem dX12_worth_33 : decode cX12_worth 33 = .ok (.ireturn, 1) := dk_ireturn (by decide +kernel)
theorem dX12_puts_0 : decode cX12_puts 0 = .ok (.aload_n 0, 1) := dk_aload_n_0 (by decide +kernel)
theorem dX12_puts_1 : decode cX12_puts 1 = .ok (.iload_n 1, 1) := dk_iload_n_1 (by decide +kernel)
theorem dX12_puts_2 : decode cX12_puts 2 = .ok (.invokevirtual 246, 3) := dk_invokevirtual (by decide +kernel)
theorem dX12_puts_5 : decode cX12_puts 5 = .ok (.aload_n 0, 1) := dk_aload_n_0 (by decide +kernel)
theorem dX12_puts_6 : decode cX12_puts 6 = .ok (.getfield 135, 3) := dk_getfield (by decide +kernel)
theorem dX12_puts_9 : decode cX12_puts 9 = .ok (.bipush 107, 2) := dk_bipush (by decide +kernel)
theorem dX12_puts_11 : decode cX12_puts 11 = .ok (.aload_n 0, 1) := dk_aload_n_0 (by decide +kernel)
theorem dX12_puts_12 : decode cX12_puts 12 = .ok (.getfield 59, 3) := dk_getfield (by decide +kernel)
theorem dX12_puts_15 : decode cX12_puts 15 = .ok (.iload_n 1, 1) := dk_iload_n_1 (by decide +kernel)
theorem dX12_puts_16 : decode cX12_puts 16 = .ok (.iaload, 1) := dk_iaload (by decide +kernel)
theorem dX12_puts_17 : decode cX12_puts 17 = .ok (.iastore, 1) := dk_iastore (by decide +kernel)
theorem dX12_puts_18 : decode cX12_puts 18 = .ok (.aload_n 0, 1) := dk_aload_n_0 (by decide +kernel)
theorem dX12_puts_19 : decode cX12_puts 19 = .ok (.getfield 135, 3) := dk_getfield (by decide +kernel)
theorem dX12_puts_22 : decode cX12_puts 22 = .ok (.bipush 104, 2) := dk_bipush (by decide +kernel)
theorem dX12_puts_24 : decode cX12_puts 24 = .ok (.iload_n 1, 1) := dk_iload_n_1 (by decide +kernel)
theorem dX12_puts_25 : decode cX12_puts 25 = .ok (.bipush 60, 2) := dk_bipush (by decide +kernel)
theorem dX12_puts_27 : decode cX12_puts 27 = .ok (.idiv, 1) := dk_idiv (by decide +kernel)
theorem dX12_puts_28 : decode cX12_puts 28 = .ok (.bipush 24, 2) := dk_bipush (by decide +kernel)
theorem dX12_puts_30 : decode cX12_puts 30 = .ok (.irem, 1) := dk_irem (by decide +kernel)
theorem dX12_puts_31 : decode cX12_puts 31 = .ok (.iastore, 1) := dk_iastore (by decide +kernel)
theorem dX12_puts_32 : decode cX12_puts 32 = .ok (.aload_n 0, 1) := dk_aload_n_0 (by decide +kernel)
theorem dX12_puts_33 : decode cX12_puts 33 = .ok (.getfield 135, 3) := dk_getfield (by decide +kernel)
theorem dX12_puts_36 : decode cX12_puts 36 = .ok (.bipush 118, 2) := dk_bipush (by decide +kernel)
theorem dX12_puts_38 : decode cX12_puts 38 = .ok (.aload_n 0, 1) := dk_aload_n_0 (by decide +kernel)
theorem dX12_puts_39 : decode cX12_puts 39 = .ok (.getfield 65, 3) := dk_getfield (by decide +kernel)
theorem dX12_puts_42 : decode cX12_puts 42 = .ok (.iload_n 1, 1) := dk_iload_n_1 (by decide +kernel)
theorem dX12_puts_43 : decode cX12_puts 43 = .ok (.iaload, 1) := dk_iaload (by decide +kernel)
theorem dX12_puts_44 : decode cX12_puts 44 = .ok (.iastore, 1) := dk_iastore (by decide +kernel)
theorem dX12_puts_45 : decode cX12_puts 45 = .ok (.aload_n 0, 1) := dk_aload_n_0 (by decide +kernel)
theorem dX12_puts_46 : decode cX12_puts 46 = .ok (.getfield 135, 3) := dk_getfield (by decide +kernel)
theorem dX12_puts_49 : decode cX12_puts 49 = .ok (.bipush 115, 2) := dk_bipush (by decide +kernel)
theorem dX12_puts_51 : decode cX12_puts 51 = .ok (.aload_n 0, 1) := dk_aload_n_0 (by decide +kernel)
theorem dX12_puts_52 : decode cX12_puts 52 = .ok (.getfield 232, 3) := dk_getfield (by decide +kernel)
theorem dX12_puts_55 : decode cX12_puts 55 = .ok (.iastore, 1) := dk_iastore (by decide +kernel)
theorem dX12_puts_56 : decode cX12_puts 56 = .ok (.aload_n 0, 1) := dk_aload_n_0 (by decide +kernel)
theorem dX12_puts_57 : decode cX12_puts 57 = .ok (.getfield 135, 3) := dk_getfield (by decide +kernel)
theorem dX12_puts_60 : decode cX12_puts 60 = .ok (.bipush 109, 2) := dk_bipush (by decide +kernel)
theorem dX12_puts_62 : decode cX12_puts 62 = .ok (.aload_n 0, 1) := dk_aload_n_0 (by decide +kernel)
theorem dX12_puts_63 : decode cX12_puts 63 = .ok (.getfield 235, 3) := dk_getfield (by decide +kernel)
theorem dX12_puts_66 : decode cX12_puts 66 = .ok (.iastore, 1) := dk_iastore (by decide +kernel)
theorem dX12_puts_67 : decode cX12_puts 67 = .ok (.aload_n 0, 1) := dk_aload_n_0 (by decide +kernel)
theorem dX12_puts_68 : decode cX12_puts 68 = .ok (.getfield 135, 3) := dk_getfield (by decide +kernel)
theorem dX12_puts_71 : decode cX12_puts 71 = .ok (.bipush 119, 2) := dk_bipush (by decide +kernel)
theorem dX12_puts_73 : decode cX12_puts 73 = .ok (.aload_n 0, 1) := dk_aload_n_0 (by decide +kernel)
theorem dX12_puts_74 : decode cX12_puts 74 = .ok (.getfield 71, 3) := dk_getfield (by decide +kernel)
theorem dX12_puts_77 : decode cX12_puts 77 = .ok (.iload_n 1, 1) := dk_iload_n_1 (by decide +kernel)
theorem dX12_puts_78 : decode cX12_puts 78 = .ok (.iaload, 1) := dk_iaload (by decide +kernel)
theorem dX12_puts_79 : decode cX12_puts 79 = .ok (.iastore, 1) := dk_iastore (by decide +kernel)
theorem dX12_puts_80 : decode cX12_puts 80 = .ok (.aload_n 0, 1) := dk_aload_n_0 (by decide +kernel)
theorem dX12_puts_81 : decode cX12_puts 81 = .ok (.getfield 135, 3) := dk_getfield (by decide +kernel)
theorem dX12_puts_84 : decode cX12_puts 84 = .ok (.bipush 97, 2) := dk_bipush (by decide +kernel)
theorem dX12_puts_86 : decode cX12_puts 86 = .ok (.aload_n 0, 1) := dk_aload_n_0 (by decide +kernel)
theorem dX12_puts_87 : decode cX12_puts 87 = .ok (.getfield 169, 3) := dk_getfield (by decide +kernel)
theorem dX12_puts_90 : decode cX12_puts 90 = .ok (.iload_n 1, 1) := dk_iload_n_1 (by decide +kernel)
theorem dX12_puts_91 : decode cX12_puts 91 = .ok (.isub, 1) := dk_isub (by decide +kernel)
theorem dX12_puts_92 : decode cX12_puts 92 = .ok (.iastore, 1) := dk_iastore (by decide +kernel)
theorem dX12_puts_93 : decode cX12_puts 93 = .ok (.aload_n 0, 1) := dk_aload_n_0 (by decide +kernel)
theorem dX12_puts_94 : decode cX12_puts 94 = .ok (.getfield 135, 3) := dk_getfield (by decide +kernel)
theorem dX12_puts_97 : decode cX12_puts 97 = .ok (.bipush 110, 2) := dk_bipush (by decide +kernel)
theorem dX12_puts_99 : decode cX12_puts 99 = .ok (.aload_n 0, 1) := dk_aload_n_0 (by decide +kernel)
theorem dX12_puts_100 : decode cX12_puts 100 = .ok (.getfield 166, 3) := dk_getfield (by decide +kernel)
theorem dX12_puts_103 : decode cX12_puts 103 = .ok (.iastore, 1) := dk_iastore (by decide +kernel)
theorem dX12_puts_104 : decode cX12_puts 104 = .ok (.return_, 1) := dk_return_ (by decide +kernel)
theorem dX12_worthOf_0 : decode cX12_worthOf 0 = .ok (.aload_n 0, 1) := dk_aload_n_0 (by decide +kernel)
theorem dX12_worthOf_1 : decode cX12_worthOf 1 = .ok (.iload_n 2, 1) := dk_iload_n_2 (by decide +kernel)
theorem dX12_worthOf_2 : decode cX12_worthOf 2 = .ok (.invokevirtual 312, 3) := dk_invokevirtual (by decide +kernel)
theorem dX12_worthOf_5 : decode cX12_worthOf 5 = .ok (.aload_n 0, 1) := dk_aload_n_0 (by decide +kernel)
theorem dX12_worthOf_6 : decode cX12_worthOf 6 = .ok (.iload_n 1, 1) := dk_iload_n_1 (by decide +kernel)
theorem dX12_worthOf_7 : decode cX12_worthOf 7 = .ok (.iload_n 2, 1) := dk_iload_n_2 (by decide +kernel)
theorem dX12_worthOf_8 : decode cX12_worthOf 8 = .ok (.iload_n 1, 1) := dk_iload_n_1 (by decide +kernel)
theorem dX12_worthOf_9 : decode cX12_worthOf 9 = .ok (.iconst 2, 1) := dk_iconst_2 (by decide +kernel)
theorem dX12_worthOf_10 : decode cX12_worthOf 10 = .ok (.if_icmp .ne 10, 3) := dk_if_icmp_ne (by decide +kernel)
theorem dX12_worthOf_13 : decode cX12_worthOf 13 = .ok (.aload_n 0, 1) := dk_aload_n_0 (by decide +kernel)
theorem dX12_worthOf_14 : decode cX12_worthOf 14 = .ok (.getfield 235, 3) := dk_getfield (by decide +kernel)
theorem dX12_worthOf_17 : decode cX12_worthOf 17 = .ok (.goto 4, 3) := dk_goto (by decide +kernel)
theorem dX12_worthOf_20 : decode cX12_worthOf 20 = .ok (.iconst 0, 1) := dk_iconst_0 (by decide +kernel)
theorem dX12_worthOf_21 : decode cX12_worthOf 21 = .ok (.invokevirtual 226, 3) := dk_invokevirtual (by decide +kernel)
theorem dX12_worthOf_24 : decode cX12_worthOf 24 = .ok (.ireturn, 1) := dk_ireturn (by decide +kernel)
theorem dX12_worth__0 : decode cX12_worth_ 0 = .ok (.aload_n 0, 1) := dk_aload_n_0 (by decide +kernel)
theorem dX12_worth__1 : decode cX12_worth_ 1 = .ok (.iload_n 2, 1) := dk_iload_n_2 (by decide +kernel)
theorem dX12_worth__2 : decode cX12_worth_ 2 = .ok (.invokevirtual 217, 3) := dk_invokevirtual (by decide +kernel)
theorem dX12_worth__5 : decode cX12_worth_ 5 = .ok (.ifCond .ne 13, 3) := dk_ifCond_ne (by decide +kernel)
theorem dX12_worth__8 : decode cX12_worth_ 8 = .ok (.ldc_w 315, 3) := dk_ldc_w (by decide +kernel)
theorem dX12_worth__11 : decode cX12_worth_ 11 = .ok (.aload_n 0, 1) := dk_aload_n_0 (by decide +kernel)
theorem dX12_worth__12 : decode cX12_worth_ 12 = .ok (.iconst (-1), 1) := dk_iconst_m1 (by decide +kernel)
theorem dX12_worth__13 : decode cX12_worth_ 13 = .ok (.invokevirtual 175, 3) := dk_invokevirtual (by decide +kernel)
theorem dX12_worth__16 : decode cX12_worth_ 16 = .ok (.isub, 1) := dk_isub (by decide +kernel)
theorem dX12_worth__17 : decode cX12_worth_ 17 = .ok (.ireturn, 1) := dk_ireturn (by decide +kernel)
theorem dX12_worth__18 : decode cX12_worth_ 18 = .ok (.iload_n 1, 1) := dk_iload_n_1 (by decide +kernel)
theorem dX12_worth__19 : decode cX12_worth_ 19 = .ok (.iconst 3, 1) := dk_iconst_3 (by decide +kernel)
theorem dX12_worth__20 : decode cX12_worth_ 20 = .ok (.invokestatic 162, 3) := dk_invokestatic (by decide +kernel)
theorem dX12_worth__23 : decode cX12_worth_ 23 = .ok (.ifCond .eq 12, 3) := dk_ifCond_eq (by decide +kernel)
theorem dX12_worth__26 : decode cX12_worth_ 26 = .ok (.aload_n 0, 1) := dk_aload_n_0 (by decide +kernel)
theorem dX12_worth__27 : decode cX12_worth_ 27 = .ok (.iload_n 1, 1) := dk_iload_n_1 (by decide +kernel)
theorem dX12_worth__28 : decode cX12_worth_ 28 = .ok (.iload_n 2, 1) := dk_iload_n_2 (by decide +kernel)
theorem dX12_worth__29 : decode cX12_worth_ 29 = .ok (.invokevirtual 316, 3) := dk_invokevirtual (by decide +kernel)
theorem dX12_worth__32 : decode cX12_worth_ 32 = .ok (.goto 13, 3) := dk_goto (by decide +kernel)
theorem dX12_worth__35 : decode cX12_worth_ 35 = .ok (.ldc_w 315, 3) := dk_ldc_w (by decide +kernel)
theorem dX12_worth__38 : decode cX12_worth_ 38 = .ok (.aload_n 0, 1) := dk_aload_n_0 (by decide +kernel)
theorem dX12_worth__39 : decode cX12_worth_ 39 = .ok (.bipush (-2), 2) := dk_bipush (by decide +kernel)
theorem dX12_worth__41 : decode cX12_worth_ 41 = .ok (.invokevirtual 175, 3) := dk_invokevirtual (by decide +kernel)
theorem dX12_worth__44 : decode cX12_worth_ 44 = .ok (.isub, 1) := dk_isub (by decide +kernel)
theorem dX12_worth__45 : decode cX12_worth_ 45 = .ok (.ireturn, 1) := dk_ireturn (by decide +kernel)
theorem dX12_term__0 : decode cX12_term_ 0 = .ok (.iload_n 1, 1) := dk_iload_n_1 (by decide +kernel)
theorem dX12_term__1 : decode cX12_term_ 1 = .ok (.iconst 4, 1) := dk_iconst_4 (by decide +kernel)
theorem dX12_term__2 : decode cX12_term_ 2 = .ok (.invokestatic 162, 3) := dk_invokestatic (by decide +kernel)
theorem dX12_term__5 : decode cX12_term_ 5 = .ok (.ifCond .ne 10, 3) := dk_ifCond_ne (by decide +kernel)
theorem dX12_term__8 : decode cX12_term_ 8 = .ok (.aload_n 0, 1) := dk_aload_n_0 (by decide +kernel)
theorem dX12_term__9 : decode cX12_term_ 9 = .ok (.bipush (-2), 2) := dk_bipush (by decide +kernel)
theorem dX12_term__11 : decode cX12_term_ 11 = .ok (.invokevirtual 175, 3) := dk_invokevirtual (by decide +kernel)
theorem dX12_term__14 : decode cX12_term_ 14 = .ok (.ireturn, 1) := dk_ireturn (by decide +kernel)
theorem dX12_term__15 : decode cX12_term_ 15 = .ok (.iload_n 2, 1) := dk_iload_n_2 (by decide +kernel)
theorem dX12_term__16 : decode cX12_term_ 16 = .ok (.aload_n 0, 1) := dk_aload_n_0 (by decide +kernel)
theorem dX12_term__17 : decode cX12_term_ 17 = .ok (.getfield 169, 3) := dk_getfield (by decide +kernel)
theorem dX12_term__20 : decode cX12_term_ 20 = .ok (.sipush 9999, 3) := dk_sipush (by decide +kernel)
theorem dX12_term__23 : decode cX12_term_ 23 = .ok (.invokestatic 187, 3) := dk_invokestatic (by decide +kernel)
theorem dX12_term__26 : decode cX12_term_ 26 = .ok (.istore_n 3, 1) := dk_istore_n_3 (by decide +kernel)
theorem dX12_term__27 : decode cX12_term_ 27 = .ok (.iload_n 3, 1) := dk_iload_n_3 (by decide +kernel)
theorem dX12_term__28 : decode cX12_term_ 28 = .ok (.ifCond .ne 15, 3) := dk_ifCond_ne (by decide +kernel)
theorem dX12_term__31 : decode cX12_term_ 31 = .ok (.aload_n 0, 1) := dk_aload_n_0 (by decide +kernel)
theorem dX12_term__32 : decode cX12_term_ 32 = .ok (.getfield 303, 3) := dk_getfield (by decide +kernel)
theorem dX12_term__35 : decode cX12_term_ 35 = .ok (.bipush 30, 2) := dk_bipush (by decide +kernel)
theorem dX12_term__37 : decode cX12_term_ 37 = .ok (.if_icmp .ne 6, 3) := dk_if_icmp_ne (by decide +kernel)
theorem dX12_term__40 : decode cX12_term_ 40 = .ok (.bipush (-6), 2) := dk_bipush (by decide +kernel)
theorem dX12_term__42 : decode cX12_term_ 42 = .ok (.istore_n 3, 1) := dk_istore_n_3 (by decide +kernel)
theorem dX12_term__43 : decode cX12_term_ 43 = .ok (.iload_n 3, 1) := dk_iload_n_3 (by decide +kernel)
theorem dX12_term__44 : decode cX12_term_ 44 = .ok (.ifCond .eq 9, 3) := dk_ifCond_eq (by decide +kernel)
theorem dX12_term__47 : decode cX12_term_ 47 = .ok (.aload_n 0, 1) := dk_aload_n_0 (by decide +kernel)
theorem dX12_term__48 : decode cX12_term_ 48 = .ok (.iload_n 3, 1) := dk_iload_n_3 (by decide +kernel)
theorem dX12_term__49 : decode cX12_term_ 49 = .ok (.invokevirtual 175, 3) := dk_invokevirtual (by decide +kernel)
theorem dX12_term__52 : decode cX12_term_ 52 = .ok (.ireturn, 1) := dk_ireturn (by decide +kernel)
theorem dX12_term__53 : decode cX12_term_ 53 = .ok (.aload_n 0, 1) := dk_aload_n_0 (by decide +kernel)
theorem dX12_term__54 : decode cX12_term_ 54 = .ok (.iconst (-1), 1) := dk_iconst_m1 (by decide +kernel)
theorem dX12_term__55 : decode cX12_term_ 55 = .ok (.aload_n 0, 1) := dk_aload_n_0 (by decide +kernel)
theorem dX12_term__56 : decode cX12_term_ 56 = .ok (.getfield 252, 3) := dk_getfield (by decide +kernel)
theorem dX12_term__59 : decode cX12_term_ 59 = .ok (.invokevirtual 306, 3) := dk_invokevirtual (by decide +kernel)
theorem dX12_term__62 : decode cX12_term_ 62 = .ok (.istore 4, 2) := dk_istore (by decide +kernel)
theorem dX12_term__64 : decode cX12_term_ 64 = .ok (.aload_n 0, 1) := dk_aload_n_0 (by decide +kernel)
theorem dX12_term__65 : decode cX12_term_ 65 = .ok (.getfield 270, 3) := dk_getfield (by decide +kernel)
theorem dX12_term__68 : decode cX12_term_ 68 = .ok (.ifCond .eq 18, 3) := dk_ifCond_eq (by decide +kernel)
theorem dX12_term__71 : decode cX12_term_ 71 = .ok (.aload_n 0, 1) := dk_aload_n_0 (by decide +kernel)
theorem dX12_term__72 : decode cX12_term_ 72 = .ok (.getfield 257, 3) := dk_getfield (by decide +kernel)
theorem dX12_term__75 : decode cX12_term_ 75 = .ok (.aload_n 0, 1) := dk_aload_n_0 (by decide +kernel)
theorem dX12_term__76 : decode cX12_term_ 76 = .ok (.getfield 252, 3) := dk_getfield (by decide +kernel)
theorem dX12_term__79 : decode cX12_term_ 79 = .ok (.if_icmp .ne 7, 3) := dk_if_icmp_ne (by decide +kernel)
theorem dX12_term__82 : decode cX12_term_ 82 = .ok (.iconst 1, 1) := dk_iconst_1 (by decide +kernel)
theorem dX12_term__83 : decode cX12_term_ 83 = .ok (.goto 4, 3) := dk_goto (by decide +kernel)
theorem dX12_term__86 : decode cX12_term_ 86 = .ok (.iconst 0, 1) := dk_iconst_0 (by decide +kernel)
theorem dX12_term__87 : decode cX12_term_ 87 = .ok (.istore 5, 2) := dk_istore (by decide +kernel)
theorem dX12_term__89 : decode cX12_term_ 89 = .ok (.aload_n 0, 1) := dk_aload_n_0 (by decide +kernel)
theorem dX12_term__90 : decode cX12_term_ 90 = .ok (.getfield 252, 3) := dk_getfield (by decide +kernel)
theorem dX12_term__93 : decode cX12_term_ 93 = .ok (.istore 6, 2) := dk_istore (by decide +kernel)
theorem dX12_term__95 : decode cX12_term_ 95 = .ok (.aload_n 0, 1) := dk_aload_n_0 (by decide +kernel)
theorem dX12_term__96 : decode cX12_term_ 96 = .ok (.iconst 0, 1) := dk_iconst_0 (by decide +kernel)
theorem dX12_term__97 : decode cX12_term_ 97 = .ok (.putfield 252, 3) := dk_putfield (by decide +kernel)
theorem dX12_term__100 : decode cX12_term_ 100 = .ok (.iload 5, 2) := dk_iload (by decide +kernel)
theorem dX12_term__102 : decode cX12_term_ 102 = .ok (.ifCond .ne 11, 3) := dk_ifCond_ne (by decide +kernel)
theorem dX12_term__105 : decode cX12_term_ 105 = .ok (.bipush (-20), 2) := dk_bipush (by decide +kernel)
theorem dX12_term__107 : decode cX12_term_ 107 = .ok (.aload_n 0, 1) := dk_aload_n_0 (by decide +kernel)
theorem dX12_term__108 : decode cX12_term_ 108 = .ok (.getfield 257, 3) := dk_getfield (by decide +kernel)
theorem dX12_term__111 : decode cX12_term_ 111 = .ok (.isub, 1) := dk_isub (by decide +kernel)
theorem dX12_term__112 : decode cX12_term_ 112 = .ok (.ireturn, 1) := dk_ireturn (by decide +kernel)
theorem dX12_term__113 : decode cX12_term_ 113 = .ok (.iconst 0, 1) := dk_iconst_0 (by decide +kernel)
theorem dX12_term__114 : decode cX12_term_ 114 = .ok (.istore 7, 2) := dk_istore (by decide +kernel)
theorem dX12_term__116 : decode cX12_term_ 116 = .ok (.iload 7, 2) := dk_iload (by decide +kernel)
theorem dX12_term__118 : decode cX12_term_ 118 = .ok (.iload 6, 2) := dk_iload (by decide +kernel)
theorem dX12_term__120 : decode cX12_term_ 120 = .ok (.if_icmp .ge 31, 3) := dk_if_icmp_ge (by decide +kernel)
theorem dX12_term__123 : decode cX12_term_ 123 = .ok (.aload_n 0, 1) := dk_aload_n_0 (by decide +kernel)
theorem dX12_term__124 : decode cX12_term_ 124 = .ok (.getfield 83, 3) := dk_getfield (by decide +kernel)
theorem dX12_term__127 : decode cX12_term_ 127 = .ok (.bipush 60, 2) := dk_bipush (by decide +kernel)
theorem dX12_term__129 : decode cX12_term_ 129 = .ok (.aload_n 0, 1) := dk_aload_n_0 (by decide +kernel)
theorem dX12_term__130 : decode cX12_term_ 130 = .ok (.getfield 303, 3) := dk_getfield (by decide +kernel)
theorem dX12_term__133 : decode cX12_term_ 133 = .ok (.imul, 1) := dk_imul (by decide +kernel)
theorem dX12_term__134 : decode cX12_term_ 134 = .ok (.iload 7, 2) := dk_iload (by decide +kernel)
theorem dX12_term__136 : decode cX12_term_ 136 = .ok (.iadd, 1) := dk_iadd (by decide +kernel)
theorem dX12_term__137 : decode cX12_term_ 137 = .ok (.aload_n 0, 1) := dk_aload_n_0 (by decide +kernel)
theorem dX12_term__138 : decode cX12_term_ 138 = .ok (.getfield 132, 3) := dk_getfield (by decide +kernel)
theorem dX12_term__141 : decode cX12_term_ 141 = .ok (.iload 7, 2) := dk_iload (by decide +kernel)
theorem dX12_term__143 : decode cX12_term_ 143 = .ok (.iaload, 1) := dk_iaload (by decide +kernel)
theorem dX12_term__144 : decode cX12_term_ 144 = .ok (.iastore, 1) := dk_iastore (by decide +kernel)
theorem dX12_term__145 : decode cX12_term_ 145 = .ok (.iinc 7 1, 3) := dk_iinc (by decide +kernel)
theorem dX12_term__148 : decode cX12_term_ 148 = .ok (.goto (-32), 3) := dk_goto (by decide +kernel)
theorem dX12_term__151 : decode cX12_term_ 151 = .ok (.aload_n 0, 1) := dk_aload_n_0 (by decide +kernel)
theorem dX12_term__152 : decode cX12_term_ 152 = .ok (.getfield 74, 3) := dk_getfield (by decide +kernel)
theorem dX12_term__155 : decode cX12_term_ 155 = .ok (.aload_n 0, 1) := dk_aload_n_0 (by decide +kernel)
theorem dX12_term__156 : decode cX12_term_ 156 = .ok (.getfield 303, 3) := dk_getfield (by decide +kernel)
theorem dX12_term__159 : decode cX12_term_ 159 = .ok (.iload 6, 2) := dk_iload (by decide +kernel)
theorem dX12_term__161 : decode cX12_term_ 161 = .ok (.iastore, 1) := dk_iastore (by decide +kernel)
theorem dX12_term__162 : decode cX12_term_ 162 = .ok (.aload_n 0, 1) := dk_aload_n_0 (by decide +kernel)
theorem dX12_term__163 : decode cX12_term_ 163 = .ok (.getfield 77, 3) := dk_getfield (by decide +kernel)
theorem dX12_term__166 : decode cX12_term_ 166 = .ok (.aload_n 0, 1) := dk_aload_n_0 (by decide +kernel)
theorem dX12_term__167 : decode cX12_term_ 167 = .ok (.getfield 303, 3) := dk_getfield (by decide +kernel)
theorem dX12_term__170 : decode cX12_term_ 170 = .ok (.iload_n 1, 1) := dk_iload_n_1 (by decide +kernel)
theorem dX12_term__171 : decode cX12_term_ 171 = .ok (.iastore, 1) := dk_iastore (by decide +kernel)
theorem dX12_term__172 : decode cX12_term_ 172 = .ok (.aload_n 0, 1) := dk_aload_n_0 (by decide +kernel)
theorem dX12_term__173 : decode cX12_term_ 173 = .ok (.getfield 80, 3) := dk_getfield (by decide +kernel)
theorem dX12_term__176 : decode cX12_term_ 176 = .ok (.aload_n 0, 1) := dk_aload_n_0 (by decide +kernel)
theorem dX12_term__177 : decode cX12_term_ 177 = .ok (.getfield 303, 3) := dk_getfield (by decide +kernel)
theorem dX12_term__180 : decode cX12_term_ 180 = .ok (.iload_n 2, 1) := dk_iload_n_2 (by decide +kernel)
theorem dX12_term__181 : decode cX12_term_ 181 = .ok (.iastore, 1) := dk_iastore (by decide +kernel)
theorem dX12_term__182 : decode cX12_term_ 182 = .ok (.aload_n 0, 1) := dk_aload_n_0 (by decide +kernel)
theorem dX12_term__183 : decode cX12_term_ 183 = .ok (.dup, 1) := dk_dup (by decide +kernel)
theorem dX12_term__184 : decode cX12_term_ 184 = .ok (.getfield 303, 3) := dk_getfield (by decide +kernel)
theorem dX12_term__187 : decode cX12_term_ 187 = .ok (.iconst 1, 1) := dk_iconst_1 (by decide +kernel)
theorem dX12_term__188 : decode cX12_term_ 188 = .ok (.iadd, 1) := dk_iadd (by decide +kernel)
theorem dX12_term__189 : decode cX12_term_ 189 = .ok (.putfield 303, 3) := dk_putfield (by decide +kernel)
theorem dX12_term__192 : decode cX12_term_ 192 = .ok (.aload_n 0, 1) := dk_aload_n_0 (by decide +kernel)
theorem dX12_term__193 : decode cX12_term_ 193 = .ok (.getfield 303, 3) := dk_getfield (by decide +kernel)
theorem dX12_term__196 : decode cX12_term_ 196 = .ok (.ireturn, 1) := dk_ireturn (by decide +kernel)
theorem dX12_say_0 : decode cX12_say 0 = .ok (.iload_n 1, 1) := dk_iload_n_1 (by decide +kernel)
theorem dX12_say_1 : decode cX12_say 1 = .ok (.bipush 6, 2) := dk_bipush (by decide +kernel)
theorem dX12_say_3 : decode cX12_say 3 = .ok (.invokestatic 162, 3) := dk_invokestatic (by decide +kernel)
theorem dX12_say_6 : decode cX12_say 6 = .ok (.ifCond .eq 8, 3) := dk_ifCond_eq (by decide +kernel)
theorem dX12_say_9 : decode cX12_say 9 = .ok (.iload_n 1, 1) := dk_iload_n_1 (by decide +kernel)
theorem dX12_say_10 : decode cX12_say 10 = .ok (.iconst 3, 1) := dk_iconst_3 (by decide +kernel)
theorem dX12_say_11 : decode cX12_say 11 = .ok (.if_icmp .ne 10, 3) := dk_if_icmp_ne (by decide +kernel)
theorem dX12_say_14 : decode cX12_say 14 = .ok (.aload_n 0, 1) := dk_aload_n_0 (by decide +kernel)
theorem dX12_say_15 : decode cX12_say 15 = .ok (.bipush (-2), 2) := dk_bipush (by decide +kernel)
theorem dX12_say_17 : decode cX12_say 17 = .ok (.invokevirtual 175, 3) := dk_invokevirtual (by decide +kernel)
theorem dX12_say_20 : decode cX12_say 20 = .ok (.ireturn, 1) := dk_ireturn (by decide +kernel)
theorem dX12_say_21 : decode cX12_say 21 = .ok (.iload_n 1, 1) := dk_iload_n_1 (by decide +kernel)
theorem dX12_say_22 : decode cX12_say 22 = .ok (.iconst 1, 1) := dk_iconst_1 (by decide +kernel)
theorem dX12_say_23 : decode cX12_say 23 = .ok (.if_icmp .eq 8, 3) := dk_if_icmp_eq (by decide +kernel)
theorem dX12_say_26 : decode cX12_say 26 = .ok (.iload_n 1, 1) := dk_iload_n_1 (by decide +kernel)
theorem dX12_say_27 : decode cX12_say 27 = .ok (.iconst 5, 1) := dk_iconst_5 (by decide +kernel)
theorem dX12_say_28 : decode cX12_say 28 = .ok (.if_icmp .ne 7, 3) := dk_if_icmp_ne (by decide +kernel)
theorem dX12_say_31 : decode cX12_say 31 = .ok (.iconst 1, 1) := dk_iconst_1 (by decide +kernel)
theorem dX12_say_32 : decode cX12_say 32 = .ok (.goto 4, 3) := dk_goto (by decide +kernel)
theorem dX12_say_35 : decode cX12_say 35 = .ok (.iconst 0, 1) := dk_iconst_0 (by decide +kernel)
theorem dX12_say_36 : decode cX12_say 36 = .ok (.istore 4, 2) := dk_istore (by decide +kernel)
theorem dX12_say_38 : decode cX12_say 38 = .ok (.iload_n 2, 1) := dk_iload_n_2 (by decide +kernel)
theorem dX12_say_39 : decode cX12_say 39 = .ok (.aload_n 0, 1) := dk_aload_n_0 (by decide +kernel)
theorem dX12_say_40 : decode cX12_say 40 = .ok (.getfield 208, 3) := dk_getfield (by decide +kernel)
theorem dX12_say_43 : decode cX12_say 43 = .ok (.invokestatic 162, 3) := dk_invokestatic (by decide +kernel)
theorem dX12_say_46 : decode cX12_say 46 = .ok (.ifCond .eq 36, 3) := dk_ifCond_eq (by decide +kernel)
theorem dX12_say_49 : decode cX12_say 49 = .ok (.iload 4, 2) := dk_iload (by decide +kernel)
theorem dX12_say_51 : decode cX12_say 51 = .ok (.ifCond .eq 11, 3) := dk_ifCond_eq (by decide +kernel)
theorem dX12_say_54 : decode cX12_say 54 = .ok (.aload_n 0, 1) := dk_aload_n_0 (by decide +kernel)
theorem dX12_say_55 : decode cX12_say 55 = .ok (.iload_n 3, 1) := dk_iload_n_3 (by decide +kernel)
theorem dX12_say_56 : decode cX12_say 56 = .ok (.invokevirtual 217, 3) := dk_invokevirtual (by decide +kernel)
theorem dX12_say_59 : decode cX12_say 59 = .ok (.ifCond .eq 23, 3) := dk_ifCond_eq (by decide +kernel)
theorem dX12_say_62 : decode cX12_say 62 = .ok (.iload_n 1, 1) := dk_iload_n_1 (by decide +kernel)
theorem dX12_say_63 : decode cX12_say 63 = .ok (.ifCond .ne 25, 3) := dk_ifCond_ne (by decide +kernel)
theorem dX12_say_66 : decode cX12_say 66 = .ok (.iload_n 3, 1) := dk_iload_n_3 (by decide +kernel)
theorem dX12_say_67 : decode cX12_say 67 = .ok (.iconst (-1), 1) := dk_iconst_m1 (by decide +kernel)
theorem dX12_say_68 : decode cX12_say 68 = .ok (.if_icmp .eq 20, 3) := dk_if_icmp_eq (by decide +kernel)
theorem dX12_say_71 : decode cX12_say 71 = .ok (.iload_n 3, 1) := dk_iload_n_3 (by decide +kernel)
theorem dX12_say_72 : decode cX12_say 72 = .ok (.aload_n 0, 1) := dk_aload_n_0 (by decide +kernel)
theorem dX12_say_73 : decode cX12_say 73 = .ok (.getfield 220, 3) := dk_getfield (by decide +kernel)
theorem dX12_say_76 : decode cX12_say 76 = .ok (.invokestatic 162, 3) := dk_invokestatic (by decide +kernel)
theorem dX12_say_79 : decode cX12_say 79 = .ok (.ifCond .ne 9, 3) := dk_ifCond_ne (by decide +kernel)
theorem dX12_say_82 : decode cX12_say 82 = .ok (.aload_n 0, 1) := dk_aload_n_0 (by decide +kernel)
theorem dX12_say_83 : decode cX12_say 83 = .ok (.iconst (-1), 1) := dk_iconst_m1 (by decide +kernel)
theorem dX12_say_84 : decode cX12_say 84 = .ok (.invokevirtual 175, 3) := dk_invokevirtual (by decide +kernel)
theorem dX12_say_87 : decode cX12_say 87 = .ok (.ireturn, 1) := dk_ireturn (by decide +kernel)
theorem dX12_say_88 : decode cX12_say 88 = .ok (.aload_n 0, 1) := dk_aload_n_0 (by decide +kernel)
theorem dX12_say_89 : decode cX12_say 89 = .ok (.iload_n 2, 1) := dk_iload_n_2 (by decide +kernel)
theorem dX12_say_90 : decode cX12_say 90 = .ok (.invokevirtual 211, 3) := dk_invokevirtual (by decide +kernel)
theorem dX12_say_93 : decode cX12_say 93 = .ok (.ifCond .ne 10, 3) := dk_ifCond_ne (by decide +kernel)
theorem dX12_say_96 : decode cX12_say 96 = .ok (.aload_n 0, 1) := dk_aload_n_0 (by decide +kernel)
theorem dX12_say_97 : decode cX12_say 97 = .ok (.bipush (-3), 2) := dk_bipush (by decide +kernel)
theorem dX12_say_99 : decode cX12_say 99 = .ok (.invokevirtual 175, 3) := dk_invokevirtual (by decide +kernel)
theorem dX12_say_102 : decode cX12_say 102 = .ok (.ireturn, 1) := dk_ireturn (by decide +kernel)
theorem dX12_say_103 : decode cX12_say 103 = .ok (.iload_n 1, 1) := dk_iload_n_1 (by decide +kernel)
theorem dX12_say_104 : decode cX12_say 104 = .ok (.iconst 5, 1) := dk_iconst_5 (by decide +kernel)
theorem dX12_say_105 : decode cX12_say 105 = .ok (.if_icmp .ne 12, 3) := dk_if_icmp_ne (by decide +kernel)
theorem dX12_say_108 : decode cX12_say 108 = .ok (.aload_n 0, 1) := dk_aload_n_0 (by decide +kernel)
theorem dX12_say_109 : decode cX12_say 109 = .ok (.getfield 59, 3) := dk_getfield (by decide +kernel)
theorem dX12_say_112 : decode cX12_say 112 = .ok (.iload_n 3, 1) := dk_iload_n_3 (by decide +kernel)
theorem dX12_say_113 : decode cX12_say 113 = .ok (.iaload, 1) := dk_iaload (by decide +kernel)
theorem dX12_say_114 : decode cX12_say 114 = .ok (.ifCond .ne 37, 3) := dk_ifCond_ne (by decide +kernel)
theorem dX12_say_117 : decode cX12_say 117 = .ok (.iload_n 1, 1) := dk_iload_n_1 (by decide +kernel)
theorem dX12_say_118 : decode cX12_say 118 = .ok (.iconst 1, 1) := dk_iconst_1 (by decide +kernel)
theorem dX12_say_119 : decode cX12_say 119 = .ok (.if_icmp .ne 39, 3) := dk_if_icmp_ne (by decide +kernel)
theorem dX12_say_122 : decode cX12_say 122 = .ok (.aload_n 0, 1) := dk_aload_n_0 (by decide +kernel)
theorem dX12_say_123 : decode cX12_say 123 = .ok (.getfield 59, 3) := dk_getfield (by decide +kernel)
theorem dX12_say_126 : decode cX12_say 126 = .ok (.iload_n 3, 1) := dk_iload_n_3 (by decide +kernel)
theorem dX12_say_127 : decode cX12_say 127 = .ok (.iaload, 1) := dk_iaload (by decide +kernel)
theorem dX12_say_128 : decode cX12_say 128 = .ok (.ifCond .eq 30, 3) := dk_ifCond_eq (by decide +kernel)
theorem dX12_say_131 : decode cX12_say 131 = .ok (.aload_n 0, 1) := dk_aload_n_0 (by decide +kernel)
theorem dX12_say_132 : decode cX12_say 132 = .ok (.getfield 59, 3) := dk_getfield (by decide +kernel)
theorem dX12_say_135 : decode cX12_say 135 = .ok (.iload_n 3, 1) := dk_iload_n_3 (by decide +kernel)
theorem dX12_say_136 : decode cX12_say 136 = .ok (.iaload, 1) := dk_iaload (by decide +kernel)
theorem dX12_say_137 : decode cX12_say 137 = .ok (.iconst 3, 1) := dk_iconst_3 (by decide +kernel)
theorem dX12_say_138 : decode cX12_say 138 = .ok (.if_icmp .eq 20, 3) := dk_if_icmp_eq (by decide +kernel)
theorem dX12_say_141 : decode cX12_say 141 = .ok (.aload_n 0, 1) := dk_aload_n_0 (by decide +kernel)
theorem dX12_say_142 : decode cX12_say 142 = .ok (.getfield 59, 3) := dk_getfield (by decide +kernel)
theorem dX12_say_145 : decode cX12_say 145 = .ok (.iload_n 3, 1) := dk_iload_n_3 (by decide +kernel)
theorem dX12_say_146 : decode cX12_say 146 = .ok (.iaload, 1) := dk_iaload (by decide +kernel)
theorem dX12_say_147 : decode cX12_say 147 = .ok (.iconst 5, 1) := dk_iconst_5 (by decide +kernel)
theorem dX12_say_148 : decode cX12_say 148 = .ok (.if_icmp .eq 10, 3) := dk_if_icmp_eq (by decide +kernel)
theorem dX12_say_151 : decode cX12_say 151 = .ok (.aload_n 0, 1) := dk_aload_n_0 (by decide +kernel)
theorem dX12_say_152 : decode cX12_say 152 = .ok (.bipush (-3), 2) := dk_bipush (by decide +kernel)
theorem dX12_say_154 : decode cX12_say 154 = .ok (.invokevirtual 175, 3) := dk_invokevirtual (by decide +kernel)
theorem dX12_say_157 : decode cX12_say 157 = .ok (.ireturn, 1) := dk_ireturn (by decide +kernel)
theorem dX12_say_158 : decode cX12_say 158 = .ok (.iload_n 1, 1) := dk_iload_n_1 (by decide +kernel)
theorem dX12_say_159 : decode cX12_say 159 = .ok (.iconst 2, 1) := dk_iconst_2 (by decide +kernel)
theorem dX12_say_160 : decode cX12_say 160 = .ok (.if_icmp .ne 87, 3) := dk_if_icmp_ne (by decide +kernel)
theorem dX12_say_163 : decode cX12_say 163 = .ok (.aload_n 0, 1) := dk_aload_n_0 (by decide +kernel)
theorem dX12_say_164 : decode cX12_say 164 = .ok (.invokevirtual 223, 3) := dk_invokevirtual (by decide +kernel)
theorem dX12_say_167 : decode cX12_say 167 = .ok (.aload_n 0, 1) := dk_aload_n_0 (by decide +kernel)
theorem dX12_say_168 : decode cX12_say 168 = .ok (.getfield 135, 3) := dk_getfield (by decide +kernel)
theorem dX12_say_171 : decode cX12_say 171 = .ok (.bipush 107, 2) := dk_bipush (by decide +kernel)
theorem dX12_say_173 : decode cX12_say 173 = .ok (.iconst 2, 1) := dk_iconst_2 (by decide +kernel)
theorem dX12_say_174 : decode cX12_say 174 = .ok (.iastore, 1) := dk_iastore (by decide +kernel)
theorem dX12_say_175 : decode cX12_say 175 = .ok (.aload_n 0, 1) := dk_aload_n_0 (by decide +kernel)
theorem dX12_say_176 : decode cX12_say 176 = .ok (.getfield 135, 3) := dk_getfield (by decide +kernel)
theorem dX12_say_179 : decode cX12_say 179 = .ok (.bipush 104, 2) := dk_bipush (by decide +kernel)
theorem dX12_say_181 : decode cX12_say 181 = .ok (.aload_n 0, 1) := dk_aload_n_0 (by decide +kernel)
theorem dX12_say_182 : decode cX12_say 182 = .ok (.getfield 169, 3) := dk_getfield (by decide +kernel)
theorem dX12_say_185 : decode cX12_say 185 = .ok (.bipush 60, 2) := dk_bipush (by decide +kernel)
theorem dX12_say_187 : decode cX12_say 187 = .ok (.idiv, 1) := dk_idiv (by decide +kernel)
theorem dX12_say_188 : decode cX12_say 188 = .ok (.bipush 24, 2) := dk_bipush (by decide +kernel)
theorem dX12_say_190 : decode cX12_say 190 = .ok (.irem, 1) := dk_irem (by decide +kernel)
theorem dX12_say_191 : decode cX12_say 191 = .ok (.iastore, 1) := dk_iastore (by decide +kernel)
theorem dX12_say_192 : decode cX12_say 192 = .ok (.aload_n 0, 1) := dk_aload_n_0 (by decide +kernel)
theorem dX12_say_193 : decode cX12_say 193 = .ok (.getfield 135, 3) := dk_getfield (by decide +kernel)
theorem dX12_say_196 : decode cX12_say 196 = .ok (.bipush 118, 2) := dk_bipush (by decide +kernel)
theorem dX12_say_198 : decode cX12_say 198 = .ok (.aload_n 0, 1) := dk_aload_n_0 (by decide +kernel)
theorem dX12_say_199 : decode cX12_say 199 = .ok (.getfield 50, 3) := dk_getfield (by decide +kernel)
theorem dX12_say_202 : decode cX12_say 202 = .ok (.iload_n 2, 1) := dk_iload_n_2 (by decide +kernel)
theorem dX12_say_203 : decode cX12_say 203 = .ok (.iaload, 1) := dk_iaload (by decide +kernel)
theorem dX12_say_204 : decode cX12_say 204 = .ok (.iastore, 1) := dk_iastore (by decide +kernel)
theorem dX12_say_205 : decode cX12_say 205 = .ok (.aload_n 0, 1) := dk_aload_n_0 (by decide +kernel)
theorem dX12_say_206 : decode cX12_say 206 = .ok (.getfield 135, 3) := dk_getfield (by decide +kernel)
theorem dX12_say_209 : decode cX12_say 209 = .ok (.bipush 119, 2) := dk_bipush (by decide +kernel)
theorem dX12_say_211 : decode cX12_say 211 = .ok (.aload_n 0, 1) := dk_aload_n_0 (by decide +kernel)
theorem dX12_say_212 : decode cX12_say 212 = .ok (.getfield 172, 3) := dk_getfield (by decide +kernel)
theorem dX12_say_215 : decode cX12_say 215 = .ok (.iastore, 1) := dk_iastore (by decide +kernel)
theorem dX12_say_216 : decode cX12_say 216 = .ok (.aload_n 0, 1) := dk_aload_n_0 (by decide +kernel)
theorem dX12_say_217 : decode cX12_say 217 = .ok (.getfield 135, 3) := dk_getfield (by decide +kernel)
theorem dX12_say_220 : decode cX12_say 220 = .ok (.bipush 110, 2) := dk_bipush (by decide +kernel)
theorem dX12_say_222 : decode cX12_say 222 = .ok (.aload_n 0, 1) := dk_aload_n_0 (by decide +kernel)
theorem dX12_say_223 : decode cX12_say 223 = .ok (.getfield 166, 3) := dk_getfield (by decide +kernel)
theorem dX12_say_226 : decode cX12_say 226 = .ok (.iastore, 1) := dk_iastore (by decide +kernel)
theorem dX12_say_227 : decode cX12_say 227 = .ok (.aload_n 0, 1) := dk_aload_n_0 (by decide +kernel)
theorem dX12_say_228 : decode cX12_say 228 = .ok (.iconst 3, 1) := dk_iconst_3 (by decide +kernel)
theorem dX12_say_229 : decode cX12_say 229 = .ok (.aload_n 0, 1) := dk_aload_n_0 (by decide +kernel)
theorem dX12_say_230 : decode cX12_say 230 = .ok (.getfield 169, 3) := dk_getfield (by decide +kernel)
theorem dX12_say_233 : decode cX12_say 233 = .ok (.iconst 1, 1) := dk_iconst_1 (by decide +kernel)
theorem dX12_say_234 : decode cX12_say 234 = .ok (.invokevirtual 226, 3) := dk_invokevirtual (by decide +kernel)
theorem dX12_say_237 : decode cX12_say 237 = .ok (.ifCond .gt 10, 3) := dk_ifCond_gt (by decide +kernel)
theorem dX12_say_240 : decode cX12_say 240 = .ok (.aload_n 0, 1) := dk_aload_n_0 (by decide +kernel)
theorem dX12_say_241 : decode cX12_say 241 = .ok (.bipush (-3), 2) := dk_bipush (by decide +kernel)
theorem dX12_say_243 : decode cX12_say 243 = .ok (.invokevirtual 175, 3) := dk_invokevirtual (by decide +kernel)
theorem dX12_say_246 : decode cX12_say 246 = .ok (.ireturn, 1) := dk_ireturn (by decide +kernel)
theorem dX12_say_247 : decode cX12_say 247 = .ok (.aload_n 0, 1) := dk_aload_n_0 (by decide +kernel)
theorem dX12_say_248 : decode cX12_say 248 = .ok (.getfield 169, 3) := dk_getfield (by decide +kernel)
theorem dX12_say_251 : decode cX12_say 251 = .ok (.sipush 9999, 3) := dk_sipush (by decide +kernel)
theorem dX12_say_254 : decode cX12_say 254 = .ok (.if_icmp .ne 10, 3) := dk_if_icmp_ne (by decide +kernel)
theorem dX12_say_257 : decode cX12_say 257 = .ok (.aload_n 0, 1) := dk_aload_n_0 (by decide +kernel)
theorem dX12_say_258 : decode cX12_say 258 = .ok (.bipush (-6), 2) := dk_bipush (by decide +kernel)
theorem dX12_say_260 : decode cX12_say 260 = .ok (.invokevirtual 175, 3) := dk_invokevirtual (by decide +kernel)
theorem dX12_say_263 : decode cX12_say 263 = .ok (.ireturn, 1) := dk_ireturn (by decide +kernel)
theorem dX12_say_264 : decode cX12_say 264 = .ok (.aload_n 0, 1) := dk_aload_n_0 (by decide +kernel)
theorem dX12_say_265 : decode cX12_say 265 = .ok (.iload_n 1, 1) := dk_iload_n_1 (by decide +kernel)
theorem dX12_say_266 : decode cX12_say 266 = .ok (.iload_n 2, 1) := dk_iload_n_2 (by decide +kernel)
theorem dX12_say_267 : decode cX12_say 267 = .ok (.iload 4, 2) := dk_iload (by decide +kernel)
theorem dX12_say_269 : decode cX12_say 269 = .ok (.ifCond .ne 11, 3) := dk_ifCond_ne (by decide +kernel)
theorem dX12_say_272 : decode cX12_say 272 = .ok (.iload_n 1, 1) := dk_iload_n_1 (by decide +kernel)
theorem dX12_say_273 : decode cX12_say 273 = .ok (.ifCond .ne 11, 3) := dk_ifCond_ne (by decide +kernel)
theorem dX12_say_276 : decode cX12_say 276 = .ok (.iload_n 3, 1) := dk_iload_n_3 (by decide +kernel)
theorem dX12_say_277 : decode cX12_say 277 = .ok (.ifCond .lt 7, 3) := dk_ifCond_lt (by decide +kernel)
theorem dX12_say_280 : decode cX12_say 280 = .ok (.iload_n 3, 1) := dk_iload_n_3 (by decide +kernel)
theorem dX12_say_281 : decode cX12_say 281 = .ok (.goto 5, 3) := dk_goto (by decide +kernel)
theorem dX12_say_284 : decode cX12_say 284 = .ok (.bipush (-9), 2) := dk_bipush (by decide +kernel)
theorem dX12_say_286 : decode cX12_say 286 = .ok (.invokevirtual 229, 3) := dk_invokevirtual (by decide +kernel)
theorem dX12_say_289 : decode cX12_say 289 = .ok (.ireturn, 1) := dk_ireturn (by decide +kernel)
theorem dX12_findsForce_0 : decode cX12_findsForce 0 = .ok (.aload_n 0, 1) := dk_aload_n_0 (by decide +kernel)
theorem dX12_findsForce_1 : decode cX12_findsForce 1 = .ok (.getfield 138, 3) := dk_getfield (by decide +kernel)
theorem dX12_findsForce_4 : decode cX12_findsForce 4 = .ok (.iconst 0, 1) := dk_iconst_0 (by decide +kernel)
theorem dX12_findsForce_5 : decode cX12_findsForce 5 = .ok (.aload_n 0, 1) := dk_aload_n_0 (by decide +kernel)
theorem dX12_findsForce_6 : decode cX12_findsForce 6 = .ok (.iconst 0, 1) := dk_iconst_0 (by decide +kernel)
theorem dX12_findsForce_7 : decode cX12_findsForce 7 = .ok (.iload_n 1, 1) := dk_iload_n_1 (by decide +kernel)
theorem dX12_findsForce_8 : decode cX12_findsForce 8 = .ok (.invokevirtual 309, 3) := dk_invokevirtual (by decide +kernel)
theorem dX12_findsForce_11 : decode cX12_findsForce 11 = .ok (.iastore, 1) := dk_iastore (by decide +kernel)
theorem dX12_findsForce_12 : decode cX12_findsForce 12 = .ok (.aload_n 0, 1) := dk_aload_n_0 (by decide +kernel)
theorem dX12_findsForce_13 : decode cX12_findsForce 13 = .ok (.getfield 138, 3) := dk_getfield (by decide +kernel)
theorem dX12_findsForce_16 : decode cX12_findsForce 16 = .ok (.iconst 1, 1) := dk_iconst_1 (by decide +kernel)
theorem dX12_findsForce_17 : decode cX12_findsForce 17 = .ok (.aload_n 0, 1) := dk_aload_n_0 (by decide +kernel)
theorem dX12_findsForce_18 : decode cX12_findsForce 18 = .ok (.iconst 1, 1) := dk_iconst_1 (by decide +kernel)
theorem dX12_findsForce_19 : decode cX12_findsForce 19 = .ok (.iload_n 1, 1) := dk_iload_n_1 (by decide +kernel)
theorem dX12_findsForce_20 : decode cX12_findsForce 20 = .ok (.invokevirtual 309, 3) := dk_invokevirtual (by decide +kernel)
theorem dX12_findsForce_23 : decode cX12_findsForce 23 = .ok (.iastore, 1) := dk_iastore (by decide +kernel)
theorem dX12_findsForce_24 : decode cX12_findsForce 24 = .ok (.sipush 10000, 3) := dk_sipush (by decide +kernel)
theorem dX12_findsForce_27 : decode cX12_findsForce 27 = .ok (.istore_n 2, 1) := dk_istore_n_2 (by decide +kernel)
theorem dX12_findsForce_28 : decode cX12_findsForce 28 = .ok (.iconst 0, 1) := dk_iconst_0 (by decide +kernel)
theorem dX12_findsForce_29 : decode cX12_findsForce 29 = .ok (.istore_n 3, 1) := dk_istore_n_3 (by decide +kernel)
theorem dX12_findsForce_30 : decode cX12_findsForce 30 = .ok (.iload_n 3, 1) := dk_iload_n_3 (by decide +kernel)
theorem dX12_findsForce_31 : decode cX12_findsForce 31 = .ok (.aload_n 0, 1) := dk_aload_n_0 (by decide +kernel)
theorem dX12_findsForce_32 : decode cX12_findsForce 32 = .ok (.getfield 303, 3) := dk_getfield (by decide +kernel)
theorem dX12_findsForce_35 : decode cX12_findsForce 35 = .ok (.if_icmp .ge 40, 3) := dk_if_icmp_ge (by decide +kernel)
theorem dX12_findsForce_38 : decode cX12_findsForce 38 = .ok (.aload_n 0, 1) := dk_aload_n_0 (by decide +kernel)
theorem dX12_findsForce_39 : decode cX12_findsForce 39 = .ok (.getfield 80, 3) := dk_getfield (by decide +kernel)
theorem dX12_findsForce_42 : decode cX12_findsForce 42 = .ok (.iload_n 3, 1) := dk_iload_n_3 (by decide +kernel)
theorem dX12_findsForce_43 : decode cX12_findsForce 43 = .ok (.iaload, 1) := dk_iaload (by decide +kernel)
theorem dX12_findsForce_44 : decode cX12_findsForce 44 = .ok (.iload_n 1, 1) := dk_iload_n_1 (by decide +kernel)
theorem dX12_findsForce_45 : decode cX12_findsForce 45 = .ok (.if_icmp .le 22, 3) := dk_if_icmp_le (by decide +kernel)
theorem dX12_findsForce_48 : decode cX12_findsForce 48 = .ok (.aload_n 0, 1) := dk_aload_n_0 (by decide +kernel)
theorem dX12_findsForce_49 : decode cX12_findsForce 49 = .ok (.getfield 80, 3) := dk_getfield (by decide +kernel)
theorem dX12_findsForce_52 : decode cX12_findsForce 52 = .ok (.iload_n 3, 1) := dk_iload_n_3 (by decide +kernel)
theorem dX12_findsForce_53 : decode cX12_findsForce 53 = .ok (.iaload, 1) := dk_iaload (by decide +kernel)
theorem dX12_findsForce_54 : decode cX12_findsForce 54 = .ok (.iload_n 2, 1) := dk_iload_n_2 (by decide +kernel)
theorem dX12_findsForce_55 : decode cX12_findsForce 55 = .ok (.if_icmp .ge 12, 3) := dk_if_icmp_ge (by decide +kernel)
theorem dX12_findsForce_58 : decode cX12_findsForce 58 = .ok (.aload_n 0, 1) := dk_aload_n_0 (by decide +kernel)
theorem dX12_findsForce_59 : decode cX12_findsForce 59 = .ok (.getfield 80, 3) := dk_getfield (by decide +kernel)
theorem dX12_findsForce_62 : decode cX12_findsForce 62 = .ok (.iload_n 3, 1) := dk_iload_n_3 (by decide +kernel)
theorem dX12_findsForce_63 : decode cX12_findsForce 63 = .ok (.iaload, 1) := dk_iaload (by decide +kernel)
theorem dX12_findsForce_64 : decode cX12_findsForce 64 = .ok (.goto 4, 3) := dk_goto (by decide +kernel)
theorem dX12_findsForce_67 : decode cX12_findsForce 67 = .ok (.iload_n 2, 1) := dk_iload_n_2 (by decide +kernel)
theorem dX12_findsForce_68 : decode cX12_findsForce 68 = .ok (.istore_n 2, 1) := dk_istore_n_2 (by decide +kernel)
theorem dX12_findsForce_69 : decode cX12_findsForce 69 = .ok (.iinc 3 1, 3) := dk_iinc (by decide +kernel)
theorem dX12_findsForce_72 : decode cX12_findsForce 72 = .ok (.goto (-42), 3) := dk_goto (by decide +kernel)
theorem dX12_findsForce_75 : decode cX12_findsForce 75 = .ok (.iload_n 2, 1) := dk_iload_n_2 (by decide +kernel)
theorem dX12_findsForce_76 : decode cX12_findsForce 76 = .ok (.ireturn, 1) := dk_ireturn (by decide +kernel)
theorem dX12_letterOf_0 : decode cX12_letterOf 0 = .ok (.iload_n 0, 1) := dk_iload_n_0 (by decide +kernel)
theorem dX12_letterOf_1 : decode cX12_letterOf 1 = .ok (.ifCond .ne 8, 3) := dk_ifCond_ne (by decide +kernel)
theorem dX12_letterOf_4 : decode cX12_letterOf 4 = .ok (.bipush 107, 2) := dk_bipush (by decide +kernel)
theorem dX12_letterOf_6 : decode cX12_letterOf 6 = .ok (.goto 55, 3) := dk_goto (by decide +kernel)
theorem dX12_letterOf_9 : decode cX12_letterOf 9 = .ok (.iload_n 0, 1) := dk_iload_n_0 (by decide +kernel)
theorem dX12_letterOf_10 : decode cX12_letterOf 10 = .ok (.iconst 1, 1) := dk_iconst_1 (by decide +kernel)
theorem dX12_letterOf_11 : decode cX12_letterOf 11 = .ok (.if_icmp .ne 8, 3) := dk_if_icmp_ne (by decide +kernel)
theorem dX12_letterOf_14 : decode cX12_letterOf 14 = .ok (.bipush 104, 2) := dk_bipush (by decide +kernel)
theorem dX12_letterOf_16 : decode cX12_letterOf 16 = .ok (.goto 45, 3) := dk_goto (by decide +kernel)
theorem dX12_letterOf_19 : decode cX12_letterOf 19 = .ok (.iload_n 0, 1) := dk_iload_n_0 (by decide +kernel)
theorem dX12_letterOf_20 : decode cX12_letterOf 20 = .ok (.iconst 2, 1) := dk_iconst_2 (by decide +kernel)
theorem dX12_letterOf_21 : decode cX12_letterOf 21 = .ok (.if_icmp .ne 8, 3) := dk_if_icmp_ne (by decide +kernel)
theorem dX12_letterOf_24 : decode cX12_letterOf 24 = .ok (.bipush 118, 2) := dk_bipush (by decide +kernel)
theorem dX12_letterOf_26 : decode cX12_letterOf 26 = .ok (.goto 35, 3) := dk_goto (by decide +kernel)
theorem dX12_letterOf_29 : decode cX12_letterOf 29 = .ok (.iload_n 0, 1) := dk_iload_n_0 (by decide +kernel)
theorem dX12_letterOf_30 : decode cX12_letterOf 30 = .ok (.iconst 3, 1) := dk_iconst_3 (by decide +kernel)
theorem dX12_letterOf_31 : decode cX12_letterOf 31 = .ok (.if_icmp .ne 8, 3) := dk_if_icmp_ne (by decide +kernel)
theorem dX12_letterOf_34 : decode cX12_letterOf 34 = .ok (.bipush 115, 2) := dk_bipush (by decide +kernel)
theorem dX12_letterOf_36 : decode cX12_letterOf 36 = .ok (.goto 25, 3) := dk_goto (by decide +kernel)
theorem dX12_letterOf_39 : decode cX12_letterOf 39 = .ok (.iload_n 0, 1) := dk_iload_n_0 (by decide +kernel)
theorem dX12_letterOf_40 : decode cX12_letterOf 40 = .ok (.iconst 4, 1) := dk_iconst_4 (by decide +kernel)
theorem dX12_letterOf_41 : decode cX12_letterOf 41 = .ok (.if_icmp .ne 8, 3) := dk_if_icmp_ne (by decide +kernel)
theorem dX12_letterOf_44 : decode cX12_letterOf 44 = .ok (.bipush 109, 2) := dk_bipush (by decide +kernel)
theorem dX12_letterOf_46 : decode cX12_letterOf 46 = .ok (.goto 15, 3) := dk_goto (by decide +kernel)
theorem dX12_letterOf_49 : decode cX12_letterOf 49 = .ok (.iload_n 0, 1) := dk_iload_n_0 (by decide +kernel)
theorem dX12_letterOf_50 : decode cX12_letterOf 50 = .ok (.iconst 5, 1) := dk_iconst_5 (by decide +kernel)
theorem dX12_letterOf_51 : decode cX12_letterOf 51 = .ok (.if_icmp .ne 8, 3) := dk_if_icmp_ne (by decide +kernel)
theorem dX12_letterOf_54 : decode cX12_letterOf 54 = .ok (.bipush 119, 2) := dk_bipush (by decide +kernel)
theorem dX12_letterOf_56 : decode cX12_letterOf 56 = .ok (.goto 5, 3) := dk_goto (by decide +kernel)
theorem dX12_letterOf_59 : decode cX12_letterOf 59 = .ok (.bipush 110, 2) := dk_bipush (by decide +kernel)
theorem dX12_letterOf_61 : decode cX12_letterOf 61 = .ok (.ireturn, 1) := dk_ireturn (by decide +kernel)
theorem dX12_has_0 : decode cX12_has 0 = .ok (.iconst 0, 1) := dk_iconst_0 (by decide +kernel)
theorem dX12_has_1 : decode cX12_has 1 = .ok (.istore_n 3, 1) := dk_istore_n_3 (by decide +kernel)
theorem dX12_has_2 : decode cX12_has 2 = .ok (.iload_n 3, 1) := dk_iload_n_3 (by decide +kernel)
theorem dX12_has_3 : decode cX12_has 3 = .ok (.aload_n 0, 1) := dk_aload_n_0 (by decide +kernel)
theorem dX12_has_4 : decode cX12_has 4 = .ok (.getfield 74, 3) := dk_getfield (by decide +kernel)
theorem dX12_has_7 : decode cX12_has 7 = .ok (.iload_n 1, 1) := dk_iload_n_1 (by decide +kernel)
theorem dX12_has_8 : decode cX12_has 8 = .ok (.iaload, 1) := dk_iaload (by decide +kernel)
theorem dX12_has_9 : decode cX12_has 9 = .ok (.if_icmp .ge 26, 3) := dk_if_icmp_ge (by decide +kernel)
theorem dX12_has_12 : decode cX12_has 12 = .ok (.aload_n 0, 1) := dk_aload_n_0 (by decide +kernel)
theorem dX12_has_13 : decode cX12_has 13 = .ok (.getfield 83, 3) := dk_getfield (by decide +kernel)
theorem dX12_has_16 : decode cX12_has 16 = .ok (.bipush 60, 2) := dk_bipush (by decide +kernel)
theorem dX12_has_18 : decode cX12_has 18 = .ok (.iload_n 1, 1) := dk_iload_n_1 (by decide +kernel)
theorem dX12_has_19 : decode cX12_has 19 = .ok (.imul, 1) := dk_imul (by decide +kernel)
theorem dX12_has_20 : decode cX12_has 20 = .ok (.iload_n 3, 1) := dk_iload_n_3 (by decide +kernel)
theorem dX12_has_21 : decode cX12_has 21 = .ok (.iadd, 1) := dk_iadd (by decide +kernel)
theorem dX12_has_22 : decode cX12_has 22 = .ok (.iaload, 1) := dk_iaload (by decide +kernel)
theorem dX12_has_23 : decode cX12_has 23 = .ok (.iload_n 2, 1) := dk_iload_n_2 (by decide +kernel)
theorem dX12_has_24 : decode cX12_has 24 = .ok (.if_icmp .ne 5, 3) := dk_if_icmp_ne (by decide +kernel)
theorem dX12_has_27 : decode cX12_has 27 = .ok (.iconst 1, 1) := dk_iconst_1 (by decide +kernel)
theorem dX12_has_28 : decode cX12_has 28 = .ok (.ireturn, 1) := dk_ireturn (by decide +kernel)
theorem dX12_has_29 : decode cX12_has 29 = .ok (.iinc 3 1, 3) := dk_iinc (by decide +kernel)
theorem dX12_has_32 : decode cX12_has 32 = .ok (.goto (-30), 3) := dk_goto (by decide +kernel)
theorem dX12_has_35 : decode cX12_has 35 = .ok (.iconst 0, 1) := dk_iconst_0 (by decide +kernel)
theorem dX12_has_36 : decode cX12_has 36 = .ok (.ireturn, 1) := dk_ireturn (by decide +kernel)
theorem dX12_asBefore_0 : decode cX12_asBefore 0 = .ok (.aload_n 0, 1) := dk_aload_n_0 (by decide +kernel)
theorem dX12_asBefore_1 : decode cX12_asBefore 1 = .ok (.getfield 138, 3) := dk_getfield (by decide +kernel)
theorem dX12_asBefore_4 : decode cX12_asBefore 4 = .ok (.iload_n 1, 1) := dk_iload_n_1 (by decide +kernel)
theorem dX12_asBefore_5 : decode cX12_asBefore 5 = .ok (.iaload, 1) := dk_iaload (by decide +kernel)
theorem dX12_asBefore_6 : decode cX12_asBefore 6 = .ok (.istore_n 2, 1) := dk_istore_n_2 (by decide +kernel)
theorem dX12_asBefore_7 : decode cX12_asBefore 7 = .ok (.iload_n 2, 1) := dk_iload_n_2 (by decide +kernel)
theorem dX12_asBefore_8 : decode cX12_asBefore 8 = .ok (.ifCond .ge 5, 3) := dk_ifCond_ge (by decide +kernel)
theorem dX12_asBefore_11 : decode cX12_asBefore 11 = .ok (.iconst 0, 1) := dk_iconst_0 (by decide +kernel)
theorem dX12_asBefore_12 : decode cX12_asBefore 12 = .ok (.ireturn, 1) := dk_ireturn (by decide +kernel)
theorem dX12_asBefore_13 : decode cX12_asBefore 13 = .ok (.aload_n 0, 1) := dk_aload_n_0 (by decide +kernel)
theorem dX12_asBefore_14 : decode cX12_asBefore 14 = .ok (.getfield 141, 3) := dk_getfield (by decide +kernel)
theorem dX12_asBefore_17 : decode cX12_asBefore 17 = .ok (.iload_n 1, 1) := dk_iload_n_1 (by decide +kernel)
theorem dX12_asBefore_18 : decode cX12_asBefore 18 = .ok (.iaload, 1) := dk_iaload (by decide +kernel)
theorem dX12_asBefore_19 : decode cX12_asBefore 19 = .ok (.iload_n 2, 1) := dk_iload_n_2 (by decide +kernel)
theorem dX12_asBefore_20 : decode cX12_asBefore 20 = .ok (.if_icmp .ne 17, 3) := dk_if_icmp_ne (by decide +kernel)
theorem dX12_asBefore_23 : decode cX12_asBefore 23 = .ok (.aload_n 0, 1) := dk_aload_n_0 (by decide +kernel)
theorem dX12_asBefore_24 : decode cX12_asBefore 24 = .ok (.iload_n 2, 1) := dk_iload_n_2 (by decide +kernel)
theorem dX12_asBefore_25 : decode cX12_asBefore 25 = .ok (.bipush 97, 2) := dk_bipush (by decide +kernel)
theorem dX12_asBefore_27 : decode cX12_asBefore 27 = .ok (.invokevirtual 327, 3) := dk_invokevirtual (by decide +kernel)
theorem dX12_asBefore_30 : decode cX12_asBefore 30 = .ok (.ifCond .ne 7, 3) := dk_ifCond_ne (by decide +kernel)
theorem dX12_asBefore_33 : decode cX12_asBefore 33 = .ok (.iconst 1, 1) := dk_iconst_1 (by decide +kernel)
theorem dX12_asBefore_34 : decode cX12_asBefore 34 = .ok (.goto 4, 3) := dk_goto (by decide +kernel)
theorem dX12_asBefore_37 : decode cX12_asBefore 37 = .ok (.iconst 0, 1) := dk_iconst_0 (by decide +kernel)
theorem dX12_asBefore_38 : decode cX12_asBefore 38 = .ok (.istore_n 3, 1) := dk_istore_n_3 (by decide +kernel)
theorem dX12_asBefore_39 : decode cX12_asBefore 39 = .ok (.iconst 0, 1) := dk_iconst_0 (by decide +kernel)
theorem dX12_asBefore_40 : decode cX12_asBefore 40 = .ok (.istore 4, 2) := dk_istore (by decide +kernel)
theorem dX12_asBefore_42 : decode cX12_asBefore 42 = .ok (.iload 4, 2) := dk_iload (by decide +kernel)
theorem dX12_asBefore_44 : decode cX12_asBefore 44 = .ok (.bipush 7, 2) := dk_bipush (by decide +kernel)
theorem dX12_asBefore_46 : decode cX12_asBefore 46 = .ok (.if_icmp .ge 66, 3) := dk_if_icmp_ge (by decide +kernel)
theorem dX12_asBefore_49 : decode cX12_asBefore 49 = .ok (.iload_n 3, 1) := dk_iload_n_3 (by decide +kernel)
theorem dX12_asBefore_50 : decode cX12_asBefore 50 = .ok (.ifCond .eq 32, 3) := dk_ifCond_eq (by decide +kernel)
theorem dX12_asBefore_53 : decode cX12_asBefore 53 = .ok (.aload_n 0, 1) := dk_aload_n_0 (by decide +kernel)
theorem dX12_asBefore_54 : decode cX12_asBefore 54 = .ok (.getfield 147, 3) := dk_getfield (by decide +kernel)
theorem dX12_asBefore_57 : decode cX12_asBefore 57 = .ok (.bipush 7, 2) := dk_bipush (by decide +kernel)
theorem dX12_asBefore_59 : decode cX12_asBefore 59 = .ok (.iload_n 1, 1) := dk_iload_n_1 (by decide +kernel)
theorem dX12_asBefore_60 : decode cX12_asBefore 60 = .ok (.imul, 1) := dk_imul (by decide +kernel)
theorem dX12_asBefore_61 : decode cX12_asBefore 61 = .ok (.iload 4, 2) := dk_iload (by decide +kernel)
theorem dX12_asBefore_63 : decode cX12_asBefore 63 = .ok (.iadd, 1) := dk_iadd (by decide +kernel)
theorem dX12_asBefore_64 : decode cX12_asBefore 64 = .ok (.iaload, 1) := dk_iaload (by decide +kernel)
theorem dX12_asBefore_65 : decode cX12_asBefore 65 = .ok (.aload_n 0, 1) := dk_aload_n_0 (by decide +kernel)
theorem dX12_asBefore_66 : decode cX12_asBefore 66 = .ok (.getfield 135, 3) := dk_getfield (by decide +kernel)
theorem dX12_asBefore_69 : decode cX12_asBefore 69 = .ok (.iload 4, 2) := dk_iload (by decide +kernel)
theorem dX12_asBefore_71 : decode cX12_asBefore 71 = .ok (.invokestatic 330, 3) := dk_invokestatic (by decide +kernel)
theorem dX12_asBefore_74 : decode cX12_asBefore 74 = .ok (.iaload, 1) := dk_iaload (by decide +kernel)
theorem dX12_asBefore_75 : decode cX12_asBefore 75 = .ok (.if_icmp .ne 7, 3) := dk_if_icmp_ne (by decide +kernel)
theorem dX12_asBefore_78 : decode cX12_asBefore 78 = .ok (.iconst 1, 1) := dk_iconst_1 (by decide +kernel)
theorem dX12_asBefore_79 : decode cX12_asBefore 79 = .ok (.goto 4, 3) := dk_goto (by decide +kernel)
theorem dX12_asBefore_82 : decode cX12_asBefore 82 = .ok (.iconst 0, 1) := dk_iconst_0 (by decide +kernel)
theorem dX12_asBefore_83 : decode cX12_asBefore 83 = .ok (.istore_n 3, 1) := dk_istore_n_3 (by decide +kernel)
theorem dX12_asBefore_84 : decode cX12_asBefore 84 = .ok (.aload_n 0, 1) := dk_aload_n_0 (by decide +kernel)
theorem dX12_asBefore_85 : decode cX12_asBefore 85 = .ok (.getfield 147, 3) := dk_getfield (by decide +kernel)
theorem dX12_asBefore_88 : decode cX12_asBefore 88 = .ok (.bipush 7, 2) := dk_bipush (by decide +kernel)
theorem dX12_asBefore_90 : decode cX12_asBefore 90 = .ok (.iload_n 1, 1) := dk_iload_n_1 (by decide +kernel)
theorem dX12_asBefore_91 : decode cX12_asBefore 91 = .ok (.imul, 1) := dk_imul (by decide +kernel)
theorem dX12_asBefore_92 : decode cX12_asBefore 92 = .ok (.iload 4, 2) := dk_iload (by decide +kernel)
theorem dX12_asBefore_94 : decode cX12_asBefore 94 = .ok (.iadd, 1) := dk_iadd (by decide +kernel)
theorem dX12_asBefore_95 : decode cX12_asBefore 95 = .ok (.aload_n 0, 1) := dk_aload_n_0 (by decide +kernel)
theorem dX12_asBefore_96 : decode cX12_asBefore 96 = .ok (.getfield 135, 3) := dk_getfield (by decide +kernel)
theorem dX12_asBefore_99 : decode cX12_asBefore 99 = .ok (.iload 4, 2) := dk_iload (by decide +kernel)
theorem dX12_asBefore_101 : decode cX12_asBefore 101 = .ok (.invokestatic 330, 3) := dk_invokestatic (by decide +kernel)
theorem dX12_asBefore_104 : decode cX12_asBefore 104 = .ok (.iaload, 1) := dk_iaload (by decide +kernel)
theorem dX12_asBefore_105 : decode cX12_asBefore 105 = .ok (.iastore, 1) := dk_iastore (by decide +kernel)
theorem dX12_asBefore_106 : decode cX12_asBefore 106 = .ok (.iinc 4 1, 3) := dk_iinc (by decide +kernel)
theorem dX12_asBefore_109 : decode cX12_asBefore 109 = .ok (.goto (-67), 3) := dk_goto (by decide +kernel)
theorem dX12_asBefore_112 : decode cX12_asBefore 112 = .ok (.iload_n 3, 1) := dk_iload_n_3 (by decide +kernel)
theorem dX12_asBefore_113 : decode cX12_asBefore 113 = .ok (.ifCond .ne 23, 3) := dk_ifCond_ne (by decide +kernel)
theorem dX12_asBefore_116 : decode cX12_asBefore 116 = .ok (.aload_n 0, 1) := dk_aload_n_0 (by decide +kernel)
theorem dX12_asBefore_117 : decode cX12_asBefore 117 = .ok (.getfield 144, 3) := dk_getfield (by decide +kernel)
theorem dX12_asBefore_120 : decode cX12_asBefore 120 = .ok (.iload_n 1, 1) := dk_iload_n_1 (by decide +kernel)
theorem dX12_asBefore_121 : decode cX12_asBefore 121 = .ok (.aload_n 0, 1) := dk_aload_n_0 (by decide +kernel)
theorem dX12_asBefore_122 : decode cX12_asBefore 122 = .ok (.bipush 60, 2) := dk_bipush (by decide +kernel)
theorem dX12_asBefore_124 : decode cX12_asBefore 124 = .ok (.iload_n 2, 1) := dk_iload_n_2 (by decide +kernel)
theorem dX12_asBefore_125 : decode cX12_asBefore 125 = .ok (.imul, 1) := dk_imul (by decide +kernel)
theorem dX12_asBefore_126 : decode cX12_asBefore 126 = .ok (.aload_n 0, 1) := dk_aload_n_0 (by decide +kernel)
theorem dX12_asBefore_127 : decode cX12_asBefore 127 = .ok (.getfield 74, 3) := dk_getfield (by decide +kernel)
theorem dX12_asBefore_130 : decode cX12_asBefore 130 = .ok (.iload_n 2, 1) := dk_iload_n_2 (by decide +kernel)
theorem dX12_asBefore_131 : decode cX12_asBefore 131 = .ok (.iaload, 1) := dk_iaload (by decide +kernel)
theorem dX12_asBefore_132 : decode cX12_asBefore 132 = .ok (.invokevirtual 306, 3) := dk_invokevirtual (by decide +kernel)
theorem dX12_asBefore_135 : decode cX12_asBefore 135 = .ok (.iastore, 1) := dk_iastore (by decide +kernel)
theorem dX12_asBefore_136 : decode cX12_asBefore 136 = .ok (.aload_n 0, 1) := dk_aload_n_0 (by decide +kernel)
theorem dX12_asBefore_137 : decode cX12_asBefore 137 = .ok (.getfield 141, 3) := dk_getfield (by decide +kernel)
theorem dX12_asBefore_140 : decode cX12_asBefore 140 = .ok (.iload_n 1, 1) := dk_iload_n_1 (by decide +kernel)
theorem dX12_asBefore_141 : decode cX12_asBefore 141 = .ok (.iload_n 2, 1) := dk_iload_n_2 (by decide +kernel)
theorem dX12_asBefore_142 : decode cX12_asBefore 142 = .ok (.iastore, 1) := dk_iastore (by decide +kernel)
theorem dX12_asBefore_143 : decode cX12_asBefore 143 = .ok (.aload_n 0, 1) := dk_aload_n_0 (by decide +kernel)
theorem dX12_asBefore_144 : decode cX12_asBefore 144 = .ok (.getfield 144, 3) := dk_getfield (by decide +kernel)
theorem dX12_asBefore_147 : decode cX12_asBefore 147 = .ok (.iload_n 1, 1) := dk_iload_n_1 (by decide +kernel)
theorem dX12_asBefore_148 : decode cX12_asBefore 148 = .ok (.iaload, 1) := dk_iaload (by decide +kernel)
theorem dX12_asBefore_149 : decode cX12_asBefore 149 = .ok (.ireturn, 1) := dk_ireturn (by decide +kernel)
theorem dX12_account_0 : decode cX12_account 0 = .ok (.aload_n 0, 1) := dk_aload_n_0 (by decide +kernel)
theorem dX12_account_1 : decode cX12_account 1 = .ok (.iload_n 1, 1) := dk_iload_n_1 (by decide +kernel)
theorem dX12_account_2 : decode cX12_account 2 = .ok (.invokevirtual 217, 3) := dk_invokevirtual (by decide +kernel)
theorem dX12_account_5 : decode cX12_account 5 = .ok (.ifCond .eq 16, 3) := dk_ifCond_eq (by decide +kernel)
theorem dX12_account_8 : decode cX12_account 8 = .ok (.aload_n 0, 1) := dk_aload_n_0 (by decide +kernel)
theorem dX12_account_9 : decode cX12_account 9 = .ok (.iload_n 2, 1) := dk_iload_n_2 (by decide +kernel)
theorem dX12_account_10 : decode cX12_account 10 = .ok (.invokevirtual 217, 3) := dk_invokevirtual (by decide +kernel)
theorem dX12_account_13 : decode cX12_account 13 = .ok (.ifCond .eq 8, 3) := dk_ifCond_eq (by decide +kernel)
theorem dX12_account_16 : decode cX12_account 16 = .ok (.iload_n 2, 1) := dk_iload_n_2 (by decide +kernel)
theorem dX12_account_17 : decode cX12_account 17 = .ok (.iload_n 1, 1) := dk_iload_n_1 (by decide +kernel)
theorem dX12_account_18 : decode cX12_account 18 = .ok (.if_icmp .ge 14, 3) := dk_if_icmp_ge (by decide +kernel)
theorem dX12_account_21 : decode cX12_account 21 = .ok (.ldc2_w 319, 3) := dk_ldc2_w (by decide +kernel)
theorem dX12_account_24 : decode cX12_account 24 = .ok (.aload_n 0, 1) := dk_aload_n_0 (by decide +kernel)
theorem dX12_account_25 : decode cX12_account 25 = .ok (.iconst (-1), 1) := dk_iconst_m1 (by decide +kernel)
theorem dX12_account_26 : decode cX12_account 26 = .ok (.invokevirtual 175, 3) := dk_invokevirtual (by decide +kernel)
theorem dX12_account_29 : decode cX12_account 29 = .ok (.i2l, 1) := dk_i2l (by decide +kernel)
theorem dX12_account_30 : decode cX12_account 30 = .ok (.lsub, 1) := dk_lsub (by decide +kernel)
theorem dX12_account_31 : decode cX12_account 31 = .ok (.lreturn, 1) := dk_lreturn (by decide +kernel)
theorem dX12_account_32 : decode cX12_account 32 = .ok (.lconst 0, 1) := dk_lconst_0 (by decide +kernel)
theorem dX12_account_33 : decode cX12_account 33 = .ok (.lstore_n 3, 1) := dk_lstore_n_3 (by decide +kernel)
theorem dX12_account_34 : decode cX12_account 34 = .ok (.iload_n 1, 1) := dk_iload_n_1 (by decide +kernel)
theorem dX12_account_35 : decode cX12_account 35 = .ok (.istore 5, 2) := dk_istore (by decide +kernel)
theorem dX12_account_37 : decode cX12_account 37 = .ok (.iconst 0, 1) := dk_iconst_0 (by decide +kernel)
theorem dX12_account_38 : decode cX12_account 38 = .ok (.istore 6, 2) := dk_istore (by decide +kernel)
theorem dX12_account_40 : decode cX12_account 40 = .ok (.iload 6, 2) := dk_iload (by decide +kernel)
theorem dX12_account_42 : decode cX12_account 42 = .ok (.iconst 2, 1) := dk_iconst_2 (by decide +kernel)
theorem dX12_account_43 : decode cX12_account 43 = .ok (.if_icmp .ge 18, 3) := dk_if_icmp_ge (by decide +kernel)
theorem dX12_account_46 : decode cX12_account 46 = .ok (.aload_n 0, 1) := dk_aload_n_0 (by decide +kernel)
theorem dX12_account_47 : decode cX12_account 47 = .ok (.getfield 141, 3) := dk_getfield (by decide +kernel)
theorem dX12_account_50 : decode cX12_account 50 = .ok (.iload 6, 2) := dk_iload (by decide +kernel)
theorem dX12_account_52 : decode cX12_account 52 = .ok (.bipush (-9), 2) := dk_bipush (by decide +kernel)
theorem dX12_account_54 : decode cX12_account 54 = .ok (.iastore, 1) := dk_iastore (by decide +kernel)
theorem dX12_account_55 : decode cX12_account 55 = .ok (.iinc 6 1, 3) := dk_iinc (by decide +kernel)
theorem dX12_account_58 : decode cX12_account 58 = .ok (.goto (-18), 3) := dk_goto (by decide +kernel)
theorem dX12_account_61 : decode cX12_account 61 = .ok (.iload_n 1, 1) := dk_iload_n_1 (by decide +kernel)
theorem dX12_account_62 : decode cX12_account 62 = .ok (.istore 6, 2) := dk_istore (by decide +kernel)
theorem dX12_account_64 : decode cX12_account 64 = .ok (.iload 6, 2) := dk_iload (by decide +kernel)
theorem dX12_account_66 : decode cX12_account 66 = .ok (.iload_n 2, 1) := dk_iload_n_2 (by decide +kernel)
theorem dX12_account_67 : decode cX12_account 67 = .ok (.if_icmp .gt 69, 3) := dk_if_icmp_gt (by decide +kernel)
theorem dX12_account_70 : decode cX12_account 70 = .ok (.iload 6, 2) := dk_iload (by decide +kernel)
theorem dX12_account_72 : decode cX12_account 72 = .ok (.iload 5, 2) := dk_iload (by decide +kernel)
theorem dX12_account_74 : decode cX12_account 74 = .ok (.if_icmp .lt 11, 3) := dk_if_icmp_lt (by decide +kernel)
theorem dX12_account_77 : decode cX12_account 77 = .ok (.aload_n 0, 1) := dk_aload_n_0 (by decide +kernel)
theorem dX12_account_78 : decode cX12_account 78 = .ok (.iload 6, 2) := dk_iload (by decide +kernel)
theorem dX12_account_80 : decode cX12_account 80 = .ok (.invokevirtual 321, 3) := dk_invokevirtual (by decide +kernel)
theorem dX12_account_83 : decode cX12_account 83 = .ok (.istore 5, 2) := dk_istore (by decide +kernel)
theorem dX12_account_85 : decode cX12_account 85 = .ok (.aload_n 0, 1) := dk_aload_n_0 (by decide +kernel)
theorem dX12_account_86 : decode cX12_account 86 = .ok (.getfield 138, 3) := dk_getfield (by decide +kernel)
theorem dX12_account_89 : decode cX12_account 89 = .ok (.iconst 0, 1) := dk_iconst_0 (by decide +kernel)
theorem dX12_account_90 : decode cX12_account 90 = .ok (.iaload, 1) := dk_iaload (by decide +kernel)
theorem dX12_account_91 : decode cX12_account 91 = .ok (.ifCond .ge 15, 3) := dk_ifCond_ge (by decide +kernel)
theorem dX12_account_94 : decode cX12_account 94 = .ok (.aload_n 0, 1) := dk_aload_n_0 (by decide +kernel)
theorem dX12_account_95 : decode cX12_account 95 = .ok (.getfield 138, 3) := dk_getfield (by decide +kernel)
theorem dX12_account_98 : decode cX12_account 98 = .ok (.iconst 1, 1) := dk_iconst_1 (by decide +kernel)
theorem dX12_account_99 : decode cX12_account 99 = .ok (.iaload, 1) := dk_iaload (by decide +kernel)
theorem dX12_account_100 : decode cX12_account 100 = .ok (.ifCond .ge 6, 3) := dk_ifCond_ge (by decide +kernel)
theorem dX12_account_103 : decode cX12_account 103 = .ok (.goto 27, 3) := dk_goto (by decide +kernel)
theorem dX12_account_106 : decode cX12_account 106 = .ok (.aload_n 0, 1) := dk_aload_n_0 (by decide +kernel)
theorem dX12_account_107 : decode cX12_account 107 = .ok (.iload 6, 2) := dk_iload (by decide +kernel)
theorem dX12_account_109 : decode cX12_account 109 = .ok (.invokevirtual 312, 3) := dk_invokevirtual (by decide +kernel)
theorem dX12_account_112 : decode cX12_account 112 = .ok (.lload_n 3, 1) := dk_lload_n_3 (by decide +kernel)
theorem dX12_account_113 : decode cX12_account 113 = .ok (.aload_n 0, 1) := dk_aload_n_0 (by decide +kernel)
theorem dX12_account_114 : decode cX12_account 114 = .ok (.iconst 1, 1) := dk_iconst_1 (by decide +kernel)
theorem dX12_account_115 : decode cX12_account 115 = .ok (.invokevirtual 324, 3) := dk_invokevirtual (by decide +kernel)
theorem dX12_account_118 : decode cX12_account 118 = .ok (.i2l, 1) := dk_i2l (by decide +kernel)
theorem dX12_account_119 : decode cX12_account 119 = .ok (.ladd, 1) := dk_ladd (by decide +kernel)
theorem dX12_account_120 : decode cX12_account 120 = .ok (.lstore_n 3, 1) := dk_lstore_n_3 (by decide +kernel)
theorem dX12_account_121 : decode cX12_account 121 = .ok (.lload_n 3, 1) := dk_lload_n_3 (by decide +kernel)
theorem dX12_account_122 : decode cX12_account 122 = .ok (.aload_n 0, 1) := dk_aload_n_0 (by decide +kernel)
theorem dX12_account_123 : decode cX12_account 123 = .ok (.iconst 0, 1) := dk_iconst_0 (by decide +kernel)
theorem dX12_account_124 : decode cX12_account 124 = .ok (.invokevirtual 324, 3) := dk_invokevirtual (by decide +kernel)
theorem dX12_account_127 : decode cX12_account 127 = .ok (.i2l, 1) := dk_i2l (by decide +kernel)
theorem dX12_account_128 : decode cX12_account 128 = .ok (.lsub, 1) := dk_lsub (by decide +kernel)
theorem dX12_account_129 : decode cX12_account 129 = .ok (.lstore_n 3, 1) := dk_lstore_n_3 (by decide +kernel)
theorem dX12_account_130 : decode cX12_account 130 = .ok (.iinc 6 1, 3) := dk_iinc (by decide +kernel)
theorem dX12_account_133 : decode cX12_account 133 = .ok (.goto (-69), 3) := dk_goto (by decide +kernel)
theorem dX12_account_136 : decode cX12_account 136 = .ok (.lload_n 3, 1) := dk_lload_n_3 (by decide +kernel)
theorem dX12_account_137 : decode cX12_account 137 = .ok (.lreturn, 1) := dk_lreturn (by decide +kernel)
theorem par_all : ∀ d : Nat, SUMC d := by
  intro d
  induction d with
  | zero => exact c_X12_sum 0 (c_X12_term 0 (c_X12_unit 0 (fun k h => absurd h (by omega))))
  | succ d ih => exact c_X12_sum (d + 1) (c_X12_term (d + 1) (c_X12_unit (d + 1) (fun k h => by cases h; exact ih)))
set_option maxHeartbeats 4000000 in
set_option maxRecDepth 100000 in
theorem c_X12_goesThrough (l : Launch) (g : gG) (J : Nat → Nat → Int32) (L : Nat → Nat → Int64) (I : Nat → Nat → Nat → Int32) (P : Nat → Nat → Nat → Option Nat) (E : Nat → Option Nat) (N : Nat → Nat) (sz : Nat) (a0 : Int32) (a1 : Int32) (hwm : WM J) (hpa : (a0.toInt < 0 ∧ 0 ≤ a1.toInt ∧ a1.toInt ≤ 60) ∨ (0 ≤ a0.toInt ∧ 0 ≤ a1.toInt ∧ a0.toInt + a1.toInt ≤ 1800)) : Met l yX12_goesThrough (WS yX12_goesThrough cX12_goesThrough 3 (some .int)) (RM (30) 0 0) (PC g [.ref (g.2.2.1 13), .int a0, .int a1] ((J, L, I, P, E, N), sgM g) sz) (va_Qi (fun (r : Int32) (u : (Nat → Nat → Int32)) => (0 ≤ (u 13 56).toInt)) (fun u t => at_ g (FR g ((J, L, I, P, E, N), sgM g) sz) ((hv J [] [(13, 56), (13, 57), (13, 58), (13, 59), (13, 60)] u, L, I, P, E, N), sgM g) t) (FR g ((J, L, I, P, E, N), sgM g) sz)) 0 0 (FR g ((J, L, I, P, E, N), sgM g) sz) := by
  refine ent (by decide +kernel) (Nat.le_of_ble_eq_true rfl) ?_
  intro p e s m below meth c ls hsz C hW hr hlocks hname hl
  generalize FR g ((J, L, I, P, E, N), sgM g) sz = A at C hW ⊢
  have hx := C.1.1
  have hb := C.1.2.1
  have hts := C.1.2.2.2.2
  have hW : WB g A s.heap s.heap [] (J, L, I, P, E, N) (sgM g) := hW
  have hl : lv_has ls 3 [(0, .ref (g.2.2.1 13)), (1, .int a0), (2, .int a1)] := hl
  obtain ⟨H, hH⟩ : ∃ H : Heap, H = s.heap := ⟨_, rfl⟩
  obtain ⟨locs, hlocs⟩ : ∃ q : List Loc, q = [] := ⟨_, rfl⟩
  have hW : WB g A s.heap H locs (J, L, I, P, E, N) (sgM g) := by rw [hH, hlocs]; exact hW
  obtain ⟨⟨hnd1, hnd2, hon, hhm1, hhm2, hhN, hcu1, hcu2, hco1, hco2, hcN⟩, ⟨hrd1, hrd2⟩, ⟨hnw1, hnw2, hns1, hns2, hof⟩, ⟨htm1, htm2, hts_⟩, ⟨had1, had2, hrw1, hrw2, htp1, htp2⟩⟩ := id hwm
  refine start_ hH hlocs ?_
  refine lv_aload_n hx hb dX12_goesThrough_0 rfl (lv_at hl 0 rfl) ?_
  refine lv_iload_n hx hb dX12_goesThrough_1 rfl (lv_at hl 1 rfl) ?_
  refine rp_13_58 C hW (mm_ rfl) tw_1081 dX12_goesThrough_2 (fun H locs hW => ?_)
  refine lv_aload_n hx hb dX12_goesThrough_5 rfl (lv_at hl 0 rfl) ?_
  refine lv_iload_n hx hb dX12_goesThrough_6 rfl (lv_at hl 2 rfl) ?_
  refine rp_13_59 C hW (mm_ rfl) tw_1082 dX12_goesThrough_7 (fun H locs hW => ?_)
  refine lv_aload_n hx hb dX12_goesThrough_10 rfl (lv_at hl 0 rfl) ?_
  refine lv_iconst (v := 0) hx hb dX12_goesThrough_11 (by decide) ?_
  refine rp_13_56 C hW (mm_ rfl) tw_1079 dX12_goesThrough_12 (fun H locs hW => ?_)
  refine lv_aload_n hx hb dX12_goesThrough_15 rfl (lv_at hl 0 rfl) ?_
  refine lv_iconst (v := 0) hx hb dX12_goesThrough_16 (by decide) ?_
  refine rp_13_57 C hW (mm_ rfl) tw_1080 dX12_goesThrough_17 (fun H locs hW => ?_)
  refine lv_aload_n hx hb dX12_goesThrough_20 rfl (lv_at hl 0 rfl) ?_
  refine lv_iconst (v := 1) hx hb dX12_goesThrough_21 (by decide) ?_
  refine rp_13_60 C hW (mm_ rfl) tw_1083 (by decide) dX12_goesThrough_22 (fun H locs hW => ?_)
  refine lv_aload_n hx hb dX12_goesThrough_25 rfl (lv_at hl 0 rfl) ?_
  refine ci_ C hW (runV (x := (g.2.2.1 13)) (As := []) (rest := []) (T := (((up2 (up2 (up2 (up2 (up2 J 13 58 a0) 13 59 a1) 13 56 0) 13 57 0) 13 60 1), L, I, P, E, N), sgM g)) C hW ((par_all 5) l g (up2 (up2 (up2 (up2 (up2 J 13 58 a0) 13 59 a1) 13 56 0) 13 57 0) 13 60 1) L I P E N H.size  hwm (show 0 ≤ ((0 : Int32)).toInt from by (try simp only [kp0]); omega) (show ((a0).toInt < 0 ∧ (a1).toInt ≤ 60) ∨ (0 ≤ (a0).toInt ∧ (a0).toInt + (a1).toInt ≤ 1800) from by omega) (show ¬ ((1 : Int32)).toInt = 0 → ((0 : Int32)).toInt = 5 - ((5 : Nat) : Int) from by (try simp only [kp1]); (try simp only [kp0]); omega) (show ((5 : Nat) : Int) ≤ 5 from by omega)) mi_X12_sum tw_1346 (recv_ (T := (((up2 (up2 (up2 (up2 (up2 J 13 58 a0) 13 59 a1) 13 56 0) 13 57 0) 13 60 1), L, I, P, E, N), sgM g)) C hW (mm_ rfl) rfl rfl) ⟨rfl, rfl, Nat.le_of_ble_eq_true rfl, Nat.le_of_ble_eq_true rfl⟩ rfl hl.1 rfl (Nat.le_of_ble_eq_true rfl) dX12_goesThrough_26 ⟨Nat.le_of_ble_eq_true rfl, Nat.le_of_ble_eq_true rfl⟩) (fun r1 u1 H locs hp1 hW => ?_)
  obtain ⟨hf1_0, hf1_1⟩ : (0 ≤ (u1 13 56).toInt) ∧ (¬ (u1 13 60).toInt = 0 → (u1 13 57).toInt = 5 - ((5 : Nat) : Int)) := hp1
  have hW : WB g A s.heap H locs ((hv (up2 (up2 (up2 (up2 (up2 J 13 58 a0) 13 59 a1) 13 56 0) 13 57 0) 13 60 1) [] [(13, 56), (13, 57), (13, 60)] u1), L, I, P, E, N) (sgM g) := hW
  have hWr : WB g A s.heap H locs (hv J [] [(13, 56), (13, 57), (13, 58), (13, 59), (13, 60)] (hv (up2 (up2 (up2 (up2 (up2 J 13 58 a0) 13 59 a1) 13 56 0) 13 57 0) 13 60 1) [] [(13, 56), (13, 57), (13, 60)] u1), L, I, P, E, N) (sgM g) := by
    rw [← ag_hvE (J := J) (R := []) (F := [(13, 56), (13, 57), (13, 58), (13, 59), (13, 60)]) (ag_hv rfl rfl (ag_up (Or.inr rfl) (ag_up (Or.inr rfl) (ag_up (Or.inr rfl) (ag_up (Or.inr rfl) (ag_up (Or.inr rfl) ag_rf))))))]
    exact hW
  exact end_i C hr hlocks (hv (up2 (up2 (up2 (up2 (up2 J 13 58 a0) 13 59 a1) 13 56 0) 13 57 0) 13 60 1) [] [(13, 56), (13, 57), (13, 60)] u1) hWr (show 0 ≤ (u1 13 56).toInt from by omega) dX12_goesThrough_29

set_option maxHeartbeats 4000000 in
set_option maxRecDepth 100000 in
theorem c_X12_inForce (l : Launch) (g : gG) (J : Nat → Nat → Int32) (L : Nat → Nat → Int64) (I : Nat → Nat → Nat → Int32) (P : Nat → Nat → Nat → Option Nat) (E : Nat → Option Nat) (N : Nat → Nat) (sz : Nat) (a0 : Int32) (a1 : Int32) (hwm : WM J) : Met l yX12_inForce (WS yX12_inForce cX12_inForce 5 (some .int)) (RM (1) 0 0) (PC g [.ref (g.2.2.1 13), .int a0, .int a1] ((J, L, I, P, E, N), sgM g) sz) (va_Qi (fun (r : Int32) (u : Unit) => (-1 ≤ r.toInt ∧ r.toInt < 30 ∧ (r.toInt < (J 13 40).toInt))) (fun u t => at_ g (FR g ((J, L, I, P, E, N), sgM g) sz) ((J, L, I, P, E, N), sgM g) t) (FR g ((J, L, I, P, E, N), sgM g) sz)) 0 0 (FR g ((J, L, I, P, E, N), sgM g) sz) := by
  refine ent (by decide +kernel) (Nat.le_of_ble_eq_true rfl) ?_
  intro p e s m below meth c ls hsz C hW hr hlocks hname hl
  generalize FR g ((J, L, I, P, E, N), sgM g) sz = A at C hW ⊢
  have hx := C.1.1
  have hb := C.1.2.1
  have hts := C.1.2.2.2.2
  have hW : WB g A s.heap s.heap [] (J, L, I, P, E, N) (sgM g) := hW
  have hl : lv_has ls 5 [(0, .ref (g.2.2.1 13)), (1, .int a0), (2, .int a1)] := hl
  obtain ⟨H, hH⟩ : ∃ H : Heap, H = s.heap := ⟨_, rfl⟩
  obtain ⟨locs, hlocs⟩ : ∃ q : List Loc, q = [] := ⟨_, rfl⟩
  have hW : WB g A s.heap H locs (J, L, I, P, E, N) (sgM g) := by rw [hH, hlocs]; exact hW
  obtain ⟨⟨hnd1, hnd2, hon, hhm1, hhm2, hhN, hcu1, hcu2, hco1, hco2, hcN⟩, ⟨hrd1, hrd2⟩, ⟨hnw1, hnw2, hns1, hns2, hof⟩, ⟨htm1, htm2, hts_⟩, ⟨had1, had2, hrw1, hrw2, htp1, htp2⟩⟩ := id hwm
  refine start_ hH hlocs ?_
  refine lv_iconst (v := (-1)) hx hb dX12_inForce_0 (by decide) ?_
  refine lv_istore_n (lv' := [(3, .int (-1)), (0, .ref (g.2.2.1 13)), (1, .int a0), (2, .int a1)]) hx hb dX12_inForce_1 rfl hl (by decide) rfl (fun ls hl => ?_)
  refine lv_iconst (v := 0) hx hb dX12_inForce_2 (by decide) ?_
  refine lv_istore (lv' := [(4, .int 0), (3, .int (-1)), (0, .ref (g.2.2.1 13)), (1, .int a0), (2, .int a1)]) hx hb dX12_inForce_3 hl (by decide) rfl (fun ls hl => ?_)
  have loop5 : ∀ (n : Nat) (m3 : Int32) (m4 : Int32) (H : Heap) (locs : List Loc) (ls : Array Slot), (30 - m4.toInt).toNat < n → 0 ≤ m4.toInt ∧ -1 ≤ m3.toInt ∧ m3.toInt < 30 ∧ m3.toInt < (J 13 40).toInt → WB g A s.heap H locs (J, L, I, P, E, N) (sgM g) → lv_has ls 5 [(4, .int m4), (3, .int m3), (0, .ref (g.2.2.1 13)), (1, .int a0), (2, .int a1)] → W p l e (RM (1) 0 0) s m ([.ref (g.2.2.1 13), .int a0, .int a1] : List Value).toArray below meth c H locs 0 0 (MQ below (va_Qi (fun (r : Int32) (u : Unit) => (-1 ≤ r.toInt ∧ r.toInt < 30 ∧ (r.toInt < (J 13 40).toInt))) (fun u t => at_ g A ((J, L, I, P, E, N), sgM g) t) A) ([.ref (g.2.2.1 13), .int a0, .int a1] : List Value).toArray s 0 0 A) (F0 m 5 ls []) := by
    intro n
    induction n with
    | zero => intro m3 m4 H locs ls hmeas; exact absurd hmeas (Nat.not_lt_zero _)
    | succ n ih =>
      intro m3 m4 H locs ls hmeas hi hW hl
      refine lv_iload hx hb dX12_inForce_5 (lv_at hl 0 rfl) ?_
      refine lv_aload_n hx hb dX12_inForce_7 rfl (lv_at hl 2 rfl) ?_
      refine rg_13_40 C hW (mm_ rfl) tw_1063 dX12_inForce_8 ?_
      refine lv_icmp_ge (tgt := 65) hx hb dX12_inForce_11 (by decide) (fun c1 => ?_) (fun c1 => ?_)
      · have c1 : (J 13 40).toInt ≤ m4.toInt := tle rfl rfl c1
        refine lv_iload_n hx hb dX12_inForce_65 rfl (lv_at hl 1 rfl) ?_
        exact end_i C hr hlocks () hW (show -1 ≤ m3.toInt ∧ m3.toInt < 30 ∧ (m3.toInt < (J 13 40).toInt) from by omega) dX12_inForce_66
      · have c1 : m4.toInt < (J 13 40).toInt := tnle rfl rfl c1
        refine lv_aload_n hx hb dX12_inForce_14 rfl (lv_at hl 2 rfl) ?_
        refine rg_13_22 C hW (mm_ rfl) tw_1045 dX12_inForce_15 ?_
        refine lv_iload hx hb dX12_inForce_18 (lv_at hl 0 rfl) ?_
        have hin : vp_in m4 30 := tin rfl (by omega)
        refine ra_122 C hW (mm_ rfl) hin dX12_inForce_20 ?_
        refine lv_topi (fun x2 (e2 : x2 = J 122 m4.toNatClampNeg) => ?_)
        refine lv_iload_n hx hb dX12_inForce_21 rfl (lv_at hl 3 rfl) ?_
        refine lv_icmp_ne (tgt := 59) hx hb dX12_inForce_22 (by decide) (fun c3 => ?_) (fun c3 => ?_)
        · have c3 : ¬ x2.toInt = a0.toInt := tne rfl rfl c3
          obtain ⟨x4, e4⟩ : ∃ y : Int32, y = m4 + 1 := ⟨_, rfl⟩
          refine lv_iinc (v := x4) (lv' := [(4, .int x4), (3, .int m3), (0, .ref (g.2.2.1 13)), (1, .int a0), (2, .int a1)]) hx hb dX12_inForce_59 hl (k := 0) rfl (by rw [e4]; rfl) (by decide) rfl (fun ls hl => ?_)
          try have t4 : x4.toInt = m4.toInt + 1 := tadd e4 rfl kp1 (by omega)
          refine lv_goto (tgt := 5) hx hb dX12_inForce_62 (by decide) ?_
          refine ih m3 x4 H locs ls ?_ ?_ hW (lv_sub hl [0, 1, 2, 3, 4] rfl)
          · show (30 - x4.toInt).toNat < n
            omega
          · show 0 ≤ x4.toInt ∧ -1 ≤ m3.toInt ∧ m3.toInt < 30 ∧ m3.toInt < (J 13 40).toInt
            first | omega | exact hi | assumption
        · have c3 : x2.toInt = a0.toInt := teq rfl rfl c3
          refine lv_aload_n hx hb dX12_inForce_25 rfl (lv_at hl 2 rfl) ?_
          refine rg_13_23 C hW (mm_ rfl) tw_1046 dX12_inForce_26 ?_
          refine lv_iload hx hb dX12_inForce_29 (lv_at hl 0 rfl) ?_
          have hin : vp_in m4 30 := tin rfl (by omega)
          refine ra_123 C hW (mm_ rfl) hin dX12_inForce_31 ?_
          refine lv_topi (fun x5 (e5 : x5 = J 123 m4.toNatClampNeg) => ?_)
          refine lv_iload_n hx hb dX12_inForce_32 rfl (lv_at hl 4 rfl) ?_
          refine lv_icmp_gt (tgt := 59) hx hb dX12_inForce_33 (by decide) (fun c6 => ?_) (fun c6 => ?_)
          · have c6 : a1.toInt < x5.toInt := tlt rfl rfl c6
            obtain ⟨x7, e7⟩ : ∃ y : Int32, y = m4 + 1 := ⟨_, rfl⟩
            refine lv_iinc (v := x7) (lv' := [(4, .int x7), (3, .int m3), (0, .ref (g.2.2.1 13)), (1, .int a0), (2, .int a1)]) hx hb dX12_inForce_59 hl (k := 0) rfl (by rw [e7]; rfl) (by decide) rfl (fun ls hl => ?_)
            try have t7 : x7.toInt = m4.toInt + 1 := tadd e7 rfl kp1 (by omega)
            refine lv_goto (tgt := 5) hx hb dX12_inForce_62 (by decide) ?_
            refine ih m3 x7 H locs ls ?_ ?_ hW (lv_sub hl [0, 1, 2, 3, 4] rfl)
            · show (30 - x7.toInt).toNat < n
              omega
            · show 0 ≤ x7.toInt ∧ -1 ≤ m3.toInt ∧ m3.toInt < 30 ∧ m3.toInt < (J 13 40).toInt
              first | omega | exact hi | assumption
          · have c6 : x5.toInt ≤ a1.toInt := tnlt rfl rfl c6
            refine lv_iload_n hx hb dX12_inForce_36 rfl (lv_at hl 1 rfl) ?_
            refine lv_if_lt (tgt := 56) hx hb dX12_inForce_37 (by decide) (fun c8 => ?_) (fun c8 => ?_)
            · have c8 : m3.toInt < 0 := tlt rfl kp0 c8
              refine lv_iload hx hb dX12_inForce_56 (lv_at hl 0 rfl) ?_
              refine lv_istore_n (lv' := [(3, .int m4), (4, .int m4), (0, .ref (g.2.2.1 13)), (1, .int a0), (2, .int a1)]) hx hb dX12_inForce_58 rfl hl (by decide) rfl (fun ls hl => ?_)
              obtain ⟨x9, e9⟩ : ∃ y : Int32, y = m4 + 1 := ⟨_, rfl⟩
              refine lv_iinc (v := x9) (lv' := [(4, .int x9), (3, .int m4), (0, .ref (g.2.2.1 13)), (1, .int a0), (2, .int a1)]) hx hb dX12_inForce_59 hl (k := 1) rfl (by rw [e9]; rfl) (by decide) rfl (fun ls hl => ?_)
              try have t9 : x9.toInt = m4.toInt + 1 := tadd e9 rfl kp1 (by omega)
              refine lv_goto (tgt := 5) hx hb dX12_inForce_62 (by decide) ?_
              refine ih m4 x9 H locs ls ?_ ?_ hW (lv_sub hl [0, 1, 2, 3, 4] rfl)
              · show (30 - x9.toInt).toNat < n
                omega
              · show 0 ≤ x9.toInt ∧ -1 ≤ m4.toInt ∧ m4.toInt < 30 ∧ m4.toInt < (J 13 40).toInt
                first | omega | exact hi | assumption
            · have c8 : 0 ≤ m3.toInt := tnlt rfl kp0 c8
              refine lv_aload_n hx hb dX12_inForce_40 rfl (lv_at hl 2 rfl) ?_
              refine rg_13_23 C hW (mm_ rfl) tw_1046 dX12_inForce_41 ?_
              refine lv_iload hx hb dX12_inForce_44 (lv_at hl 0 rfl) ?_
              have hin : vp_in m4 30 := tin rfl (by omega)
              refine ra_123 C hW (mm_ rfl) hin dX12_inForce_46 ?_
              refine lv_topi (fun x10 (e10 : x10 = J 123 m4.toNatClampNeg) => ?_)
              refine lv_aload_n hx hb dX12_inForce_47 rfl (lv_at hl 2 rfl) ?_
              refine rg_13_23 C hW (mm_ rfl) tw_1046 dX12_inForce_48 ?_
              refine lv_iload_n hx hb dX12_inForce_51 rfl (lv_at hl 1 rfl) ?_
              have hin : vp_in m3 30 := tin rfl (by omega)
              refine ra_123 C hW (mm_ rfl) hin dX12_inForce_52 ?_
              refine lv_topi (fun x11 (e11 : x11 = J 123 m3.toNatClampNeg) => ?_)
              refine lv_icmp_lt (tgt := 59) hx hb dX12_inForce_53 (by decide) (fun c12 => ?_) (fun c12 => ?_)
              · have c12 : x10.toInt < x11.toInt := tlt rfl rfl c12
                obtain ⟨x13, e13⟩ : ∃ y : Int32, y = m4 + 1 := ⟨_, rfl⟩
                refine lv_iinc (v := x13) (lv' := [(4, .int x13), (3, .int m3), (0, .ref (g.2.2.1 13)), (1, .int a0), (2, .int a1)]) hx hb dX12_inForce_59 hl (k := 0) rfl (by rw [e13]; rfl) (by decide) rfl (fun ls hl => ?_)
                try have t13 : x13.toInt = m4.toInt + 1 := tadd e13 rfl kp1 (by omega)
                refine lv_goto (tgt := 5) hx hb dX12_inForce_62 (by decide) ?_
                refine ih m3 x13 H locs ls ?_ ?_ hW (lv_sub hl [0, 1, 2, 3, 4] rfl)
                · show (30 - x13.toInt).toNat < n
                  omega
                · show 0 ≤ x13.toInt ∧ -1 ≤ m3.toInt ∧ m3.toInt < 30 ∧ m3.toInt < (J 13 40).toInt
                  first | omega | exact hi | assumption
              · have c12 : x11.toInt ≤ x10.toInt := tnlt rfl rfl c12
                refine lv_iload hx hb dX12_inForce_56 (lv_at hl 0 rfl) ?_
                refine lv_istore_n (lv' := [(3, .int m4), (4, .int m4), (0, .ref (g.2.2.1 13)), (1, .int a0), (2, .int a1)]) hx hb dX12_inForce_58 rfl hl (by decide) rfl (fun ls hl => ?_)
                obtain ⟨x14, e14⟩ : ∃ y : Int32, y = m4 + 1 := ⟨_, rfl⟩
                refine lv_iinc (v := x14) (lv' := [(4, .int x14), (3, .int m4), (0, .ref (g.2.2.1 13)), (1, .int a0), (2, .int a1)]) hx hb dX12_inForce_59 hl (k := 1) rfl (by rw [e14]; rfl) (by decide) rfl (fun ls hl => ?_)
                try have t14 : x14.toInt = m4.toInt + 1 := tadd e14 rfl kp1 (by omega)
                refine lv_goto (tgt := 5) hx hb dX12_inForce_62 (by decide) ?_
                refine ih m4 x14 H locs ls ?_ ?_ hW (lv_sub hl [0, 1, 2, 3, 4] rfl)
                · show (30 - x14.toInt).toNat < n
                  omega
                · show 0 ≤ x14.toInt ∧ -1 ≤ m4.toInt ∧ m4.toInt < 30 ∧ m4.toInt < (J 13 40).toInt
                  first | omega | exact hi | assumption
  -- into the loop
  refine loop5 ((30 - (0 : Int32).toInt).toNat + 1) (-1) 0 H locs ls ?_ ?_ hW (lv_sub hl [0, 1, 2, 3, 4] rfl)
  · exact Nat.lt_succ_self _
  · show 0 ≤ (0 : Int32).toInt ∧ -1 ≤ ((-1) : Int32).toInt ∧ ((-1) : Int32).toInt < 30 ∧ ((-1) : Int32).toInt < (J 13 40).toInt
    try rw [kn1]
    try rw [kp0]
    first | omega | exact hi | assumption

set_option maxHeartbeats 4000000 in
set_option maxRecDepth 100000 in
theorem c_X12_findsForce (l : Launch) (g : gG) (J : Nat → Nat → Int32) (L : Nat → Nat → Int64) (I : Nat → Nat → Nat → Int32) (P : Nat → Nat → Nat → Option Nat) (E : Nat → Option Nat) (N : Nat → Nat) (sz : Nat) (a0 : Int32) (hwm : WM J) : Met l yX12_findsForce (WS yX12_findsForce cX12_findsForce 4 (some .int)) (RM (2) 0 0) (PC g [.ref (g.2.2.1 13), .int a0] ((J, L, I, P, E, N), sgM g) sz) (va_Qi (fun (r : Int32) (u : (Nat → Nat → Int32)) => (-1 ≤ (u 161 0).toInt ∧ (u 161 0).toInt < (J 13 40).toInt ∧ -1 ≤ (u 161 1).toInt ∧ (u 161 1).toInt < (J 13 40).toInt)) (fun u t => at_ g (FR g ((J, L, I, P, E, N), sgM g) sz) ((hv J [161] [] u, L, I, P, E, N), sgM g) t) (FR g ((J, L, I, P, E, N), sgM g) sz)) 0 0 (FR g ((J, L, I, P, E, N), sgM g) sz) := by
  refine ent (by decide +kernel) (Nat.le_of_ble_eq_true rfl) ?_
  intro p e s m below meth c ls hsz C hW hr hlocks hname hl
  generalize FR g ((J, L, I, P, E, N), sgM g) sz = A at C hW ⊢
  have hx := C.1.1
  have hb := C.1.2.1
  have hts := C.1.2.2.2.2
  have hW : WB g A s.heap s.heap [] (J, L, I, P, E, N) (sgM g) := hW
  have hl : lv_has ls 4 [(0, .ref (g.2.2.1 13)), (1, .int a0)] := hl
  obtain ⟨H, hH⟩ : ∃ H : Heap, H = s.heap := ⟨_, rfl⟩
  obtain ⟨locs, hlocs⟩ : ∃ q : List Loc, q = [] := ⟨_, rfl⟩
  have hW : WB g A s.heap H locs (J, L, I, P, E, N) (sgM g) := by rw [hH, hlocs]; exact hW
  obtain ⟨⟨hnd1, hnd2, hon, hhm1, hhm2, hhN, hcu1, hcu2, hco1, hco2, hcN⟩, ⟨hrd1, hrd2⟩, ⟨hnw1, hnw2, hns1, hns2, hof⟩, ⟨htm1, htm2, hts_⟩, ⟨had1, had2, hrw1, hrw2, htp1, htp2⟩⟩ := id hwm
  refine start_ hH hlocs ?_
  refine lv_aload_n hx hb dX12_findsForce_0 rfl (lv_at hl 0 rfl) ?_
  refine rg_13_61 C hW (mm_ rfl) tw_1084 dX12_findsForce_1 ?_
  refine lv_iconst (v := 0) hx hb dX12_findsForce_4 (by decide) ?_
  refine lv_aload_n hx hb dX12_findsForce_5 rfl (lv_at hl 0 rfl) ?_
  refine lv_iconst (v := 0) hx hb dX12_findsForce_6 (by decide) ?_
  refine lv_iload_n hx hb dX12_findsForce_7 rfl (lv_at hl 1 rfl) ?_
  refine ci_ C hW (runV (x := (g.2.2.1 13)) (As := [.int 0, .int a0]) (rest := [.int 0, .ref (g.2.2.1 161)]) (T := ((J, L, I, P, E, N), sgM g)) C hW (c_X12_inForce l g J L I P E N H.size 0 a0 hwm) mi_X12_inForce tw_1338 (recv_ (T := ((J, L, I, P, E, N), sgM g)) C hW (mm_ rfl) rfl rfl) ⟨rfl, rfl, Nat.le_of_ble_eq_true rfl, Nat.le_of_ble_eq_true rfl⟩ rfl hl.1 rfl (Nat.le_of_ble_eq_true rfl) dX12_findsForce_8 ⟨Nat.le_of_ble_eq_true rfl, Nat.le_of_ble_eq_true rfl⟩) (fun r1 u1 H locs hp1 hW => ?_)
  have hf1_0 : (-1 ≤ r1.toInt ∧ r1.toInt < 30 ∧ (r1.toInt < (J 13 40).toInt)) := hp1
  clear hp1
  have hW : WB g A s.heap H locs (J, L, I, P, E, N) (sgM g) := hW
  have hin : vp_in 0 2 := tin kp0 (by omega)
  refine rs_161 C hW (mm_ rfl) hin dX12_findsForce_11 (fun H locs hW => ?_)
  have hW : WB g A s.heap H locs ((up2 J 161 0 r1), L, I, P, E, N) (sgM g) := hW
  refine lv_aload_n hx hb dX12_findsForce_12 rfl (lv_at hl 0 rfl) ?_
  refine rg_13_61 C hW (mm_ rfl) tw_1084 dX12_findsForce_13 ?_
  refine lv_iconst (v := 1) hx hb dX12_findsForce_16 (by decide) ?_
  refine lv_aload_n hx hb dX12_findsForce_17 rfl (lv_at hl 0 rfl) ?_
  refine lv_iconst (v := 1) hx hb dX12_findsForce_18 (by decide) ?_
  refine lv_iload_n hx hb dX12_findsForce_19 rfl (lv_at hl 1 rfl) ?_
  refine ci_ C hW (runV (x := (g.2.2.1 13)) (As := [.int 1, .int a0]) (rest := [.int 1, .ref (g.2.2.1 161)]) (T := (((up2 J 161 0 r1), L, I, P, E, N), sgM g)) C hW (c_X12_inForce l g (up2 J 161 0 r1) L I P E N H.size 1 a0 hwm) mi_X12_inForce tw_1338 (recv_ (T := (((up2 J 161 0 r1), L, I, P, E, N), sgM g)) C hW (mm_ rfl) rfl rfl) ⟨rfl, rfl, Nat.le_of_ble_eq_true rfl, Nat.le_of_ble_eq_true rfl⟩ rfl hl.1 rfl (Nat.le_of_ble_eq_true rfl) dX12_findsForce_20 ⟨Nat.le_of_ble_eq_true rfl, Nat.le_of_ble_eq_true rfl⟩) (fun r2 u2 H locs hp2 hW => ?_)
  have hf2_0 : (-1 ≤ r2.toInt ∧ r2.toInt < 30 ∧ (r2.toInt < (J 13 40).toInt)) := hp2
  clear hp2
  have hW : WB g A s.heap H locs ((up2 J 161 0 r1), L, I, P, E, N) (sgM g) := hW
  have hin : vp_in 1 2 := tin kp1 (by omega)
  refine rs_161 C hW (mm_ rfl) hin dX12_findsForce_23 (fun H locs hW => ?_)
  have hW : WB g A s.heap H locs ((up2 (up2 J 161 0 r1) 161 1 r2), L, I, P, E, N) (sgM g) := hW
  refine lv_sipush (v := 10000) hx hb dX12_findsForce_24 (by decide) ?_
  refine lv_istore_n (lv' := [(2, .int 10000), (0, .ref (g.2.2.1 13)), (1, .int a0)]) hx hb dX12_findsForce_27 rfl hl (by decide) rfl (fun ls hl => ?_)
  refine lv_iconst (v := 0) hx hb dX12_findsForce_28 (by decide) ?_
  refine lv_istore_n (lv' := [(3, .int 0), (2, .int 10000), (0, .ref (g.2.2.1 13)), (1, .int a0)]) hx hb dX12_findsForce_29 rfl hl (by decide) rfl (fun ls hl => ?_)
  have loop30 : ∀ (n : Nat) (m2 : Int32) (m3 : Int32) (H : Heap) (locs : List Loc) (ls : Array Slot), (30 - m3.toInt).toNat < n → 0 ≤ m3.toInt → WB g A s.heap H locs ((up2 (up2 J 161 0 r1) 161 1 r2), L, I, P, E, N) (sgM g) → lv_has ls 4 [(3, .int m3), (2, .int m2), (0, .ref (g.2.2.1 13)), (1, .int a0)] → W p l e (RM (2) 0 0) s m ([.ref (g.2.2.1 13), .int a0] : List Value).toArray below meth c H locs 0 0 (MQ below (va_Qi (fun (r : Int32) (u : (Nat → Nat → Int32)) => (-1 ≤ (u 161 0).toInt ∧ (u 161 0).toInt < (J 13 40).toInt ∧ -1 ≤ (u 161 1).toInt ∧ (u 161 1).toInt < (J 13 40).toInt)) (fun u t => at_ g A ((hv J [161] [] u, L, I, P, E, N), sgM g) t) A) ([.ref (g.2.2.1 13), .int a0] : List Value).toArray s 0 0 A) (F0 m 30 ls []) := by
    intro n
    induction n with
    | zero => intro m2 m3 H locs ls hmeas; exact absurd hmeas (Nat.not_lt_zero _)
    | succ n ih =>
      intro m2 m3 H locs ls hmeas hi hW hl
      refine lv_iload_n hx hb dX12_findsForce_30 rfl (lv_at hl 0 rfl) ?_
      refine lv_aload_n hx hb dX12_findsForce_31 rfl (lv_at hl 2 rfl) ?_
      refine rg_13_40 C hW (mm_ rfl) tw_1063 dX12_findsForce_32 ?_
      refine lv_as (J 13 40) rfl ?_
      refine lv_icmp_ge (tgt := 75) hx hb dX12_findsForce_35 (by decide) (fun c3 => ?_) (fun c3 => ?_)
      · have c3 : (J 13 40).toInt ≤ m3.toInt := tle rfl rfl c3
        refine lv_iload_n hx hb dX12_findsForce_75 rfl (lv_at hl 1 rfl) ?_
        have hWr : WB g A s.heap H locs (hv J [161] [] (up2 (up2 J 161 0 r1) 161 1 r2), L, I, P, E, N) (sgM g) := by
          rw [← ag_hvE (J := J) (R := [161]) (F := []) (ag_up (Or.inl rfl) (ag_up (Or.inl rfl) ag_rf))]
          exact hW
        exact end_i C hr hlocks (up2 (up2 J 161 0 r1) 161 1 r2) hWr (show -1 ≤ (r1).toInt ∧ (r1).toInt < (J 13 40).toInt ∧ -1 ≤ (r2).toInt ∧ (r2).toInt < (J 13 40).toInt from by exact ⟨by omega, by omega, by omega, by omega⟩) dX12_findsForce_76
      · have c3 : m3.toInt < (J 13 40).toInt := tnle rfl rfl c3
        refine lv_aload_n hx hb dX12_findsForce_38 rfl (lv_at hl 2 rfl) ?_
        refine rg_13_23 C hW (mm_ rfl) tw_1046 dX12_findsForce_39 ?_
        refine lv_iload_n hx hb dX12_findsForce_42 rfl (lv_at hl 0 rfl) ?_
        have hin : vp_in m3 30 := tin rfl (by omega)
        refine ra_123 C hW (mm_ rfl) hin dX12_findsForce_43 ?_
        refine lv_topi (fun x4 (e4 : x4 = J 123 m3.toNatClampNeg) => ?_)
        refine lv_iload_n hx hb dX12_findsForce_44 rfl (lv_at hl 3 rfl) ?_
        refine lv_icmp_le (tgt := 67) hx hb dX12_findsForce_45 (by decide) (fun c5 => ?_) (fun c5 => ?_)
        · have c5 : x4.toInt ≤ a0.toInt := tle rfl rfl c5
          refine lv_iload_n hx hb dX12_findsForce_67 rfl (lv_at hl 1 rfl) ?_
          refine lv_istore_n (lv' := [(2, .int m2), (3, .int m3), (0, .ref (g.2.2.1 13)), (1, .int a0)]) hx hb dX12_findsForce_68 rfl hl (by decide) rfl (fun ls hl => ?_)
          obtain ⟨x6, e6⟩ : ∃ y : Int32, y = m3 + 1 := ⟨_, rfl⟩
          refine lv_iinc (v := x6) (lv' := [(3, .int x6), (2, .int m2), (0, .ref (g.2.2.1 13)), (1, .int a0)]) hx hb dX12_findsForce_69 hl (k := 1) rfl (by rw [e6]; rfl) (by decide) rfl (fun ls hl => ?_)
          try have t6 : x6.toInt = m3.toInt + 1 := tadd e6 rfl kp1 (by omega)
          refine lv_goto (tgt := 30) hx hb dX12_findsForce_72 (by decide) ?_
          refine ih m2 x6 H locs ls ?_ ?_ hW (lv_sub hl [0, 1, 2, 3] rfl)
          · show (30 - x6.toInt).toNat < n
            omega
          · show 0 ≤ x6.toInt
            first | omega | exact hi | assumption
        · have c5 : a0.toInt < x4.toInt := tnle rfl rfl c5
          refine lv_aload_n hx hb dX12_findsForce_48 rfl (lv_at hl 2 rfl) ?_
          refine rg_13_23 C hW (mm_ rfl) tw_1046 dX12_findsForce_49 ?_
          refine lv_iload_n hx hb dX12_findsForce_52 rfl (lv_at hl 0 rfl) ?_
          have hin : vp_in m3 30 := tin rfl (by omega)
          refine ra_123 C hW (mm_ rfl) hin dX12_findsForce_53 ?_
          refine lv_topi (fun x7 (e7 : x7 = J 123 m3.toNatClampNeg) => ?_)
          refine lv_iload_n hx hb dX12_findsForce_54 rfl (lv_at hl 1 rfl) ?_
          refine lv_icmp_ge (tgt := 67) hx hb dX12_findsForce_55 (by decide) (fun c8 => ?_) (fun c8 => ?_)
          · have c8 : m2.toInt ≤ x7.toInt := tle rfl rfl c8
            refine lv_iload_n hx hb dX12_findsForce_67 rfl (lv_at hl 1 rfl) ?_
            refine lv_istore_n (lv' := [(2, .int m2), (3, .int m3), (0, .ref (g.2.2.1 13)), (1, .int a0)]) hx hb dX12_findsForce_68 rfl hl (by decide) rfl (fun ls hl => ?_)
            obtain ⟨x9, e9⟩ : ∃ y : Int32, y = m3 + 1 := ⟨_, rfl⟩
            refine lv_iinc (v := x9) (lv' := [(3, .int x9), (2, .int m2), (0, .ref (g.2.2.1 13)), (1, .int a0)]) hx hb dX12_findsForce_69 hl (k := 1) rfl (by rw [e9]; rfl) (by decide) rfl (fun ls hl => ?_)
            try have t9 : x9.toInt = m3.toInt + 1 := tadd e9 rfl kp1 (by omega)
            refine lv_goto (tgt := 30) hx hb dX12_findsForce_72 (by decide) ?_
            refine ih m2 x9 H locs ls ?_ ?_ hW (lv_sub hl [0, 1, 2, 3] rfl)
            · show (30 - x9.toInt).toNat < n
              omega
            · show 0 ≤ x9.toInt
              first | omega | exact hi | assumption
          · have c8 : x7.toInt < m2.toInt := tnle rfl rfl c8
            refine lv_aload_n hx hb dX12_findsForce_58 rfl (lv_at hl 2 rfl) ?_
            refine rg_13_23 C hW (mm_ rfl) tw_1046 dX12_findsForce_59 ?_
            refine lv_iload_n hx hb dX12_findsForce_62 rfl (lv_at hl 0 rfl) ?_
            have hin : vp_in m3 30 := tin rfl (by omega)
            refine ra_123 C hW (mm_ rfl) hin dX12_findsForce_63 ?_
            refine lv_topi (fun x10 (e10 : x10 = J 123 m3.toNatClampNeg) => ?_)
            refine lv_goto (tgt := 68) hx hb dX12_findsForce_64 (by decide) ?_
            refine lv_istore_n (lv' := [(2, .int x10), (3, .int m3), (0, .ref (g.2.2.1 13)), (1, .int a0)]) hx hb dX12_findsForce_68 rfl hl (by decide) rfl (fun ls hl => ?_)
            obtain ⟨x11, e11⟩ : ∃ y : Int32, y = m3 + 1 := ⟨_, rfl⟩
            refine lv_iinc (v := x11) (lv' := [(3, .int x11), (2, .int x10), (0, .ref (g.2.2.1 13)), (1, .int a0)]) hx hb dX12_findsForce_69 hl (k := 1) rfl (by rw [e11]; rfl) (by decide) rfl (fun ls hl => ?_)
            try have t11 : x11.toInt = m3.toInt + 1 := tadd e11 rfl kp1 (by omega)
            refine lv_goto (tgt := 30) hx hb dX12_findsForce_72 (by decide) ?_
            refine ih x10 x11 H locs ls ?_ ?_ hW (lv_sub hl [0, 1, 2, 3] rfl)
            · show (30 - x11.toInt).toNat < n
              omega
            · show 0 ≤ x11.toInt
              first | omega | exact hi | assumption
  -- into the loop
  refine loop30 ((30 - (0 : Int32).toInt).toNat + 1) 10000 0 H locs ls ?_ ?_ hW (lv_sub hl [0, 1, 2, 3] rfl)
  · exact Nat.lt_succ_self _
  · show 0 ≤ (0 : Int32).toInt
    try rw [kp10000]
    try rw [kp0]
    first | omega | exact hi | assumption

set_option maxHeartbeats 4000000 in
set_option maxRecDepth 100000 in
theorem c_X12_letterOf (l : Launch) (g : gG) (J : Nat → Nat → Int32) (L : Nat → Nat → Int64) (I : Nat → Nat → Nat → Int32) (P : Nat → Nat → Nat → Option Nat) (E : Nat → Option Nat) (N : Nat → Nat) (sz : Nat) (a0 : Int32)  : Met l yX12_letterOf (WS yX12_letterOf cX12_letterOf 1 (some .int)) (RM (1) 0 0) (PC g [.int a0] ((J, L, I, P, E, N), sgM g) sz) (va_Qi (fun (r : Int32) (u : Unit) => (0 ≤ r.toInt ∧ r.toInt < 128)) (fun u t => at_ g (FR g ((J, L, I, P, E, N), sgM g) sz) ((J, L, I, P, E, N), sgM g) t) (FR g ((J, L, I, P, E, N), sgM g) sz)) 0 0 (FR g ((J, L, I, P, E, N), sgM g) sz) := by
  refine ent (by decide +kernel) (Nat.le_of_ble_eq_true rfl) ?_
  intro p e s m below meth c ls hsz C hW hr hlocks hname hl
  generalize FR g ((J, L, I, P, E, N), sgM g) sz = A at C hW ⊢
  have hx := C.1.1
  have hb := C.1.2.1
  have hts := C.1.2.2.2.2
  have hW : WB g A s.heap s.heap [] (J, L, I, P, E, N) (sgM g) := hW
  have hl : lv_has ls 1 [(0, .int a0)] := hl
  obtain ⟨H, hH⟩ : ∃ H : Heap, H = s.heap := ⟨_, rfl⟩
  obtain ⟨locs, hlocs⟩ : ∃ q : List Loc, q = [] := ⟨_, rfl⟩
  have hW : WB g A s.heap H locs (J, L, I, P, E, N) (sgM g) := by rw [hH, hlocs]; exact hW
  refine start_ hH hlocs ?_
  refine lv_iload_n hx hb dX12_letterOf_0 rfl (lv_at hl 0 rfl) ?_
  refine lv_if_ne (tgt := 9) hx hb dX12_letterOf_1 (by decide) (fun c1 => ?_) (fun c1 => ?_)
  · have c1 : ¬ a0.toInt = 0 := tne rfl kp0 c1
    refine lv_iload_n hx hb dX12_letterOf_9 rfl (lv_at hl 0 rfl) ?_
    refine lv_iconst (v := 1) hx hb dX12_letterOf_10 (by decide) ?_
    refine lv_icmp_ne (tgt := 19) hx hb dX12_letterOf_11 (by decide) (fun c2 => ?_) (fun c2 => ?_)
    · have c2 : ¬ a0.toInt = 1 := tne rfl kp1 c2
      refine lv_iload_n hx hb dX12_letterOf_19 rfl (lv_at hl 0 rfl) ?_
      refine lv_iconst (v := 2) hx hb dX12_letterOf_20 (by decide) ?_
      refine lv_icmp_ne (tgt := 29) hx hb dX12_letterOf_21 (by decide) (fun c3 => ?_) (fun c3 => ?_)
      · have c3 : ¬ a0.toInt = 2 := tne rfl kp2 c3
        refine lv_iload_n hx hb dX12_letterOf_29 rfl (lv_at hl 0 rfl) ?_
        refine lv_iconst (v := 3) hx hb dX12_letterOf_30 (by decide) ?_
        refine lv_icmp_ne (tgt := 39) hx hb dX12_letterOf_31 (by decide) (fun c4 => ?_) (fun c4 => ?_)
        · have c4 : ¬ a0.toInt = 3 := tne rfl kp3 c4
          refine lv_iload_n hx hb dX12_letterOf_39 rfl (lv_at hl 0 rfl) ?_
          refine lv_iconst (v := 4) hx hb dX12_letterOf_40 (by decide) ?_
          refine lv_icmp_ne (tgt := 49) hx hb dX12_letterOf_41 (by decide) (fun c5 => ?_) (fun c5 => ?_)
          · have c5 : ¬ a0.toInt = 4 := tne rfl kp4 c5
            refine lv_iload_n hx hb dX12_letterOf_49 rfl (lv_at hl 0 rfl) ?_
            refine lv_iconst (v := 5) hx hb dX12_letterOf_50 (by decide) ?_
            refine lv_icmp_ne (tgt := 59) hx hb dX12_letterOf_51 (by decide) (fun c6 => ?_) (fun c6 => ?_)
            · have c6 : ¬ a0.toInt = 5 := tne rfl kp5 c6
              refine lv_bipush (v := 110) hx hb dX12_letterOf_59 (by decide) ?_
              exact end_i C hr hlocks () hW (show 0 ≤ 110 ∧ 110 < 128 from by omega) dX12_letterOf_61
            · have c6 : a0.toInt = 5 := teq rfl kp5 c6
              refine lv_bipush (v := 119) hx hb dX12_letterOf_54 (by decide) ?_
              refine lv_goto (tgt := 61) hx hb dX12_letterOf_56 (by decide) ?_
              exact end_i C hr hlocks () hW (show 0 ≤ 119 ∧ 119 < 128 from by omega) dX12_letterOf_61
          · have c5 : a0.toInt = 4 := teq rfl kp4 c5
            refine lv_bipush (v := 109) hx hb dX12_letterOf_44 (by decide) ?_
            refine lv_goto (tgt := 61) hx hb dX12_letterOf_46 (by decide) ?_
            exact end_i C hr hlocks () hW (show 0 ≤ 109 ∧ 109 < 128 from by omega) dX12_letterOf_61
        · have c4 : a0.toInt = 3 := teq rfl kp3 c4
          refine lv_bipush (v := 115) hx hb dX12_letterOf_34 (by decide) ?_
          refine lv_goto (tgt := 61) hx hb dX12_letterOf_36 (by decide) ?_
          exact end_i C hr hlocks () hW (show 0 ≤ 115 ∧ 115 < 128 from by omega) dX12_letterOf_61
      · have c3 : a0.toInt = 2 := teq rfl kp2 c3
        refine lv_bipush (v := 118) hx hb dX12_letterOf_24 (by decide) ?_
        refine lv_goto (tgt := 61) hx hb dX12_letterOf_26 (by decide) ?_
        exact end_i C hr hlocks () hW (show 0 ≤ 118 ∧ 118 < 128 from by omega) dX12_letterOf_61
    · have c2 : a0.toInt = 1 := teq rfl kp1 c2
      refine lv_bipush (v := 104) hx hb dX12_letterOf_14 (by decide) ?_
      refine lv_goto (tgt := 61) hx hb dX12_letterOf_16 (by decide) ?_
      exact end_i C hr hlocks () hW (show 0 ≤ 104 ∧ 104 < 128 from by omega) dX12_letterOf_61
  · have c1 : a0.toInt = 0 := teq rfl kp0 c1
    refine lv_bipush (v := 107) hx hb dX12_letterOf_4 (by decide) ?_
    refine lv_goto (tgt := 61) hx hb dX12_letterOf_6 (by decide) ?_
    exact end_i C hr hlocks () hW (show 0 ≤ 107 ∧ 107 < 128 from by omega) dX12_letterOf_61

set_option maxHeartbeats 4000000 in
set_option maxRecDepth 100000 in
theorem c_X12_has (l : Launch) (g : gG) (J : Nat → Nat → Int32) (L : Nat → Nat → Int64) (I : Nat → Nat → Nat → Int32) (P : Nat → Nat → Nat → Option Nat) (E : Nat → Option Nat) (N : Nat → Nat) (sz : Nat) (a0 : Int32) (a1 : Int32) (hwm : WM J) (hk : 0 ≤ a0.toInt ∧ a0.toInt < (J 13 40).toInt) : Met l yX12_has (WS yX12_has cX12_has 4 (some .boolean)) (RM (1) 0 0) (PC g [.ref (g.2.2.1 13), .int a0, .int a1] ((J, L, I, P, E, N), sgM g) sz) (va_Qi (fun (r : Int32) (u : Unit) => ((r.toInt = 1) ∨ (r.toInt = 0))) (fun u t => at_ g (FR g ((J, L, I, P, E, N), sgM g) sz) ((J, L, I, P, E, N), sgM g) t) (FR g ((J, L, I, P, E, N), sgM g) sz)) 0 0 (FR g ((J, L, I, P, E, N), sgM g) sz) := by
  refine ent (by decide +kernel) (Nat.le_of_ble_eq_true rfl) ?_
  intro p e s m below meth c ls hsz C hW hr hlocks hname hl
  generalize FR g ((J, L, I, P, E, N), sgM g) sz = A at C hW ⊢
  have hx := C.1.1
  have hb := C.1.2.1
  have hts := C.1.2.2.2.2
  have hW : WB g A s.heap s.heap [] (J, L, I, P, E, N) (sgM g) := hW
  have hl : lv_has ls 4 [(0, .ref (g.2.2.1 13)), (1, .int a0), (2, .int a1)] := hl
  obtain ⟨H, hH⟩ : ∃ H : Heap, H = s.heap := ⟨_, rfl⟩
  obtain ⟨locs, hlocs⟩ : ∃ q : List Loc, q = [] := ⟨_, rfl⟩
  have hW : WB g A s.heap H locs (J, L, I, P, E, N) (sgM g) := by rw [hH, hlocs]; exact hW
  obtain ⟨⟨hnd1, hnd2, hon, hhm1, hhm2, hhN, hcu1, hcu2, hco1, hco2, hcN⟩, ⟨hrd1, hrd2⟩, ⟨hnw1, hnw2, hns1, hns2, hof⟩, ⟨htm1, htm2, hts_⟩, ⟨had1, had2, hrw1, hrw2, htp1, htp2⟩⟩ := id hwm
  refine start_ hH hlocs ?_
  refine lv_iconst (v := 0) hx hb dX12_has_0 (by decide) ?_
  refine lv_istore_n (lv' := [(3, .int 0), (0, .ref (g.2.2.1 13)), (1, .int a0), (2, .int a1)]) hx hb dX12_has_1 rfl hl (by decide) rfl (fun ls hl => ?_)
  have loop2 : ∀ (n : Nat) (m3 : Int32) (H : Heap) (locs : List Loc) (ls : Array Slot), (60 - m3.toInt).toNat < n → 0 ≤ m3.toInt → WB g A s.heap H locs (J, L, I, P, E, N) (sgM g) → lv_has ls 4 [(3, .int m3), (0, .ref (g.2.2.1 13)), (1, .int a0), (2, .int a1)] → W p l e (RM (1) 0 0) s m ([.ref (g.2.2.1 13), .int a0, .int a1] : List Value).toArray below meth c H locs 0 0 (MQ below (va_Qi (fun (r : Int32) (u : Unit) => ((r.toInt = 1) ∨ (r.toInt = 0))) (fun u t => at_ g A ((J, L, I, P, E, N), sgM g) t) A) ([.ref (g.2.2.1 13), .int a0, .int a1] : List Value).toArray s 0 0 A) (F0 m 2 ls []) := by
    intro n
    induction n with
    | zero => intro m3 H locs ls hmeas; exact absurd hmeas (Nat.not_lt_zero _)
    | succ n ih =>
      intro m3 H locs ls hmeas hi hW hl
      refine lv_iload_n hx hb dX12_has_2 rfl (lv_at hl 0 rfl) ?_
      refine lv_aload_n hx hb dX12_has_3 rfl (lv_at hl 1 rfl) ?_
      refine rg_13_21 C hW (mm_ rfl) tw_1044 dX12_has_4 ?_
      refine lv_iload_n hx hb dX12_has_7 rfl (lv_at hl 2 rfl) ?_
      have hin : vp_in a0 30 := tin rfl (by omega)
      refine ra_121 C hW (mm_ rfl) hin dX12_has_8 ?_
      refine lv_topi (fun x1 (e1 : x1 = J 121 a0.toNatClampNeg) => ?_)
      have q1 := hts_ a0.toNatClampNeg
      rw [← e1] at q1
      have k1 := tcl a0
      refine lv_icmp_ge (tgt := 35) hx hb dX12_has_9 (by decide) (fun c2 => ?_) (fun c2 => ?_)
      · have c2 : x1.toInt ≤ m3.toInt := tle rfl rfl c2
        refine lv_iconst (v := 0) hx hb dX12_has_35 (by decide) ?_
        exact end_z C hr hlocks (by decide) () hW (by first | exact Or.inr ((by decide))) dX12_has_36
      · have c2 : m3.toInt < x1.toInt := tnle rfl rfl c2
        refine lv_aload_n hx hb dX12_has_12 rfl (lv_at hl 1 rfl) ?_
        refine rg_13_24 C hW (mm_ rfl) tw_1047 dX12_has_13 ?_
        refine lv_bipush (v := 60) hx hb dX12_has_16 (by decide) ?_
        refine lv_iload_n hx hb dX12_has_18 rfl (lv_at hl 2 rfl) ?_
        refine lv_imul hx hb dX12_has_19 ?_
        refine lv_topi (fun x3 (e3 : x3 = 60 * a0) => ?_)
        try have t3 : x3.toInt = 60 * a0.toInt := tmul e3 kp60 rfl (by omega)
        refine lv_iload_n hx hb dX12_has_20 rfl (lv_at hl 0 rfl) ?_
        refine lv_iadd hx hb dX12_has_21 ?_
        refine lv_topi (fun x4 (e4 : x4 = x3 + m3) => ?_)
        try have t4 : x4.toInt = x3.toInt + m3.toInt := tadd e4 rfl rfl (by omega)
        have hin : vp_in x4 1800 := tin rfl (by omega)
        refine ra_124 C hW (mm_ rfl) hin dX12_has_22 ?_
        refine lv_topi (fun x5 (e5 : x5 = J 124 x4.toNatClampNeg) => ?_)
        refine lv_iload_n hx hb dX12_has_23 rfl (lv_at hl 3 rfl) ?_
        refine lv_icmp_ne (tgt := 29) hx hb dX12_has_24 (by decide) (fun c6 => ?_) (fun c6 => ?_)
        · have c6 : ¬ x5.toInt = a1.toInt := tne rfl rfl c6
          obtain ⟨x7, e7⟩ : ∃ y : Int32, y = m3 + 1 := ⟨_, rfl⟩
          refine lv_iinc (v := x7) (lv' := [(3, .int x7), (0, .ref (g.2.2.1 13)), (1, .int a0), (2, .int a1)]) hx hb dX12_has_29 hl (k := 0) rfl (by rw [e7]; rfl) (by decide) rfl (fun ls hl => ?_)
          try have t7 : x7.toInt = m3.toInt + 1 := tadd e7 rfl kp1 (by omega)
          refine lv_goto (tgt := 2) hx hb dX12_has_32 (by decide) ?_
          refine ih x7 H locs ls ?_ ?_ hW (lv_sub hl [0, 1, 2, 3] rfl)
          · show (60 - x7.toInt).toNat < n
            omega
          · show 0 ≤ x7.toInt
            first | omega | exact hi | assumption
        · have c6 : x5.toInt = a1.toInt := teq rfl rfl c6
          refine lv_iconst (v := 1) hx hb dX12_has_27 (by decide) ?_
          exact end_z C hr hlocks (by decide) () hW (by first | exact Or.inl (by decide)) dX12_has_28
  -- into the loop
  refine loop2 ((60 - (0 : Int32).toInt).toNat + 1) 0 H locs ls ?_ ?_ hW (lv_sub hl [0, 1, 2, 3] rfl)
  · exact Nat.lt_succ_self _
  · show 0 ≤ (0 : Int32).toInt
    try rw [kp0]
    first | omega | exact hi | assumption

set_option maxHeartbeats 4000000 in
set_option maxRecDepth 100000 in
theorem c_X12_asBefore (l : Launch) (g : gG) (J : Nat → Nat → Int32) (L : Nat → Nat → Int64) (I : Nat → Nat → Nat → Int32) (P : Nat → Nat → Nat → Option Nat) (E : Nat → Option Nat) (N : Nat → Nat) (sz : Nat) (a0 : Int32) (hwm : WM J) (hp : 0 ≤ a0.toInt ∧ a0.toInt ≤ 1) (hf : -1 ≤ (J 161 a0.toNatClampNeg).toInt ∧ (J 161 a0.toNatClampNeg).toInt < (J 13 40).toInt) : Met l yX12_asBefore (WS yX12_asBefore cX12_asBefore 5 (some .int)) (RM (32) 0 0) (PC g [.ref (g.2.2.1 13), .int a0] ((J, L, I, P, E, N), sgM g) sz) (va_Qi (fun (r : Int32) (u : (Nat → Nat → Int32)) => True) (fun u t => at_ g (FR g ((J, L, I, P, E, N), sgM g) sz) ((hv J [162, 163, 164] [(13, 56), (13, 57), (13, 58), (13, 59), (13, 60)] u, L, I, P, E, N), sgM g) t) (FR g ((J, L, I, P, E, N), sgM g) sz)) 0 0 (FR g ((J, L, I, P, E, N), sgM g) sz) := by
  refine ent (by decide +kernel) (Nat.le_of_ble_eq_true rfl) ?_
  intro p e s m below meth c ls hsz C hW hr hlocks hname hl
  generalize FR g ((J, L, I, P, E, N), sgM g) sz = A at C hW ⊢
  have hx := C.1.1
  have hb := C.1.2.1
  have hts := C.1.2.2.2.2
  have hW : WB g A s.heap s.heap [] (J, L, I, P, E, N) (sgM g) := hW
  have hl : lv_has ls 5 [(0, .ref (g.2.2.1 13)), (1, .int a0)] := hl
  obtain ⟨H, hH⟩ : ∃ H : Heap, H = s.heap := ⟨_, rfl⟩
  obtain ⟨locs, hlocs⟩ : ∃ q : List Loc, q = [] := ⟨_, rfl⟩
  have hW : WB g A s.heap H locs (J, L, I, P, E, N) (sgM g) := by rw [hH, hlocs]; exact hW
  obtain ⟨⟨hnd1, hnd2, hon, hhm1, hhm2, hhN, hcu1, hcu2, hco1, hco2, hcN⟩, ⟨hrd1, hrd2⟩, ⟨hnw1, hnw2, hns1, hns2, hof⟩, ⟨htm1, htm2, hts_⟩, ⟨had1, had2, hrw1, hrw2, htp1, htp2⟩⟩ := id hwm
  refine start_ hH hlocs ?_
  refine lv_aload_n hx hb dX12_asBefore_0 rfl (lv_at hl 0 rfl) ?_
  refine rg_13_61 C hW (mm_ rfl) tw_1084 dX12_asBefore_1 ?_
  refine lv_iload_n hx hb dX12_asBefore_4 rfl (lv_at hl 1 rfl) ?_
  have hin : vp_in a0 2 := tin rfl (by omega)
  refine ra_161 C hW (mm_ rfl) hin dX12_asBefore_5 ?_
  refine lv_topi (fun x1 (e1 : x1 = J 161 a0.toNatClampNeg) => ?_)
  have t1 : x1.toInt = (J 161 a0.toNatClampNeg).toInt := by rw [e1]
  refine lv_istore_n (lv' := [(2, .int x1), (0, .ref (g.2.2.1 13)), (1, .int a0)]) hx hb dX12_asBefore_6 rfl hl (by decide) rfl (fun ls hl => ?_)
  refine lv_iload_n hx hb dX12_asBefore_7 rfl (lv_at hl 0 rfl) ?_
  refine lv_if_ge (tgt := 13) hx hb dX12_asBefore_8 (by decide) (fun c2 => ?_) (fun c2 => ?_)
  · have c2 : 0 ≤ x1.toInt := tle kp0 rfl c2
    refine lv_aload_n hx hb dX12_asBefore_13 rfl (lv_at hl 1 rfl) ?_
    refine rg_13_62 C hW (mm_ rfl) tw_1085 dX12_asBefore_14 ?_
    refine lv_iload_n hx hb dX12_asBefore_17 rfl (lv_at hl 2 rfl) ?_
    have hin : vp_in a0 2 := tin rfl (by omega)
    refine ra_162 C hW (mm_ rfl) hin dX12_asBefore_18 ?_
    refine lv_topi (fun x3 (e3 : x3 = J 162 a0.toNatClampNeg) => ?_)
    refine lv_iload_n hx hb dX12_asBefore_19 rfl (lv_at hl 0 rfl) ?_
    refine lv_icmp_ne (tgt := 37) hx hb dX12_asBefore_20 (by decide) (fun c4 => ?_) (fun c4 => ?_)
    · have c4 : ¬ x3.toInt = x1.toInt := tne rfl rfl c4
      refine lv_iconst (v := 0) hx hb dX12_asBefore_37 (by decide) ?_
      refine lv_istore_n (lv' := [(3, .int 0), (2, .int x1), (0, .ref (g.2.2.1 13)), (1, .int a0)]) hx hb dX12_asBefore_38 rfl hl (by decide) rfl (fun ls hl => ?_)
      refine lv_iconst (v := 0) hx hb dX12_asBefore_39 (by decide) ?_
      refine lv_istore (lv' := [(4, .int 0), (3, .int 0), (2, .int x1), (0, .ref (g.2.2.1 13)), (1, .int a0)]) hx hb dX12_asBefore_40 hl (by decide) rfl (fun ls hl => ?_)
      have loop42 : ∀ (n : Nat) (m3 : Int32) (m4 : Int32) (Gl5 : Nat → Nat → Int32) (H : Heap) (locs : List Loc) (ls : Array Slot), (7 - m4.toInt).toNat < n → 0 ≤ m4.toInt → WB g A s.heap H locs ((hv J [164] [] Gl5), L, I, P, E, N) (sgM g) → lv_has ls 5 [(4, .int m4), (3, .int m3), (2, .int x1), (0, .ref (g.2.2.1 13)), (1, .int a0)] → W p l e (RM (32) 0 0) s m ([.ref (g.2.2.1 13), .int a0] : List Value).toArray below meth c H locs 0 0 (MQ below (va_Qi (fun (r : Int32) (u : (Nat → Nat → Int32)) => True) (fun u t => at_ g A ((hv J [162, 163, 164] [(13, 56), (13, 57), (13, 58), (13, 59), (13, 60)] u, L, I, P, E, N), sgM g) t) A) ([.ref (g.2.2.1 13), .int a0] : List Value).toArray s 0 0 A) (F0 m 42 ls []) := by
        intro n
        induction n with
        | zero => intro m3 m4 Gl5 H locs ls hmeas; exact absurd hmeas (Nat.not_lt_zero _)
        | succ n ih =>
          intro m3 m4 Gl5 H locs ls hmeas hi hW hl
          refine lv_iload hx hb dX12_asBefore_42 (lv_at hl 0 rfl) ?_
          refine lv_bipush (v := 7) hx hb dX12_asBefore_44 (by decide) ?_
          refine lv_icmp_ge (tgt := 112) hx hb dX12_asBefore_46 (by decide) (fun c6 => ?_) (fun c6 => ?_)
          · have c6 : 7 ≤ m4.toInt := tle kp7 rfl c6
            refine lv_iload_n hx hb dX12_asBefore_112 rfl (lv_at hl 1 rfl) ?_
            refine lv_if_ne (tgt := 136) hx hb dX12_asBefore_113 (by decide) (fun c7 => ?_) (fun c7 => ?_)
            · have c7 : ¬ m3.toInt = 0 := tne rfl kp0 c7
              refine lv_aload_n hx hb dX12_asBefore_136 rfl (lv_at hl 3 rfl) ?_
              refine rg_13_62 C hW (mm_ rfl) tw_1085 dX12_asBefore_137 ?_
              refine lv_iload_n hx hb dX12_asBefore_140 rfl (lv_at hl 4 rfl) ?_
              refine lv_iload_n hx hb dX12_asBefore_141 rfl (lv_at hl 2 rfl) ?_
              have hin : vp_in a0 2 := tin rfl (by omega)
              refine rs_162 C hW (mm_ rfl) hin dX12_asBefore_142 (fun H locs hW => ?_)
              refine lv_aload_n hx hb dX12_asBefore_143 rfl (lv_at hl 3 rfl) ?_
              refine rg_13_63 C hW (mm_ rfl) tw_1086 dX12_asBefore_144 ?_
              refine lv_iload_n hx hb dX12_asBefore_147 rfl (lv_at hl 4 rfl) ?_
              have hin : vp_in a0 2 := tin rfl (by omega)
              refine ra_163 C hW (mm_ rfl) hin dX12_asBefore_148 ?_
              refine lv_topi (fun x8 (e8 : x8 = J 163 a0.toNatClampNeg) => ?_)
              have hWr : WB g A s.heap H locs (hv J [162, 163, 164] [(13, 56), (13, 57), (13, 58), (13, 59), (13, 60)] (up2 (hv J [164] [] Gl5) 162 a0.toNatClampNeg x1), L, I, P, E, N) (sgM g) := by
                rw [← ag_hvE (J := J) (R := [162, 163, 164]) (F := [(13, 56), (13, 57), (13, 58), (13, 59), (13, 60)]) (ag_up (Or.inl rfl) (ag_hv rfl rfl ag_rf))]
                exact hW
              exact end_i C hr hlocks (up2 (hv J [164] [] Gl5) 162 a0.toNatClampNeg x1) hWr trivial dX12_asBefore_149
            · have c7 : m3.toInt = 0 := teq rfl kp0 c7
              refine lv_aload_n hx hb dX12_asBefore_116 rfl (lv_at hl 3 rfl) ?_
              refine rg_13_63 C hW (mm_ rfl) tw_1086 dX12_asBefore_117 ?_
              refine lv_iload_n hx hb dX12_asBefore_120 rfl (lv_at hl 4 rfl) ?_
              refine lv_aload_n hx hb dX12_asBefore_121 rfl (lv_at hl 3 rfl) ?_
              refine lv_bipush (v := 60) hx hb dX12_asBefore_122 (by decide) ?_
              refine lv_iload_n hx hb dX12_asBefore_124 rfl (lv_at hl 2 rfl) ?_
              refine lv_imul hx hb dX12_asBefore_125 ?_
              refine lv_topi (fun x9 (e9 : x9 = 60 * x1) => ?_)
              try have t9 : x9.toInt = 60 * x1.toInt := tmul e9 kp60 rfl (by omega)
              refine lv_aload_n hx hb dX12_asBefore_126 rfl (lv_at hl 3 rfl) ?_
              refine rg_13_21 C hW (mm_ rfl) tw_1044 dX12_asBefore_127 ?_
              refine lv_iload_n hx hb dX12_asBefore_130 rfl (lv_at hl 2 rfl) ?_
              have hin : vp_in x1 30 := tin rfl (by omega)
              refine ra_121 C hW (mm_ rfl) hin dX12_asBefore_131 ?_
              refine lv_topi (fun x10 (e10 : x10 = J 121 x1.toNatClampNeg) => ?_)
              have q10 := hts_ x1.toNatClampNeg
              rw [← e10] at q10
              have k10 := tcl x1
              refine ci_ C hW (runV (x := (g.2.2.1 13)) (As := [.int x9, .int x10]) (rest := [.int a0, .ref (g.2.2.1 163)]) (T := (((hv J [164] [] Gl5), L, I, P, E, N), sgM g)) C hW (c_X12_goesThrough l g (hv J [164] [] Gl5) L I P E N H.size x9 x10 hwm (show (x9.toInt < 0 ∧ 0 ≤ x10.toInt ∧ x10.toInt ≤ 60) ∨ (0 ≤ x9.toInt ∧ 0 ≤ x10.toInt ∧ x9.toInt + x10.toInt ≤ 1800) from by omega)) mi_X12_goesThrough tw_1342 (recv_ (T := (((hv J [164] [] Gl5), L, I, P, E, N), sgM g)) C hW (mm_ rfl) rfl rfl) ⟨rfl, rfl, Nat.le_of_ble_eq_true rfl, Nat.le_of_ble_eq_true rfl⟩ rfl hl.1 rfl (Nat.le_of_ble_eq_true rfl) dX12_asBefore_132 ⟨Nat.le_of_ble_eq_true rfl, Nat.le_of_ble_eq_true rfl⟩) (fun r11 u11 H locs hp11 hW => ?_)
              have hf11_0 : (0 ≤ (u11 13 56).toInt) := hp11
              clear hp11
              have hW : WB g A s.heap H locs ((hv (hv J [164] [] Gl5) [] [(13, 56), (13, 57), (13, 58), (13, 59), (13, 60)] u11), L, I, P, E, N) (sgM g) := hW
              have hin : vp_in a0 2 := tin rfl (by omega)
              refine rs_163 C hW (mm_ rfl) hin dX12_asBefore_135 (fun H locs hW => ?_)
              refine lv_aload_n hx hb dX12_asBefore_136 rfl (lv_at hl 3 rfl) ?_
              refine rg_13_62 C hW (mm_ rfl) tw_1085 dX12_asBefore_137 ?_
              refine lv_iload_n hx hb dX12_asBefore_140 rfl (lv_at hl 4 rfl) ?_
              refine lv_iload_n hx hb dX12_asBefore_141 rfl (lv_at hl 2 rfl) ?_
              have hin : vp_in a0 2 := tin rfl (by omega)
              refine rs_162 C hW (mm_ rfl) hin dX12_asBefore_142 (fun H locs hW => ?_)
              refine lv_aload_n hx hb dX12_asBefore_143 rfl (lv_at hl 3 rfl) ?_
              refine rg_13_63 C hW (mm_ rfl) tw_1086 dX12_asBefore_144 ?_
              refine lv_iload_n hx hb dX12_asBefore_147 rfl (lv_at hl 4 rfl) ?_
              have hin : vp_in a0 2 := tin rfl (by omega)
              refine ra_163 C hW (mm_ rfl) hin dX12_asBefore_148 ?_
              refine lv_topi (fun x12 (e12 : x12 = (up2 J 163 a0.toNatClampNeg r11) 163 a0.toNatClampNeg) => ?_)
              have hWr : WB g A s.heap H locs (hv J [162, 163, 164] [(13, 56), (13, 57), (13, 58), (13, 59), (13, 60)] (up2 (up2 (hv (hv J [164] [] Gl5) [] [(13, 56), (13, 57), (13, 58), (13, 59), (13, 60)] u11) 163 a0.toNatClampNeg r11) 162 a0.toNatClampNeg x1), L, I, P, E, N) (sgM g) := by
                rw [← ag_hvE (J := J) (R := [162, 163, 164]) (F := [(13, 56), (13, 57), (13, 58), (13, 59), (13, 60)]) (ag_up (Or.inl rfl) (ag_up (Or.inl rfl) (ag_hv rfl rfl (ag_hv rfl rfl ag_rf))))]
                exact hW
              exact end_i C hr hlocks (up2 (up2 (hv (hv J [164] [] Gl5) [] [(13, 56), (13, 57), (13, 58), (13, 59), (13, 60)] u11) 163 a0.toNatClampNeg r11) 162 a0.toNatClampNeg x1) hWr trivial dX12_asBefore_149
          · have c6 : m4.toInt < 7 := tnle kp7 rfl c6
            refine lv_iload_n hx hb dX12_asBefore_49 rfl (lv_at hl 1 rfl) ?_
            refine lv_if_eq (tgt := 82) hx hb dX12_asBefore_50 (by decide) (fun c13 => ?_) (fun c13 => ?_)
            · have c13 : m3.toInt = 0 := teq rfl kp0 c13
              refine lv_iconst (v := 0) hx hb dX12_asBefore_82 (by decide) ?_
              refine lv_istore_n (lv' := [(3, .int 0), (4, .int m4), (2, .int x1), (0, .ref (g.2.2.1 13)), (1, .int a0)]) hx hb dX12_asBefore_83 rfl hl (by decide) rfl (fun ls hl => ?_)
              refine lv_aload_n hx hb dX12_asBefore_84 rfl (lv_at hl 3 rfl) ?_
              refine rg_13_64 C hW (mm_ rfl) tw_1087 dX12_asBefore_85 ?_
              refine lv_bipush (v := 7) hx hb dX12_asBefore_88 (by decide) ?_
              refine lv_iload_n hx hb dX12_asBefore_90 rfl (lv_at hl 4 rfl) ?_
              refine lv_imul hx hb dX12_asBefore_91 ?_
              refine lv_topi (fun x14 (e14 : x14 = 7 * a0) => ?_)
              try have t14 : x14.toInt = 7 * a0.toInt := tmul e14 kp7 rfl (by omega)
              refine lv_iload hx hb dX12_asBefore_92 (lv_at hl 1 rfl) ?_
              refine lv_iadd hx hb dX12_asBefore_94 ?_
              refine lv_topi (fun x15 (e15 : x15 = x14 + m4) => ?_)
              try have t15 : x15.toInt = x14.toInt + m4.toInt := tadd e15 rfl rfl (by omega)
              refine lv_aload_n hx hb dX12_asBefore_95 rfl (lv_at hl 3 rfl) ?_
              refine rg_13_54 C hW (mm_ rfl) tw_1077 dX12_asBefore_96 ?_
              refine lv_iload hx hb dX12_asBefore_99 (lv_at hl 1 rfl) ?_
              refine ci_ C hW (runS (As := [.int m4]) (rest := [.ref (g.2.2.1 154), .int x15, .ref (g.2.2.1 164)]) (T := (((hv J [164] [] Gl5), L, I, P, E, N), sgM g)) C hW (c_X12_letterOf l g (hv J [164] [] Gl5) L I P E N H.size m4 ) mi_X12_letterOf tw_1449 ⟨rfl, rfl, Nat.le_of_ble_eq_true rfl, Nat.le_of_ble_eq_true rfl⟩ rfl hl.1 rfl (Nat.le_of_ble_eq_true rfl) dX12_asBefore_101 ⟨Nat.le_of_ble_eq_true rfl, Nat.le_of_ble_eq_true rfl⟩) (fun r16 u16 H locs hp16 hW => ?_)
              have hf16_0 : (0 ≤ r16.toInt ∧ r16.toInt < 128) := hp16
              clear hp16
              have hW : WB g A s.heap H locs ((hv J [164] [] Gl5), L, I, P, E, N) (sgM g) := hW
              have hin : vp_in r16 128 := tin rfl (by omega)
              refine ra_154 C hW (mm_ rfl) hin dX12_asBefore_104 ?_
              refine lv_topi (fun x17 (e17 : x17 = J 154 r16.toNatClampNeg) => ?_)
              have hin : vp_in x15 14 := tin rfl (by omega)
              refine rs_164 C hW (mm_ rfl) hin dX12_asBefore_105 (fun H locs hW => ?_)
              obtain ⟨x18, e18⟩ : ∃ y : Int32, y = m4 + 1 := ⟨_, rfl⟩
              refine lv_iinc (v := x18) (lv' := [(4, .int x18), (3, .int 0), (2, .int x1), (0, .ref (g.2.2.1 13)), (1, .int a0)]) hx hb dX12_asBefore_106 hl (k := 1) rfl (by rw [e18]; rfl) (by decide) rfl (fun ls hl => ?_)
              try have t18 : x18.toInt = m4.toInt + 1 := tadd e18 rfl kp1 (by omega)
              refine lv_goto (tgt := 42) hx hb dX12_asBefore_109 (by decide) ?_
              have hWl : WB g A s.heap H locs ((hv J [164] [] (up2 (hv J [164] [] Gl5) 164 x15.toNatClampNeg x17)), L, I, P, E, N) (sgM g) := by
                rw [← ag_hvE (J := J) (R := [164]) (F := []) (ag_up (Or.inl rfl) (ag_hv rfl rfl ag_rf))]
                exact hW
              refine ih 0 x18 (up2 (hv J [164] [] Gl5) 164 x15.toNatClampNeg x17) H locs ls ?_ ?_ hWl (lv_sub hl [0, 1, 2, 3, 4] rfl)
              · show (7 - x18.toInt).toNat < n
                omega
              · show 0 ≤ x18.toInt
                first | omega | exact hi | assumption
            · have c13 : ¬ m3.toInt = 0 := tne rfl kp0 c13
              refine lv_aload_n hx hb dX12_asBefore_53 rfl (lv_at hl 3 rfl) ?_
              refine rg_13_64 C hW (mm_ rfl) tw_1087 dX12_asBefore_54 ?_
              refine lv_bipush (v := 7) hx hb dX12_asBefore_57 (by decide) ?_
              refine lv_iload_n hx hb dX12_asBefore_59 rfl (lv_at hl 4 rfl) ?_
              refine lv_imul hx hb dX12_asBefore_60 ?_
              refine lv_topi (fun x19 (e19 : x19 = 7 * a0) => ?_)
              try have t19 : x19.toInt = 7 * a0.toInt := tmul e19 kp7 rfl (by omega)
              refine lv_iload hx hb dX12_asBefore_61 (lv_at hl 0 rfl) ?_
              refine lv_iadd hx hb dX12_asBefore_63 ?_
              refine lv_topi (fun x20 (e20 : x20 = x19 + m4) => ?_)
              try have t20 : x20.toInt = x19.toInt + m4.toInt := tadd e20 rfl rfl (by omega)
              have hin : vp_in x20 14 := tin rfl (by omega)
              refine ra_164 C hW (mm_ rfl) hin dX12_asBefore_64 ?_
              refine lv_topi (fun x21 (e21 : x21 = Gl5 164 x20.toNatClampNeg) => ?_)
              refine lv_aload_n hx hb dX12_asBefore_65 rfl (lv_at hl 3 rfl) ?_
              refine rg_13_54 C hW (mm_ rfl) tw_1077 dX12_asBefore_66 ?_
              refine lv_iload hx hb dX12_asBefore_69 (lv_at hl 0 rfl) ?_
              refine ci_ C hW (runS (As := [.int m4]) (rest := [.ref (g.2.2.1 154), .int x21]) (T := (((hv J [164] [] Gl5), L, I, P, E, N), sgM g)) C hW (c_X12_letterOf l g (hv J [164] [] Gl5) L I P E N H.size m4 ) mi_X12_letterOf tw_1449 ⟨rfl, rfl, Nat.le_of_ble_eq_true rfl, Nat.le_of_ble_eq_true rfl⟩ rfl hl.1 rfl (Nat.le_of_ble_eq_true rfl) dX12_asBefore_71 ⟨Nat.le_of_ble_eq_true rfl, Nat.le_of_ble_eq_true rfl⟩) (fun r22 u22 H locs hp22 hW => ?_)
              have hf22_0 : (0 ≤ r22.toInt ∧ r22.toInt < 128) := hp22
              clear hp22
              have hW : WB g A s.heap H locs ((hv J [164] [] Gl5), L, I, P, E, N) (sgM g) := hW
              have hin : vp_in r22 128 := tin rfl (by omega)
              refine ra_154 C hW (mm_ rfl) hin dX12_asBefore_74 ?_
              refine lv_topi (fun x23 (e23 : x23 = J 154 r22.toNatClampNeg) => ?_)
              refine lv_icmp_ne (tgt := 82) hx hb dX12_asBefore_75 (by decide) (fun c24 => ?_) (fun c24 => ?_)
              · have c24 : ¬ x21.toInt = x23.toInt := tne rfl rfl c24
                refine lv_iconst (v := 0) hx hb dX12_asBefore_82 (by decide) ?_
                refine lv_istore_n (lv' := [(3, .int 0), (4, .int m4), (2, .int x1), (0, .ref (g.2.2.1 13)), (1, .int a0)]) hx hb dX12_asBefore_83 rfl hl (by decide) rfl (fun ls hl => ?_)
                refine lv_aload_n hx hb dX12_asBefore_84 rfl (lv_at hl 3 rfl) ?_
                refine rg_13_64 C hW (mm_ rfl) tw_1087 dX12_asBefore_85 ?_
                refine lv_bipush (v := 7) hx hb dX12_asBefore_88 (by decide) ?_
                refine lv_iload_n hx hb dX12_asBefore_90 rfl (lv_at hl 4 rfl) ?_
                refine lv_imul hx hb dX12_asBefore_91 ?_
                refine lv_topi (fun x25 (e25 : x25 = 7 * a0) => ?_)
                try have t25 : x25.toInt = 7 * a0.toInt := tmul e25 kp7 rfl (by omega)
                refine lv_iload hx hb dX12_asBefore_92 (lv_at hl 1 rfl) ?_
                refine lv_iadd hx hb dX12_asBefore_94 ?_
                refine lv_topi (fun x26 (e26 : x26 = x25 + m4) => ?_)
                try have t26 : x26.toInt = x25.toInt + m4.toInt := tadd e26 rfl rfl (by omega)
                refine lv_aload_n hx hb dX12_asBefore_95 rfl (lv_at hl 3 rfl) ?_
                refine rg_13_54 C hW (mm_ rfl) tw_1077 dX12_asBefore_96 ?_
                refine lv_iload hx hb dX12_asBefore_99 (lv_at hl 1 rfl) ?_
                refine ci_ C hW (runS (As := [.int m4]) (rest := [.ref (g.2.2.1 154), .int x26, .ref (g.2.2.1 164)]) (T := (((hv J [164] [] Gl5), L, I, P, E, N), sgM g)) C hW (c_X12_letterOf l g (hv J [164] [] Gl5) L I P E N H.size m4 ) mi_X12_letterOf tw_1449 ⟨rfl, rfl, Nat.le_of_ble_eq_true rfl, Nat.le_of_ble_eq_true rfl⟩ rfl hl.1 rfl (Nat.le_of_ble_eq_true rfl) dX12_asBefore_101 ⟨Nat.le_of_ble_eq_true rfl, Nat.le_of_ble_eq_true rfl⟩) (fun r27 u27 H locs hp27 hW => ?_)
                have hf27_0 : (0 ≤ r27.toInt ∧ r27.toInt < 128) := hp27
                clear hp27
                have hW : WB g A s.heap H locs ((hv J [164] [] Gl5), L, I, P, E, N) (sgM g) := hW
                have hin : vp_in r27 128 := tin rfl (by omega)
                refine ra_154 C hW (mm_ rfl) hin dX12_asBefore_104 ?_
                refine lv_topi (fun x28 (e28 : x28 = J 154 r27.toNatClampNeg) => ?_)
                have hin : vp_in x26 14 := tin rfl (by omega)
                refine rs_164 C hW (mm_ rfl) hin dX12_asBefore_105 (fun H locs hW => ?_)
                obtain ⟨x29, e29⟩ : ∃ y : Int32, y = m4 + 1 := ⟨_, rfl⟩
                refine lv_iinc (v := x29) (lv' := [(4, .int x29), (3, .int 0), (2, .int x1), (0, .ref (g.2.2.1 13)), (1, .int a0)]) hx hb dX12_asBefore_106 hl (k := 1) rfl (by rw [e29]; rfl) (by decide) rfl (fun ls hl => ?_)
                try have t29 : x29.toInt = m4.toInt + 1 := tadd e29 rfl kp1 (by omega)
                refine lv_goto (tgt := 42) hx hb dX12_asBefore_109 (by decide) ?_
                have hWl : WB g A s.heap H locs ((hv J [164] [] (up2 (hv J [164] [] Gl5) 164 x26.toNatClampNeg x28)), L, I, P, E, N) (sgM g) := by
                  rw [← ag_hvE (J := J) (R := [164]) (F := []) (ag_up (Or.inl rfl) (ag_hv rfl rfl ag_rf))]
                  exact hW
                refine ih 0 x29 (up2 (hv J [164] [] Gl5) 164 x26.toNatClampNeg x28) H locs ls ?_ ?_ hWl (lv_sub hl [0, 1, 2, 3, 4] rfl)
                · show (7 - x29.toInt).toNat < n
                  omega
                · show 0 ≤ x29.toInt
                  first | omega | exact hi | assumption
              · have c24 : x21.toInt = x23.toInt := teq rfl rfl c24
                refine lv_iconst (v := 1) hx hb dX12_asBefore_78 (by decide) ?_
                refine lv_goto (tgt := 83) hx hb dX12_asBefore_79 (by decide) ?_
                refine lv_istore_n (lv' := [(3, .int 1), (4, .int m4), (2, .int x1), (0, .ref (g.2.2.1 13)), (1, .int a0)]) hx hb dX12_asBefore_83 rfl hl (by decide) rfl (fun ls hl => ?_)
                refine lv_aload_n hx hb dX12_asBefore_84 rfl (lv_at hl 3 rfl) ?_
                refine rg_13_64 C hW (mm_ rfl) tw_1087 dX12_asBefore_85 ?_
                refine lv_bipush (v := 7) hx hb dX12_asBefore_88 (by decide) ?_
                refine lv_iload_n hx hb dX12_asBefore_90 rfl (lv_at hl 4 rfl) ?_
                refine lv_imul hx hb dX12_asBefore_91 ?_
                refine lv_topi (fun x30 (e30 : x30 = 7 * a0) => ?_)
                try have t30 : x30.toInt = 7 * a0.toInt := tmul e30 kp7 rfl (by omega)
                refine lv_iload hx hb dX12_asBefore_92 (lv_at hl 1 rfl) ?_
                refine lv_iadd hx hb dX12_asBefore_94 ?_
                refine lv_topi (fun x31 (e31 : x31 = x30 + m4) => ?_)
                try have t31 : x31.toInt = x30.toInt + m4.toInt := tadd e31 rfl rfl (by omega)
                refine lv_aload_n hx hb dX12_asBefore_95 rfl (lv_at hl 3 rfl) ?_
                refine rg_13_54 C hW (mm_ rfl) tw_1077 dX12_asBefore_96 ?_
                refine lv_iload hx hb dX12_asBefore_99 (lv_at hl 1 rfl) ?_
                refine ci_ C hW (runS (As := [.int m4]) (rest := [.ref (g.2.2.1 154), .int x31, .ref (g.2.2.1 164)]) (T := (((hv J [164] [] Gl5), L, I, P, E, N), sgM g)) C hW (c_X12_letterOf l g (hv J [164] [] Gl5) L I P E N H.size m4 ) mi_X12_letterOf tw_1449 ⟨rfl, rfl, Nat.le_of_ble_eq_true rfl, Nat.le_of_ble_eq_true rfl⟩ rfl hl.1 rfl (Nat.le_of_ble_eq_true rfl) dX12_asBefore_101 ⟨Nat.le_of_ble_eq_true rfl, Nat.le_of_ble_eq_true rfl⟩) (fun r32 u32 H locs hp32 hW => ?_)
                have hf32_0 : (0 ≤ r32.toInt ∧ r32.toInt < 128) := hp32
                clear hp32
                have hW : WB g A s.heap H locs ((hv J [164] [] Gl5), L, I, P, E, N) (sgM g) := hW
                have hin : vp_in r32 128 := tin rfl (by omega)
                refine ra_154 C hW (mm_ rfl) hin dX12_asBefore_104 ?_
                refine lv_topi (fun x33 (e33 : x33 = J 154 r32.toNatClampNeg) => ?_)
                have hin : vp_in x31 14 := tin rfl (by omega)
                refine rs_164 C hW (mm_ rfl) hin dX12_asBefore_105 (fun H locs hW => ?_)
                obtain ⟨x34, e34⟩ : ∃ y : Int32, y = m4 + 1 := ⟨_, rfl⟩
                refine lv_iinc (v := x34) (lv' := [(4, .int x34), (3, .int 1), (2, .int x1), (0, .ref (g.2.2.1 13)), (1, .int a0)]) hx hb dX12_asBefore_106 hl (k := 1) rfl (by rw [e34]; rfl) (by decide) rfl (fun ls hl => ?_)
                try have t34 : x34.toInt = m4.toInt + 1 := tadd e34 rfl kp1 (by omega)
                refine lv_goto (tgt := 42) hx hb dX12_asBefore_109 (by decide) ?_
                have hWl : WB g A s.heap H locs ((hv J [164] [] (up2 (hv J [164] [] Gl5) 164 x31.toNatClampNeg x33)), L, I, P, E, N) (sgM g) := by
                  rw [← ag_hvE (J := J) (R := [164]) (F := []) (ag_up (Or.inl rfl) (ag_hv rfl rfl ag_rf))]
                  exact hW
                refine ih 1 x34 (up2 (hv J [164] [] Gl5) 164 x31.toNatClampNeg x33) H locs ls ?_ ?_ hWl (lv_sub hl [0, 1, 2, 3, 4] rfl)
                · show (7 - x34.toInt).toNat < n
                  omega
                · show 0 ≤ x34.toInt
                  first | omega | exact hi | assumption
      -- into the loop
      have hWl : WB g A s.heap H locs ((hv J [164] [] J), L, I, P, E, N) (sgM g) := by
        rw [← ag_hvE (J := J) (R := [164]) (F := []) ag_rf]
        exact hW
      refine loop42 ((7 - (0 : Int32).toInt).toNat + 1) 0 0 J H locs ls ?_ ?_ hWl (lv_sub hl [0, 1, 2, 3, 4] rfl)
      · exact Nat.lt_succ_self _
      · show 0 ≤ (0 : Int32).toInt
        try rw [kp0]
        try rw [kp0]
        first | omega | exact hi | assumption
    · have c4 : x3.toInt = x1.toInt := teq rfl rfl c4
      refine lv_aload_n hx hb dX12_asBefore_23 rfl (lv_at hl 1 rfl) ?_
      refine lv_iload_n hx hb dX12_asBefore_24 rfl (lv_at hl 0 rfl) ?_
      refine lv_bipush (v := 97) hx hb dX12_asBefore_25 (by decide) ?_
      refine ci_ C hW (runV (x := (g.2.2.1 13)) (As := [.int x1, .int 97]) (rest := []) (T := ((J, L, I, P, E, N), sgM g)) C hW (c_X12_has l g J L I P E N H.size x1 97 hwm (show 0 ≤ x1.toInt ∧ x1.toInt < (J 13 40).toInt from by (try simp only [kp97]); omega)) mi_X12_has tw_1445 (recv_ (T := ((J, L, I, P, E, N), sgM g)) C hW (mm_ rfl) rfl rfl) ⟨rfl, rfl, Nat.le_of_ble_eq_true rfl, Nat.le_of_ble_eq_true rfl⟩ rfl hl.1 rfl (Nat.le_of_ble_eq_true rfl) dX12_asBefore_27 ⟨Nat.le_of_ble_eq_true rfl, Nat.le_of_ble_eq_true rfl⟩) (fun r35 u35 H locs hp35 hW => ?_)
      have hc35 : ((r35.toInt = 1) ∨ (r35.toInt = 0)) := hp35
      clear hp35
      have hW : WB g A s.heap H locs (J, L, I, P, E, N) (sgM g) := hW
      refine lv_if_ne (tgt := 37) hx hb dX12_asBefore_30 (by decide) (fun c36 => ?_) (fun c36 => ?_)
      · have c36 : ¬ r35.toInt = 0 := tne rfl kp0 c36
        refine lv_iconst (v := 0) hx hb dX12_asBefore_37 (by decide) ?_
        refine lv_istore_n (lv' := [(3, .int 0), (2, .int x1), (0, .ref (g.2.2.1 13)), (1, .int a0)]) hx hb dX12_asBefore_38 rfl hl (by decide) rfl (fun ls hl => ?_)
        refine lv_iconst (v := 0) hx hb dX12_asBefore_39 (by decide) ?_
        refine lv_istore (lv' := [(4, .int 0), (3, .int 0), (2, .int x1), (0, .ref (g.2.2.1 13)), (1, .int a0)]) hx hb dX12_asBefore_40 hl (by decide) rfl (fun ls hl => ?_)
        have loop42 : ∀ (n : Nat) (m3 : Int32) (m4 : Int32) (Gl37 : Nat → Nat → Int32) (H : Heap) (locs : List Loc) (ls : Array Slot), (7 - m4.toInt).toNat < n → 0 ≤ m4.toInt → WB g A s.heap H locs ((hv J [164] [] Gl37), L, I, P, E, N) (sgM g) → lv_has ls 5 [(4, .int m4), (3, .int m3), (2, .int x1), (0, .ref (g.2.2.1 13)), (1, .int a0)] → W p l e (RM (32) 0 0) s m ([.ref (g.2.2.1 13), .int a0] : List Value).toArray below meth c H locs 0 0 (MQ below (va_Qi (fun (r : Int32) (u : (Nat → Nat → Int32)) => True) (fun u t => at_ g A ((hv J [162, 163, 164] [(13, 56), (13, 57), (13, 58), (13, 59), (13, 60)] u, L, I, P, E, N), sgM g) t) A) ([.ref (g.2.2.1 13), .int a0] : List Value).toArray s 0 0 A) (F0 m 42 ls []) := by
          intro n
          induction n with
          | zero => intro m3 m4 Gl37 H locs ls hmeas; exact absurd hmeas (Nat.not_lt_zero _)
          | succ n ih =>
            intro m3 m4 Gl37 H locs ls hmeas hi hW hl
            refine lv_iload hx hb dX12_asBefore_42 (lv_at hl 0 rfl) ?_
            refine lv_bipush (v := 7) hx hb dX12_asBefore_44 (by decide) ?_
            refine lv_icmp_ge (tgt := 112) hx hb dX12_asBefore_46 (by decide) (fun c38 => ?_) (fun c38 => ?_)
            · have c38 : 7 ≤ m4.toInt := tle kp7 rfl c38
              refine lv_iload_n hx hb dX12_asBefore_112 rfl (lv_at hl 1 rfl) ?_
              refine lv_if_ne (tgt := 136) hx hb dX12_asBefore_113 (by decide) (fun c39 => ?_) (fun c39 => ?_)
              · have c39 : ¬ m3.toInt = 0 := tne rfl kp0 c39
                refine lv_aload_n hx hb dX12_asBefore_136 rfl (lv_at hl 3 rfl) ?_
                refine rg_13_62 C hW (mm_ rfl) tw_1085 dX12_asBefore_137 ?_
                refine lv_iload_n hx hb dX12_asBefore_140 rfl (lv_at hl 4 rfl) ?_
                refine lv_iload_n hx hb dX12_asBefore_141 rfl (lv_at hl 2 rfl) ?_
                have hin : vp_in a0 2 := tin rfl (by omega)
                refine rs_162 C hW (mm_ rfl) hin dX12_asBefore_142 (fun H locs hW => ?_)
                refine lv_aload_n hx hb dX12_asBefore_143 rfl (lv_at hl 3 rfl) ?_
                refine rg_13_63 C hW (mm_ rfl) tw_1086 dX12_asBefore_144 ?_
                refine lv_iload_n hx hb dX12_asBefore_147 rfl (lv_at hl 4 rfl) ?_
                have hin : vp_in a0 2 := tin rfl (by omega)
                refine ra_163 C hW (mm_ rfl) hin dX12_asBefore_148 ?_
                refine lv_topi (fun x40 (e40 : x40 = J 163 a0.toNatClampNeg) => ?_)
                have hWr : WB g A s.heap H locs (hv J [162, 163, 164] [(13, 56), (13, 57), (13, 58), (13, 59), (13, 60)] (up2 (hv J [164] [] Gl37) 162 a0.toNatClampNeg x1), L, I, P, E, N) (sgM g) := by
                  rw [← ag_hvE (J := J) (R := [162, 163, 164]) (F := [(13, 56), (13, 57), (13, 58), (13, 59), (13, 60)]) (ag_up (Or.inl rfl) (ag_hv rfl rfl ag_rf))]
                  exact hW
                exact end_i C hr hlocks (up2 (hv J [164] [] Gl37) 162 a0.toNatClampNeg x1) hWr trivial dX12_asBefore_149
              · have c39 : m3.toInt = 0 := teq rfl kp0 c39
                refine lv_aload_n hx hb dX12_asBefore_116 rfl (lv_at hl 3 rfl) ?_
                refine rg_13_63 C hW (mm_ rfl) tw_1086 dX12_asBefore_117 ?_
                refine lv_iload_n hx hb dX12_asBefore_120 rfl (lv_at hl 4 rfl) ?_
                refine lv_aload_n hx hb dX12_asBefore_121 rfl (lv_at hl 3 rfl) ?_
                refine lv_bipush (v := 60) hx hb dX12_asBefore_122 (by decide) ?_
                refine lv_iload_n hx hb dX12_asBefore_124 rfl (lv_at hl 2 rfl) ?_
                refine lv_imul hx hb dX12_asBefore_125 ?_
                refine lv_topi (fun x41 (e41 : x41 = 60 * x1) => ?_)
                try have t41 : x41.toInt = 60 * x1.toInt := tmul e41 kp60 rfl (by omega)
                refine lv_aload_n hx hb dX12_asBefore_126 rfl (lv_at hl 3 rfl) ?_
                refine rg_13_21 C hW (mm_ rfl) tw_1044 dX12_asBefore_127 ?_
                refine lv_iload_n hx hb dX12_asBefore_130 rfl (lv_at hl 2 rfl) ?_
                have hin : vp_in x1 30 := tin rfl (by omega)
                refine ra_121 C hW (mm_ rfl) hin dX12_asBefore_131 ?_
                refine lv_topi (fun x42 (e42 : x42 = J 121 x1.toNatClampNeg) => ?_)
                have q42 := hts_ x1.toNatClampNeg
                rw [← e42] at q42
                have k42 := tcl x1
                refine ci_ C hW (runV (x := (g.2.2.1 13)) (As := [.int x41, .int x42]) (rest := [.int a0, .ref (g.2.2.1 163)]) (T := (((hv J [164] [] Gl37), L, I, P, E, N), sgM g)) C hW (c_X12_goesThrough l g (hv J [164] [] Gl37) L I P E N H.size x41 x42 hwm (show (x41.toInt < 0 ∧ 0 ≤ x42.toInt ∧ x42.toInt ≤ 60) ∨ (0 ≤ x41.toInt ∧ 0 ≤ x42.toInt ∧ x41.toInt + x42.toInt ≤ 1800) from by omega)) mi_X12_goesThrough tw_1342 (recv_ (T := (((hv J [164] [] Gl37), L, I, P, E, N), sgM g)) C hW (mm_ rfl) rfl rfl) ⟨rfl, rfl, Nat.le_of_ble_eq_true rfl, Nat.le_of_ble_eq_true rfl⟩ rfl hl.1 rfl (Nat.le_of_ble_eq_true rfl) dX12_asBefore_132 ⟨Nat.le_of_ble_eq_true rfl, Nat.le_of_ble_eq_true rfl⟩) (fun r43 u43 H locs hp43 hW => ?_)
                have hf43_0 : (0 ≤ (u43 13 56).toInt) := hp43
                clear hp43
                have hW : WB g A s.heap H locs ((hv (hv J [164] [] Gl37) [] [(13, 56), (13, 57), (13, 58), (13, 59), (13, 60)] u43), L, I, P, E, N) (sgM g) := hW
                have hin : vp_in a0 2 := tin rfl (by omega)
                refine rs_163 C hW (mm_ rfl) hin dX12_asBefore_135 (fun H locs hW => ?_)
                refine lv_aload_n hx hb dX12_asBefore_136 rfl (lv_at hl 3 rfl) ?_
                refine rg_13_62 C hW (mm_ rfl) tw_1085 dX12_asBefore_137 ?_
                refine lv_iload_n hx hb dX12_asBefore_140 rfl (lv_at hl 4 rfl) ?_
                refine lv_iload_n hx hb dX12_asBefore_141 rfl (lv_at hl 2 rfl) ?_
                have hin : vp_in a0 2 := tin rfl (by omega)
                refine rs_162 C hW (mm_ rfl) hin dX12_asBefore_142 (fun H locs hW => ?_)
                refine lv_aload_n hx hb dX12_asBefore_143 rfl (lv_at hl 3 rfl) ?_
                refine rg_13_63 C hW (mm_ rfl) tw_1086 dX12_asBefore_144 ?_
                refine lv_iload_n hx hb dX12_asBefore_147 rfl (lv_at hl 4 rfl) ?_
                have hin : vp_in a0 2 := tin rfl (by omega)
                refine ra_163 C hW (mm_ rfl) hin dX12_asBefore_148 ?_
                refine lv_topi (fun x44 (e44 : x44 = (up2 J 163 a0.toNatClampNeg r43) 163 a0.toNatClampNeg) => ?_)
                have hWr : WB g A s.heap H locs (hv J [162, 163, 164] [(13, 56), (13, 57), (13, 58), (13, 59), (13, 60)] (up2 (up2 (hv (hv J [164] [] Gl37) [] [(13, 56), (13, 57), (13, 58), (13, 59), (13, 60)] u43) 163 a0.toNatClampNeg r43) 162 a0.toNatClampNeg x1), L, I, P, E, N) (sgM g) := by
                  rw [← ag_hvE (J := J) (R := [162, 163, 164]) (F := [(13, 56), (13, 57), (13, 58), (13, 59), (13, 60)]) (ag_up (Or.inl rfl) (ag_up (Or.inl rfl) (ag_hv rfl rfl (ag_hv rfl rfl ag_rf))))]
                  exact hW
                exact end_i C hr hlocks (up2 (up2 (hv (hv J [164] [] Gl37) [] [(13, 56), (13, 57), (13, 58), (13, 59), (13, 60)] u43) 163 a0.toNatClampNeg r43) 162 a0.toNatClampNeg x1) hWr trivial dX12_asBefore_149
            · have c38 : m4.toInt < 7 := tnle kp7 rfl c38
              refine lv_iload_n hx hb dX12_asBefore_49 rfl (lv_at hl 1 rfl) ?_
              refine lv_if_eq (tgt := 82) hx hb dX12_asBefore_50 (by decide) (fun c45 => ?_) (fun c45 => ?_)
              · have c45 : m3.toInt = 0 := teq rfl kp0 c45
                refine lv_iconst (v := 0) hx hb dX12_asBefore_82 (by decide) ?_
                refine lv_istore_n (lv' := [(3, .int 0), (4, .int m4), (2, .int x1), (0, .ref (g.2.2.1 13)), (1, .int a0)]) hx hb dX12_asBefore_83 rfl hl (by decide) rfl (fun ls hl => ?_)
                refine lv_aload_n hx hb dX12_asBefore_84 rfl (lv_at hl 3 rfl) ?_
                refine rg_13_64 C hW (mm_ rfl) tw_1087 dX12_asBefore_85 ?_
                refine lv_bipush (v := 7) hx hb dX12_asBefore_88 (by decide) ?_
                refine lv_iload_n hx hb dX12_asBefore_90 rfl (lv_at hl 4 rfl) ?_
                refine lv_imul hx hb dX12_asBefore_91 ?_
                refine lv_topi (fun x46 (e46 : x46 = 7 * a0) => ?_)
                try have t46 : x46.toInt = 7 * a0.toInt := tmul e46 kp7 rfl (by omega)
                refine lv_iload hx hb dX12_asBefore_92 (lv_at hl 1 rfl) ?_
                refine lv_iadd hx hb dX12_asBefore_94 ?_
                refine lv_topi (fun x47 (e47 : x47 = x46 + m4) => ?_)
                try have t47 : x47.toInt = x46.toInt + m4.toInt := tadd e47 rfl rfl (by omega)
                refine lv_aload_n hx hb dX12_asBefore_95 rfl (lv_at hl 3 rfl) ?_
                refine rg_13_54 C hW (mm_ rfl) tw_1077 dX12_asBefore_96 ?_
                refine lv_iload hx hb dX12_asBefore_99 (lv_at hl 1 rfl) ?_
                refine ci_ C hW (runS (As := [.int m4]) (rest := [.ref (g.2.2.1 154), .int x47, .ref (g.2.2.1 164)]) (T := (((hv J [164] [] Gl37), L, I, P, E, N), sgM g)) C hW (c_X12_letterOf l g (hv J [164] [] Gl37) L I P E N H.size m4 ) mi_X12_letterOf tw_1449 ⟨rfl, rfl, Nat.le_of_ble_eq_true rfl, Nat.le_of_ble_eq_true rfl⟩ rfl hl.1 rfl (Nat.le_of_ble_eq_true rfl) dX12_asBefore_101 ⟨Nat.le_of_ble_eq_true rfl, Nat.le_of_ble_eq_true rfl⟩) (fun r48 u48 H locs hp48 hW => ?_)
                have hf48_0 : (0 ≤ r48.toInt ∧ r48.toInt < 128) := hp48
                clear hp48
                have hW : WB g A s.heap H locs ((hv J [164] [] Gl37), L, I, P, E, N) (sgM g) := hW
                have hin : vp_in r48 128 := tin rfl (by omega)
                refine ra_154 C hW (mm_ rfl) hin dX12_asBefore_104 ?_
                refine lv_topi (fun x49 (e49 : x49 = J 154 r48.toNatClampNeg) => ?_)
                have hin : vp_in x47 14 := tin rfl (by omega)
                refine rs_164 C hW (mm_ rfl) hin dX12_asBefore_105 (fun H locs hW => ?_)
                obtain ⟨x50, e50⟩ : ∃ y : Int32, y = m4 + 1 := ⟨_, rfl⟩
                refine lv_iinc (v := x50) (lv' := [(4, .int x50), (3, .int 0), (2, .int x1), (0, .ref (g.2.2.1 13)), (1, .int a0)]) hx hb dX12_asBefore_106 hl (k := 1) rfl (by rw [e50]; rfl) (by decide) rfl (fun ls hl => ?_)
                try have t50 : x50.toInt = m4.toInt + 1 := tadd e50 rfl kp1 (by omega)
                refine lv_goto (tgt := 42) hx hb dX12_asBefore_109 (by decide) ?_
                have hWl : WB g A s.heap H locs ((hv J [164] [] (up2 (hv J [164] [] Gl37) 164 x47.toNatClampNeg x49)), L, I, P, E, N) (sgM g) := by
                  rw [← ag_hvE (J := J) (R := [164]) (F := []) (ag_up (Or.inl rfl) (ag_hv rfl rfl ag_rf))]
                  exact hW
                refine ih 0 x50 (up2 (hv J [164] [] Gl37) 164 x47.toNatClampNeg x49) H locs ls ?_ ?_ hWl (lv_sub hl [0, 1, 2, 3, 4] rfl)
                · show (7 - x50.toInt).toNat < n
                  omega
                · show 0 ≤ x50.toInt
                  first | omega | exact hi | assumption
              · have c45 : ¬ m3.toInt = 0 := tne rfl kp0 c45
                refine lv_aload_n hx hb dX12_asBefore_53 rfl (lv_at hl 3 rfl) ?_
                refine rg_13_64 C hW (mm_ rfl) tw_1087 dX12_asBefore_54 ?_
                refine lv_bipush (v := 7) hx hb dX12_asBefore_57 (by decide) ?_
                refine lv_iload_n hx hb dX12_asBefore_59 rfl (lv_at hl 4 rfl) ?_
                refine lv_imul hx hb dX12_asBefore_60 ?_
                refine lv_topi (fun x51 (e51 : x51 = 7 * a0) => ?_)
                try have t51 : x51.toInt = 7 * a0.toInt := tmul e51 kp7 rfl (by omega)
                refine lv_iload hx hb dX12_asBefore_61 (lv_at hl 0 rfl) ?_
                refine lv_iadd hx hb dX12_asBefore_63 ?_
                refine lv_topi (fun x52 (e52 : x52 = x51 + m4) => ?_)
                try have t52 : x52.toInt = x51.toInt + m4.toInt := tadd e52 rfl rfl (by omega)
                have hin : vp_in x52 14 := tin rfl (by omega)
                refine ra_164 C hW (mm_ rfl) hin dX12_asBefore_64 ?_
                refine lv_topi (fun x53 (e53 : x53 = Gl37 164 x52.toNatClampNeg) => ?_)
                refine lv_aload_n hx hb dX12_asBefore_65 rfl (lv_at hl 3 rfl) ?_
                refine rg_13_54 C hW (mm_ rfl) tw_1077 dX12_asBefore_66 ?_
                refine lv_iload hx hb dX12_asBefore_69 (lv_at hl 0 rfl) ?_
                refine ci_ C hW (runS (As := [.int m4]) (rest := [.ref (g.2.2.1 154), .int x53]) (T := (((hv J [164] [] Gl37), L, I, P, E, N), sgM g)) C hW (c_X12_letterOf l g (hv J [164] [] Gl37) L I P E N H.size m4 ) mi_X12_letterOf tw_1449 ⟨rfl, rfl, Nat.le_of_ble_eq_true rfl, Nat.le_of_ble_eq_true rfl⟩ rfl hl.1 rfl (Nat.le_of_ble_eq_true rfl) dX12_asBefore_71 ⟨Nat.le_of_ble_eq_true rfl, Nat.le_of_ble_eq_true rfl⟩) (fun r54 u54 H locs hp54 hW => ?_)
                have hf54_0 : (0 ≤ r54.toInt ∧ r54.toInt < 128) := hp54
                clear hp54
                have hW : WB g A s.heap H locs ((hv J [164] [] Gl37), L, I, P, E, N) (sgM g) := hW
                have hin : vp_in r54 128 := tin rfl (by omega)
                refine ra_154 C hW (mm_ rfl) hin dX12_asBefore_74 ?_
                refine lv_topi (fun x55 (e55 : x55 = J 154 r54.toNatClampNeg) => ?_)
                refine lv_icmp_ne (tgt := 82) hx hb dX12_asBefore_75 (by decide) (fun c56 => ?_) (fun c56 => ?_)
                · have c56 : ¬ x53.toInt = x55.toInt := tne rfl rfl c56
                  refine lv_iconst (v := 0) hx hb dX12_asBefore_82 (by decide) ?_
                  refine lv_istore_n (lv' := [(3, .int 0), (4, .int m4), (2, .int x1), (0, .ref (g.2.2.1 13)), (1, .int a0)]) hx hb dX12_asBefore_83 rfl hl (by decide) rfl (fun ls hl => ?_)
                  refine lv_aload_n hx hb dX12_asBefore_84 rfl (lv_at hl 3 rfl) ?_
                  refine rg_13_64 C hW (mm_ rfl) tw_1087 dX12_asBefore_85 ?_
                  refine lv_bipush (v := 7) hx hb dX12_asBefore_88 (by decide) ?_
                  refine lv_iload_n hx hb dX12_asBefore_90 rfl (lv_at hl 4 rfl) ?_
                  refine lv_imul hx hb dX12_asBefore_91 ?_
                  refine lv_topi (fun x57 (e57 : x57 = 7 * a0) => ?_)
                  try have t57 : x57.toInt = 7 * a0.toInt := tmul e57 kp7 rfl (by omega)
                  refine lv_iload hx hb dX12_asBefore_92 (lv_at hl 1 rfl) ?_
                  refine lv_iadd hx hb dX12_asBefore_94 ?_
                  refine lv_topi (fun x58 (e58 : x58 = x57 + m4) => ?_)
                  try have t58 : x58.toInt = x57.toInt + m4.toInt := tadd e58 rfl rfl (by omega)
                  refine lv_aload_n hx hb dX12_asBefore_95 rfl (lv_at hl 3 rfl) ?_
                  refine rg_13_54 C hW (mm_ rfl) tw_1077 dX12_asBefore_96 ?_
                  refine lv_iload hx hb dX12_asBefore_99 (lv_at hl 1 rfl) ?_
                  refine ci_ C hW (runS (As := [.int m4]) (rest := [.ref (g.2.2.1 154), .int x58, .ref (g.2.2.1 164)]) (T := (((hv J [164] [] Gl37), L, I, P, E, N), sgM g)) C hW (c_X12_letterOf l g (hv J [164] [] Gl37) L I P E N H.size m4 ) mi_X12_letterOf tw_1449 ⟨rfl, rfl, Nat.le_of_ble_eq_true rfl, Nat.le_of_ble_eq_true rfl⟩ rfl hl.1 rfl (Nat.le_of_ble_eq_true rfl) dX12_asBefore_101 ⟨Nat.le_of_ble_eq_true rfl, Nat.le_of_ble_eq_true rfl⟩) (fun r59 u59 H locs hp59 hW => ?_)
                  have hf59_0 : (0 ≤ r59.toInt ∧ r59.toInt < 128) := hp59
                  clear hp59
                  have hW : WB g A s.heap H locs ((hv J [164] [] Gl37), L, I, P, E, N) (sgM g) := hW
                  have hin : vp_in r59 128 := tin rfl (by omega)
                  refine ra_154 C hW (mm_ rfl) hin dX12_asBefore_104 ?_
                  refine lv_topi (fun x60 (e60 : x60 = J 154 r59.toNatClampNeg) => ?_)
                  have hin : vp_in x58 14 := tin rfl (by omega)
                  refine rs_164 C hW (mm_ rfl) hin dX12_asBefore_105 (fun H locs hW => ?_)
                  obtain ⟨x61, e61⟩ : ∃ y : Int32, y = m4 + 1 := ⟨_, rfl⟩
                  refine lv_iinc (v := x61) (lv' := [(4, .int x61), (3, .int 0), (2, .int x1), (0, .ref (g.2.2.1 13)), (1, .int a0)]) hx hb dX12_asBefore_106 hl (k := 1) rfl (by rw [e61]; rfl) (by decide) rfl (fun ls hl => ?_)
                  try have t61 : x61.toInt = m4.toInt + 1 := tadd e61 rfl kp1 (by omega)
                  refine lv_goto (tgt := 42) hx hb dX12_asBefore_109 (by decide) ?_
                  have hWl : WB g A s.heap H locs ((hv J [164] [] (up2 (hv J [164] [] Gl37) 164 x58.toNatClampNeg x60)), L, I, P, E, N) (sgM g) := by
                    rw [← ag_hvE (J := J) (R := [164]) (F := []) (ag_up (Or.inl rfl) (ag_hv rfl rfl ag_rf))]
                    exact hW
                  refine ih 0 x61 (up2 (hv J [164] [] Gl37) 164 x58.toNatClampNeg x60) H locs ls ?_ ?_ hWl (lv_sub hl [0, 1, 2, 3, 4] rfl)
                  · show (7 - x61.toInt).toNat < n
                    omega
                  · show 0 ≤ x61.toInt
                    first | omega | exact hi | assumption
                · have c56 : x53.toInt = x55.toInt := teq rfl rfl c56
                  refine lv_iconst (v := 1) hx hb dX12_asBefore_78 (by decide) ?_
                  refine lv_goto (tgt := 83) hx hb dX12_asBefore_79 (by decide) ?_
                  refine lv_istore_n (lv' := [(3, .int 1), (4, .int m4), (2, .int x1), (0, .ref (g.2.2.1 13)), (1, .int a0)]) hx hb dX12_asBefore_83 rfl hl (by decide) rfl (fun ls hl => ?_)
                  refine lv_aload_n hx hb dX12_asBefore_84 rfl (lv_at hl 3 rfl) ?_
                  refine rg_13_64 C hW (mm_ rfl) tw_1087 dX12_asBefore_85 ?_
                  refine lv_bipush (v := 7) hx hb dX12_asBefore_88 (by decide) ?_
                  refine lv_iload_n hx hb dX12_asBefore_90 rfl (lv_at hl 4 rfl) ?_
                  refine lv_imul hx hb dX12_asBefore_91 ?_
                  refine lv_topi (fun x62 (e62 : x62 = 7 * a0) => ?_)
                  try have t62 : x62.toInt = 7 * a0.toInt := tmul e62 kp7 rfl (by omega)
                  refine lv_iload hx hb dX12_asBefore_92 (lv_at hl 1 rfl) ?_
                  refine lv_iadd hx hb dX12_asBefore_94 ?_
                  refine lv_topi (fun x63 (e63 : x63 = x62 + m4) => ?_)
                  try have t63 : x63.toInt = x62.toInt + m4.toInt := tadd e63 rfl rfl (by omega)
                  refine lv_aload_n hx hb dX12_asBefore_95 rfl (lv_at hl 3 rfl) ?_
                  refine rg_13_54 C hW (mm_ rfl) tw_1077 dX12_asBefore_96 ?_
                  refine lv_iload hx hb dX12_asBefore_99 (lv_at hl 1 rfl) ?_
                  refine ci_ C hW (runS (As := [.int m4]) (rest := [.ref (g.2.2.1 154), .int x63, .ref (g.2.2.1 164)]) (T := (((hv J [164] [] Gl37), L, I, P, E, N), sgM g)) C hW (c_X12_letterOf l g (hv J [164] [] Gl37) L I P E N H.size m4 ) mi_X12_letterOf tw_1449 ⟨rfl, rfl, Nat.le_of_ble_eq_true rfl, Nat.le_of_ble_eq_true rfl⟩ rfl hl.1 rfl (Nat.le_of_ble_eq_true rfl) dX12_asBefore_101 ⟨Nat.le_of_ble_eq_true rfl, Nat.le_of_ble_eq_true rfl⟩) (fun r64 u64 H locs hp64 hW => ?_)
                  have hf64_0 : (0 ≤ r64.toInt ∧ r64.toInt < 128) := hp64
                  clear hp64
                  have hW : WB g A s.heap H locs ((hv J [164] [] Gl37), L, I, P, E, N) (sgM g) := hW
                  have hin : vp_in r64 128 := tin rfl (by omega)
                  refine ra_154 C hW (mm_ rfl) hin dX12_asBefore_104 ?_
                  refine lv_topi (fun x65 (e65 : x65 = J 154 r64.toNatClampNeg) => ?_)
                  have hin : vp_in x63 14 := tin rfl (by omega)
                  refine rs_164 C hW (mm_ rfl) hin dX12_asBefore_105 (fun H locs hW => ?_)
                  obtain ⟨x66, e66⟩ : ∃ y : Int32, y = m4 + 1 := ⟨_, rfl⟩
                  refine lv_iinc (v := x66) (lv' := [(4, .int x66), (3, .int 1), (2, .int x1), (0, .ref (g.2.2.1 13)), (1, .int a0)]) hx hb dX12_asBefore_106 hl (k := 1) rfl (by rw [e66]; rfl) (by decide) rfl (fun ls hl => ?_)
                  try have t66 : x66.toInt = m4.toInt + 1 := tadd e66 rfl kp1 (by omega)
                  refine lv_goto (tgt := 42) hx hb dX12_asBefore_109 (by decide) ?_
                  have hWl : WB g A s.heap H locs ((hv J [164] [] (up2 (hv J [164] [] Gl37) 164 x63.toNatClampNeg x65)), L, I, P, E, N) (sgM g) := by
                    rw [← ag_hvE (J := J) (R := [164]) (F := []) (ag_up (Or.inl rfl) (ag_hv rfl rfl ag_rf))]
                    exact hW
                  refine ih 1 x66 (up2 (hv J [164] [] Gl37) 164 x63.toNatClampNeg x65) H locs ls ?_ ?_ hWl (lv_sub hl [0, 1, 2, 3, 4] rfl)
                  · show (7 - x66.toInt).toNat < n
                    omega
                  · show 0 ≤ x66.toInt
                    first | omega | exact hi | assumption
        -- into the loop
        have hWl : WB g A s.heap H locs ((hv J [164] [] J), L, I, P, E, N) (sgM g) := by
          rw [← ag_hvE (J := J) (R := [164]) (F := []) ag_rf]
          exact hW
        refine loop42 ((7 - (0 : Int32).toInt).toNat + 1) 0 0 J H locs ls ?_ ?_ hWl (lv_sub hl [0, 1, 2, 3, 4] rfl)
        · exact Nat.lt_succ_self _
        · show 0 ≤ (0 : Int32).toInt
          try rw [kp0]
          try rw [kp0]
          first | omega | exact hi | assumption
      · have c36 : r35.toInt = 0 := teq rfl kp0 c36
        refine lv_iconst (v := 1) hx hb dX12_asBefore_33 (by decide) ?_
        refine lv_goto (tgt := 38) hx hb dX12_asBefore_34 (by decide) ?_
        refine lv_istore_n (lv' := [(3, .int 1), (2, .int x1), (0, .ref (g.2.2.1 13)), (1, .int a0)]) hx hb dX12_asBefore_38 rfl hl (by decide) rfl (fun ls hl => ?_)
        refine lv_iconst (v := 0) hx hb dX12_asBefore_39 (by decide) ?_
        refine lv_istore (lv' := [(4, .int 0), (3, .int 1), (2, .int x1), (0, .ref (g.2.2.1 13)), (1, .int a0)]) hx hb dX12_asBefore_40 hl (by decide) rfl (fun ls hl => ?_)
        have loop42 : ∀ (n : Nat) (m3 : Int32) (m4 : Int32) (Gl67 : Nat → Nat → Int32) (H : Heap) (locs : List Loc) (ls : Array Slot), (7 - m4.toInt).toNat < n → 0 ≤ m4.toInt → WB g A s.heap H locs ((hv J [164] [] Gl67), L, I, P, E, N) (sgM g) → lv_has ls 5 [(4, .int m4), (3, .int m3), (2, .int x1), (0, .ref (g.2.2.1 13)), (1, .int a0)] → W p l e (RM (32) 0 0) s m ([.ref (g.2.2.1 13), .int a0] : List Value).toArray below meth c H locs 0 0 (MQ below (va_Qi (fun (r : Int32) (u : (Nat → Nat → Int32)) => True) (fun u t => at_ g A ((hv J [162, 163, 164] [(13, 56), (13, 57), (13, 58), (13, 59), (13, 60)] u, L, I, P, E, N), sgM g) t) A) ([.ref (g.2.2.1 13), .int a0] : List Value).toArray s 0 0 A) (F0 m 42 ls []) := by
          intro n
          induction n with
          | zero => intro m3 m4 Gl67 H locs ls hmeas; exact absurd hmeas (Nat.not_lt_zero _)
          | succ n ih =>
            intro m3 m4 Gl67 H locs ls hmeas hi hW hl
            refine lv_iload hx hb dX12_asBefore_42 (lv_at hl 0 rfl) ?_
            refine lv_bipush (v := 7) hx hb dX12_asBefore_44 (by decide) ?_
            refine lv_icmp_ge (tgt := 112) hx hb dX12_asBefore_46 (by decide) (fun c68 => ?_) (fun c68 => ?_)
            · have c68 : 7 ≤ m4.toInt := tle kp7 rfl c68
              refine lv_iload_n hx hb dX12_asBefore_112 rfl (lv_at hl 1 rfl) ?_
              refine lv_if_ne (tgt := 136) hx hb dX12_asBefore_113 (by decide) (fun c69 => ?_) (fun c69 => ?_)
              · have c69 : ¬ m3.toInt = 0 := tne rfl kp0 c69
                refine lv_aload_n hx hb dX12_asBefore_136 rfl (lv_at hl 3 rfl) ?_
                refine rg_13_62 C hW (mm_ rfl) tw_1085 dX12_asBefore_137 ?_
                refine lv_iload_n hx hb dX12_asBefore_140 rfl (lv_at hl 4 rfl) ?_
                refine lv_iload_n hx hb dX12_asBefore_141 rfl (lv_at hl 2 rfl) ?_
                have hin : vp_in a0 2 := tin rfl (by omega)
                refine rs_162 C hW (mm_ rfl) hin dX12_asBefore_142 (fun H locs hW => ?_)
                refine lv_aload_n hx hb dX12_asBefore_143 rfl (lv_at hl 3 rfl) ?_
                refine rg_13_63 C hW (mm_ rfl) tw_1086 dX12_asBefore_144 ?_
                refine lv_iload_n hx hb dX12_asBefore_147 rfl (lv_at hl 4 rfl) ?_
                have hin : vp_in a0 2 := tin rfl (by omega)
                refine ra_163 C hW (mm_ rfl) hin dX12_asBefore_148 ?_
                refine lv_topi (fun x70 (e70 : x70 = J 163 a0.toNatClampNeg) => ?_)
                have hWr : WB g A s.heap H locs (hv J [162, 163, 164] [(13, 56), (13, 57), (13, 58), (13, 59), (13, 60)] (up2 (hv J [164] [] Gl67) 162 a0.toNatClampNeg x1), L, I, P, E, N) (sgM g) := by
                  rw [← ag_hvE (J := J) (R := [162, 163, 164]) (F := [(13, 56), (13, 57), (13, 58), (13, 59), (13, 60)]) (ag_up (Or.inl rfl) (ag_hv rfl rfl ag_rf))]
                  exact hW
                exact end_i C hr hlocks (up2 (hv J [164] [] Gl67) 162 a0.toNatClampNeg x1) hWr trivial dX12_asBefore_149
              · have c69 : m3.toInt = 0 := teq rfl kp0 c69
                refine lv_aload_n hx hb dX12_asBefore_116 rfl (lv_at hl 3 rfl) ?_
                refine rg_13_63 C hW (mm_ rfl) tw_1086 dX12_asBefore_117 ?_
                refine lv_iload_n hx hb dX12_asBefore_120 rfl (lv_at hl 4 rfl) ?_
                refine lv_aload_n hx hb dX12_asBefore_121 rfl (lv_at hl 3 rfl) ?_
                refine lv_bipush (v := 60) hx hb dX12_asBefore_122 (by decide) ?_
                refine lv_iload_n hx hb dX12_asBefore_124 rfl (lv_at hl 2 rfl) ?_
                refine lv_imul hx hb dX12_asBefore_125 ?_
                refine lv_topi (fun x71 (e71 : x71 = 60 * x1) => ?_)
                try have t71 : x71.toInt = 60 * x1.toInt := tmul e71 kp60 rfl (by omega)
                refine lv_aload_n hx hb dX12_asBefore_126 rfl (lv_at hl 3 rfl) ?_
                refine rg_13_21 C hW (mm_ rfl) tw_1044 dX12_asBefore_127 ?_
                refine lv_iload_n hx hb dX12_asBefore_130 rfl (lv_at hl 2 rfl) ?_
                have hin : vp_in x1 30 := tin rfl (by omega)
                refine ra_121 C hW (mm_ rfl) hin dX12_asBefore_131 ?_
                refine lv_topi (fun x72 (e72 : x72 = J 121 x1.toNatClampNeg) => ?_)
                have q72 := hts_ x1.toNatClampNeg
                rw [← e72] at q72
                have k72 := tcl x1
                refine ci_ C hW (runV (x := (g.2.2.1 13)) (As := [.int x71, .int x72]) (rest := [.int a0, .ref (g.2.2.1 163)]) (T := (((hv J [164] [] Gl67), L, I, P, E, N), sgM g)) C hW (c_X12_goesThrough l g (hv J [164] [] Gl67) L I P E N H.size x71 x72 hwm (show (x71.toInt < 0 ∧ 0 ≤ x72.toInt ∧ x72.toInt ≤ 60) ∨ (0 ≤ x71.toInt ∧ 0 ≤ x72.toInt ∧ x71.toInt + x72.toInt ≤ 1800) from by omega)) mi_X12_goesThrough tw_1342 (recv_ (T := (((hv J [164] [] Gl67), L, I, P, E, N), sgM g)) C hW (mm_ rfl) rfl rfl) ⟨rfl, rfl, Nat.le_of_ble_eq_true rfl, Nat.le_of_ble_eq_true rfl⟩ rfl hl.1 rfl (Nat.le_of_ble_eq_true rfl) dX12_asBefore_132 ⟨Nat.le_of_ble_eq_true rfl, Nat.le_of_ble_eq_true rfl⟩) (fun r73 u73 H locs hp73 hW => ?_)
                have hf73_0 : (0 ≤ (u73 13 56).toInt) := hp73
                clear hp73
                have hW : WB g A s.heap H locs ((hv (hv J [164] [] Gl67) [] [(13, 56), (13, 57), (13, 58), (13, 59), (13, 60)] u73), L, I, P, E, N) (sgM g) := hW
                have hin : vp_in a0 2 := tin rfl (by omega)
                refine rs_163 C hW (mm_ rfl) hin dX12_asBefore_135 (fun H locs hW => ?_)
                refine lv_aload_n hx hb dX12_asBefore_136 rfl (lv_at hl 3 rfl) ?_
                refine rg_13_62 C hW (mm_ rfl) tw_1085 dX12_asBefore_137 ?_
                refine lv_iload_n hx hb dX12_asBefore_140 rfl (lv_at hl 4 rfl) ?_
                refine lv_iload_n hx hb dX12_asBefore_141 rfl (lv_at hl 2 rfl) ?_
                have hin : vp_in a0 2 := tin rfl (by omega)
                refine rs_162 C hW (mm_ rfl) hin dX12_asBefore_142 (fun H locs hW => ?_)
                refine lv_aload_n hx hb dX12_asBefore_143 rfl (lv_at hl 3 rfl) ?_
                refine rg_13_63 C hW (mm_ rfl) tw_1086 dX12_asBefore_144 ?_
                refine lv_iload_n hx hb dX12_asBefore_147 rfl (lv_at hl 4 rfl) ?_
                have hin : vp_in a0 2 := tin rfl (by omega)
                refine ra_163 C hW (mm_ rfl) hin dX12_asBefore_148 ?_
                refine lv_topi (fun x74 (e74 : x74 = (up2 J 163 a0.toNatClampNeg r73) 163 a0.toNatClampNeg) => ?_)
                have hWr : WB g A s.heap H locs (hv J [162, 163, 164] [(13, 56), (13, 57), (13, 58), (13, 59), (13, 60)] (up2 (up2 (hv (hv J [164] [] Gl67) [] [(13, 56), (13, 57), (13, 58), (13, 59), (13, 60)] u73) 163 a0.toNatClampNeg r73) 162 a0.toNatClampNeg x1), L, I, P, E, N) (sgM g) := by
                  rw [← ag_hvE (J := J) (R := [162, 163, 164]) (F := [(13, 56), (13, 57), (13, 58), (13, 59), (13, 60)]) (ag_up (Or.inl rfl) (ag_up (Or.inl rfl) (ag_hv rfl rfl (ag_hv rfl rfl ag_rf))))]
                  exact hW
                exact end_i C hr hlocks (up2 (up2 (hv (hv J [164] [] Gl67) [] [(13, 56), (13, 57), (13, 58), (13, 59), (13, 60)] u73) 163 a0.toNatClampNeg r73) 162 a0.toNatClampNeg x1) hWr trivial dX12_asBefore_149
            · have c68 : m4.toInt < 7 := tnle kp7 rfl c68
              refine lv_iload_n hx hb dX12_asBefore_49 rfl (lv_at hl 1 rfl) ?_
              refine lv_if_eq (tgt := 82) hx hb dX12_asBefore_50 (by decide) (fun c75 => ?_) (fun c75 => ?_)
              · have c75 : m3.toInt = 0 := teq rfl kp0 c75
                refine lv_iconst (v := 0) hx hb dX12_asBefore_82 (by decide) ?_
                refine lv_istore_n (lv' := [(3, .int 0), (4, .int m4), (2, .int x1), (0, .ref (g.2.2.1 13)), (1, .int a0)]) hx hb dX12_asBefore_83 rfl hl (by decide) rfl (fun ls hl => ?_)
                refine lv_aload_n hx hb dX12_asBefore_84 rfl (lv_at hl 3 rfl) ?_
                refine rg_13_64 C hW (mm_ rfl) tw_1087 dX12_asBefore_85 ?_
                refine lv_bipush (v := 7) hx hb dX12_asBefore_88 (by decide) ?_
                refine lv_iload_n hx hb dX12_asBefore_90 rfl (lv_at hl 4 rfl) ?_
                refine lv_imul hx hb dX12_asBefore_91 ?_
                refine lv_topi (fun x76 (e76 : x76 = 7 * a0) => ?_)
                try have t76 : x76.toInt = 7 * a0.toInt := tmul e76 kp7 rfl (by omega)
                refine lv_iload hx hb dX12_asBefore_92 (lv_at hl 1 rfl) ?_
                refine lv_iadd hx hb dX12_asBefore_94 ?_
                refine lv_topi (fun x77 (e77 : x77 = x76 + m4) => ?_)
                try have t77 : x77.toInt = x76.toInt + m4.toInt := tadd e77 rfl rfl (by omega)
                refine lv_aload_n hx hb dX12_asBefore_95 rfl (lv_at hl 3 rfl) ?_
                refine rg_13_54 C hW (mm_ rfl) tw_1077 dX12_asBefore_96 ?_
                refine lv_iload hx hb dX12_asBefore_99 (lv_at hl 1 rfl) ?_
                refine ci_ C hW (runS (As := [.int m4]) (rest := [.ref (g.2.2.1 154), .int x77, .ref (g.2.2.1 164)]) (T := (((hv J [164] [] Gl67), L, I, P, E, N), sgM g)) C hW (c_X12_letterOf l g (hv J [164] [] Gl67) L I P E N H.size m4 ) mi_X12_letterOf tw_1449 ⟨rfl, rfl, Nat.le_of_ble_eq_true rfl, Nat.le_of_ble_eq_true rfl⟩ rfl hl.1 rfl (Nat.le_of_ble_eq_true rfl) dX12_asBefore_101 ⟨Nat.le_of_ble_eq_true rfl, Nat.le_of_ble_eq_true rfl⟩) (fun r78 u78 H locs hp78 hW => ?_)
                have hf78_0 : (0 ≤ r78.toInt ∧ r78.toInt < 128) := hp78
                clear hp78
                have hW : WB g A s.heap H locs ((hv J [164] [] Gl67), L, I, P, E, N) (sgM g) := hW
                have hin : vp_in r78 128 := tin rfl (by omega)
                refine ra_154 C hW (mm_ rfl) hin dX12_asBefore_104 ?_
                refine lv_topi (fun x79 (e79 : x79 = J 154 r78.toNatClampNeg) => ?_)
                have hin : vp_in x77 14 := tin rfl (by omega)
                refine rs_164 C hW (mm_ rfl) hin dX12_asBefore_105 (fun H locs hW => ?_)
                obtain ⟨x80, e80⟩ : ∃ y : Int32, y = m4 + 1 := ⟨_, rfl⟩
                refine lv_iinc (v := x80) (lv' := [(4, .int x80), (3, .int 0), (2, .int x1), (0, .ref (g.2.2.1 13)), (1, .int a0)]) hx hb dX12_asBefore_106 hl (k := 1) rfl (by rw [e80]; rfl) (by decide) rfl (fun ls hl => ?_)
                try have t80 : x80.toInt = m4.toInt + 1 := tadd e80 rfl kp1 (by omega)
                refine lv_goto (tgt := 42) hx hb dX12_asBefore_109 (by decide) ?_
                have hWl : WB g A s.heap H locs ((hv J [164] [] (up2 (hv J [164] [] Gl67) 164 x77.toNatClampNeg x79)), L, I, P, E, N) (sgM g) := by
                  rw [← ag_hvE (J := J) (R := [164]) (F := []) (ag_up (Or.inl rfl) (ag_hv rfl rfl ag_rf))]
                  exact hW
                refine ih 0 x80 (up2 (hv J [164] [] Gl67) 164 x77.toNatClampNeg x79) H locs ls ?_ ?_ hWl (lv_sub hl [0, 1, 2, 3, 4] rfl)
                · show (7 - x80.toInt).toNat < n
                  omega
                · show 0 ≤ x80.toInt
                  first | omega | exact hi | assumption
              · have c75 : ¬ m3.toInt = 0 := tne rfl kp0 c75
                refine lv_aload_n hx hb dX12_asBefore_53 rfl (lv_at hl 3 rfl) ?_
                refine rg_13_64 C hW (mm_ rfl) tw_1087 dX12_asBefore_54 ?_
                refine lv_bipush (v := 7) hx hb dX12_asBefore_57 (by decide) ?_
                refine lv_iload_n hx hb dX12_asBefore_59 rfl (lv_at hl 4 rfl) ?_
                refine lv_imul hx hb dX12_asBefore_60 ?_
                refine lv_topi (fun x81 (e81 : x81 = 7 * a0) => ?_)
                try have t81 : x81.toInt = 7 * a0.toInt := tmul e81 kp7 rfl (by omega)
                refine lv_iload hx hb dX12_asBefore_61 (lv_at hl 0 rfl) ?_
                refine lv_iadd hx hb dX12_asBefore_63 ?_
                refine lv_topi (fun x82 (e82 : x82 = x81 + m4) => ?_)
                try have t82 : x82.toInt = x81.toInt + m4.toInt := tadd e82 rfl rfl (by omega)
                have hin : vp_in x82 14 := tin rfl (by omega)
                refine ra_164 C hW (mm_ rfl) hin dX12_asBefore_64 ?_
                refine lv_topi (fun x83 (e83 : x83 = Gl67 164 x82.toNatClampNeg) => ?_)
                refine lv_aload_n hx hb dX12_asBefore_65 rfl (lv_at hl 3 rfl) ?_
                refine rg_13_54 C hW (mm_ rfl) tw_1077 dX12_asBefore_66 ?_
                refine lv_iload hx hb dX12_asBefore_69 (lv_at hl 0 rfl) ?_
                refine ci_ C hW (runS (As := [.int m4]) (rest := [.ref (g.2.2.1 154), .int x83]) (T := (((hv J [164] [] Gl67), L, I, P, E, N), sgM g)) C hW (c_X12_letterOf l g (hv J [164] [] Gl67) L I P E N H.size m4 ) mi_X12_letterOf tw_1449 ⟨rfl, rfl, Nat.le_of_ble_eq_true rfl, Nat.le_of_ble_eq_true rfl⟩ rfl hl.1 rfl (Nat.le_of_ble_eq_true rfl) dX12_asBefore_71 ⟨Nat.le_of_ble_eq_true rfl, Nat.le_of_ble_eq_true rfl⟩) (fun r84 u84 H locs hp84 hW => ?_)
                have hf84_0 : (0 ≤ r84.toInt ∧ r84.toInt < 128) := hp84
                clear hp84
                have hW : WB g A s.heap H locs ((hv J [164] [] Gl67), L, I, P, E, N) (sgM g) := hW
                have hin : vp_in r84 128 := tin rfl (by omega)
                refine ra_154 C hW (mm_ rfl) hin dX12_asBefore_74 ?_
                refine lv_topi (fun x85 (e85 : x85 = J 154 r84.toNatClampNeg) => ?_)
                refine lv_icmp_ne (tgt := 82) hx hb dX12_asBefore_75 (by decide) (fun c86 => ?_) (fun c86 => ?_)
                · have c86 : ¬ x83.toInt = x85.toInt := tne rfl rfl c86
                  refine lv_iconst (v := 0) hx hb dX12_asBefore_82 (by decide) ?_
                  refine lv_istore_n (lv' := [(3, .int 0), (4, .int m4), (2, .int x1), (0, .ref (g.2.2.1 13)), (1, .int a0)]) hx hb dX12_asBefore_83 rfl hl (by decide) rfl (fun ls hl => ?_)
                  refine lv_aload_n hx hb dX12_asBefore_84 rfl (lv_at hl 3 rfl) ?_
                  refine rg_13_64 C hW (mm_ rfl) tw_1087 dX12_asBefore_85 ?_
                  refine lv_bipush (v := 7) hx hb dX12_asBefore_88 (by decide) ?_
                  refine lv_iload_n hx hb dX12_asBefore_90 rfl (lv_at hl 4 rfl) ?_
                  refine lv_imul hx hb dX12_asBefore_91 ?_
                  refine lv_topi (fun x87 (e87 : x87 = 7 * a0) => ?_)
                  try have t87 : x87.toInt = 7 * a0.toInt := tmul e87 kp7 rfl (by omega)
                  refine lv_iload hx hb dX12_asBefore_92 (lv_at hl 1 rfl) ?_
                  refine lv_iadd hx hb dX12_asBefore_94 ?_
                  refine lv_topi (fun x88 (e88 : x88 = x87 + m4) => ?_)
                  try have t88 : x88.toInt = x87.toInt + m4.toInt := tadd e88 rfl rfl (by omega)
                  refine lv_aload_n hx hb dX12_asBefore_95 rfl (lv_at hl 3 rfl) ?_
                  refine rg_13_54 C hW (mm_ rfl) tw_1077 dX12_asBefore_96 ?_
                  refine lv_iload hx hb dX12_asBefore_99 (lv_at hl 1 rfl) ?_
                  refine ci_ C hW (runS (As := [.int m4]) (rest := [.ref (g.2.2.1 154), .int x88, .ref (g.2.2.1 164)]) (T := (((hv J [164] [] Gl67), L, I, P, E, N), sgM g)) C hW (c_X12_letterOf l g (hv J [164] [] Gl67) L I P E N H.size m4 ) mi_X12_letterOf tw_1449 ⟨rfl, rfl, Nat.le_of_ble_eq_true rfl, Nat.le_of_ble_eq_true rfl⟩ rfl hl.1 rfl (Nat.le_of_ble_eq_true rfl) dX12_asBefore_101 ⟨Nat.le_of_ble_eq_true rfl, Nat.le_of_ble_eq_true rfl⟩) (fun r89 u89 H locs hp89 hW => ?_)
                  have hf89_0 : (0 ≤ r89.toInt ∧ r89.toInt < 128) := hp89
                  clear hp89
                  have hW : WB g A s.heap H locs ((hv J [164] [] Gl67), L, I, P, E, N) (sgM g) := hW
                  have hin : vp_in r89 128 := tin rfl (by omega)
                  refine ra_154 C hW (mm_ rfl) hin dX12_asBefore_104 ?_
                  refine lv_topi (fun x90 (e90 : x90 = J 154 r89.toNatClampNeg) => ?_)
                  have hin : vp_in x88 14 := tin rfl (by omega)
                  refine rs_164 C hW (mm_ rfl) hin dX12_asBefore_105 (fun H locs hW => ?_)
                  obtain ⟨x91, e91⟩ : ∃ y : Int32, y = m4 + 1 := ⟨_, rfl⟩
                  refine lv_iinc (v := x91) (lv' := [(4, .int x91), (3, .int 0), (2, .int x1), (0, .ref (g.2.2.1 13)), (1, .int a0)]) hx hb dX12_asBefore_106 hl (k := 1) rfl (by rw [e91]; rfl) (by decide) rfl (fun ls hl => ?_)
                  try have t91 : x91.toInt = m4.toInt + 1 := tadd e91 rfl kp1 (by omega)
                  refine lv_goto (tgt := 42) hx hb dX12_asBefore_109 (by decide) ?_
                  have hWl : WB g A s.heap H locs ((hv J [164] [] (up2 (hv J [164] [] Gl67) 164 x88.toNatClampNeg x90)), L, I, P, E, N) (sgM g) := by
                    rw [← ag_hvE (J := J) (R := [164]) (F := []) (ag_up (Or.inl rfl) (ag_hv rfl rfl ag_rf))]
                    exact hW
                  refine ih 0 x91 (up2 (hv J [164] [] Gl67) 164 x88.toNatClampNeg x90) H locs ls ?_ ?_ hWl (lv_sub hl [0, 1, 2, 3, 4] rfl)
                  · show (7 - x91.toInt).toNat < n
                    omega
                  · show 0 ≤ x91.toInt
                    first | omega | exact hi | assumption
                · have c86 : x83.toInt = x85.toInt := teq rfl rfl c86
                  refine lv_iconst (v := 1) hx hb dX12_asBefore_78 (by decide) ?_
                  refine lv_goto (tgt := 83) hx hb dX12_asBefore_79 (by decide) ?_
                  refine lv_istore_n (lv' := [(3, .int 1), (4, .int m4), (2, .int x1), (0, .ref (g.2.2.1 13)), (1, .int a0)]) hx hb dX12_asBefore_83 rfl hl (by decide) rfl (fun ls hl => ?_)
                  refine lv_aload_n hx hb dX12_asBefore_84 rfl (lv_at hl 3 rfl) ?_
                  refine rg_13_64 C hW (mm_ rfl) tw_1087 dX12_asBefore_85 ?_
                  refine lv_bipush (v := 7) hx hb dX12_asBefore_88 (by decide) ?_
                  refine lv_iload_n hx hb dX12_asBefore_90 rfl (lv_at hl 4 rfl) ?_
                  refine lv_imul hx hb dX12_asBefore_91 ?_
                  refine lv_topi (fun x92 (e92 : x92 = 7 * a0) => ?_)
                  try have t92 : x92.toInt = 7 * a0.toInt := tmul e92 kp7 rfl (by omega)
                  refine lv_iload hx hb dX12_asBefore_92 (lv_at hl 1 rfl) ?_
                  refine lv_iadd hx hb dX12_asBefore_94 ?_
                  refine lv_topi (fun x93 (e93 : x93 = x92 + m4) => ?_)
                  try have t93 : x93.toInt = x92.toInt + m4.toInt := tadd e93 rfl rfl (by omega)
                  refine lv_aload_n hx hb dX12_asBefore_95 rfl (lv_at hl 3 rfl) ?_
                  refine rg_13_54 C hW (mm_ rfl) tw_1077 dX12_asBefore_96 ?_
                  refine lv_iload hx hb dX12_asBefore_99 (lv_at hl 1 rfl) ?_
                  refine ci_ C hW (runS (As := [.int m4]) (rest := [.ref (g.2.2.1 154), .int x93, .ref (g.2.2.1 164)]) (T := (((hv J [164] [] Gl67), L, I, P, E, N), sgM g)) C hW (c_X12_letterOf l g (hv J [164] [] Gl67) L I P E N H.size m4 ) mi_X12_letterOf tw_1449 ⟨rfl, rfl, Nat.le_of_ble_eq_true rfl, Nat.le_of_ble_eq_true rfl⟩ rfl hl.1 rfl (Nat.le_of_ble_eq_true rfl) dX12_asBefore_101 ⟨Nat.le_of_ble_eq_true rfl, Nat.le_of_ble_eq_true rfl⟩) (fun r94 u94 H locs hp94 hW => ?_)
                  have hf94_0 : (0 ≤ r94.toInt ∧ r94.toInt < 128) := hp94
                  clear hp94
                  have hW : WB g A s.heap H locs ((hv J [164] [] Gl67), L, I, P, E, N) (sgM g) := hW
                  have hin : vp_in r94 128 := tin rfl (by omega)
                  refine ra_154 C hW (mm_ rfl) hin dX12_asBefore_104 ?_
                  refine lv_topi (fun x95 (e95 : x95 = J 154 r94.toNatClampNeg) => ?_)
                  have hin : vp_in x93 14 := tin rfl (by omega)
                  refine rs_164 C hW (mm_ rfl) hin dX12_asBefore_105 (fun H locs hW => ?_)
                  obtain ⟨x96, e96⟩ : ∃ y : Int32, y = m4 + 1 := ⟨_, rfl⟩
                  refine lv_iinc (v := x96) (lv' := [(4, .int x96), (3, .int 1), (2, .int x1), (0, .ref (g.2.2.1 13)), (1, .int a0)]) hx hb dX12_asBefore_106 hl (k := 1) rfl (by rw [e96]; rfl) (by decide) rfl (fun ls hl => ?_)
                  try have t96 : x96.toInt = m4.toInt + 1 := tadd e96 rfl kp1 (by omega)
                  refine lv_goto (tgt := 42) hx hb dX12_asBefore_109 (by decide) ?_
                  have hWl : WB g A s.heap H locs ((hv J [164] [] (up2 (hv J [164] [] Gl67) 164 x93.toNatClampNeg x95)), L, I, P, E, N) (sgM g) := by
                    rw [← ag_hvE (J := J) (R := [164]) (F := []) (ag_up (Or.inl rfl) (ag_hv rfl rfl ag_rf))]
                    exact hW
                  refine ih 1 x96 (up2 (hv J [164] [] Gl67) 164 x93.toNatClampNeg x95) H locs ls ?_ ?_ hWl (lv_sub hl [0, 1, 2, 3, 4] rfl)
                  · show (7 - x96.toInt).toNat < n
                    omega
                  · show 0 ≤ x96.toInt
                    first | omega | exact hi | assumption
        -- into the loop
        have hWl : WB g A s.heap H locs ((hv J [164] [] J), L, I, P, E, N) (sgM g) := by
          rw [← ag_hvE (J := J) (R := [164]) (F := []) ag_rf]
          exact hW
        refine loop42 ((7 - (0 : Int32).toInt).toNat + 1) 1 0 J H locs ls ?_ ?_ hWl (lv_sub hl [0, 1, 2, 3, 4] rfl)
        · exact Nat.lt_succ_self _
        · show 0 ≤ (0 : Int32).toInt
          try rw [kp1]
          try rw [kp0]
          first | omega | exact hi | assumption
  · have c2 : x1.toInt < 0 := tnle kp0 rfl c2
    refine lv_iconst (v := 0) hx hb dX12_asBefore_11 (by decide) ?_
    have hWr : WB g A s.heap H locs (hv J [162, 163, 164] [(13, 56), (13, 57), (13, 58), (13, 59), (13, 60)] J, L, I, P, E, N) (sgM g) := by
      rw [← ag_hvE (J := J) (R := [162, 163, 164]) (F := [(13, 56), (13, 57), (13, 58), (13, 59), (13, 60)]) ag_rf]
      exact hW
    exact end_i C hr hlocks J hWr trivial dX12_asBefore_12
