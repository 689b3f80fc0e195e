theorem dX11_hears_0 : decode cX11_hears 0 = .ok (.aload_n 0, 1) := dk_aload_n_0 (by decide +kernel)
theorem dX11_hears_1 : decode cX11_hears 1 = .ok (.getfield 10, 3) := dk_getfield (by decide +kernel)
theorem dX11_hears_4 : decode cX11_hears 4 = .ok (.iload_n 1, 1) := dk_iload_n_1 (by decide +kernel)
theorem dX11_hears_5 : decode cX11_hears 5 = .ok (.invokevirtual 141, 3) := dk_invokevirtual (by decide +kernel)
theorem dX11_hears_8 : decode cX11_hears 8 = .ok (.astore_n 3, 1) := dk_astore_n_3 (by decide +kernel)
theorem dX11_hears_9 : decode cX11_hears 9 = .ok (.aload_n 3, 1) := dk_aload_n_3 (by decide +kernel)
theorem dX11_hears_10 : decode cX11_hears 10 = .ok (.ifnonnull 9, 3) := dk_ifnonnull (by decide +kernel)
theorem dX11_hears_13 : decode cX11_hears 13 = .ok (.aload_n 0, 1) := dk_aload_n_0 (by decide +kernel)
theorem dX11_hears_14 : decode cX11_hears 14 = .ok (.iconst (-1), 1) := dk_iconst_m1 (by decide +kernel)
theorem dX11_hears_15 : decode cX11_hears 15 = .ok (.invokevirtual 67, 3) := dk_invokevirtual (by decide +kernel)
theorem dX11_hears_18 : decode cX11_hears 18 = .ok (.ireturn, 1) := dk_ireturn (by decide +kernel)
theorem dX11_hears_19 : decode cX11_hears 19 = .ok (.iload_n 2, 1) := dk_iload_n_2 (by decide +kernel)
theorem dX11_hears_20 : decode cX11_hears 20 = .ok (.invokestatic 119, 3) := dk_invokestatic (by decide +kernel)
theorem dX11_hears_23 : decode cX11_hears 23 = .ok (.istore 4, 2) := dk_istore (by decide +kernel)
theorem dX11_hears_25 : decode cX11_hears 25 = .ok (.iload 4, 2) := dk_iload (by decide +kernel)
theorem dX11_hears_27 : decode cX11_hears 27 = .ok (.ifCond .eq 10, 3) := dk_ifCond_eq (by decide +kernel)
theorem dX11_hears_30 : decode cX11_hears 30 = .ok (.aload_n 0, 1) := dk_aload_n_0 (by decide +kernel)
theorem dX11_hears_31 : decode cX11_hears 31 = .ok (.iload 4, 2) := dk_iload (by decide +kernel)
theorem dX11_hears_33 : decode cX11_hears 33 = .ok (.invokevirtual 67, 3) := dk_invokevirtual (by decide +kernel)
theorem dX11_hears_36 : decode cX11_hears 36 = .ok (.ireturn, 1) := dk_ireturn (by decide +kernel)
theorem dX11_hears_37 : decode cX11_hears 37 = .ok (.aload_n 0, 1) := dk_aload_n_0 (by decide +kernel)
theorem dX11_hears_38 : decode cX11_hears 38 = .ok (.getfield 10, 3) := dk_getfield (by decide +kernel)
theorem dX11_hears_41 : decode cX11_hears 41 = .ok (.iload_n 2, 1) := dk_iload_n_2 (by decide +kernel)
theorem dX11_hears_42 : decode cX11_hears 42 = .ok (.aload_n 0, 1) := dk_aload_n_0 (by decide +kernel)
theorem dX11_hears_43 : decode cX11_hears 43 = .ok (.getfield 10, 3) := dk_getfield (by decide +kernel)
theorem dX11_hears_46 : decode cX11_hears 46 = .ok (.getfield 76, 3) := dk_getfield (by decide +kernel)
theorem dX11_hears_49 : decode cX11_hears 49 = .ok (.aload_n 0, 1) := dk_aload_n_0 (by decide +kernel)
theorem dX11_hears_50 : decode cX11_hears 50 = .ok (.getfield 19, 3) := dk_getfield (by decide +kernel)
theorem dX11_hears_53 : decode cX11_hears 53 = .ok (.getfield 71, 3) := dk_getfield (by decide +kernel)
theorem dX11_hears_56 : decode cX11_hears 56 = .ok (.invokevirtual 122, 3) := dk_invokevirtual (by decide +kernel)
theorem dX11_hears_59 : decode cX11_hears 59 = .ok (.aload_n 3, 1) := dk_aload_n_3 (by decide +kernel)
theorem dX11_hears_60 : decode cX11_hears 60 = .ok (.aload_n 0, 1) := dk_aload_n_0 (by decide +kernel)
theorem dX11_hears_61 : decode cX11_hears 61 = .ok (.getfield 10, 3) := dk_getfield (by decide +kernel)
theorem dX11_hears_64 : decode cX11_hears 64 = .ok (.getfield 138, 3) := dk_getfield (by decide +kernel)
theorem dX11_hears_67 : decode cX11_hears 67 = .ok (.invokevirtual 145, 3) := dk_invokevirtual (by decide +kernel)
theorem dX11_hears_70 : decode cX11_hears 70 = .ok (.ifCond .eq 7, 3) := dk_ifCond_eq (by decide +kernel)
theorem dX11_hears_73 : decode cX11_hears 73 = .ok (.iconst 1, 1) := dk_iconst_1 (by decide +kernel)
theorem dX11_hears_74 : decode cX11_hears 74 = .ok (.goto 4, 3) := dk_goto (by decide +kernel)
theorem dX11_hears_77 : decode cX11_hears 77 = .ok (.iconst 0, 1) := dk_iconst_0 (by decide +kernel)
theorem dX11_hears_78 : decode cX11_hears 78 = .ok (.ireturn, 1) := dk_ireturn (by decide +kernel)
theorem dX11_lag_0 : decode cX11_lag 0 = .ok (.aload_n 0, 1) := dk_aload_n_0 (by decide +kernel)
theorem dX11_lag_1 : decode cX11_lag 1 = .ok (.getfield 19, 3) := dk_getfield (by decide +kernel)
theorem dX11_lag_4 : decode cX11_lag 4 = .ok (.iload_n 1, 1) := dk_iload_n_1 (by decide +kernel)
theorem dX11_lag_5 : decode cX11_lag 5 = .ok (.invokevirtual 192, 3) := dk_invokevirtual (by decide +kernel)
theorem dX11_lag_8 : decode cX11_lag 8 = .ok (.astore_n 2, 1) := dk_astore_n_2 (by decide +kernel)
theorem dX11_lag_9 : decode cX11_lag 9 = .ok (.aload_n 2, 1) := dk_aload_n_2 (by decide +kernel)
theorem dX11_lag_10 : decode cX11_lag 10 = .ok (.invokestatic 302, 3) := dk_invokestatic (by decide +kernel)
theorem dX11_lag_13 : decode cX11_lag 13 = .ok (.istore_n 3, 1) := dk_istore_n_3 (by decide +kernel)
theorem dX11_lag_14 : decode cX11_lag 14 = .ok (.iload_n 3, 1) := dk_iload_n_3 (by decide +kernel)
theorem dX11_lag_15 : decode cX11_lag 15 = .ok (.ifCond .ne 7, 3) := dk_ifCond_ne (by decide +kernel)
theorem dX11_lag_18 : decode cX11_lag 18 = .ok (.aload_n 2, 1) := dk_aload_n_2 (by decide +kernel)
theorem dX11_lag_19 : decode cX11_lag 19 = .ok (.ifnonnull 9, 3) := dk_ifnonnull (by decide +kernel)
theorem dX11_lag_22 : decode cX11_lag 22 = .ok (.aload_n 0, 1) := dk_aload_n_0 (by decide +kernel)
theorem dX11_lag_23 : decode cX11_lag 23 = .ok (.iload_n 3, 1) := dk_iload_n_3 (by decide +kernel)
theorem dX11_lag_24 : decode cX11_lag 24 = .ok (.invokevirtual 67, 3) := dk_invokevirtual (by decide +kernel)
theorem dX11_lag_27 : decode cX11_lag 27 = .ok (.ireturn, 1) := dk_ireturn (by decide +kernel)
theorem dX11_lag_28 : decode cX11_lag 28 = .ok (.aload_n 0, 1) := dk_aload_n_0 (by decide +kernel)
theorem dX11_lag_29 : decode cX11_lag 29 = .ok (.aload_n 2, 1) := dk_aload_n_2 (by decide +kernel)
theorem dX11_lag_30 : decode cX11_lag 30 = .ok (.getfield 183, 3) := dk_getfield (by decide +kernel)
theorem dX11_lag_33 : decode cX11_lag 33 = .ok (.invokevirtual 295, 3) := dk_invokevirtual (by decide +kernel)
theorem dX11_lag_36 : decode cX11_lag 36 = .ok (.astore 4, 2) := dk_astore (by decide +kernel)
theorem dX11_lag_38 : decode cX11_lag 38 = .ok (.aload 4, 2) := dk_aload (by decide +kernel)
theorem dX11_lag_40 : decode cX11_lag 40 = .ok (.ifnonnull 8, 3) := dk_ifnonnull (by decide +kernel)
theorem dX11_lag_43 : decode cX11_lag 43 = .ok (.bipush (-9), 2) := dk_bipush (by decide +kernel)
theorem dX11_lag_45 : decode cX11_lag 45 = .ok (.goto 10, 3) := dk_goto (by decide +kernel)
theorem dX11_lag_48 : decode cX11_lag 48 = .ok (.iload_n 1, 1) := dk_iload_n_1 (by decide +kernel)
theorem dX11_lag_49 : decode cX11_lag 49 = .ok (.aload 4, 2) := dk_aload (by decide +kernel)
theorem dX11_lag_51 : decode cX11_lag 51 = .ok (.getfield 306, 3) := dk_getfield (by decide +kernel)
theorem dX11_lag_54 : decode cX11_lag 54 = .ok (.isub, 1) := dk_isub (by decide +kernel)
theorem dX11_lag_55 : decode cX11_lag 55 = .ok (.ireturn, 1) := dk_ireturn (by decide +kernel)
theorem dX11_fresh_0 : decode cX11_fresh 0 = .ok (.aload_n 0, 1) := dk_aload_n_0 (by decide +kernel)
theorem dX11_fresh_1 : decode cX11_fresh 1 = .ok (.getfield 19, 3) := dk_getfield (by decide +kernel)
theorem dX11_fresh_4 : decode cX11_fresh 4 = .ok (.iload_n 1, 1) := dk_iload_n_1 (by decide +kernel)
theorem dX11_fresh_5 : decode cX11_fresh 5 = .ok (.invokevirtual 192, 3) := dk_invokevirtual (by decide +kernel)
theorem dX11_fresh_8 : decode cX11_fresh 8 = .ok (.astore_n 2, 1) := dk_astore_n_2 (by decide +kernel)
theorem dX11_fresh_9 : decode cX11_fresh 9 = .ok (.aload_n 2, 1) := dk_aload_n_2 (by decide +kernel)
theorem dX11_fresh_10 : decode cX11_fresh 10 = .ok (.invokestatic 302, 3) := dk_invokestatic (by decide +kernel)
theorem dX11_fresh_13 : decode cX11_fresh 13 = .ok (.istore_n 3, 1) := dk_istore_n_3 (by decide +kernel)
theorem dX11_fresh_14 : decode cX11_fresh 14 = .ok (.iload_n 3, 1) := dk_iload_n_3 (by decide +kernel)
theorem dX11_fresh_15 : decode cX11_fresh 15 = .ok (.ifCond .ne 7, 3) := dk_ifCond_ne (by decide +kernel)
theorem dX11_fresh_18 : decode cX11_fresh 18 = .ok (.aload_n 2, 1) := dk_aload_n_2 (by decide +kernel)
theorem dX11_fresh_19 : decode cX11_fresh 19 = .ok (.ifnonnull 9, 3) := dk_ifnonnull (by decide +kernel)
theorem dX11_fresh_22 : decode cX11_fresh 22 = .ok (.aload_n 0, 1) := dk_aload_n_0 (by decide +kernel)
theorem dX11_fresh_23 : decode cX11_fresh 23 = .ok (.iload_n 3, 1) := dk_iload_n_3 (by decide +kernel)
theorem dX11_fresh_24 : decode cX11_fresh 24 = .ok (.invokevirtual 67, 3) := dk_invokevirtual (by decide +kernel)
theorem dX11_fresh_27 : decode cX11_fresh 27 = .ok (.ireturn, 1) := dk_ireturn (by decide +kernel)
theorem dX11_fresh_28 : decode cX11_fresh 28 = .ok (.aload_n 0, 1) := dk_aload_n_0 (by decide +kernel)
theorem dX11_fresh_29 : decode cX11_fresh 29 = .ok (.aload_n 2, 1) := dk_aload_n_2 (by decide +kernel)
theorem dX11_fresh_30 : decode cX11_fresh 30 = .ok (.getfield 183, 3) := dk_getfield (by decide +kernel)
theorem dX11_fresh_33 : decode cX11_fresh 33 = .ok (.invokevirtual 295, 3) := dk_invokevirtual (by decide +kernel)
theorem dX11_fresh_36 : decode cX11_fresh 36 = .ok (.astore 4, 2) := dk_astore (by decide +kernel)
theorem dX11_fresh_38 : decode cX11_fresh 38 = .ok (.aload 4, 2) := dk_aload (by decide +kernel)
theorem dX11_fresh_40 : decode cX11_fresh 40 = .ok (.ifnonnull 6, 3) := dk_ifnonnull (by decide +kernel)
theorem dX11_fresh_43 : decode cX11_fresh 43 = .ok (.bipush (-9), 2) := dk_bipush (by decide +kernel)
theorem dX11_fresh_45 : decode cX11_fresh 45 = .ok (.ireturn, 1) := dk_ireturn (by decide +kernel)
theorem dX11_fresh_46 : decode cX11_fresh 46 = .ok (.aload 4, 2) := dk_aload (by decide +kernel)
theorem dX11_fresh_48 : decode cX11_fresh 48 = .ok (.iload_n 1, 1) := dk_iload_n_1 (by decide +kernel)
theorem dX11_fresh_49 : decode cX11_fresh 49 = .ok (.invokevirtual 309, 3) := dk_invokevirtual (by decide +kernel)
theorem dX11_fresh_52 : decode cX11_fresh 52 = .ok (.ifCond .eq 7, 3) := dk_ifCond_eq (by decide +kernel)
theorem dX11_fresh_55 : decode cX11_fresh 55 = .ok (.iconst 1, 1) := dk_iconst_1 (by decide +kernel)
theorem dX11_fresh_56 : decode cX11_fresh 56 = .ok (.goto 4, 3) := dk_goto (by decide +kernel)
theorem dX11_fresh_59 : decode cX11_fresh 59 = .ok (.iconst 0, 1) := dk_iconst_0 (by decide +kernel)
theorem dX11_fresh_60 : decode cX11_fresh 60 = .ok (.ireturn, 1) := dk_ireturn (by decide +kernel)
theorem dX11_printed_0 : decode cX11_printed 0 = .ok (.aload_n 0, 1) := dk_aload_n_0 (by decide +kernel)
theorem dX11_printed_1 : decode cX11_printed 1 = .ok (.iload_n 1, 1) := dk_iload_n_1 (by decide +kernel)
theorem dX11_printed_2 : decode cX11_printed 2 = .ok (.invokevirtual 295, 3) := dk_invokevirtual (by decide +kernel)
theorem dX11_printed_5 : decode cX11_printed 5 = .ok (.astore_n 3, 1) := dk_astore_n_3 (by decide +kernel)
theorem dX11_printed_6 : decode cX11_printed 6 = .ok (.aload_n 3, 1) := dk_aload_n_3 (by decide +kernel)
theorem dX11_printed_7 : decode cX11_printed 7 = .ok (.ifnonnull 9, 3) := dk_ifnonnull (by decide +kernel)
theorem dX11_printed_10 : decode cX11_printed 10 = .ok (.aload_n 0, 1) := dk_aload_n_0 (by decide +kernel)
theorem dX11_printed_11 : decode cX11_printed 11 = .ok (.iconst (-1), 1) := dk_iconst_m1 (by decide +kernel)
theorem dX11_printed_12 : decode cX11_printed 12 = .ok (.invokevirtual 67, 3) := dk_invokevirtual (by decide +kernel)
theorem dX11_printed_15 : decode cX11_printed 15 = .ok (.ireturn, 1) := dk_ireturn (by decide +kernel)
theorem dX11_printed_16 : decode cX11_printed 16 = .ok (.aload_n 3, 1) := dk_aload_n_3 (by decide +kernel)
theorem dX11_printed_17 : decode cX11_printed 17 = .ok (.getfield 299, 3) := dk_getfield (by decide +kernel)
theorem dX11_printed_20 : decode cX11_printed 20 = .ok (.iconst (-1), 1) := dk_iconst_m1 (by decide +kernel)
theorem dX11_printed_21 : decode cX11_printed 21 = .ok (.if_icmp .eq 10, 3) := dk_if_icmp_eq (by decide +kernel)
theorem dX11_printed_24 : decode cX11_printed 24 = .ok (.aload_n 0, 1) := dk_aload_n_0 (by decide +kernel)
theorem dX11_printed_25 : decode cX11_printed 25 = .ok (.bipush (-3), 2) := dk_bipush (by decide +kernel)
theorem dX11_printed_27 : decode cX11_printed 27 = .ok (.invokevirtual 67, 3) := dk_invokevirtual (by decide +kernel)
theorem dX11_printed_30 : decode cX11_printed 30 = .ok (.ireturn, 1) := dk_ireturn (by decide +kernel)
theorem dX11_printed_31 : decode cX11_printed 31 = .ok (.iload_n 2, 1) := dk_iload_n_2 (by decide +kernel)
theorem dX11_printed_32 : decode cX11_printed 32 = .ok (.aload_n 0, 1) := dk_aload_n_0 (by decide +kernel)
theorem dX11_printed_33 : decode cX11_printed 33 = .ok (.getfield 19, 3) := dk_getfield (by decide +kernel)
theorem dX11_printed_36 : decode cX11_printed 36 = .ok (.getfield 71, 3) := dk_getfield (by decide +kernel)
theorem dX11_printed_39 : decode cX11_printed 39 = .ok (.if_icmp .ge 10, 3) := dk_if_icmp_ge (by decide +kernel)
theorem dX11_printed_42 : decode cX11_printed 42 = .ok (.aload_n 0, 1) := dk_aload_n_0 (by decide +kernel)
theorem dX11_printed_43 : decode cX11_printed 43 = .ok (.bipush (-4), 2) := dk_bipush (by decide +kernel)
theorem dX11_printed_45 : decode cX11_printed 45 = .ok (.invokevirtual 67, 3) := dk_invokevirtual (by decide +kernel)
theorem dX11_printed_48 : decode cX11_printed 48 = .ok (.ireturn, 1) := dk_ireturn (by decide +kernel)
theorem dX11_printed_49 : decode cX11_printed 49 = .ok (.iload_n 2, 1) := dk_iload_n_2 (by decide +kernel)
theorem dX11_printed_50 : decode cX11_printed 50 = .ok (.sipush 9999, 3) := dk_sipush (by decide +kernel)
theorem dX11_printed_53 : decode cX11_printed 53 = .ok (.if_icmp .le 10, 3) := dk_if_icmp_le (by decide +kernel)
theorem dX11_printed_56 : decode cX11_printed 56 = .ok (.aload_n 0, 1) := dk_aload_n_0 (by decide +kernel)
theorem dX11_printed_57 : decode cX11_printed 57 = .ok (.bipush (-6), 2) := dk_bipush (by decide +kernel)
theorem dX11_printed_59 : decode cX11_printed 59 = .ok (.invokevirtual 67, 3) := dk_invokevirtual (by decide +kernel)
theorem dX11_printed_62 : decode cX11_printed 62 = .ok (.ireturn, 1) := dk_ireturn (by decide +kernel)
theorem dX11_printed_63 : decode cX11_printed 63 = .ok (.aload_n 3, 1) := dk_aload_n_3 (by decide +kernel)
theorem dX11_printed_64 : decode cX11_printed 64 = .ok (.iload_n 2, 1) := dk_iload_n_2 (by decide +kernel)
theorem dX11_printed_65 : decode cX11_printed 65 = .ok (.putfield 299, 3) := dk_putfield (by decide +kernel)
theorem dX11_printed_68 : decode cX11_printed 68 = .ok (.iconst 1, 1) := dk_iconst_1 (by decide +kernel)
theorem dX11_printed_69 : decode cX11_printed 69 = .ok (.ireturn, 1) := dk_ireturn (by decide +kernel)
theorem dX11_sold_0 : decode cX11_sold 0 = .ok (.iload_n 2, 1) := dk_iload_n_2 (by decide +kernel)
theorem dX11_sold_1 : decode cX11_sold 1 = .ok (.ifCond .ge 10, 3) := dk_ifCond_ge (by decide +kernel)
theorem dX11_sold_4 : decode cX11_sold 4 = .ok (.aload_n 0, 1) := dk_aload_n_0 (by decide +kernel)
theorem dX11_sold_5 : decode cX11_sold 5 = .ok (.bipush (-4), 2) := dk_bipush (by decide +kernel)
theorem dX11_sold_7 : decode cX11_sold 7 = .ok (.invokevirtual 67, 3) := dk_invokevirtual (by decide +kernel)
theorem dX11_sold_10 : decode cX11_sold 10 = .ok (.ireturn, 1) := dk_ireturn (by decide +kernel)
theorem dX11_sold_11 : decode cX11_sold 11 = .ok (.iload_n 2, 1) := dk_iload_n_2 (by decide +kernel)
theorem dX11_sold_12 : decode cX11_sold 12 = .ok (.iconst 5, 1) := dk_iconst_5 (by decide +kernel)
theorem dX11_sold_13 : decode cX11_sold 13 = .ok (.if_icmp .lt 10, 3) := dk_if_icmp_lt (by decide +kernel)
theorem dX11_sold_16 : decode cX11_sold 16 = .ok (.aload_n 0, 1) := dk_aload_n_0 (by decide +kernel)
theorem dX11_sold_17 : decode cX11_sold 17 = .ok (.bipush (-6), 2) := dk_bipush (by decide +kernel)
theorem dX11_sold_19 : decode cX11_sold 19 = .ok (.invokevirtual 67, 3) := dk_invokevirtual (by decide +kernel)
theorem dX11_sold_22 : decode cX11_sold 22 = .ok (.ireturn, 1) := dk_ireturn (by decide +kernel)
theorem dX11_sold_23 : decode cX11_sold 23 = .ok (.iload_n 1, 1) := dk_iload_n_1 (by decide +kernel)
theorem dX11_sold_24 : decode cX11_sold 24 = .ok (.ifCond .lt 9, 3) := dk_ifCond_lt (by decide +kernel)
theorem dX11_sold_27 : decode cX11_sold 27 = .ok (.iload_n 1, 1) := dk_iload_n_1 (by decide +kernel)
theorem dX11_sold_28 : decode cX11_sold 28 = .ok (.bipush 40, 2) := dk_bipush (by decide +kernel)
theorem dX11_sold_30 : decode cX11_sold 30 = .ok (.if_icmp .lt 6, 3) := dk_if_icmp_lt (by decide +kernel)
theorem dX11_sold_33 : decode cX11_sold 33 = .ok (.bipush (-9), 2) := dk_bipush (by decide +kernel)
theorem dX11_sold_35 : decode cX11_sold 35 = .ok (.ireturn, 1) := dk_ireturn (by decide +kernel)
theorem dX11_sold_36 : decode cX11_sold 36 = .ok (.iload_n 1, 1) := dk_iload_n_1 (by decide +kernel)
theorem dX11_sold_37 : decode cX11_sold 37 = .ok (.iconst 5, 1) := dk_iconst_5 (by decide +kernel)
theorem dX11_sold_38 : decode cX11_sold 38 = .ok (.imul, 1) := dk_imul (by decide +kernel)
theorem dX11_sold_39 : decode cX11_sold 39 = .ok (.iload_n 2, 1) := dk_iload_n_2 (by decide +kernel)
theorem dX11_sold_40 : decode cX11_sold 40 = .ok (.iadd, 1) := dk_iadd (by decide +kernel)
theorem dX11_sold_41 : decode cX11_sold 41 = .ok (.istore_n 3, 1) := dk_istore_n_3 (by decide +kernel)
theorem dX11_sold_42 : decode cX11_sold 42 = .ok (.iload_n 3, 1) := dk_iload_n_3 (by decide +kernel)
theorem dX11_sold_43 : decode cX11_sold 43 = .ok (.aload_n 0, 1) := dk_aload_n_0 (by decide +kernel)
theorem dX11_sold_44 : decode cX11_sold 44 = .ok (.getfield 312, 3) := dk_getfield (by decide +kernel)
theorem dX11_sold_47 : decode cX11_sold 47 = .ok (.if_icmp .ge 21, 3) := dk_if_icmp_ge (by decide +kernel)
theorem dX11_sold_50 : decode cX11_sold 50 = .ok (.iload_n 3, 1) := dk_iload_n_3 (by decide +kernel)
theorem dX11_sold_51 : decode cX11_sold 51 = .ok (.aload_n 0, 1) := dk_aload_n_0 (by decide +kernel)
theorem dX11_sold_52 : decode cX11_sold 52 = .ok (.getfield 50, 3) := dk_getfield (by decide +kernel)
theorem dX11_sold_55 : decode cX11_sold 55 = .ok (.arraylength, 1) := dk_arraylength (by decide +kernel)
theorem dX11_sold_56 : decode cX11_sold 56 = .ok (.if_icmp .ge 12, 3) := dk_if_icmp_ge (by decide +kernel)
theorem dX11_sold_59 : decode cX11_sold 59 = .ok (.aload_n 0, 1) := dk_aload_n_0 (by decide +kernel)
theorem dX11_sold_60 : decode cX11_sold 60 = .ok (.getfield 50, 3) := dk_getfield (by decide +kernel)
theorem dX11_sold_63 : decode cX11_sold 63 = .ok (.iload_n 3, 1) := dk_iload_n_3 (by decide +kernel)
theorem dX11_sold_64 : decode cX11_sold 64 = .ok (.iaload, 1) := dk_iaload (by decide +kernel)
theorem dX11_sold_65 : decode cX11_sold 65 = .ok (.goto 5, 3) := dk_goto (by decide +kernel)
theorem dX11_sold_68 : decode cX11_sold 68 = .ok (.bipush (-9), 2) := dk_bipush (by decide +kernel)
theorem dX11_sold_70 : decode cX11_sold 70 = .ok (.ireturn, 1) := dk_ireturn (by decide +kernel)
theorem dX11_boost_0 : decode cX11_boost 0 = .ok (.aload_n 0, 1) := dk_aload_n_0 (by decide +kernel)
theorem dX11_boost_1 : decode cX11_boost 1 = .ok (.getfield 10, 3) := dk_getfield (by decide +kernel)
theorem dX11_boost_4 : decode cX11_boost 4 = .ok (.iload_n 1, 1) := dk_iload_n_1 (by decide +kernel)
theorem dX11_boost_5 : decode cX11_boost 5 = .ok (.invokevirtual 86, 3) := dk_invokevirtual (by decide +kernel)
theorem dX11_boost_8 : decode cX11_boost 8 = .ok (.astore_n 3, 1) := dk_astore_n_3 (by decide +kernel)
theorem dX11_boost_9 : decode cX11_boost 9 = .ok (.aload_n 3, 1) := dk_aload_n_3 (by decide +kernel)
theorem dX11_boost_10 : decode cX11_boost 10 = .ok (.ifnonnull 9, 3) := dk_ifnonnull (by decide +kernel)
theorem dX11_boost_13 : decode cX11_boost 13 = .ok (.aload_n 0, 1) := dk_aload_n_0 (by decide +kernel)
theorem dX11_boost_14 : decode cX11_boost 14 = .ok (.iconst (-1), 1) := dk_iconst_m1 (by decide +kernel)
theorem dX11_boost_15 : decode cX11_boost 15 = .ok (.invokevirtual 67, 3) := dk_invokevirtual (by decide +kernel)
theorem dX11_boost_18 : decode cX11_boost 18 = .ok (.ireturn, 1) := dk_ireturn (by decide +kernel)
theorem dX11_boost_19 : decode cX11_boost 19 = .ok (.iload_n 2, 1) := dk_iload_n_2 (by decide +kernel)
theorem dX11_boost_20 : decode cX11_boost 20 = .ok (.ifCond .ge 10, 3) := dk_ifCond_ge (by decide +kernel)
theorem dX11_boost_23 : decode cX11_boost 23 = .ok (.aload_n 0, 1) := dk_aload_n_0 (by decide +kernel)
theorem dX11_boost_24 : decode cX11_boost 24 = .ok (.bipush (-4), 2) := dk_bipush (by decide +kernel)
theorem dX11_boost_26 : decode cX11_boost 26 = .ok (.invokevirtual 67, 3) := dk_invokevirtual (by decide +kernel)
theorem dX11_boost_29 : decode cX11_boost 29 = .ok (.ireturn, 1) := dk_ireturn (by decide +kernel)
theorem dX11_boost_30 : decode cX11_boost 30 = .ok (.iload_n 2, 1) := dk_iload_n_2 (by decide +kernel)
theorem dX11_boost_31 : decode cX11_boost 31 = .ok (.bipush 99, 2) := dk_bipush (by decide +kernel)
theorem dX11_boost_33 : decode cX11_boost 33 = .ok (.if_icmp .le 10, 3) := dk_if_icmp_le (by decide +kernel)
theorem dX11_boost_36 : decode cX11_boost 36 = .ok (.aload_n 0, 1) := dk_aload_n_0 (by decide +kernel)
theorem dX11_boost_37 : decode cX11_boost 37 = .ok (.bipush (-6), 2) := dk_bipush (by decide +kernel)
theorem dX11_boost_39 : decode cX11_boost 39 = .ok (.invokevirtual 67, 3) := dk_invokevirtual (by decide +kernel)
theorem dX11_boost_42 : decode cX11_boost 42 = .ok (.ireturn, 1) := dk_ireturn (by decide +kernel)
theorem dX11_boost_43 : decode cX11_boost 43 = .ok (.aload_n 3, 1) := dk_aload_n_3 (by decide +kernel)
theorem dX11_boost_44 : decode cX11_boost 44 = .ok (.getfield 106, 3) := dk_getfield (by decide +kernel)
theorem dX11_boost_47 : decode cX11_boost 47 = .ok (.istore 4, 2) := dk_istore (by decide +kernel)
theorem dX11_boost_49 : decode cX11_boost 49 = .ok (.aload_n 3, 1) := dk_aload_n_3 (by decide +kernel)
theorem dX11_boost_50 : decode cX11_boost 50 = .ok (.iload_n 2, 1) := dk_iload_n_2 (by decide +kernel)
theorem dX11_boost_51 : decode cX11_boost 51 = .ok (.putfield 106, 3) := dk_putfield (by decide +kernel)
theorem dX11_boost_54 : decode cX11_boost 54 = .ok (.iload 4, 2) := dk_iload (by decide +kernel)
theorem dX11_boost_56 : decode cX11_boost 56 = .ok (.ireturn, 1) := dk_ireturn (by decide +kernel)
theorem dX11_isKnown_0 : decode cX11_isKnown 0 = .ok (.iload_n 1, 1) := dk_iload_n_1 (by decide +kernel)
theorem dX11_isKnown_1 : decode cX11_isKnown 1 = .ok (.ifCond .ne 22, 3) := dk_ifCond_ne (by decide +kernel)
theorem dX11_isKnown_4 : decode cX11_isKnown 4 = .ok (.iload_n 2, 1) := dk_iload_n_2 (by decide +kernel)
theorem dX11_isKnown_5 : decode cX11_isKnown 5 = .ok (.iconst (-1), 1) := dk_iconst_m1 (by decide +kernel)
theorem dX11_isKnown_6 : decode cX11_isKnown 6 = .ok (.if_icmp .eq 11, 3) := dk_if_icmp_eq (by decide +kernel)
theorem dX11_isKnown_9 : decode cX11_isKnown 9 = .ok (.aload_n 0, 1) := dk_aload_n_0 (by decide +kernel)
theorem dX11_isKnown_10 : decode cX11_isKnown 10 = .ok (.iload_n 2, 1) := dk_iload_n_2 (by decide +kernel)
theorem dX11_isKnown_11 : decode cX11_isKnown 11 = .ok (.invokevirtual 295, 3) := dk_invokevirtual (by decide +kernel)
theorem dX11_isKnown_14 : decode cX11_isKnown 14 = .ok (.ifnull 7, 3) := dk_ifnull (by decide +kernel)
theorem dX11_isKnown_17 : decode cX11_isKnown 17 = .ok (.iconst 1, 1) := dk_iconst_1 (by decide +kernel)
theorem dX11_isKnown_18 : decode cX11_isKnown 18 = .ok (.goto 4, 3) := dk_goto (by decide +kernel)
theorem dX11_isKnown_21 : decode cX11_isKnown 21 = .ok (.iconst 0, 1) := dk_iconst_0 (by decide +kernel)
theorem dX11_isKnown_22 : decode cX11_isKnown 22 = .ok (.ireturn, 1) := dk_ireturn (by decide +kernel)
theorem dX11_isKnown_23 : decode cX11_isKnown 23 = .ok (.iload_n 1, 1) := dk_iload_n_1 (by decide +kernel)
theorem dX11_isKnown_24 : decode cX11_isKnown 24 = .ok (.invokestatic 180, 3) := dk_invokestatic (by decide +kernel)
theorem dX11_isKnown_27 : decode cX11_isKnown 27 = .ok (.ifCond .eq 14, 3) := dk_ifCond_eq (by decide +kernel)
theorem dX11_isKnown_30 : decode cX11_isKnown 30 = .ok (.aload_n 0, 1) := dk_aload_n_0 (by decide +kernel)
theorem dX11_isKnown_31 : decode cX11_isKnown 31 = .ok (.getfield 19, 3) := dk_getfield (by decide +kernel)
theorem dX11_isKnown_34 : decode cX11_isKnown 34 = .ok (.iload_n 2, 1) := dk_iload_n_2 (by decide +kernel)
theorem dX11_isKnown_35 : decode cX11_isKnown 35 = .ok (.invokevirtual 192, 3) := dk_invokevirtual (by decide +kernel)
theorem dX11_isKnown_38 : decode cX11_isKnown 38 = .ok (.ifnull 7, 3) := dk_ifnull (by decide +kernel)
theorem dX11_isKnown_41 : decode cX11_isKnown 41 = .ok (.iconst 1, 1) := dk_iconst_1 (by decide +kernel)
theorem dX11_isKnown_42 : decode cX11_isKnown 42 = .ok (.goto 4, 3) := dk_goto (by decide +kernel)
theorem dX11_isKnown_45 : decode cX11_isKnown 45 = .ok (.iconst 0, 1) := dk_iconst_0 (by decide +kernel)
theorem dX11_isKnown_46 : decode cX11_isKnown 46 = .ok (.ireturn, 1) := dk_ireturn (by decide +kernel)
theorem dX11_isOfItsKind_0 : decode cX11_isOfItsKind 0 = .ok (.iload_n 1, 1) := dk_iload_n_1 (by decide +kernel)
theorem dX11_isOfItsKind_1 : decode cX11_isOfItsKind 1 = .ok (.iconst 1, 1) := dk_iconst_1 (by decide +kernel)
theorem dX11_isOfItsKind_2 : decode cX11_isOfItsKind 2 = .ok (.if_icmp .eq 10, 3) := dk_if_icmp_eq (by decide +kernel)
theorem dX11_isOfItsKind_5 : decode cX11_isOfItsKind 5 = .ok (.iload_n 1, 1) := dk_iload_n_1 (by decide +kernel)
theorem dX11_isOfItsKind_6 : decode cX11_isOfItsKind 6 = .ok (.iconst 5, 1) := dk_iconst_5 (by decide +kernel)
theorem dX11_isOfItsKind_7 : decode cX11_isOfItsKind 7 = .ok (.if_icmp .eq 5, 3) := dk_if_icmp_eq (by decide +kernel)
theorem dX11_isOfItsKind_10 : decode cX11_isOfItsKind 10 = .ok (.iconst 1, 1) := dk_iconst_1 (by decide +kernel)
theorem dX11_isOfItsKind_11 : decode cX11_isOfItsKind 11 = .ok (.ireturn, 1) := dk_ireturn (by decide +kernel)
theorem dX11_isOfItsKind_12 : decode cX11_isOfItsKind 12 = .ok (.aload_n 0, 1) := dk_aload_n_0 (by decide +kernel)
theorem dX11_isOfItsKind_13 : decode cX11_isOfItsKind 13 = .ok (.getfield 19, 3) := dk_getfield (by decide +kernel)
theorem dX11_isOfItsKind_16 : decode cX11_isOfItsKind 16 = .ok (.iload_n 2, 1) := dk_iload_n_2 (by decide +kernel)
theorem dX11_isOfItsKind_17 : decode cX11_isOfItsKind 17 = .ok (.invokevirtual 192, 3) := dk_invokevirtual (by decide +kernel)
theorem dX11_isOfItsKind_20 : decode cX11_isOfItsKind 20 = .ok (.astore_n 3, 1) := dk_astore_n_3 (by decide +kernel)
theorem dX11_isOfItsKind_21 : decode cX11_isOfItsKind 21 = .ok (.aload_n 3, 1) := dk_aload_n_3 (by decide +kernel)
theorem dX11_isOfItsKind_22 : decode cX11_isOfItsKind 22 = .ok (.ifnonnull 5, 3) := dk_ifnonnull (by decide +kernel)
theorem dX11_isOfItsKind_25 : decode cX11_isOfItsKind 25 = .ok (.iconst 0, 1) := dk_iconst_0 (by decide +kernel)
theorem dX11_isOfItsKind_26 : decode cX11_isOfItsKind 26 = .ok (.ireturn, 1) := dk_ireturn (by decide +kernel)
theorem dX11_isOfItsKind_27 : decode cX11_isOfItsKind 27 = .ok (.aload_n 3, 1) := dk_aload_n_3 (by decide +kernel)
theorem dX11_isOfItsKind_28 : decode cX11_isOfItsKind 28 = .ok (.getfield 196, 3) := dk_getfield (by decide +kernel)
theorem dX11_isOfItsKind_31 : decode cX11_isOfItsKind 31 = .ok (.ifCond .ne 5, 3) := dk_ifCond_ne (by decide +kernel)
theorem dX11_isOfItsKind_34 : decode cX11_isOfItsKind 34 = .ok (.iconst 1, 1) := dk_iconst_1 (by decide +kernel)
theorem dX11_isOfItsKind_35 : decode cX11_isOfItsKind 35 = .ok (.ireturn, 1) := dk_ireturn (by decide +kernel)
theorem dX11_isOfItsKind_36 : decode cX11_isOfItsKind 36 = .ok (.iload_n 1, 1) := dk_iload_n_1 (by decide +kernel)
theorem dX11_isOfItsKind_37 : decode cX11_isOfItsKind 37 = .ok (.iconst 1, 1) := dk_iconst_1 (by decide +kernel)
theorem dX11_isOfItsKind_38 : decode cX11_isOfItsKind 38 = .ok (.if_icmp .ne 23, 3) := dk_if_icmp_ne (by decide +kernel)
theorem dX11_isOfItsKind_41 : decode cX11_isOfItsKind 41 = .ok (.aload_n 3, 1) := dk_aload_n_3 (by decide +kernel)
theorem dX11_isOfItsKind_42 : decode cX11_isOfItsKind 42 = .ok (.getfield 196, 3) := dk_getfield (by decide +kernel)
theorem dX11_isOfItsKind_45 : decode cX11_isOfItsKind 45 = .ok (.iconst 3, 1) := dk_iconst_3 (by decide +kernel)
theorem dX11_isOfItsKind_46 : decode cX11_isOfItsKind 46 = .ok (.if_icmp .eq 11, 3) := dk_if_icmp_eq (by decide +kernel)
theorem dX11_isOfItsKind_49 : decode cX11_isOfItsKind 49 = .ok (.aload_n 3, 1) := dk_aload_n_3 (by decide +kernel)
theorem dX11_isOfItsKind_50 : decode cX11_isOfItsKind 50 = .ok (.getfield 196, 3) := dk_getfield (by decide +kernel)
theorem dX11_isOfItsKind_53 : decode cX11_isOfItsKind 53 = .ok (.iconst 5, 1) := dk_iconst_5 (by decide +kernel)
theorem dX11_isOfItsKind_54 : decode cX11_isOfItsKind 54 = .ok (.if_icmp .ne 7, 3) := dk_if_icmp_ne (by decide +kernel)
theorem dX11_isOfItsKind_57 : decode cX11_isOfItsKind 57 = .ok (.iconst 1, 1) := dk_iconst_1 (by decide +kernel)
theorem dX11_isOfItsKind_58 : decode cX11_isOfItsKind 58 = .ok (.goto 4, 3) := dk_goto (by decide +kernel)
theorem dX11_isOfItsKind_61 : decode cX11_isOfItsKind 61 = .ok (.iconst 0, 1) := dk_iconst_0 (by decide +kernel)
theorem dX11_isOfItsKind_62 : decode cX11_isOfItsKind 62 = .ok (.ireturn, 1) := dk_ireturn (by decide +kernel)
theorem dX11_mayRead_0 : decode cX11_mayRead 0 = .ok (.aload_n 0, 1) := dk_aload_n_0 (by decide +kernel)
theorem dX11_mayRead_1 : decode cX11_mayRead 1 = .ok (.iload_n 1, 1) := dk_iload_n_1 (by decide +kernel)
theorem dX11_mayRead_2 : decode cX11_mayRead 2 = .ok (.invokevirtual 154, 3) := dk_invokevirtual (by decide +kernel)
theorem dX11_mayRead_5 : decode cX11_mayRead 5 = .ok (.astore_n 2, 1) := dk_astore_n_2 (by decide +kernel)
theorem dX11_mayRead_6 : decode cX11_mayRead 6 = .ok (.aload_n 2, 1) := dk_aload_n_2 (by decide +kernel)
theorem dX11_mayRead_7 : decode cX11_mayRead 7 = .ok (.ifnonnull 9, 3) := dk_ifnonnull (by decide +kernel)
theorem dX11_mayRead_10 : decode cX11_mayRead 10 = .ok (.aload_n 0, 1) := dk_aload_n_0 (by decide +kernel)
theorem dX11_mayRead_11 : decode cX11_mayRead 11 = .ok (.iconst (-1), 1) := dk_iconst_m1 (by decide +kernel)
theorem dX11_mayRead_12 : decode cX11_mayRead 12 = .ok (.invokevirtual 67, 3) := dk_invokevirtual (by decide +kernel)
theorem dX11_mayRead_15 : decode cX11_mayRead 15 = .ok (.ireturn, 1) := dk_ireturn (by decide +kernel)
theorem dX11_mayRead_16 : decode cX11_mayRead 16 = .ok (.aload_n 2, 1) := dk_aload_n_2 (by decide +kernel)
theorem dX11_mayRead_17 : decode cX11_mayRead 17 = .ok (.aload_n 0, 1) := dk_aload_n_0 (by decide +kernel)
theorem dX11_mayRead_18 : decode cX11_mayRead 18 = .ok (.getfield 19, 3) := dk_getfield (by decide +kernel)
theorem dX11_mayRead_21 : decode cX11_mayRead 21 = .ok (.getfield 71, 3) := dk_getfield (by decide +kernel)
theorem dX11_mayRead_24 : decode cX11_mayRead 24 = .ok (.aload_n 0, 1) := dk_aload_n_0 (by decide +kernel)
theorem dX11_mayRead_25 : decode cX11_mayRead 25 = .ok (.getfield 60, 3) := dk_getfield (by decide +kernel)
theorem dX11_mayRead_28 : decode cX11_mayRead 28 = .ok (.aload_n 0, 1) := dk_aload_n_0 (by decide +kernel)
theorem dX11_mayRead_29 : decode cX11_mayRead 29 = .ok (.getfield 64, 3) := dk_getfield (by decide +kernel)
theorem dX11_mayRead_32 : decode cX11_mayRead 32 = .ok (.invokevirtual 158, 3) := dk_invokevirtual (by decide +kernel)
theorem dX11_mayRead_35 : decode cX11_mayRead 35 = .ok (.ifCond .eq 7, 3) := dk_ifCond_eq (by decide +kernel)
theorem dX11_mayRead_38 : decode cX11_mayRead 38 = .ok (.iconst 1, 1) := dk_iconst_1 (by decide +kernel)
theorem dX11_mayRead_39 : decode cX11_mayRead 39 = .ok (.goto 4, 3) := dk_goto (by decide +kernel)
theorem dX11_mayRead_42 : decode cX11_mayRead 42 = .ok (.iconst 0, 1) := dk_iconst_0 (by decide +kernel)
theorem dX11_mayRead_43 : decode cX11_mayRead 43 = .ok (.ireturn, 1) := dk_ireturn (by decide +kernel)
theorem dX11_markRead_0 : decode cX11_markRead 0 = .ok (.iload_n 1, 1) := dk_iload_n_1 (by decide +kernel)
theorem dX11_markRead_1 : decode cX11_markRead 1 = .ok (.ifCond .eq 4, 3) := dk_ifCond_eq (by decide +kernel)
theorem dX11_markRead_4 : decode cX11_markRead 4 = .ok (.return_, 1) := dk_return_ (by decide +kernel)
theorem dX11_markRead_5 : decode cX11_markRead 5 = .ok (.aload_n 0, 1) := dk_aload_n_0 (by decide +kernel)
theorem dX11_markRead_6 : decode cX11_markRead 6 = .ok (.iload_n 2, 1) := dk_iload_n_2 (by decide +kernel)
theorem dX11_markRead_7 : decode cX11_markRead 7 = .ok (.invokevirtual 295, 3) := dk_invokevirtual (by decide +kernel)
theorem dX11_markRead_10 : decode cX11_markRead 10 = .ok (.astore 4, 2) := dk_astore (by decide +kernel)
theorem dX11_markRead_12 : decode cX11_markRead 12 = .ok (.aload 4, 2) := dk_aload (by decide +kernel)
theorem dX11_markRead_14 : decode cX11_markRead 14 = .ok (.ifnull 18, 3) := dk_ifnull (by decide +kernel)
theorem dX11_markRead_17 : decode cX11_markRead 17 = .ok (.aload 4, 2) := dk_aload (by decide +kernel)
theorem dX11_markRead_19 : decode cX11_markRead 19 = .ok (.getfield 338, 3) := dk_getfield (by decide +kernel)
theorem dX11_markRead_22 : decode cX11_markRead 22 = .ok (.iconst (-1), 1) := dk_iconst_m1 (by decide +kernel)
theorem dX11_markRead_23 : decode cX11_markRead 23 = .ok (.if_icmp .ne 9, 3) := dk_if_icmp_ne (by decide +kernel)
theorem dX11_markRead_26 : decode cX11_markRead 26 = .ok (.aload 4, 2) := dk_aload (by decide +kernel)
theorem dX11_markRead_28 : decode cX11_markRead 28 = .ok (.iload_n 3, 1) := dk_iload_n_3 (by decide +kernel)
theorem dX11_markRead_29 : decode cX11_markRead 29 = .ok (.putfield 338, 3) := dk_putfield (by decide +kernel)
theorem dX11_markRead_32 : decode cX11_markRead 32 = .ok (.return_, 1) := dk_return_ (by decide +kernel)
set_option maxHeartbeats 4000000 in
set_option maxRecDepth 100000 in
theorem c_X11_hears (l : Launch) (g : gG) (J : Nat → Nat → Int32) (L : Nat → Nat → Int64) (I : Nat → Nat → Nat → Int32) (P : Nat → Nat → Nat → Option Nat) (E : Nat → Option Nat) (N : Nat → Nat) (dy : List (Nat × Nat)) (sz : Nat) (a0 : Int32) (a1 : Int32) (hwf : WXF g J P E N dy) : Met l yX11_hears (WS yX11_hears cX11_hears 5 (some .int)) (RM (5) 0 0) (PC g [.ref (g.2.2.1 12), .int a0, .int a1] ((J, L, I, P, E, N), sgX g ++ dy) sz) (va_Qi (fun (r : Int32) (u : (Nat → Nat → Int32) × (Nat → Nat → Nat → Int32)) => True) (fun u t => at_ g (FR g ((J, L, I, P, E, N), sgX g ++ dy) sz) (((hv J [42] [] u.1), L, (hv I [] [(6, 6), (6, 7)] u.2), P, E, N), sgX g ++ dy) t) (FR g ((J, L, I, P, E, N), sgX g ++ dy) sz)) 0 0 (FR g ((J, L, I, P, E, N), sgX g ++ dy) sz) := by
  refine ent (by decide +kernel) (Nat.le_of_ble_eq_true rfl) ?_
  intro p e s m below meth c ls hsz C hW hr hlocks hname hl
  generalize FR g ((J, L, I, P, E, N), sgX g ++ dy) sz = A at C hW ⊢
  have hx := C.1.1
  have hb := C.1.2.1
  have hts := C.1.2.2.2.2
  have hl : lv_has ls 5 [(0, .ref (g.2.2.1 12)), (1, .int a0), (2, .int a1)] := hl
  obtain ⟨H, hH⟩ : ∃ H : Heap, H = s.heap := ⟨_, rfl⟩
  obtain ⟨locs, hlocs⟩ : ∃ q : List Loc, q = [] := ⟨_, rfl⟩
  have hW : WB g A s.heap H locs (J, L, I, P, E, N) (sgX g ++ dy) := by rw [hH, hlocs]; exact hW
  refine start_ hH hlocs ?_
  refine lv_aload_n hx hb dX11_hears_0 rfl (lv_at hl 0 rfl) ?_
  refine rg_12_0 C hW (mx_ rfl) tw_364 dX11_hears_1 ?_
  refine lv_iload_n hx hb dX11_hears_4 rfl (lv_at hl 1 rfl) ?_
  refine cq_ C hW (runV (x := (g.2.2.1 4)) (As := [.int a0]) (rest := []) (T := ((J, L, I, P, E, N), sgX g ++ dy)) C hW (c_X3_homeOf l g J L I P E N dy H.size a0 hwf) mi_X3_homeOf tw_576 (recv_ (T := ((J, L, I, P, E, N), sgX g ++ dy)) C hW (mx_ rfl) rfl rfl) ⟨rfl, rfl, Nat.le_of_ble_eq_true rfl, Nat.le_of_ble_eq_true rfl⟩ rfl hl.1 rfl (Nat.le_of_ble_eq_true rfl) dX11_hears_5 ⟨Nat.le_of_ble_eq_true rfl, Nat.le_of_ble_eq_true rfl⟩) (fun q1 u1 H locs hp1 hW => ?_)
  have hq1 : ((q1 = none ∧ (¬ (0 ≤ a0.toInt ∧ a0.toInt < (J 22 2).toInt))) ∨ (q1 = some (elt E P 22 a0.toNatClampNeg) ∧ (0 ≤ a0.toInt ∧ a0.toInt < (J 22 2).toInt))) := hp1
  clear hp1
  have hW : WB g A s.heap H locs (J, L, I, P, E, N) (sgX g ++ dy) := hW
  rcases hq1 with ⟨rfl, hn1⟩ | ⟨rfl, hs1⟩
  · refine lv_asv (v' := .null) rfl ?_
    refine lv_astore_nN (lv' := [(3, .null), (0, .ref (g.2.2.1 12)), (1, .int a0), (2, .int a1)]) hx hb dX11_hears_8 rfl hl (by decide) rfl (fun ls hl => ?_)
    refine lv_aload_nN hx hb dX11_hears_9 rfl (lv_at hl 0 rfl) ?_
    refine lv_ifnonnullN hx hb dX11_hears_10 ?_
    refine lv_aload_n hx hb dX11_hears_13 rfl (lv_at hl 1 rfl) ?_
    refine lv_iconst (v := (-1)) hx hb dX11_hears_14 (by decide) ?_
    refine ci_ C hW (runV (x := (g.2.2.1 12)) (As := [.int (-1)]) (rest := []) (T := ((J, L, I, P, E, N), sgX g ++ dy)) C hW (c_X11_refuse l g J L I P E N dy H.size (-1) hwf) mi_X11_refuse tw_411 (recv_ (T := ((J, L, I, P, E, N), sgX g ++ dy)) C hW (mx_ rfl) rfl rfl) ⟨rfl, rfl, Nat.le_of_ble_eq_true rfl, Nat.le_of_ble_eq_true rfl⟩ rfl hl.1 rfl (Nat.le_of_ble_eq_true rfl) dX11_hears_15 ⟨Nat.le_of_ble_eq_true rfl, Nat.le_of_ble_eq_true rfl⟩) (fun r2 u2 H locs hp2 hW => ?_)
    have hc2 : ((r2 = (-1))) := hp2
    clear hp2
    have hr2 : r2.toInt = (-1) := by rw [hc2]; exact kn1
    have hW : WB g A s.heap H locs ((hv J [42] [] u2), L, I, P, E, N) (sgX g ++ dy) := hW
    have hWr : WB g A s.heap H locs ((hv J [42] [] (hv J [42] [] u2)), L, (hv I [] [(6, 6), (6, 7)] I), P, E, N) (sgX g ++ dy) := by
      rw [← ag_hvE (J := J) (R := [42]) (F := []) (ag_hv rfl rfl ag_rf)]
      rw [← ag_hvE (J := I) (R := []) (F := [(6, 6), (6, 7)]) ag_rf]
      exact hW
    exact end_i C hr hlocks ((hv J [42] [] u2), I) hWr trivial dX11_hears_18
  · skip
    obtain ⟨o1, ho1⟩ : ∃ z : Nat, z = elt E P 22 a0.toNatClampNeg := ⟨_, rfl⟩
    have hm1 : (2, o1) ∈ dy := by rw [ho1]; exact (lw_mem (er := 2) hwf.1.2.2.1 (show (a0.toNatClampNeg : Int) < (J 22 2).toInt from by have := tcl a0; omega))
    refine lv_asv (v' := .ref o1) (by rw [ho1]; rfl) ?_
    refine lv_astore_n (lv' := [(3, .ref o1), (0, .ref (g.2.2.1 12)), (1, .int a0), (2, .int a1)]) hx hb dX11_hears_8 rfl hl (by decide) rfl (fun ls hl => ?_)
    refine lv_aload_n hx hb dX11_hears_9 rfl (lv_at hl 0 rfl) ?_
    refine lv_ifnonnull (tgt := 19) hx hb dX11_hears_10 (by decide) ?_
    refine lv_iload_n hx hb dX11_hears_19 rfl (lv_at hl 3 rfl) ?_
    refine ci_ C hW (runS (As := [.int a1]) (rest := []) (T := ((J, L, I, P, E, N), sgX g ++ dy)) C hW (c_X11_voiceRefusal l g J L I P E N dy H.size a1 ) mi_X11_voiceRefusal tw_524 ⟨rfl, rfl, Nat.le_of_ble_eq_true rfl, Nat.le_of_ble_eq_true rfl⟩ rfl hl.1 rfl (Nat.le_of_ble_eq_true rfl) dX11_hears_20 ⟨Nat.le_of_ble_eq_true rfl, Nat.le_of_ble_eq_true rfl⟩) (fun r3 u3 H locs hp3 hW => ?_)
    have hc3 : ((r3.toInt = (-4) ∧ (a1.toInt < 1)) ∨ (r3.toInt = (-6) ∧ (999 < a1.toInt)) ∨ (r3.toInt = 0 ∧ (1 ≤ a1.toInt ∧ a1.toInt ≤ 999))) := hp3
    clear hp3
    have hW : WB g A s.heap H locs (J, L, I, P, E, N) (sgX g ++ dy) := hW
    refine lv_istore (lv' := [(4, .int r3), (3, .ref o1), (0, .ref (g.2.2.1 12)), (1, .int a0), (2, .int a1)]) hx hb dX11_hears_23 hl (by decide) rfl (fun ls hl => ?_)
    refine lv_iload hx hb dX11_hears_25 (lv_at hl 0 rfl) ?_
    refine lv_if_eq (tgt := 37) hx hb dX11_hears_27 (by decide) (fun c4 => ?_) (fun c4 => ?_)
    · have c4 : r3.toInt = 0 := teq rfl kp0 c4
      refine lv_aload_n hx hb dX11_hears_37 rfl (lv_at hl 2 rfl) ?_
      refine rg_12_0 C hW (mx_ rfl) tw_364 dX11_hears_38 ?_
      refine lv_iload_n hx hb dX11_hears_41 rfl (lv_at hl 4 rfl) ?_
      refine lv_aload_n hx hb dX11_hears_42 rfl (lv_at hl 2 rfl) ?_
      refine rg_12_0 C hW (mx_ rfl) tw_364 dX11_hears_43 ?_
      refine rg_4_4 C hW (mx_ rfl) tw_240 dX11_hears_46 ?_
      refine lv_aload_n hx hb dX11_hears_49 rfl (lv_at hl 2 rfl) ?_
      refine rg_12_1 C hW (mx_ rfl) tw_365 dX11_hears_50 ?_
      refine rg_3_1 C hW (mx_ rfl) tw_278 dX11_hears_53 ?_
      refine cv_ C hW (runV (x := (g.2.2.1 4)) (As := [.int a1, .int (J 4 4), .int (J 3 1)]) (rest := []) (T := ((J, L, I, P, E, N), sgX g ++ dy)) C hW (c_X3_carry l g J L I P E N dy H.size a1 (J 4 4) (J 3 1) hwf) mi_X3_carry tw_527 (recv_ (T := ((J, L, I, P, E, N), sgX g ++ dy)) C hW (mx_ rfl) rfl rfl) ⟨rfl, rfl, Nat.le_of_ble_eq_true rfl, Nat.le_of_ble_eq_true rfl⟩ rfl hl.1 rfl (Nat.le_of_ble_eq_true rfl) dX11_hears_56 ⟨Nat.le_of_ble_eq_true rfl, Nat.le_of_ble_eq_true rfl⟩) (fun u5 H locs hp5 hW => ?_)
      have hW : WB g A s.heap H locs (J, L, (hv I [] [(6, 6), (6, 7)] u5), P, E, N) (sgX g ++ dy) := hW
      refine lv_aload_n hx hb dX11_hears_59 rfl (lv_at hl 1 rfl) ?_
      refine lv_aload_n hx hb dX11_hears_60 rfl (lv_at hl 2 rfl) ?_
      refine rg_12_0 C hW (mx_ rfl) tw_364 dX11_hears_61 ?_
      refine rg_4_5 C hW (mx_ rfl) tw_243 dX11_hears_64 ?_
      refine ci_ C hW (runV (x := o1) (As := [.int (J 4 5)]) (rest := []) (T := ((J, L, (hv I [] [(6, 6), (6, 7)] u5), P, E, N), sgX g ++ dy)) C hW (c_X1_isReached l g J L (hv I [] [(6, 6), (6, 7)] u5) P E N dy H.size o1 hm1 (J 4 5) hwf) mi_X1_isReached tw_581 (recv_ (T := ((J, L, (hv I [] [(6, 6), (6, 7)] u5), P, E, N), sgX g ++ dy)) C hW (List.mem_append_right _ hm1) rfl rfl) ⟨rfl, rfl, Nat.le_of_ble_eq_true rfl, Nat.le_of_ble_eq_true rfl⟩ rfl hl.1 rfl (Nat.le_of_ble_eq_true rfl) dX11_hears_67 ⟨Nat.le_of_ble_eq_true rfl, Nat.le_of_ble_eq_true rfl⟩) (fun r6 u6 H locs hp6 hW => ?_)
      have hc6 : ((r6.toInt = 1) ∨ (r6.toInt = 0)) := hp6
      clear hp6
      have hW : WB g A s.heap H locs (J, L, (hv I [] [(6, 6), (6, 7)] u5), P, E, N) (sgX g ++ dy) := hW
      refine lv_if_eq (tgt := 77) hx hb dX11_hears_70 (by decide) (fun c7 => ?_) (fun c7 => ?_)
      · have c7 : r6.toInt = 0 := teq rfl kp0 c7
        refine lv_iconst (v := 0) hx hb dX11_hears_77 (by decide) ?_
        have hWr : WB g A s.heap H locs ((hv J [42] [] J), L, (hv I [] [(6, 6), (6, 7)] (hv I [] [(6, 6), (6, 7)] u5)), P, E, N) (sgX g ++ dy) := by
          rw [← ag_hvE (J := J) (R := [42]) (F := []) ag_rf]
          rw [← ag_hvE (J := I) (R := []) (F := [(6, 6), (6, 7)]) (ag_hv rfl rfl ag_rf)]
          exact hW
        exact end_i C hr hlocks (J, (hv I [] [(6, 6), (6, 7)] u5)) hWr trivial dX11_hears_78
      · have c7 : ¬ r6.toInt = 0 := tne rfl kp0 c7
        refine lv_iconst (v := 1) hx hb dX11_hears_73 (by decide) ?_
        refine lv_goto (tgt := 78) hx hb dX11_hears_74 (by decide) ?_
        have hWr : WB g A s.heap H locs ((hv J [42] [] J), L, (hv I [] [(6, 6), (6, 7)] (hv I [] [(6, 6), (6, 7)] u5)), P, E, N) (sgX g ++ dy) := by
          rw [← ag_hvE (J := J) (R := [42]) (F := []) ag_rf]
          rw [← ag_hvE (J := I) (R := []) (F := [(6, 6), (6, 7)]) (ag_hv rfl rfl ag_rf)]
          exact hW
        exact end_i C hr hlocks (J, (hv I [] [(6, 6), (6, 7)] u5)) hWr trivial dX11_hears_78
    · have c4 : ¬ r3.toInt = 0 := tne rfl kp0 c4
      refine lv_aload_n hx hb dX11_hears_30 rfl (lv_at hl 2 rfl) ?_
      refine lv_iload hx hb dX11_hears_31 (lv_at hl 0 rfl) ?_
      refine ci_ C hW (runV (x := (g.2.2.1 12)) (As := [.int r3]) (rest := []) (T := ((J, L, I, P, E, N), sgX g ++ dy)) C hW (c_X11_refuse l g J L I P E N dy H.size r3 hwf) mi_X11_refuse tw_411 (recv_ (T := ((J, L, I, P, E, N), sgX g ++ dy)) C hW (mx_ rfl) rfl rfl) ⟨rfl, rfl, Nat.le_of_ble_eq_true rfl, Nat.le_of_ble_eq_true rfl⟩ rfl hl.1 rfl (Nat.le_of_ble_eq_true rfl) dX11_hears_33 ⟨Nat.le_of_ble_eq_true rfl, Nat.le_of_ble_eq_true rfl⟩) (fun r8 u8 H locs hp8 hW => ?_)
      have hc8 : ((r8 = r3)) := hp8
      clear hp8
      have hr8 : r8.toInt = (r3).toInt := by rw [hc8]
      have hW : WB g A s.heap H locs ((hv J [42] [] u8), L, I, P, E, N) (sgX g ++ dy) := hW
      have hWr : WB g A s.heap H locs ((hv J [42] [] (hv J [42] [] u8)), L, (hv I [] [(6, 6), (6, 7)] I), P, E, N) (sgX g ++ dy) := by
        rw [← ag_hvE (J := J) (R := [42]) (F := []) (ag_hv rfl rfl ag_rf)]
        rw [← ag_hvE (J := I) (R := []) (F := [(6, 6), (6, 7)]) ag_rf]
        exact hW
      exact end_i C hr hlocks ((hv J [42] [] u8), I) hWr trivial dX11_hears_36
