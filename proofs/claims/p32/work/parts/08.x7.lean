theorem dX11_hears_0 : decode cX11_hears 0 = .ok (.aload_n 0, 1) := dk_aload_n_0 (by decide +kernel)
theorem dX11_hears_1 : decode cX11_hears 1 = .ok (.getfield 10, 3) := dk_getfield (by decide +kernel)
theorem dX11_hears_4 : decode cX11_hears 4 = .ok (.iload_n 1, 1) := dk_iload_n_1 (by decide +kernel)
theorem dX11_hears_5 : decode cX11_hears 5 = .ok (.invokevirtual 141, 3) := dk_invokevirtual (by decide +kernel)
theorem dX11_hears_8 : decode cX11_hears 8 = .ok (.astore_n 3, 1) := dk_astore_n_3 (by decide +kernel)
theorem dX11_hears_9 : decode cX11_hears 9 = .ok (.aload_n 3, 1) := dk_aload_n_3 (by decide +kernel)
theorem dX11_hears_10 : decode cX11_hears 10 = .ok (.ifnonnull 9, 3) := dk_ifnonnull (by decide +kernel)
theorem dX11_hears_13 : decode cX11_hears 13 = .ok (.aload_n 0, 1) := dk_aload_n_0 (by decide +kernel)
theorem dX11_hears_14 : decode cX11_hears 14 = .ok (.iconst (-1), 1) := dk_iconst_m1 (by decide +kernel)
theorem dX11_hears_15 : decode cX11_hears 15 = .ok (.invokevirtual 67, 3) := dk_invokevirtual (by decide +kernel)
theorem dX11_hears_18 : decode cX11_hears 18 = .ok (.ireturn, 1) := dk_ireturn (by decide +kernel)
theorem dX11_hears_19 : decode cX11_hears 19 = .ok (.iload_n 2, 1) := dk_iload_n_2 (by decide +kernel)
theorem dX11_hears_20 : decode cX11_hears 20 = .ok (.invokestatic 119, 3) := dk_invokestatic (by decide +kernel)
theorem dX11_hears_23 : decode cX11_hears 23 = .ok (.istore 4, 2) := dk_istore (by decide +kernel)
theorem dX11_hears_25 : decode cX11_hears 25 = .ok (.iload 4, 2) := dk_iload (by decide +kernel)
theorem dX11_hears_27 : decode cX11_hears 27 = .ok (.ifCond .eq 10, 3) := dk_ifCond_eq (by decide +kernel)
theorem dX11_hears_30 : decode cX11_hears 30 = .ok (.aload_n 0, 1) := dk_aload_n_0 (by decide +kernel)
theorem dX11_hears_31 : decode cX11_hears 31 = .ok (.iload 4, 2) := dk_iload (by decide +kernel)
theorem dX11_hears_33 : decode cX11_hears 33 = .ok (.invokevirtual 67, 3) := dk_invokevirtual (by decide +kernel)
theorem dX11_hears_36 : decode cX11_hears 36 = .ok (.ireturn, 1) := dk_ireturn (by decide +kernel)
theorem dX11_hears_37 : decode cX11_hears 37 = .ok (.aload_n 0, 1) := dk_aload_n_0 (by decide +kernel)
theorem dX11_hears_38 : decode cX11_hears 38 = .ok (.getfield 10, 3) := dk_getfield (by decide +kernel)
theorem dX11_hears_41 : decode cX11_hears 41 = .ok (.iload_n 2, 1) := dk_iload_n_2 (by decide +kernel)
theorem dX11_hears_42 : decode cX11_hears 42 = .ok (.aload_n 0, 1) := dk_aload_n_0 (by decide +kernel)
theorem dX11_hears_43 : decode cX11_hears 43 = .ok (.getfield 10, 3) := dk_getfield (by decide +kernel)
theorem dX11_hears_46 : decode cX11_hears 46 = .ok (.getfield 76, 3) := dk_getfield (by decide +kernel)
theorem dX11_hears_49 : decode cX11_hears 49 = .ok (.aload_n 0, 1) := dk_aload_n_0 (by decide +kernel)
theorem dX11_hears_50 : decode cX11_hears 50 = .ok (.getfield 19, 3) := dk_getfield (by decide +kernel)
theorem dX11_hears_53 : decode cX11_hears 53 = .ok (.getfield 71, 3) := dk_getfield (by decide +kernel)
theorem dX11_hears_56 : decode cX11_hears 56 = .ok (.invokevirtual 122, 3) := dk_invokevirtual (by decide +kernel)
theorem dX11_hears_59 : decode cX11_hears 59 = .ok (.aload_n 3, 1) := dk_aload_n_3 (by decide +kernel)
theorem dX11_hears_60 : decode cX11_hears 60 = .ok (.aload_n 0, 1) := dk_aload_n_0 (by decide +kernel)
theorem dX11_hears_61 : decode cX11_hears 61 = .ok (.getfield 10, 3) := dk_getfield (by decide +kernel)
theorem dX11_hears_64 : decode cX11_hears 64 = .ok (.getfield 138, 3) := dk_getfield (by decide +kernel)
theorem dX11_hears_67 : decode cX11_hears 67 = .ok (.invokevirtual 145, 3) := dk_invokevirtual (by decide +kernel)
theorem dX11_hears_70 : decode cX11_hears 70 = .ok (.ifCond .eq 7, 3) := dk_ifCond_eq (by decide +kernel)
theorem dX11_hears_73 : decode cX11_hears 73 = .ok (.iconst 1, 1) := dk_iconst_1 (by decide +kernel)
theorem dX11_hears_74 : decode cX11_hears 74 = .ok (.goto 4, 3) := dk_goto (by decide +kernel)
theorem dX11_hears_77 : decode cX11_hears 77 = .ok (.iconst 0, 1) := dk_iconst_0 (by decide +kernel)
theorem dX11_hears_78 : decode cX11_hears 78 = .ok (.ireturn, 1) := dk_ireturn (by decide +kernel)
theorem dX11_lag_0 : decode cX11_lag 0 = .ok (.aload_n 0, 1) := dk_aload_n_0 (by decide +kernel)
theorem dX11_lag_1 : decode cX11_lag 1 = .ok (.getfield 19, 3) := dk_getfield (by decide +kernel)
theorem dX11_lag_4 : decode cX11_lag 4 = .ok (.iload_n 1, 1) := dk_iload_n_1 (by decide +kernel)
theorem dX11_lag_5 : decode cX11_lag 5 = .ok (.invokevirtual 192, 3) := dk_invokevirtual (by decide +kernel)
theorem dX11_lag_8 : decode cX11_lag 8 = .ok (.astore_n 2, 1) := dk_astore_n_2 (by decide +kernel)
theorem dX11_lag_9 : decode cX11_lag 9 = .ok (.aload_n 2, 1) := dk_aload_n_2 (by decide +kernel)
theorem dX11_lag_10 : decode cX11_lag 10 = .ok (.invokestatic 302, 3) := dk_invokestatic (by decide +kernel)
theorem dX11_lag_13 : decode cX11_lag 13 = .ok (.istore_n 3, 1) := dk_istore_n_3 (by decide +kernel)
theorem dX11_lag_14 : decode cX11_lag 14 = .ok (.iload_n 3, 1) := dk_iload_n_3 (by decide +kernel)
theorem dX11_lag_15 : decode cX11_lag 15 = .ok (.ifCond .ne 7, 3) := dk_ifCond_ne (by decide +kernel)
theorem dX11_lag_18 : decode cX11_lag 18 = .ok (.aload_n 2, 1) := dk_aload_n_2 (by decide +kernel)
theorem dX11_lag_19 : decode cX11_lag 19 = .ok (.ifnonnull 9, 3) := dk_ifnonnull (by decide +kernel)
theorem dX11_lag_22 : decode cX11_lag 22 = .ok (.aload_n 0, 1) := dk_aload_n_0 (by decide +kernel)
theorem dX11_lag_23 : decode cX11_lag 23 = .ok (.iload_n 3, 1) := dk_iload_n_3 (by decide +kernel)
theorem dX11_lag_24 : decode cX11_lag 24 = .ok (.invokevirtual 67, 3) := dk_invokevirtual (by decide +kernel)
theorem dX11_lag_27 : decode cX11_lag 27 = .ok (.ireturn, 1) := dk_ireturn (by decide +kernel)
theorem dX11_lag_28 : decode cX11_lag 28 = .ok (.aload_n 0, 1) := dk_aload_n_0 (by decide +kernel)
theorem dX11_lag_29 : decode cX11_lag 29 = .ok (.aload_n 2, 1) := dk_aload_n_2 (by decide +kernel)
theorem dX11_lag_30 : decode cX11_lag 30 = .ok (.getfield 183, 3) := dk_getfield (by decide +kernel)
theorem dX11_lag_33 : decode cX11_lag 33 = .ok (.invokevirtual 295, 3) := dk_invokevirtual (by decide +kernel)
theorem dX11_lag_36 : decode cX11_lag 36 = .ok (.astore 4, 2) := dk_astore (by decide +kernel)
theorem dX11_lag_38 : decode cX11_lag 38 = .ok (.aload 4, 2) := dk_aload (by decide +kernel)
theorem dX11_lag_40 : decode cX11_lag 40 = .ok (.ifnonnull 8, 3) := dk_ifnonnull (by decide +kernel)
theorem dX11_lag_43 : decode cX11_lag 43 = .ok (.bipush (-9), 2) := dk_bipush (by decide +kernel)
theorem dX11_lag_45 : decode cX11_lag 45 = .ok (.goto 10, 3) := dk_goto (by decide +kernel)
theorem dX11_lag_48 : decode cX11_lag 48 = .ok (.iload_n 1, 1) := dk_iload_n_1 (by decide +kernel)
theorem dX11_lag_49 : decode cX11_lag 49 = .ok (.aload 4, 2) := dk_aload (by decide +kernel)
theorem dX11_lag_51 : decode cX11_lag 51 = .ok (.getfield 306, 3) := dk_getfield (by decide +kernel)
theorem dX11_lag_54 : decode cX11_lag 54 = .ok (.isub, 1) := dk_isub (by decide +kernel)
theorem dX11_lag_55 : decode cX11_lag 55 = .ok (.ireturn, 1) := dk_ireturn (by decide +kernel)
theorem dX11_fresh_0 : decode cX11_fresh 0 = .ok (.aload_n 0, 1) := dk_aload_n_0 (by decide +kernel)
theorem dX11_fresh_1 : decode cX11_fresh 1 = .ok (.getfield 19, 3) := dk_getfield (by decide +kernel)
theorem dX11_fresh_4 : decode cX11_fresh 4 = .ok (.iload_n 1, 1) := dk_iload_n_1 (by decide +kernel)
theorem dX11_fresh_5 : decode cX11_fresh 5 = .ok (.invokevirtual 192, 3) := dk_invokevirtual (by decide +kernel)
theorem dX11_fresh_8 : decode cX11_fresh 8 = .ok (.astore_n 2, 1) := dk_astore_n_2 (by decide +kernel)
theorem dX11_fresh_9 : decode cX11_fresh 9 = .ok (.aload_n 2, 1) := dk_aload_n_2 (by decide +kernel)
theorem dX11_fresh_10 : decode cX11_fresh 10 = .ok (.invokestatic 302, 3) := dk_invokestatic (by decide +kernel)
theorem dX11_fresh_13 : decode cX11_fresh 13 = .ok (.istore_n 3, 1) := dk_istore_n_3 (by decide +kernel)
theorem dX11_fresh_14 : decode cX11_fresh 14 = .ok (.iload_n 3, 1) := dk_iload_n_3 (by decide +kernel)
theorem dX11_fresh_15 : decode cX11_fresh 15 = .ok (.ifCond .ne 7, 3) := dk_ifCond_ne (by decide +kernel)
theorem dX11_fresh_18 : decode cX11_fresh 18 = .ok (.aload_n 2, 1) := dk_aload_n_2 (by decide +kernel)
theorem dX11_fresh_19 : decode cX11_fresh 19 = .ok (.ifnonnull 9, 3) := dk_ifnonnull (by decide +kernel)
theorem dX11_fresh_22 : decode cX11_fresh 22 = .ok (.aload_n 0, 1) := dk_aload_n_0 (by decide +kernel)
theorem dX11_fresh_23 : decode cX11_fresh 23 = .ok (.iload_n 3, 1) := dk_iload_n_3 (by decide +kernel)
theorem dX11_fresh_24 : decode cX11_fresh 24 = .ok (.invokevirtual 67, 3) := dk_invokevirtual (by decide +kernel)
theorem dX11_fresh_27 : decode cX11_fresh 27 = .ok (.ireturn, 1) := dk_ireturn (by decide +kernel)
theorem dX11_fresh_28 : decode cX11_fresh 28 = .ok (.aload_n 0, 1) := dk_aload_n_0 (by decide +kernel)
theorem dX11_fresh_29 : decode cX11_fresh 29 = .ok (.aload_n 2, 1) := dk_aload_n_2 (by decide +kernel)
theorem dX11_fresh_30 : decode cX11_fresh 30 = .ok (.getfield 183, 3) := dk_getfield (by decide +kernel)
theorem dX11_fresh_33 : decode cX11_fresh 33 = .ok (.invokevirtual 295, 3) := dk_invokevirtual (by decide +kernel)
theorem dX11_fresh_36 : decode cX11_fresh 36 = .ok (.astore 4, 2) := dk_astore (by decide +kernel)
theorem dX11_fresh_38 : decode cX11_fresh 38 = .ok (.aload 4, 2) := dk_aload (by decide +kernel)
theorem dX11_fresh_40 : decode cX11_fresh 40 = .ok (.ifnonnull 6, 3) := dk_ifnonnull (by decide +kernel)
theorem dX11_fresh_43 : decode cX11_fresh 43 = .ok (.bipush (-9), 2) := dk_bipush (by decide +kernel)
theorem dX11_fresh_45 : decode cX11_fresh 45 = .ok (.ireturn, 1) := dk_ireturn (by decide +kernel)
theorem dX11_fresh_46 : decode cX11_fresh 46 = .ok (.aload 4, 2) := dk_aload (by decide +kernel)
theorem dX11_fresh_48 : decode cX11_fresh 48 = .ok (.iload_n 1, 1) := dk_iload_n_1 (by decide +kernel)
theorem dX11_fresh_49 : decode cX11_fresh 49 = .ok (.invokevirtual 309, 3) := dk_invokevirtual (by decide +kernel)
theorem dX11_fresh_52 : decode cX11_fresh 52 = .ok (.ifCond .eq 7, 3) := dk_ifCond_eq (by decide +kernel)
theorem dX11_fresh_55 : decode cX11_fresh 55 = .ok (.iconst 1, 1) := dk_iconst_1 (by decide +kernel)
theorem dX11_fresh_56 : decode cX11_fresh 56 = .ok (.goto 4, 3) := dk_goto (by decide +kernel)
theorem dX11_fresh_59 : decode cX11_fresh 59 = .ok (.iconst 0, 1) := dk_iconst_0 (by decide +kernel)
theorem dX11_fresh_60 : decode cX11_fresh 60 = .ok (.ireturn, 1) := dk_ireturn (by decide +kernel)
theorem dX11_printed_0 : decode cX11_printed 0 = .ok (.aload_n 0, 1) := dk_aload_n_0 (by decide +kernel)
theorem dX11_printed_1 : decode cX11_printed 1 = .ok (.iload_n 1, 1) := dk_iload_n_1 (by decide +kernel)
theorem dX11_printed_2 : decode cX11_printed 2 = .ok (.invokevirtual 295, 3) := dk_invokevirtual (by decide +kernel)
theorem dX11_printed_5 : decode cX11_printed 5 = .ok (.astore_n 3, 1) := dk_astore_n_3 (by decide +kernel)
theorem dX11_printed_6 : decode cX11_printed 6 = .ok (.aload_n 3, 1) := dk_aload_n_3 (by decide +kernel)
theorem dX11_printed_7 : decode cX11_printed 7 = .ok (.ifnonnull 9, 3) := dk_ifnonnull (by decide +kernel)
theorem dX11_printed_10 : decode cX11_printed 10 = .ok (.aload_n 0, 1) := dk_aload_n_0 (by decide +kernel)
theorem dX11_printed_11 : decode cX11_printed 11 = .ok (.iconst (-1), 1) := dk_iconst_m1 (by decide +kernel)
theorem dX11_printed_12 : decode cX11_printed 12 = .ok (.invokevirtual 67, 3) := dk_invokevirtual (by decide +kernel)
theorem dX11_printed_15 : decode cX11_printed 15 = .ok (.ireturn, 1) := dk_ireturn (by decide +kernel)
theorem dX11_printed_16 : decode cX11_printed 16 = .ok (.aload_n 3, 1) := dk_aload_n_3 (by decide +kernel)
theorem dX11_printed_17 : decode cX11_printed 17 = .ok (.getfield 299, 3) := dk_getfield (by decide +kernel)
theorem dX11_printed_20 : decode cX11_printed 20 = .ok (.iconst (-1), 1) := dk_iconst_m1 (by decide +kernel)
theorem dX11_printed_21 : decode cX11_printed 21 = .ok (.if_icmp .eq 10, 3) := dk_if_icmp_eq (by decide +kernel)
theorem dX11_printed_24 : decode cX11_printed 24 = .ok (.aload_n 0, 1) := dk_aload_n_0 (by decide +kernel)
theorem dX11_printed_25 : decode cX11_printed 25 = .ok (.bipush (-3), 2) := dk_bipush (by decide +kernel)
theorem dX11_printed_27 : decode cX11_printed 27 = .ok (.invokevirtual 67, 3) := dk_invokevirtual (by decide +kernel)
theorem dX11_printed_30 : decode cX11_printed 30 = .ok (.ireturn, 1) := dk_ireturn (by decide +kernel)
theorem dX11_printed_31 : decode cX11_printed 31 = .ok (.iload_n 2, 1) := dk_iload_n_2 (by decide +kernel)
theorem dX11_printed_32 : decode cX11_printed 32 = .ok (.aload_n 0, 1) := dk_aload_n_0 (by decide +kernel)
theorem dX11_printed_33 : decode cX11_printed 33 = .ok (.getfield 19, 3) := dk_getfield (by decide +kernel)
theorem dX11_printed_36 : decode cX11_printed 36 = .ok (.getfield 71, 3) := dk_getfield (by decide +kernel)
theorem dX11_printed_39 : decode cX11_printed 39 = .ok (.if_icmp .ge 10, 3) := dk_if_icmp_ge (by decide +kernel)
theorem dX11_printed_42 : decode cX11_printed 42 = .ok (.aload_n 0, 1) := dk_aload_n_0 (by decide +kernel)
theorem dX11_printed_43 : decode cX11_printed 43 = .ok (.bipush (-4), 2) := dk_bipush (by decide +kernel)
theorem dX11_printed_45 : decode cX11_printed 45 = .ok (.invokevirtual 67, 3) := dk_invokevirtual (by decide +kernel)
theorem dX11_printed_48 : decode cX11_printed 48 = .ok (.ireturn, 1) := dk_ireturn (by decide +kernel)
theorem dX11_printed_49 : decode cX11_printed 49 = .ok (.iload_n 2, 1) := dk_iload_n_2 (by decide +kernel)
theorem dX11_printed_50 : decode cX11_printed 50 = .ok (.sipush 9999, 3) := dk_sipush (by decide +kernel)
theorem dX11_printed_53 : decode cX11_printed 53 = .ok (.if_icmp .le 10, 3) := dk_if_icmp_le (by decide +kernel)
theorem dX11_printed_56 : decode cX11_printed 56 = .ok (.aload_n 0, 1) := dk_aload_n_0 (by decide +kernel)
theorem dX11_printed_57 : decode cX11_printed 57 = .ok (.bipush (-6), 2) := dk_bipush (by decide +kernel)
theorem dX11_printed_59 : decode cX11_printed 59 = .ok (.invokevirtual 67, 3) := dk_invokevirtual (by decide +kernel)
theorem dX11_printed_62 : decode cX11_printed 62 = .ok (.ireturn, 1) := dk_ireturn (by decide +kernel)
theorem dX11_printed_63 : decode cX11_printed 63 = .ok (.aload_n 3, 1) := dk_aload_n_3 (by decide +kernel)
theorem dX11_printed_64 : decode cX11_printed 64 = .ok (.iload_n 2, 1) := dk_iload_n_2 (by decide +kernel)
theorem dX11_printed_65 : decode cX11_printed 65 = .ok (.putfield 299, 3) := dk_putfield (by decide +kernel)
theorem dX11_printed_68 : decode cX11_printed 68 = .ok (.iconst 1, 1) := dk_iconst_1 (by decide +kernel)
theorem dX11_printed_69 : decode cX11_printed 69 = .ok (.ireturn, 1) := dk_ireturn (by decide +kernel)
theorem dX11_sold_0 : decode cX11_sold 0 = .ok (.iload_n 2, 1) := dk_iload_n_2 (by decide +kernel)
theorem dX11_sold_1 : decode cX11_sold 1 = .ok (.ifCond .ge 10, 3) := dk_ifCond_ge (by decide +kernel)
theorem dX11_sold_4 : decode cX11_sold 4 = .ok (.aload_n 0, 1) := dk_aload_n_0 (by decide +kernel)
theorem dX11_sold_5 : decode cX11_sold 5 = .ok (.bipush (-4), 2) := dk_bipush (by decide +kernel)
theorem dX11_sold_7 : decode cX11_sold 7 = .ok (.invokevirtual 67, 3) := dk_invokevirtual (by decide +kernel)
theorem dX11_sold_10 : decode cX11_sold 10 = .ok (.ireturn, 1) := dk_ireturn (by decide +kernel)
theorem dX11_sold_11 : decode cX11_sold 11 = .ok (.iload_n 2, 1) := dk_iload_n_2 (by decide +kernel)
theorem dX11_sold_12 : decode cX11_sold 12 = .ok (.iconst 5, 1) := dk_iconst_5 (by decide +kernel)
theorem dX11_sold_13 : decode cX11_sold 13 = .ok (.if_icmp .lt 10, 3) := dk_if_icmp_lt (by decide +kernel)
theorem dX11_sold_16 : decode cX11_sold 16 = .ok (.aload_n 0, 1) := dk_aload_n_0 (by decide +kernel)
theorem dX11_sold_17 : decode cX11_sold 17 = .ok (.bipush (-6), 2) := dk_bipush (by decide +kernel)
theorem dX11_sold_19 : decode cX11_sold 19 = .ok (.invokevirtual 67, 3) := dk_invokevirtual (by decide +kernel)
theorem dX11_sold_22 : decode cX11_sold 22 = .ok (.ireturn, 1) := dk_ireturn (by decide +kernel)
theorem dX11_sold_23 : decode cX11_sold 23 = .ok (.iload_n 1, 1) := dk_iload_n_1 (by decide +kernel)
theorem dX11_sold_24 : decode cX11_sold 24 = .ok (.ifCond .lt 9, 3) := dk_ifCond_lt (by decide +kernel)
theorem dX11_sold_27 : decode cX11_sold 27 = .ok (.iload_n 1, 1) := dk_iload_n_1 (by decide +kernel)
theorem dX11_sold_28 : decode cX11_sold 28 = .ok (.bipush 40, 2) := dk_bipush (by decide +kernel)
theorem dX11_sold_30 : decode cX11_sold 30 = .ok (.if_icmp .lt 6, 3) := dk_if_icmp_lt (by decide +kernel)
theorem dX11_sold_33 : decode cX11_sold 33 = .ok (.bipush (-9), 2) := dk_bipush (by decide +kernel)
theorem dX11_sold_35 : decode cX11_sold 35 = .ok (.ireturn, 1) := dk_ireturn (by decide +kernel)
theorem dX11_sold_36 : decode cX11_sold 36 = .ok (.iload_n 1, 1) := dk_iload_n_1 (by decide +kernel)
theorem dX11_sold_37 : decode cX11_sold 37 = .ok (.iconst 5, 1) := dk_iconst_5 (by decide +kernel)
theorem dX11_sold_38 : decode cX11_sold 38 = .ok (.imul, 1) := dk_imul (by decide +kernel)
theorem dX11_sold_39 : decode cX11_sold 39 = .ok (.iload_n 2, 1) := dk_iload_n_2 (by decide +kernel)
theorem dX11_sold_40 : decode cX11_sold 40 = .ok (.iadd, 1) := dk_iadd (by decide +kernel)
theorem dX11_sold_41 : decode cX11_sold 41 = .ok (.istore_n 3, 1) := dk_istore_n_3 (by decide +kernel)
theorem dX11_sold_42 : decode cX11_sold 42 = .ok (.iload_n 3, 1) := dk_iload_n_3 (by decide +kernel)
theorem dX11_sold_43 : decode cX11_sold 43 = .ok (.aload_n 0, 1) := dk_aload_n_0 (by decide +kernel)
theorem dX11_sold_44 : decode cX11_sold 44 = .ok (.getfield 312, 3) := dk_getfield (by decide +kernel)
theorem dX11_sold_47 : decode cX11_sold 47 = .ok (.if_icmp .ge 21, 3) := dk_if_icmp_ge (by decide +kernel)
theorem dX11_sold_50 : decode cX11_sold 50 = .ok (.iload_n 3, 1) := dk_iload_n_3 (by decide +kernel)
theorem dX11_sold_51 : decode cX11_sold 51 = .ok (.aload_n 0, 1) := dk_aload_n_0 (by decide +kernel)
theorem dX11_sold_52 : decode cX11_sold 52 = .ok (.getfield 50, 3) := dk_getfield (by decide +kernel)
theorem dX11_sold_55 : decode cX11_sold 55 = .ok (.arraylength, 1) := dk_arraylength (by decide +kernel)
theorem dX11_sold_56 : decode cX11_sold 56 = .ok (.if_icmp .ge 12, 3) := dk_if_icmp_ge (by decide +kernel)
theorem dX11_sold_59 : decode cX11_sold 59 = .ok (.aload_n 0, 1) := dk_aload_n_0 (by decide +kernel)
theorem dX11_sold_60 : decode cX11_sold 60 = .ok (.getfield 50, 3) := dk_getfield (by decide +kernel)
theorem dX11_sold_63 : decode cX11_sold 63 = .ok (.iload_n 3, 1) := dk_iload_n_3 (by decide +kernel)
theorem dX11_sold_64 : decode cX11_sold 64 = .ok (.iaload, 1) := dk_iaload (by decide +kernel)
theorem dX11_sold_65 : decode cX11_sold 65 = .ok (.goto 5, 3) := dk_goto (by decide +kernel)
theorem dX11_sold_68 : decode cX11_sold 68 = .ok (.bipush (-9), 2) := dk_bipush (by decide +kernel)
theorem dX11_sold_70 : decode cX11_sold 70 = .ok (.ireturn, 1) := dk_ireturn (by decide +kernel)
theorem dX11_boost_0 : decode cX11_boost 0 = .ok (.aload_n 0, 1) := dk_aload_n_0 (by decide +kernel)
theorem dX11_boost_1 : decode cX11_boost 1 = .ok (.getfield 10, 3) := dk_getfield (by decide +kernel)
theorem dX11_boost_4 : decode cX11_boost 4 = .ok (.iload_n 1, 1) := dk_iload_n_1 (by decide +kernel)
theorem dX11_boost_5 : decode cX11_boost 5 = .ok (.invokevirtual 86, 3) := dk_invokevirtual (by decide +kernel)
theorem dX11_boost_8 : decode cX11_boost 8 = .ok (.astore_n 3, 1) := dk_astore_n_3 (by decide +kernel)
theorem dX11_boost_9 : decode cX11_boost 9 = .ok (.aload_n 3, 1) := dk_aload_n_3 (by decide +kernel)
theorem dX11_boost_10 : decode cX11_boost 10 = .ok (.ifnonnull 9, 3) := dk_ifnonnull (by decide +kernel)
theorem dX11_boost_13 : decode cX11_boost 13 = .ok (.aload_n 0, 1) := dk_aload_n_0 (by decide +kernel)
theorem dX11_boost_14 : decode cX11_boost 14 = .ok (.iconst (-1), 1) := dk_iconst_m1 (by decide +kernel)
theorem dX11_boost_15 : decode cX11_boost 15 = .ok (.invokevirtual 67, 3) := dk_invokevirtual (by decide +kernel)
theorem dX11_boost_18 : decode cX11_boost 18 = .ok (.ireturn, 1) := dk_ireturn (by decide +kernel)
theorem dX11_boost_19 : decode cX11_boost 19 = .ok (.iload_n 2, 1) := dk_iload_n_2 (by decide +kernel)
theorem dX11_boost_20 : decode cX11_boost 20 = .ok (.ifCond .ge 10, 3) := dk_ifCond_ge (by decide +kernel)
theorem dX11_boost_23 : decode cX11_boost 23 = .ok (.aload_n 0, 1) := dk_aload_n_0 (by decide +kernel)
theorem dX11_boost_24 : decode cX11_boost 24 = .ok (.bipush (-4), 2) := dk_bipush (by decide +kernel)
theorem dX11_boost_26 : decode cX11_boost 26 = .ok (.invokevirtual 67, 3) := dk_invokevirtual (by decide +kernel)
theorem dX11_boost_29 : decode cX11_boost 29 = .ok (.ireturn, 1) := dk_ireturn (by decide +kernel)
theorem dX11_boost_30 : decode cX11_boost 30 = .ok (.iload_n 2, 1) := dk_iload_n_2 (by decide +kernel)
theorem dX11_boost_31 : decode cX11_boost 31 = .ok (.bipush 99, 2) := dk_bipush (by decide +kernel)
theorem dX11_boost_33 : decode cX11_boost 33 = .ok (.if_icmp .le 10, 3) := dk_if_icmp_le (by decide +kernel)
theorem dX11_boost_36 : decode cX11_boost 36 = .ok (.aload_n 0, 1) := dk_aload_n_0 (by decide +kernel)
theorem dX11_boost_37 : decode cX11_boost 37 = .ok (.bipush (-6), 2) := dk_bipush (by decide +kernel)
theorem dX11_boost_39 : decode cX11_boost 39 = .ok (.invokevirtual 67, 3) := dk_invokevirtual (by decide +kernel)
theorem dX11_boost_42 : decode cX11_boost 42 = .ok (.ireturn, 1) := dk_ireturn (by decide +kernel)
theorem dX11_boost_43 : decode cX11_boost 43 = .ok (.aload_n 3, 1) := dk_aload_n_3 (by decide +kernel)
theorem dX11_boost_44 : decode cX11_boost 44 = .ok (.getfield 106, 3) := dk_getfield (by decide +kernel)
theorem dX11_boost_47 : decode cX11_boost 47 = .ok (.istore 4, 2) := dk_istore (by decide +kernel)
theorem dX11_boost_49 : decode cX11_boost 49 = .ok (.aload_n 3, 1) := dk_aload_n_3 (by decide +kernel)
theorem dX11_boost_50 : decode cX11_boost 50 = .ok (.iload_n 2, 1) := dk_iload_n_2 (by decide +kernel)
theorem dX11_boost_51 : decode cX11_boost 51 = .ok (.putfield 106, 3) := dk_putfield (by decide +kernel)
theorem dX11_boost_54 : decode cX11_boost 54 = .ok (.iload 4, 2) := dk_iload (by decide +kernel)
theorem dX11_boost_56 : decode cX11_boost 56 = .ok (.ireturn, 1) := dk_ireturn (by decide +kernel)
theorem dX11_isKnown_0 : decode cX11_isKnown 0 = .ok (.iload_n 1, 1) := dk_iload_n_1 (by decide +kernel)
theorem dX11_isKnown_1 : decode cX11_isKnown 1 = .ok (.ifCond .ne 22, 3) := dk_ifCond_ne (by decide +kernel)
theorem dX11_isKnown_4 : decode cX11_isKnown 4 = .ok (.iload_n 2, 1) := dk_iload_n_2 (by decide +kernel)
theorem dX11_isKnown_5 : decode cX11_isKnown 5 = .ok (.iconst (-1), 1) := dk_iconst_m1 (by decide +kernel)
theorem dX11_isKnown_6 : decode cX11_isKnown 6 = .ok (.if_icmp .eq 11, 3) := dk_if_icmp_eq (by decide +kernel)
theorem dX11_isKnown_9 : decode cX11_isKnown 9 = .ok (.aload_n 0, 1) := dk_aload_n_0 (by decide +kernel)
theorem dX11_isKnown_10 : decode cX11_isKnown 10 = .ok (.iload_n 2, 1) := dk_iload_n_2 (by decide +kernel)
theorem dX11_isKnown_11 : decode cX11_isKnown 11 = .ok (.invokevirtual 295, 3) := dk_invokevirtual (by decide +kernel)
theorem dX11_isKnown_14 : decode cX11_isKnown 14 = .ok (.ifnull 7, 3) := dk_ifnull (by decide +kernel)
theorem dX11_isKnown_17 : decode cX11_isKnown 17 = .ok (.iconst 1, 1) := dk_iconst_1 (by decide +kernel)
theorem dX11_isKnown_18 : decode cX11_isKnown 18 = .ok (.goto 4, 3) := dk_goto (by decide +kernel)
theorem dX11_isKnown_21 : decode cX11_isKnown 21 = .ok (.iconst 0, 1) := dk_iconst_0 (by decide +kernel)
theorem dX11_isKnown_22 : decode cX11_isKnown 22 = .ok (.ireturn, 1) := dk_ireturn (by decide +kernel)
theorem dX11_isKnown_23 : decode cX11_isKnown 23 = .ok (.iload_n 1, 1) := dk_iload_n_1 (by decide +kernel)
theorem dX11_isKnown_24 : decode cX11_isKnown 24 = .ok (.invokestatic 180, 3) := dk_invokestatic (by decide +kernel)
theorem dX11_isKnown_27 : decode cX11_isKnown 27 = .ok (.ifCond .eq 14, 3) := dk_ifCond_eq (by decide +kernel)
theorem dX11_isKnown_30 : decode cX11_isKnown 30 = .ok (.aload_n 0, 1) := dk_aload_n_0 (by decide +kernel)
theorem dX11_isKnown_31 : decode cX11_isKnown 31 = .ok (.getfield 19, 3) := dk_getfield (by decide +kernel)
theorem dX11_isKnown_34 : decode cX11_isKnown 34 = .ok (.iload_n 2, 1) := dk_iload_n_2 (by decide +kernel)
theorem dX11_isKnown_35 : decode cX11_isKnown 35 = .ok (.invokevirtual 192, 3) := dk_invokevirtual (by decide +kernel)
theorem dX11_isKnown_38 : decode cX11_isKnown 38 = .ok (.ifnull 7, 3) := dk_ifnull (by decide +kernel)
theorem dX11_isKnown_41 : decode cX11_isKnown 41 = .ok (.iconst 1, 1) := dk_iconst_1 (by decide +kernel)
theorem dX11_isKnown_42 : decode cX11_isKnown 42 = .ok (.goto 4, 3) := dk_goto (by decide +kernel)
theorem dX11_isKnown_45 : decode cX11_isKnown 45 = .ok (.iconst 0, 1) := dk_iconst_0 (by decide +kernel)
theorem dX11_isKnown_46 : decode cX11_isKnown 46 = .ok (.ireturn, 1) := dk_ireturn (by decide +kernel)
theorem dX11_isOfItsKind_0 : decode cX11_isOfItsKind 0 = .ok (.iload_n 1, 1) := dk_iload_n_1 (by decide +kernel)
theorem dX11_isOfItsKind_1 : decode cX11_isOfItsKind 1 = .ok (.iconst 1, 1) := dk_iconst_1 (by decide +kernel)
theorem dX11_isOfItsKind_2 : decode cX11_isOfItsKind 2 = .ok (.if_icmp .eq 10, 3) := dk_if_icmp_eq (by decide +kernel)
theorem dX11_isOfItsKind_5 : decode cX11_isOfItsKind 5 = .ok (.iload_n 1, 1) := dk_iload_n_1 (by decide +kernel)
theorem dX11_isOfItsKind_6 : decode cX11_isOfItsKind 6 = .ok (.iconst 5, 1) := dk_iconst_5 (by decide +kernel)
theorem dX11_isOfItsKind_7 : decode cX11_isOfItsKind 7 = .ok (.if_icmp .eq 5, 3) := dk_if_icmp_eq (by decide +kernel)
theorem dX11_isOfItsKind_10 : decode cX11_isOfItsKind 10 = .ok (.iconst 1, 1) := dk_iconst_1 (by decide +kernel)
theorem dX11_isOfItsKind_11 : decode cX11_isOfItsKind 11 = .ok (.ireturn, 1) := dk_ireturn (by decide +kernel)
theorem dX11_isOfItsKind_12 : decode cX11_isOfItsKind 12 = .ok (.aload_n 0, 1) := dk_aload_n_0 (by decide +kernel)
theorem dX11_isOfItsKind_13 : decode cX11_isOfItsKind 13 = .ok (.getfield 19, 3) := dk_getfield (by decide +kernel)
theorem dX11_isOfItsKind_16 : decode cX11_isOfItsKind 16 = .ok (.iload_n 2, 1) := dk_iload_n_2 (by decide +kernel)
theorem dX11_isOfItsKind_17 : decode cX11_isOfItsKind 17 = .ok (.invokevirtual 192, 3) := dk_invokevirtual (by decide +kernel)
theorem dX11_isOfItsKind_20 : decode cX11_isOfItsKind 20 = .ok (.astore_n 3, 1) := dk_astore_n_3 (by decide +kernel)
theorem dX11_isOfItsKind_21 : decode cX11_isOfItsKind 21 = .ok (.aload_n 3, 1) := dk_aload_n_3 (by decide +kernel)
theorem dX11_isOfItsKind_22 : decode cX11_isOfItsKind 22 = .ok (.ifnonnull 5, 3) := dk_ifnonnull (by decide +kernel)
theorem dX11_isOfItsKind_25 : decode cX11_isOfItsKind 25 = .ok (.iconst 0, 1) := dk_iconst_0 (by decide +kernel)
theorem dX11_isOfItsKind_26 : decode cX11_isOfItsKind 26 = .ok (.ireturn, 1) := dk_ireturn (by decide +kernel)
theorem dX11_isOfItsKind_27 : decode cX11_isOfItsKind 27 = .ok (.aload_n 3, 1) := dk_aload_n_3 (by decide +kernel)
theorem dX11_isOfItsKind_28 : decode cX11_isOfItsKind 28 = .ok (.getfield 196, 3) := dk_getfield (by decide +kernel)
theorem dX11_isOfItsKind_31 : decode cX11_isOfItsKind 31 = .ok (.ifCond .ne 5, 3) := dk_ifCond_ne (by decide +kernel)
theorem dX11_isOfItsKind_34 : decode cX11_isOfItsKind 34 = .ok (.iconst 1, 1) := dk_iconst_1 (by decide +kernel)
theorem dX11_isOfItsKind_35 : decode cX11_isOfItsKind 35 = .ok (.ireturn, 1) := dk_ireturn (by decide +kernel)
theorem dX11_isOfItsKind_36 : decode cX11_isOfItsKind 36 = .ok (.iload_n 1, 1) := dk_iload_n_1 (by decide +kernel)
theorem dX11_isOfItsKind_37 : decode cX11_isOfItsKind 37 = .ok (.iconst 1, 1) := dk_iconst_1 (by decide +kernel)
theorem dX11_isOfItsKind_38 : decode cX11_isOfItsKind 38 = .ok (.if_icmp .ne 23, 3) := dk_if_icmp_ne (by decide +kernel)
theorem dX11_isOfItsKind_41 : decode cX11_isOfItsKind 41 = .ok (.aload_n 3, 1) := dk_aload_n_3 (by decide +kernel)
theorem dX11_isOfItsKind_42 : decode cX11_isOfItsKind 42 = .ok (.getfield 196, 3) := dk_getfield (by decide +kernel)
theorem dX11_isOfItsKind_45 : decode cX11_isOfItsKind 45 = .ok (.iconst 3, 1) := dk_iconst_3 (by decide +kernel)
theorem dX11_isOfItsKind_46 : decode cX11_isOfItsKind 46 = .ok (.if_icmp .eq 11, 3) := dk_if_icmp_eq (by decide +kernel)
theorem dX11_isOfItsKind_49 : decode cX11_isOfItsKind 49 = .ok (.aload_n 3, 1) := dk_aload_n_3 (by decide +kernel)
theorem dX11_isOfItsKind_50 : decode cX11_isOfItsKind 50 = .ok (.getfield 196, 3) := dk_getfield (by decide +kernel)
theorem dX11_isOfItsKind_53 : decode cX11_isOfItsKind 53 = .ok (.iconst 5, 1) := dk_iconst_5 (by decide +kernel)
theorem dX11_isOfItsKind_54 : decode cX11_isOfItsKind 54 = .ok (.if_icmp .ne 7, 3) := dk_if_icmp_ne (by decide +kernel)
theorem dX11_isOfItsKind_57 : decode cX11_isOfItsKind 57 = .ok (.iconst 1, 1) := dk_iconst_1 (by decide +kernel)
theorem dX11_isOfItsKind_58 : decode cX11_isOfItsKind 58 = .ok (.goto 4, 3) := dk_goto (by decide +kernel)
theorem dX11_isOfItsKind_61 : decode cX11_isOfItsKind 61 = .ok (.iconst 0, 1) := dk_iconst_0 (by decide +kernel)
theorem dX11_isOfItsKind_62 : decode cX11_isOfItsKind 62 = .ok (.ireturn, 1) := dk_ireturn (by decide +kernel)
theorem dX11_mayRead_0 : decode cX11_mayRead 0 = .ok (.aload_n 0, 1) := dk_aload_n_0 (by decide +kernel)
theorem dX11_mayRead_1 : decode cX11_mayRead 1 = .ok (.iload_n 1, 1) := dk_iload_n_1 (by decide +kernel)
theorem dX11_mayRead_2 : decode cX11_mayRead 2 = .ok (.invokevirtual 154, 3) := dk_invokevirtual (by decide +kernel)
theorem dX11_mayRead_5 : decode cX11_mayRead 5 = .ok (.astore_n 2, 1) := dk_astore_n_2 (by decide +kernel)
theorem dX11_mayRead_6 : decode cX11_mayRead 6 = .ok (.aload_n 2, 1) := dk_aload_n_2 (by decide +kernel)
theorem dX11_mayRead_7 : decode cX11_mayRead 7 = .ok (.ifnonnull 9, 3) := dk_ifnonnull (by decide +kernel)
theorem dX11_mayRead_10 : decode cX11_mayRead 10 = .ok (.aload_n 0, 1) := dk_aload_n_0 (by decide +kernel)
theorem dX11_mayRead_11 : decode cX11_mayRead 11 = .ok (.iconst (-1), 1) := dk_iconst_m1 (by decide +kernel)
theorem dX11_mayRead_12 : decode cX11_mayRead 12 = .ok (.invokevirtual 67, 3) := dk_invokevirtual (by decide +kernel)
theorem dX11_mayRead_15 : decode cX11_mayRead 15 = .ok (.ireturn, 1) := dk_ireturn (by decide +kernel)
theorem dX11_mayRead_16 : decode cX11_mayRead 16 = .ok (.aload_n 2, 1) := dk_aload_n_2 (by decide +kernel)
theorem dX11_mayRead_17 : decode cX11_mayRead 17 = .ok (.aload_n 0, 1) := dk_aload_n_0 (by decide +kernel)
theorem dX11_mayRead_18 : decode cX11_mayRead 18 = .ok (.getfield 19, 3) := dk_getfield (by decide +kernel)
theorem dX11_mayRead_21 : decode cX11_mayRead 21 = .ok (.getfield 71, 3) := dk_getfield (by decide +kernel)
theorem dX11_mayRead_24 : decode cX11_mayRead 24 = .ok (.aload_n 0, 1) := dk_aload_n_0 (by decide +kernel)
theorem dX11_mayRead_25 : decode cX11_mayRead 25 = .ok (.getfield 60, 3) := dk_getfield (by decide +kernel)
theorem dX11_mayRead_28 : decode cX11_mayRead 28 = .ok (.aload_n 0, 1) := dk_aload_n_0 (by decide +kernel)
theorem dX11_mayRead_29 : decode cX11_mayRead 29 = .ok (.getfield 64, 3) := dk_getfield (by decide +kernel)
theorem dX11_mayRead_32 : decode cX11_mayRead 32 = .ok (.invokevirtual 158, 3) := dk_invokevirtual (by decide +kernel)
theorem dX11_mayRead_35 : decode cX11_mayRead 35 = .ok (.ifCond .eq 7, 3) := dk_ifCond_eq (by decide +kernel)
theorem dX11_mayRead_38 : decode cX11_mayRead 38 = .ok (.iconst 1, 1) := dk_iconst_1 (by decide +kernel)
theorem dX11_mayRead_39 : decode cX11_mayRead 39 = .ok (.goto 4, 3) := dk_goto (by decide +kernel)
theorem dX11_mayRead_42 : decode cX11_mayRead 42 = .ok (.iconst 0, 1) := dk_iconst_0 (by decide +kernel)
theorem dX11_mayRead_43 : decode cX11_mayRead 43 = .ok (.ireturn, 1) := dk_ireturn (by decide +kernel)
theorem dX11_markRead_0 : decode cX11_markRead 0 = .ok (.iload_n 1, 1) := dk_iload_n_1 (by decide +kernel)
theorem dX11_markRead_1 : decode cX11_markRead 1 = .ok (.ifCond .eq 4, 3) := dk_ifCond_eq (by decide +kernel)
theorem dX11_markRead_4 : decode cX11_markRead 4 = .ok (.return_, 1) := dk_return_ (by decide +kernel)
theorem dX11_markRead_5 : decode cX11_markRead 5 = .ok (.aload_n 0, 1) := dk_aload_n_0 (by decide +kernel)
theorem dX11_markRead_6 : decode cX11_markRead 6 = .ok (.iload_n 2, 1) := dk_iload_n_2 (by decide +kernel)
theorem dX11_markRead_7 : decode cX11_markRead 7 = .ok (.invokevirtual 295, 3) := dk_invokevirtual (by decide +kernel)
theorem dX11_markRead_10 : decode cX11_markRead 10 = .ok (.astore 4, 2) := dk_astore (by decide +kernel)
theorem dX11_markRead_12 : decode cX11_markRead 12 = .ok (.aload 4, 2) := dk_aload (by decide +kernel)
theorem dX11_markRead_14 : decode cX11_markRead 14 = .ok (.ifnull 18, 3) := dk_ifnull (by decide +kernel)
theorem dX11_markRead_17 : decode cX11_markRead 17 = .ok (.aload 4, 2) := dk_aload (by decide +kernel)
theorem dX11_markRead_19 : decode cX11_markRead 19 = .ok (.getfield 338, 3) := dk_getfield (by decide +kernel)
theorem dX11_markRead_22 : decode cX11_markRead 22 = .ok (.iconst (-1), 1) := dk_iconst_m1 (by decide +kernel)
theorem dX11_markRead_23 : decode cX11_markRead 23 = .ok (.if_icmp .ne 9, 3) := dk_if_icmp_ne (by decide +kernel)
theorem dX11_markRead_26 : decode cX11_markRead 26 = .ok (.aload 4, 2) := dk_aload (by decide +kernel)
theorem dX11_markRead_28 : decode cX11_markRead 28 = .ok (.iload_n 3, 1) := dk_iload_n_3 (by decide +kernel)
theorem dX11_markRead_29 : decode cX11_markRead 29 = .ok (.putfield 338, 3) := dk_putfield (by decide +kernel)
theorem dX11_markRead_32 : decode cX11_markRead 32 = .ok (.return_, 1) := dk_return_ (by decide +kernel)
set_option maxHeartbeats 4000000 in
set_option maxRecDepth 100000 in
theorem c_X11_hears (l : Launch) (g : gG) (J : Nat → Nat → Int32) (L : Nat → Nat → Int64) (I : Nat → Nat → Nat → Int32) (P : Nat → Nat → Nat → Option Nat) (E : Nat → Option Nat) (N : Nat → Nat) (dy : List (Nat × Nat)) (sz : Nat) (a0 : Int32) (a1 : Int32) (hwf : WXF g J P E N dy) : Met l yX11_hears (WS yX11_hears cX11_hears 5 (some .int)) (RM (5) 0 0) (PC g [.ref (g.2.2.1 12), .int a0, .int a1] ((J, L, I, P, E, N), sgX g ++ dy) sz) (va_Qi (fun (r : Int32) (u : (Nat → Nat → Int32) × (Nat → Nat → Nat → Int32)) => True) (fun u t => at_ g (FR g ((J, L, I, P, E, N), sgX g ++ dy) sz) (((hv J [42] [] u.1), L, (hv I [] [(6, 6), (6, 7)] u.2), P, E, N), sgX g ++ dy) t) (FR g ((J, L, I, P, E, N), sgX g ++ dy) sz)) 0 0 (FR g ((J, L, I, P, E, N), sgX g ++ dy) sz) := by
  refine ent (by decide +kernel) (Nat.le_of_ble_eq_true rfl) ?_
  intro p e s m below meth c ls hsz C hW hr hlocks hname hl
  generalize FR g ((J, L, I, P, E, N), sgX g ++ dy) sz = A at C hW ⊢
  have hx := C.1.1
  have hb := C.1.2.1
  have hts := C.1.2.2.2.2
  have hl : lv_has ls 5 [(0, .ref (g.2.2.1 12)), (1, .int a0), (2, .int a1)] := hl
  obtain ⟨H, hH⟩ : ∃ H : Heap, H = s.heap := ⟨_, rfl⟩
  obtain ⟨locs, hlocs⟩ : ∃ q : List Loc, q = [] := ⟨_, rfl⟩
  have hW : WB g A s.heap H locs (J, L, I, P, E, N) (sgX g ++ dy) := by rw [hH, hlocs]; exact hW
  refine start_ hH hlocs ?_
  refine lv_aload_n hx hb dX11_hears_0 rfl (lv_at hl 0 rfl) ?_
  refine rg_12_0 C hW (mx_ rfl) tw_364 dX11_hears_1 ?_
  refine lv_iload_n hx hb dX11_hears_4 rfl (lv_at hl 1 rfl) ?_
  refine cq_ C hW (runV (x := (g.2.2.1 4)) (As := [.int a0]) (rest := []) (T := ((J, L, I, P, E, N), sgX g ++ dy)) C hW (c_X3_homeOf l g J L I P E N dy H.size a0 hwf) mi_X3_homeOf tw_576 (recv_ (T := ((J, L, I, P, E, N), sgX g ++ dy)) C hW (mx_ rfl) rfl rfl) ⟨rfl, rfl, Nat.le_of_ble_eq_true rfl, Nat.le_of_ble_eq_true rfl⟩ rfl hl.1 rfl (Nat.le_of_ble_eq_true rfl) dX11_hears_5 ⟨Nat.le_of_ble_eq_true rfl, Nat.le_of_ble_eq_true rfl⟩) (fun q1 u1 H locs hp1 hW => ?_)
  have hq1 : ((q1 = none ∧ (¬ (0 ≤ a0.toInt ∧ a0.toInt < (J 22 2).toInt))) ∨ (q1 = some (elt E P 22 a0.toNatClampNeg) ∧ (0 ≤ a0.toInt ∧ a0.toInt < (J 22 2).toInt))) := hp1
  clear hp1
  have hW : WB g A s.heap H locs (J, L, I, P, E, N) (sgX g ++ dy) := hW
  rcases hq1 with ⟨rfl, hn1⟩ | ⟨rfl, hs1⟩
  · refine lv_asv (v' := .null) rfl ?_
    refine lv_astore_nN (lv' := [(3, .null), (0, .ref (g.2.2.1 12)), (1, .int a0), (2, .int a1)]) hx hb dX11_hears_8 rfl hl (by decide) rfl (fun ls hl => ?_)
    refine lv_aload_nN hx hb dX11_hears_9 rfl (lv_at hl 0 rfl) ?_
    refine lv_ifnonnullN hx hb dX11_hears_10 ?_
    refine lv_aload_n hx hb dX11_hears_13 rfl (lv_at hl 1 rfl) ?_
    refine lv_iconst (v := (-1)) hx hb dX11_hears_14 (by decide) ?_
    refine ci_ C hW (runV (x := (g.2.2.1 12)) (As := [.int (-1)]) (rest := []) (T := ((J, L, I, P, E, N), sgX g ++ dy)) C hW (c_X11_refuse l g J L I P E N dy H.size (-1) hwf) mi_X11_refuse tw_411 (recv_ (T := ((J, L, I, P, E, N), sgX g ++ dy)) C hW (mx_ rfl) rfl rfl) ⟨rfl, rfl, Nat.le_of_ble_eq_true rfl, Nat.le_of_ble_eq_true rfl⟩ rfl hl.1 rfl (Nat.le_of_ble_eq_true rfl) dX11_hears_15 ⟨Nat.le_of_ble_eq_true rfl, Nat.le_of_ble_eq_true rfl⟩) (fun r2 u2 H locs hp2 hW => ?_)
    have hc2 : ((r2 = (-1))) := hp2
    clear hp2
    have hr2 : r2.toInt = (-1) := by rw [hc2]; exact kn1
    have hW : WB g A s.heap H locs ((hv J [42] [] u2), L, I, P, E, N) (sgX g ++ dy) := hW
    have hWr : WB g A s.heap H locs ((hv J [42] [] (hv J [42] [] u2)), L, (hv I [] [(6, 6), (6, 7)] I), P, E, N) (sgX g ++ dy) := by
      rw [← ag_hvE (J := J) (R := [42]) (F := []) (ag_hv rfl rfl ag_rf)]
      rw [← ag_hvE (J := I) (R := []) (F := [(6, 6), (6, 7)]) ag_rf]
      exact hW
    exact end_i C hr hlocks ((hv J [42] [] u2), I) hWr trivial dX11_hears_18
  · skip
    obtain ⟨o1, ho1⟩ : ∃ z : Nat, z = elt E P 22 a0.toNatClampNeg := ⟨_, rfl⟩
    have hm1 : (2, o1) ∈ dy := by rw [ho1]; exact (lw_mem (er := 2) hwf.1.2.2.1 (show (a0.toNatClampNeg : Int) < (J 22 2).toInt from by have := tcl a0; omega))
    refine lv_asv (v' := .ref o1) (by rw [ho1]; rfl) ?_
    refine lv_astore_n (lv' := [(3, .ref o1), (0, .ref (g.2.2.1 12)), (1, .int a0), (2, .int a1)]) hx hb dX11_hears_8 rfl hl (by decide) rfl (fun ls hl => ?_)
    refine lv_aload_n hx hb dX11_hears_9 rfl (lv_at hl 0 rfl) ?_
    refine lv_ifnonnull (tgt := 19) hx hb dX11_hears_10 (by decide) ?_
    refine lv_iload_n hx hb dX11_hears_19 rfl (lv_at hl 3 rfl) ?_
    refine ci_ C hW (runS (As := [.int a1]) (rest := []) (T := ((J, L, I, P, E, N), sgX g ++ dy)) C hW (c_X11_voiceRefusal l g J L I P E N dy H.size a1 ) mi_X11_voiceRefusal tw_524 ⟨rfl, rfl, Nat.le_of_ble_eq_true rfl, Nat.le_of_ble_eq_true rfl⟩ rfl hl.1 rfl (Nat.le_of_ble_eq_true rfl) dX11_hears_20 ⟨Nat.le_of_ble_eq_true rfl, Nat.le_of_ble_eq_true rfl⟩) (fun r3 u3 H locs hp3 hW => ?_)
    have hc3 : ((r3.toInt = (-4) ∧ (a1.toInt < 1)) ∨ (r3.toInt = (-6) ∧ (999 < a1.toInt)) ∨ (r3.toInt = 0 ∧ (1 ≤ a1.toInt ∧ a1.toInt ≤ 999))) := hp3
    clear hp3
    have hW : WB g A s.heap H locs (J, L, I, P, E, N) (sgX g ++ dy) := hW
    refine lv_istore (lv' := [(4, .int r3), (3, .ref o1), (0, .ref (g.2.2.1 12)), (1, .int a0), (2, .int a1)]) hx hb dX11_hears_23 hl (by decide) rfl (fun ls hl => ?_)
    refine lv_iload hx hb dX11_hears_25 (lv_at hl 0 rfl) ?_
    refine lv_if_eq (tgt := 37) hx hb dX11_hears_27 (by decide) (fun c4 => ?_) (fun c4 => ?_)
    · have c4 : r3.toInt = 0 := teq rfl kp0 c4
      refine lv_aload_n hx hb dX11_hears_37 rfl (lv_at hl 2 rfl) ?_
      refine rg_12_0 C hW (mx_ rfl) tw_364 dX11_hears_38 ?_
      refine lv_iload_n hx hb dX11_hears_41 rfl (lv_at hl 4 rfl) ?_
      refine lv_aload_n hx hb dX11_hears_42 rfl (lv_at hl 2 rfl) ?_
      refine rg_12_0 C hW (mx_ rfl) tw_364 dX11_hears_43 ?_
      refine rg_4_4 C hW (mx_ rfl) tw_240 dX11_hears_46 ?_
      refine lv_aload_n hx hb dX11_hears_49 rfl (lv_at hl 2 rfl) ?_
      refine rg_12_1 C hW (mx_ rfl) tw_365 dX11_hears_50 ?_
      refine rg_3_1 C hW (mx_ rfl) tw_278 dX11_hears_53 ?_
      refine cv_ C hW (runV (x := (g.2.2.1 4)) (As := [.int a1, .int (J 4 4), .int (J 3 1)]) (rest := []) (T := ((J, L, I, P, E, N), sgX g ++ dy)) C hW (c_X3_carry l g J L I P E N dy H.size a1 (J 4 4) (J 3 1) hwf) mi_X3_carry tw_527 (recv_ (T := ((J, L, I, P, E, N), sgX g ++ dy)) C hW (mx_ rfl) rfl rfl) ⟨rfl, rfl, Nat.le_of_ble_eq_true rfl, Nat.le_of_ble_eq_true rfl⟩ rfl hl.1 rfl (Nat.le_of_ble_eq_true rfl) dX11_hears_56 ⟨Nat.le_of_ble_eq_true rfl, Nat.le_of_ble_eq_true rfl⟩) (fun u5 H locs hp5 hW => ?_)
      have hW : WB g A s.heap H locs (J, L, (hv I [] [(6, 6), (6, 7)] u5), P, E, N) (sgX g ++ dy) := hW
      refine lv_aload_n hx hb dX11_hears_59 rfl (lv_at hl 1 rfl) ?_
      refine lv_aload_n hx hb dX11_hears_60 rfl (lv_at hl 2 rfl) ?_
      refine rg_12_0 C hW (mx_ rfl) tw_364 dX11_hears_61 ?_
      refine rg_4_5 C hW (mx_ rfl) tw_243 dX11_hears_64 ?_
      refine ci_ C hW (runV (x := o1) (As := [.int (J 4 5)]) (rest := []) (T := ((J, L, (hv I [] [(6, 6), (6, 7)] u5), P, E, N), sgX g ++ dy)) C hW (c_X1_isReached l g J L (hv I [] [(6, 6), (6, 7)] u5) P E N dy H.size o1 hm1 (J 4 5) hwf) mi_X1_isReached tw_581 (recv_ (T := ((J, L, (hv I [] [(6, 6), (6, 7)] u5), P, E, N), sgX g ++ dy)) C hW (List.mem_append_right _ hm1) rfl rfl) ⟨rfl, rfl, Nat.le_of_ble_eq_true rfl, Nat.le_of_ble_eq_true rfl⟩ rfl hl.1 rfl (Nat.le_of_ble_eq_true rfl) dX11_hears_67 ⟨Nat.le_of_ble_eq_true rfl, Nat.le_of_ble_eq_true rfl⟩) (fun r6 u6 H locs hp6 hW => ?_)
      have hc6 : ((r6.toInt = 1) ∨ (r6.toInt = 0)) := hp6
      clear hp6
      have hW : WB g A s.heap H locs (J, L, (hv I [] [(6, 6), (6, 7)] u5), P, E, N) (sgX g ++ dy) := hW
      refine lv_if_eq (tgt := 77) hx hb dX11_hears_70 (by decide) (fun c7 => ?_) (fun c7 => ?_)
      · have c7 : r6.toInt = 0 := teq rfl kp0 c7
        refine lv_iconst (v := 0) hx hb dX11_hears_77 (by decide) ?_
        have hWr : WB g A s.heap H locs ((hv J [42] [] J), L, (hv I [] [(6, 6), (6, 7)] (hv I [] [(6, 6), (6, 7)] u5)), P, E, N) (sgX g ++ dy) := by
          rw [← ag_hvE (J := J) (R := [42]) (F := []) ag_rf]
          rw [← ag_hvE (J := I) (R := []) (F := [(6, 6), (6, 7)]) (ag_hv rfl rfl ag_rf)]
          exact hW
        exact end_i C hr hlocks (J, (hv I [] [(6, 6), (6, 7)] u5)) hWr trivial dX11_hears_78
      · have c7 : ¬ r6.toInt = 0 := tne rfl kp0 c7
        refine lv_iconst (v := 1) hx hb dX11_hears_73 (by decide) ?_
        refine lv_goto (tgt := 78) hx hb dX11_hears_74 (by decide) ?_
        have hWr : WB g A s.heap H locs ((hv J [42] [] J), L, (hv I [] [(6, 6), (6, 7)] (hv I [] [(6, 6), (6, 7)] u5)), P, E, N) (sgX g ++ dy) := by
          rw [← ag_hvE (J := J) (R := [42]) (F := []) ag_rf]
          rw [← ag_hvE (J := I) (R := []) (F := [(6, 6), (6, 7)]) (ag_hv rfl rfl ag_rf)]
          exact hW
        exact end_i C hr hlocks (J, (hv I [] [(6, 6), (6, 7)] u5)) hWr trivial dX11_hears_78
    · have c4 : ¬ r3.toInt = 0 := tne rfl kp0 c4
      refine lv_aload_n hx hb dX11_hears_30 rfl (lv_at hl 2 rfl) ?_
      refine lv_iload hx hb dX11_hears_31 (lv_at hl 0 rfl) ?_
      refine ci_ C hW (runV (x := (g.2.2.1 12)) (As := [.int r3]) (rest := []) (T := ((J, L, I, P, E, N), sgX g ++ dy)) C hW (c_X11_refuse l g J L I P E N dy H.size r3 hwf) mi_X11_refuse tw_411 (recv_ (T := ((J, L, I, P, E, N), sgX g ++ dy)) C hW (mx_ rfl) rfl rfl) ⟨rfl, rfl, Nat.le_of_ble_eq_true rfl, Nat.le_of_ble_eq_true rfl⟩ rfl hl.1 rfl (Nat.le_of_ble_eq_true rfl) dX11_hears_33 ⟨Nat.le_of_ble_eq_true rfl, Nat.le_of_ble_eq_true rfl⟩) (fun r8 u8 H locs hp8 hW => ?_)
      have hc8 : ((r8 = r3)) := hp8
      clear hp8
      have hr8 : r8.toInt = (r3).toInt := by rw [hc8]
      have hW : WB g A s.heap H locs ((hv J [42] [] u8), L, I, P, E, N) (sgX g ++ dy) := hW
      have hWr : WB g A s.heap H locs ((hv J [42] [] (hv J [42] [] u8)), L, (hv I [] [(6, 6), (6, 7)] I), P, E, N) (sgX g ++ dy) := by
        rw [← ag_hvE (J := J) (R := [42]) (F := []) (ag_hv rfl rfl ag_rf)]
        rw [← ag_hvE (J := I) (R := []) (F := [(6, 6), (6, 7)]) ag_rf]
        exact hW
      exact end_i C hr hlocks ((hv J [42] [] u8), I) hWr trivial dX11_hears_36

set_option maxHeartbeats 4000000 in
set_option maxRecDepth 100000 in
theorem c_X11_lag (l : Launch) (g : gG) (J : Nat → Nat → Int32) (L : Nat → Nat → Int64) (I : Nat → Nat → Nat → Int32) (P : Nat → Nat → Nat → Option Nat) (E : Nat → Option Nat) (N : Nat → Nat) (dy : List (Nat × Nat)) (sz : Nat) (a0 : Int32) (hwf : WXF g J P E N dy) : Met l yX11_lag (WS yX11_lag cX11_lag 5 (some .int)) (RM (5) 0 0) (PC g [.ref (g.2.2.1 12), .int a0] ((J, L, I, P, E, N), sgX g ++ dy) sz) (va_Qi (fun (r : Int32) (u : (Nat → Nat → Int32)) => True) (fun u t => at_ g (FR g ((J, L, I, P, E, N), sgX g ++ dy) sz) (((hv J [42] [] u), L, I, P, E, N), sgX g ++ dy) t) (FR g ((J, L, I, P, E, N), sgX g ++ dy) sz)) 0 0 (FR g ((J, L, I, P, E, N), sgX g ++ dy) sz) := by
  refine ent (by decide +kernel) (Nat.le_of_ble_eq_true rfl) ?_
  intro p e s m below meth c ls hsz C hW hr hlocks hname hl
  generalize FR g ((J, L, I, P, E, N), sgX g ++ dy) sz = A at C hW ⊢
  have hx := C.1.1
  have hb := C.1.2.1
  have hts := C.1.2.2.2.2
  have hl : lv_has ls 5 [(0, .ref (g.2.2.1 12)), (1, .int a0)] := hl
  obtain ⟨H, hH⟩ : ∃ H : Heap, H = s.heap := ⟨_, rfl⟩
  obtain ⟨locs, hlocs⟩ : ∃ q : List Loc, q = [] := ⟨_, rfl⟩
  have hW : WB g A s.heap H locs (J, L, I, P, E, N) (sgX g ++ dy) := by rw [hH, hlocs]; exact hW
  refine start_ hH hlocs ?_
  refine lv_aload_n hx hb dX11_lag_0 rfl (lv_at hl 0 rfl) ?_
  refine rg_12_1 C hW (mx_ rfl) tw_365 dX11_lag_1 ?_
  refine lv_iload_n hx hb dX11_lag_4 rfl (lv_at hl 1 rfl) ?_
  refine cq_ C hW (runV (x := (g.2.2.1 3)) (As := [.int a0]) (rest := []) (T := ((J, L, I, P, E, N), sgX g ++ dy)) C hW (c_X2_spanOf l g J L I P E N dy H.size a0 hwf) mi_X2_spanOf tw_639 (recv_ (T := ((J, L, I, P, E, N), sgX g ++ dy)) C hW (mx_ rfl) rfl rfl) ⟨rfl, rfl, Nat.le_of_ble_eq_true rfl, Nat.le_of_ble_eq_true rfl⟩ rfl hl.1 rfl (Nat.le_of_ble_eq_true rfl) dX11_lag_5 ⟨Nat.le_of_ble_eq_true rfl, Nat.le_of_ble_eq_true rfl⟩) (fun q1 u1 H locs hp1 hW => ?_)
  have hq1 : (q1 = none ∨ (∃ o9 : Nat, q1 = some o9 ∧ (9, o9) ∈ dy)) := hp1
  clear hp1
  have hW : WB g A s.heap H locs (J, L, I, P, E, N) (sgX g ++ dy) := hW
  rcases hq1 with ho1 | ⟨o1, ho1, hm1⟩ <;> subst ho1
  · refine lv_asv (v' := .null) rfl ?_
    refine lv_astore_nN (lv' := [(2, .null), (0, .ref (g.2.2.1 12)), (1, .int a0)]) hx hb dX11_lag_8 rfl hl (by decide) rfl (fun ls hl => ?_)
    refine lv_aload_nN hx hb dX11_lag_9 rfl (lv_at hl 0 rfl) ?_
    refine ci_ C hW (runS (As := [.null]) (rest := []) (T := ((J, L, I, P, E, N), sgX g ++ dy)) C hW (c_X11_readRefusal_n l g J L I P E N dy H.size  ) mi_X11_readRefusal tw_963 ⟨rfl, rfl, Nat.le_of_ble_eq_true rfl, Nat.le_of_ble_eq_true rfl⟩ rfl hl.1 rfl (Nat.le_of_ble_eq_true rfl) dX11_lag_10 ⟨Nat.le_of_ble_eq_true rfl, Nat.le_of_ble_eq_true rfl⟩) (fun r2 u2 H locs hp2 hW => ?_)
    have hW : WB g A s.heap H locs (J, L, I, P, E, N) (sgX g ++ dy) := hW
    refine lv_istore_n (lv' := [(3, .int r2), (2, .null), (0, .ref (g.2.2.1 12)), (1, .int a0)]) hx hb dX11_lag_13 rfl hl (by decide) rfl (fun ls hl => ?_)
    refine lv_iload_n hx hb dX11_lag_14 rfl (lv_at hl 0 rfl) ?_
    refine lv_if_ne (tgt := 22) hx hb dX11_lag_15 (by decide) (fun c3 => ?_) (fun c3 => ?_)
    · have c3 : ¬ r2.toInt = 0 := tne rfl kp0 c3
      refine lv_aload_n hx hb dX11_lag_22 rfl (lv_at hl 2 rfl) ?_
      refine lv_iload_n hx hb dX11_lag_23 rfl (lv_at hl 0 rfl) ?_
      refine ci_ C hW (runV (x := (g.2.2.1 12)) (As := [.int r2]) (rest := []) (T := ((J, L, I, P, E, N), sgX g ++ dy)) C hW (c_X11_refuse l g J L I P E N dy H.size r2 hwf) mi_X11_refuse tw_411 (recv_ (T := ((J, L, I, P, E, N), sgX g ++ dy)) C hW (mx_ rfl) rfl rfl) ⟨rfl, rfl, Nat.le_of_ble_eq_true rfl, Nat.le_of_ble_eq_true rfl⟩ rfl hl.1 rfl (Nat.le_of_ble_eq_true rfl) dX11_lag_24 ⟨Nat.le_of_ble_eq_true rfl, Nat.le_of_ble_eq_true rfl⟩) (fun r4 u4 H locs hp4 hW => ?_)
      have hc4 : ((r4 = r2)) := hp4
      clear hp4
      have hr4 : r4.toInt = (r2).toInt := by rw [hc4]
      have hW : WB g A s.heap H locs ((hv J [42] [] u4), L, I, P, E, N) (sgX g ++ dy) := hW
      have hWr : WB g A s.heap H locs ((hv J [42] [] (hv J [42] [] u4)), L, I, P, E, N) (sgX g ++ dy) := by
        rw [← ag_hvE (J := J) (R := [42]) (F := []) (ag_hv rfl rfl ag_rf)]
        exact hW
      exact end_i C hr hlocks (hv J [42] [] u4) hWr trivial dX11_lag_27
    · have c3 : r2.toInt = 0 := teq rfl kp0 c3
      refine lv_aload_nN hx hb dX11_lag_18 rfl (lv_at hl 1 rfl) ?_
      refine lv_ifnonnullN hx hb dX11_lag_19 ?_
      refine lv_aload_n hx hb dX11_lag_22 rfl (lv_at hl 2 rfl) ?_
      refine lv_iload_n hx hb dX11_lag_23 rfl (lv_at hl 0 rfl) ?_
      refine ci_ C hW (runV (x := (g.2.2.1 12)) (As := [.int r2]) (rest := []) (T := ((J, L, I, P, E, N), sgX g ++ dy)) C hW (c_X11_refuse l g J L I P E N dy H.size r2 hwf) mi_X11_refuse tw_411 (recv_ (T := ((J, L, I, P, E, N), sgX g ++ dy)) C hW (mx_ rfl) rfl rfl) ⟨rfl, rfl, Nat.le_of_ble_eq_true rfl, Nat.le_of_ble_eq_true rfl⟩ rfl hl.1 rfl (Nat.le_of_ble_eq_true rfl) dX11_lag_24 ⟨Nat.le_of_ble_eq_true rfl, Nat.le_of_ble_eq_true rfl⟩) (fun r5 u5 H locs hp5 hW => ?_)
      have hc5 : ((r5 = r2)) := hp5
      clear hp5
      have hr5 : r5.toInt = (r2).toInt := by rw [hc5]
      have hW : WB g A s.heap H locs ((hv J [42] [] u5), L, I, P, E, N) (sgX g ++ dy) := hW
      have hWr : WB g A s.heap H locs ((hv J [42] [] (hv J [42] [] u5)), L, I, P, E, N) (sgX g ++ dy) := by
        rw [← ag_hvE (J := J) (R := [42]) (F := []) (ag_hv rfl rfl ag_rf)]
        exact hW
      exact end_i C hr hlocks (hv J [42] [] u5) hWr trivial dX11_lag_27
  · refine lv_asv (v' := .ref o1) rfl ?_
    refine lv_astore_n (lv' := [(2, .ref o1), (0, .ref (g.2.2.1 12)), (1, .int a0)]) hx hb dX11_lag_8 rfl hl (by decide) rfl (fun ls hl => ?_)
    refine lv_aload_n hx hb dX11_lag_9 rfl (lv_at hl 0 rfl) ?_
    refine ci_ C hW (runS (As := [.ref o1]) (rest := []) (T := ((J, L, I, P, E, N), sgX g ++ dy)) C hW (c_X11_readRefusal l g J L I P E N dy H.size o1 hm1 ) mi_X11_readRefusal tw_963 ⟨rfl, rfl, Nat.le_of_ble_eq_true rfl, Nat.le_of_ble_eq_true rfl⟩ rfl hl.1 rfl (Nat.le_of_ble_eq_true rfl) dX11_lag_10 ⟨Nat.le_of_ble_eq_true rfl, Nat.le_of_ble_eq_true rfl⟩) (fun r6 u6 H locs hp6 hW => ?_)
    have hW : WB g A s.heap H locs (J, L, I, P, E, N) (sgX g ++ dy) := hW
    refine lv_istore_n (lv' := [(3, .int r6), (2, .ref o1), (0, .ref (g.2.2.1 12)), (1, .int a0)]) hx hb dX11_lag_13 rfl hl (by decide) rfl (fun ls hl => ?_)
    refine lv_iload_n hx hb dX11_lag_14 rfl (lv_at hl 0 rfl) ?_
    refine lv_if_ne (tgt := 22) hx hb dX11_lag_15 (by decide) (fun c7 => ?_) (fun c7 => ?_)
    · have c7 : ¬ r6.toInt = 0 := tne rfl kp0 c7
      refine lv_aload_n hx hb dX11_lag_22 rfl (lv_at hl 2 rfl) ?_
      refine lv_iload_n hx hb dX11_lag_23 rfl (lv_at hl 0 rfl) ?_
      refine ci_ C hW (runV (x := (g.2.2.1 12)) (As := [.int r6]) (rest := []) (T := ((J, L, I, P, E, N), sgX g ++ dy)) C hW (c_X11_refuse l g J L I P E N dy H.size r6 hwf) mi_X11_refuse tw_411 (recv_ (T := ((J, L, I, P, E, N), sgX g ++ dy)) C hW (mx_ rfl) rfl rfl) ⟨rfl, rfl, Nat.le_of_ble_eq_true rfl, Nat.le_of_ble_eq_true rfl⟩ rfl hl.1 rfl (Nat.le_of_ble_eq_true rfl) dX11_lag_24 ⟨Nat.le_of_ble_eq_true rfl, Nat.le_of_ble_eq_true rfl⟩) (fun r8 u8 H locs hp8 hW => ?_)
      have hc8 : ((r8 = r6)) := hp8
      clear hp8
      have hr8 : r8.toInt = (r6).toInt := by rw [hc8]
      have hW : WB g A s.heap H locs ((hv J [42] [] u8), L, I, P, E, N) (sgX g ++ dy) := hW
      have hWr : WB g A s.heap H locs ((hv J [42] [] (hv J [42] [] u8)), L, I, P, E, N) (sgX g ++ dy) := by
        rw [← ag_hvE (J := J) (R := [42]) (F := []) (ag_hv rfl rfl ag_rf)]
        exact hW
      exact end_i C hr hlocks (hv J [42] [] u8) hWr trivial dX11_lag_27
    · have c7 : r6.toInt = 0 := teq rfl kp0 c7
      refine lv_aload_n hx hb dX11_lag_18 rfl (lv_at hl 1 rfl) ?_
      refine lv_ifnonnull (tgt := 28) hx hb dX11_lag_19 (by decide) ?_
      refine lv_aload_n hx hb dX11_lag_28 rfl (lv_at hl 2 rfl) ?_
      refine lv_aload_n hx hb dX11_lag_29 rfl (lv_at hl 1 rfl) ?_
      refine rg_9_6 C hW (List.mem_append_right _ hm1) tw_438 dX11_lag_30 ?_
      refine lv_topi (fun x9 (e9 : x9 = I 9 6 o1) => ?_)
      have t9 : x9.toInt = (I 9 6 o1).toInt := by rw [e9]
      refine cq_ C hW (runV (x := (g.2.2.1 12)) (As := [.int x9]) (rest := []) (T := ((J, L, I, P, E, N), sgX g ++ dy)) C hW (c_X11_newsOf l g J L I P E N dy H.size x9 hwf) mi_X11_newsOf tw_631 (recv_ (T := ((J, L, I, P, E, N), sgX g ++ dy)) C hW (mx_ rfl) rfl rfl) ⟨rfl, rfl, Nat.le_of_ble_eq_true rfl, Nat.le_of_ble_eq_true rfl⟩ rfl hl.1 rfl (Nat.le_of_ble_eq_true rfl) dX11_lag_33 ⟨Nat.le_of_ble_eq_true rfl, Nat.le_of_ble_eq_true rfl⟩) (fun q10 u10 H locs hp10 hW => ?_)
      have hq10 : (q10 = none ∨ (∃ o9 : Nat, q10 = some o9 ∧ (5, o9) ∈ dy)) := hp10
      clear hp10
      have hW : WB g A s.heap H locs (J, L, I, P, E, N) (sgX g ++ dy) := hW
      rcases hq10 with ho10 | ⟨o10, ho10, hm10⟩ <;> subst ho10
      · refine lv_asv (v' := .null) rfl ?_
        refine lv_astoreN (lv' := [(4, .null), (3, .int r6), (2, .ref o1), (0, .ref (g.2.2.1 12)), (1, .int a0)]) hx hb dX11_lag_36 hl (by decide) rfl (fun ls hl => ?_)
        refine lv_aloadN hx hb dX11_lag_38 (lv_at hl 0 rfl) ?_
        refine lv_ifnonnullN hx hb dX11_lag_40 ?_
        refine lv_bipush (v := (-9)) hx hb dX11_lag_43 (by decide) ?_
        refine lv_goto (tgt := 55) hx hb dX11_lag_45 (by decide) ?_
        have hWr : WB g A s.heap H locs ((hv J [42] [] J), L, I, P, E, N) (sgX g ++ dy) := by
          rw [← ag_hvE (J := J) (R := [42]) (F := []) ag_rf]
          exact hW
        exact end_i C hr hlocks J hWr trivial dX11_lag_55
      · refine lv_asv (v' := .ref o10) rfl ?_
        refine lv_astore (lv' := [(4, .ref o10), (3, .int r6), (2, .ref o1), (0, .ref (g.2.2.1 12)), (1, .int a0)]) hx hb dX11_lag_36 hl (by decide) rfl (fun ls hl => ?_)
        refine lv_aload hx hb dX11_lag_38 (lv_at hl 0 rfl) ?_
        refine lv_ifnonnull (tgt := 48) hx hb dX11_lag_40 (by decide) ?_
        refine lv_iload_n hx hb dX11_lag_48 rfl (lv_at hl 4 rfl) ?_
        refine lv_aload hx hb dX11_lag_49 (lv_at hl 0 rfl) ?_
        refine rg_5_0 C hW (List.mem_append_right _ hm10) tw_943 dX11_lag_51 ?_
        refine lv_topi (fun x11 (e11 : x11 = I 5 0 o10) => ?_)
        have t11 : x11.toInt = (I 5 0 o10).toInt := by rw [e11]
        refine lv_isub hx hb dX11_lag_54 ?_
        refine lv_topi (fun x12 (e12 : x12 = a0 - x11) => ?_)
        try have t12 : x12.toInt = a0.toInt - x11.toInt := tsub e12 rfl rfl (by omega)
        have hWr : WB g A s.heap H locs ((hv J [42] [] J), L, I, P, E, N) (sgX g ++ dy) := by
          rw [← ag_hvE (J := J) (R := [42]) (F := []) ag_rf]
          exact hW
        exact end_i C hr hlocks J hWr trivial dX11_lag_55

set_option maxHeartbeats 4000000 in
set_option maxRecDepth 100000 in
theorem c_X11_fresh (l : Launch) (g : gG) (J : Nat → Nat → Int32) (L : Nat → Nat → Int64) (I : Nat → Nat → Nat → Int32) (P : Nat → Nat → Nat → Option Nat) (E : Nat → Option Nat) (N : Nat → Nat) (dy : List (Nat × Nat)) (sz : Nat) (a0 : Int32) (hwf : WXF g J P E N dy) : Met l yX11_fresh (WS yX11_fresh cX11_fresh 5 (some .int)) (RM (5) 0 0) (PC g [.ref (g.2.2.1 12), .int a0] ((J, L, I, P, E, N), sgX g ++ dy) sz) (va_Qi (fun (r : Int32) (u : (Nat → Nat → Int32)) => True) (fun u t => at_ g (FR g ((J, L, I, P, E, N), sgX g ++ dy) sz) (((hv J [42] [] u), L, I, P, E, N), sgX g ++ dy) t) (FR g ((J, L, I, P, E, N), sgX g ++ dy) sz)) 0 0 (FR g ((J, L, I, P, E, N), sgX g ++ dy) sz) := by
  refine ent (by decide +kernel) (Nat.le_of_ble_eq_true rfl) ?_
  intro p e s m below meth c ls hsz C hW hr hlocks hname hl
  generalize FR g ((J, L, I, P, E, N), sgX g ++ dy) sz = A at C hW ⊢
  have hx := C.1.1
  have hb := C.1.2.1
  have hts := C.1.2.2.2.2
  have hl : lv_has ls 5 [(0, .ref (g.2.2.1 12)), (1, .int a0)] := hl
  obtain ⟨H, hH⟩ : ∃ H : Heap, H = s.heap := ⟨_, rfl⟩
  obtain ⟨locs, hlocs⟩ : ∃ q : List Loc, q = [] := ⟨_, rfl⟩
  have hW : WB g A s.heap H locs (J, L, I, P, E, N) (sgX g ++ dy) := by rw [hH, hlocs]; exact hW
  refine start_ hH hlocs ?_
  refine lv_aload_n hx hb dX11_fresh_0 rfl (lv_at hl 0 rfl) ?_
  refine rg_12_1 C hW (mx_ rfl) tw_365 dX11_fresh_1 ?_
  refine lv_iload_n hx hb dX11_fresh_4 rfl (lv_at hl 1 rfl) ?_
  refine cq_ C hW (runV (x := (g.2.2.1 3)) (As := [.int a0]) (rest := []) (T := ((J, L, I, P, E, N), sgX g ++ dy)) C hW (c_X2_spanOf l g J L I P E N dy H.size a0 hwf) mi_X2_spanOf tw_639 (recv_ (T := ((J, L, I, P, E, N), sgX g ++ dy)) C hW (mx_ rfl) rfl rfl) ⟨rfl, rfl, Nat.le_of_ble_eq_true rfl, Nat.le_of_ble_eq_true rfl⟩ rfl hl.1 rfl (Nat.le_of_ble_eq_true rfl) dX11_fresh_5 ⟨Nat.le_of_ble_eq_true rfl, Nat.le_of_ble_eq_true rfl⟩) (fun q1 u1 H locs hp1 hW => ?_)
  have hq1 : (q1 = none ∨ (∃ o9 : Nat, q1 = some o9 ∧ (9, o9) ∈ dy)) := hp1
  clear hp1
  have hW : WB g A s.heap H locs (J, L, I, P, E, N) (sgX g ++ dy) := hW
  rcases hq1 with ho1 | ⟨o1, ho1, hm1⟩ <;> subst ho1
  · refine lv_asv (v' := .null) rfl ?_
    refine lv_astore_nN (lv' := [(2, .null), (0, .ref (g.2.2.1 12)), (1, .int a0)]) hx hb dX11_fresh_8 rfl hl (by decide) rfl (fun ls hl => ?_)
    refine lv_aload_nN hx hb dX11_fresh_9 rfl (lv_at hl 0 rfl) ?_
    refine ci_ C hW (runS (As := [.null]) (rest := []) (T := ((J, L, I, P, E, N), sgX g ++ dy)) C hW (c_X11_readRefusal_n l g J L I P E N dy H.size  ) mi_X11_readRefusal tw_963 ⟨rfl, rfl, Nat.le_of_ble_eq_true rfl, Nat.le_of_ble_eq_true rfl⟩ rfl hl.1 rfl (Nat.le_of_ble_eq_true rfl) dX11_fresh_10 ⟨Nat.le_of_ble_eq_true rfl, Nat.le_of_ble_eq_true rfl⟩) (fun r2 u2 H locs hp2 hW => ?_)
    have hW : WB g A s.heap H locs (J, L, I, P, E, N) (sgX g ++ dy) := hW
    refine lv_istore_n (lv' := [(3, .int r2), (2, .null), (0, .ref (g.2.2.1 12)), (1, .int a0)]) hx hb dX11_fresh_13 rfl hl (by decide) rfl (fun ls hl => ?_)
    refine lv_iload_n hx hb dX11_fresh_14 rfl (lv_at hl 0 rfl) ?_
    refine lv_if_ne (tgt := 22) hx hb dX11_fresh_15 (by decide) (fun c3 => ?_) (fun c3 => ?_)
    · have c3 : ¬ r2.toInt = 0 := tne rfl kp0 c3
      refine lv_aload_n hx hb dX11_fresh_22 rfl (lv_at hl 2 rfl) ?_
      refine lv_iload_n hx hb dX11_fresh_23 rfl (lv_at hl 0 rfl) ?_
      refine ci_ C hW (runV (x := (g.2.2.1 12)) (As := [.int r2]) (rest := []) (T := ((J, L, I, P, E, N), sgX g ++ dy)) C hW (c_X11_refuse l g J L I P E N dy H.size r2 hwf) mi_X11_refuse tw_411 (recv_ (T := ((J, L, I, P, E, N), sgX g ++ dy)) C hW (mx_ rfl) rfl rfl) ⟨rfl, rfl, Nat.le_of_ble_eq_true rfl, Nat.le_of_ble_eq_true rfl⟩ rfl hl.1 rfl (Nat.le_of_ble_eq_true rfl) dX11_fresh_24 ⟨Nat.le_of_ble_eq_true rfl, Nat.le_of_ble_eq_true rfl⟩) (fun r4 u4 H locs hp4 hW => ?_)
      have hc4 : ((r4 = r2)) := hp4
      clear hp4
      have hr4 : r4.toInt = (r2).toInt := by rw [hc4]
      have hW : WB g A s.heap H locs ((hv J [42] [] u4), L, I, P, E, N) (sgX g ++ dy) := hW
      have hWr : WB g A s.heap H locs ((hv J [42] [] (hv J [42] [] u4)), L, I, P, E, N) (sgX g ++ dy) := by
        rw [← ag_hvE (J := J) (R := [42]) (F := []) (ag_hv rfl rfl ag_rf)]
        exact hW
      exact end_i C hr hlocks (hv J [42] [] u4) hWr trivial dX11_fresh_27
    · have c3 : r2.toInt = 0 := teq rfl kp0 c3
      refine lv_aload_nN hx hb dX11_fresh_18 rfl (lv_at hl 1 rfl) ?_
      refine lv_ifnonnullN hx hb dX11_fresh_19 ?_
      refine lv_aload_n hx hb dX11_fresh_22 rfl (lv_at hl 2 rfl) ?_
      refine lv_iload_n hx hb dX11_fresh_23 rfl (lv_at hl 0 rfl) ?_
      refine ci_ C hW (runV (x := (g.2.2.1 12)) (As := [.int r2]) (rest := []) (T := ((J, L, I, P, E, N), sgX g ++ dy)) C hW (c_X11_refuse l g J L I P E N dy H.size r2 hwf) mi_X11_refuse tw_411 (recv_ (T := ((J, L, I, P, E, N), sgX g ++ dy)) C hW (mx_ rfl) rfl rfl) ⟨rfl, rfl, Nat.le_of_ble_eq_true rfl, Nat.le_of_ble_eq_true rfl⟩ rfl hl.1 rfl (Nat.le_of_ble_eq_true rfl) dX11_fresh_24 ⟨Nat.le_of_ble_eq_true rfl, Nat.le_of_ble_eq_true rfl⟩) (fun r5 u5 H locs hp5 hW => ?_)
      have hc5 : ((r5 = r2)) := hp5
      clear hp5
      have hr5 : r5.toInt = (r2).toInt := by rw [hc5]
      have hW : WB g A s.heap H locs ((hv J [42] [] u5), L, I, P, E, N) (sgX g ++ dy) := hW
      have hWr : WB g A s.heap H locs ((hv J [42] [] (hv J [42] [] u5)), L, I, P, E, N) (sgX g ++ dy) := by
        rw [← ag_hvE (J := J) (R := [42]) (F := []) (ag_hv rfl rfl ag_rf)]
        exact hW
      exact end_i C hr hlocks (hv J [42] [] u5) hWr trivial dX11_fresh_27
  · refine lv_asv (v' := .ref o1) rfl ?_
    refine lv_astore_n (lv' := [(2, .ref o1), (0, .ref (g.2.2.1 12)), (1, .int a0)]) hx hb dX11_fresh_8 rfl hl (by decide) rfl (fun ls hl => ?_)
    refine lv_aload_n hx hb dX11_fresh_9 rfl (lv_at hl 0 rfl) ?_
    refine ci_ C hW (runS (As := [.ref o1]) (rest := []) (T := ((J, L, I, P, E, N), sgX g ++ dy)) C hW (c_X11_readRefusal l g J L I P E N dy H.size o1 hm1 ) mi_X11_readRefusal tw_963 ⟨rfl, rfl, Nat.le_of_ble_eq_true rfl, Nat.le_of_ble_eq_true rfl⟩ rfl hl.1 rfl (Nat.le_of_ble_eq_true rfl) dX11_fresh_10 ⟨Nat.le_of_ble_eq_true rfl, Nat.le_of_ble_eq_true rfl⟩) (fun r6 u6 H locs hp6 hW => ?_)
    have hW : WB g A s.heap H locs (J, L, I, P, E, N) (sgX g ++ dy) := hW
    refine lv_istore_n (lv' := [(3, .int r6), (2, .ref o1), (0, .ref (g.2.2.1 12)), (1, .int a0)]) hx hb dX11_fresh_13 rfl hl (by decide) rfl (fun ls hl => ?_)
    refine lv_iload_n hx hb dX11_fresh_14 rfl (lv_at hl 0 rfl) ?_
    refine lv_if_ne (tgt := 22) hx hb dX11_fresh_15 (by decide) (fun c7 => ?_) (fun c7 => ?_)
    · have c7 : ¬ r6.toInt = 0 := tne rfl kp0 c7
      refine lv_aload_n hx hb dX11_fresh_22 rfl (lv_at hl 2 rfl) ?_
      refine lv_iload_n hx hb dX11_fresh_23 rfl (lv_at hl 0 rfl) ?_
      refine ci_ C hW (runV (x := (g.2.2.1 12)) (As := [.int r6]) (rest := []) (T := ((J, L, I, P, E, N), sgX g ++ dy)) C hW (c_X11_refuse l g J L I P E N dy H.size r6 hwf) mi_X11_refuse tw_411 (recv_ (T := ((J, L, I, P, E, N), sgX g ++ dy)) C hW (mx_ rfl) rfl rfl) ⟨rfl, rfl, Nat.le_of_ble_eq_true rfl, Nat.le_of_ble_eq_true rfl⟩ rfl hl.1 rfl (Nat.le_of_ble_eq_true rfl) dX11_fresh_24 ⟨Nat.le_of_ble_eq_true rfl, Nat.le_of_ble_eq_true rfl⟩) (fun r8 u8 H locs hp8 hW => ?_)
      have hc8 : ((r8 = r6)) := hp8
      clear hp8
      have hr8 : r8.toInt = (r6).toInt := by rw [hc8]
      have hW : WB g A s.heap H locs ((hv J [42] [] u8), L, I, P, E, N) (sgX g ++ dy) := hW
      have hWr : WB g A s.heap H locs ((hv J [42] [] (hv J [42] [] u8)), L, I, P, E, N) (sgX g ++ dy) := by
        rw [← ag_hvE (J := J) (R := [42]) (F := []) (ag_hv rfl rfl ag_rf)]
        exact hW
      exact end_i C hr hlocks (hv J [42] [] u8) hWr trivial dX11_fresh_27
    · have c7 : r6.toInt = 0 := teq rfl kp0 c7
      refine lv_aload_n hx hb dX11_fresh_18 rfl (lv_at hl 1 rfl) ?_
      refine lv_ifnonnull (tgt := 28) hx hb dX11_fresh_19 (by decide) ?_
      refine lv_aload_n hx hb dX11_fresh_28 rfl (lv_at hl 2 rfl) ?_
      refine lv_aload_n hx hb dX11_fresh_29 rfl (lv_at hl 1 rfl) ?_
      refine rg_9_6 C hW (List.mem_append_right _ hm1) tw_438 dX11_fresh_30 ?_
      refine lv_topi (fun x9 (e9 : x9 = I 9 6 o1) => ?_)
      have t9 : x9.toInt = (I 9 6 o1).toInt := by rw [e9]
      refine cq_ C hW (runV (x := (g.2.2.1 12)) (As := [.int x9]) (rest := []) (T := ((J, L, I, P, E, N), sgX g ++ dy)) C hW (c_X11_newsOf l g J L I P E N dy H.size x9 hwf) mi_X11_newsOf tw_631 (recv_ (T := ((J, L, I, P, E, N), sgX g ++ dy)) C hW (mx_ rfl) rfl rfl) ⟨rfl, rfl, Nat.le_of_ble_eq_true rfl, Nat.le_of_ble_eq_true rfl⟩ rfl hl.1 rfl (Nat.le_of_ble_eq_true rfl) dX11_fresh_33 ⟨Nat.le_of_ble_eq_true rfl, Nat.le_of_ble_eq_true rfl⟩) (fun q10 u10 H locs hp10 hW => ?_)
      have hq10 : (q10 = none ∨ (∃ o9 : Nat, q10 = some o9 ∧ (5, o9) ∈ dy)) := hp10
      clear hp10
      have hW : WB g A s.heap H locs (J, L, I, P, E, N) (sgX g ++ dy) := hW
      rcases hq10 with ho10 | ⟨o10, ho10, hm10⟩ <;> subst ho10
      · refine lv_asv (v' := .null) rfl ?_
        refine lv_astoreN (lv' := [(4, .null), (3, .int r6), (2, .ref o1), (0, .ref (g.2.2.1 12)), (1, .int a0)]) hx hb dX11_fresh_36 hl (by decide) rfl (fun ls hl => ?_)
        refine lv_aloadN hx hb dX11_fresh_38 (lv_at hl 0 rfl) ?_
        refine lv_ifnonnullN hx hb dX11_fresh_40 ?_
        refine lv_bipush (v := (-9)) hx hb dX11_fresh_43 (by decide) ?_
        have hWr : WB g A s.heap H locs ((hv J [42] [] J), L, I, P, E, N) (sgX g ++ dy) := by
          rw [← ag_hvE (J := J) (R := [42]) (F := []) ag_rf]
          exact hW
        exact end_i C hr hlocks J hWr trivial dX11_fresh_45
      · refine lv_asv (v' := .ref o10) rfl ?_
        refine lv_astore (lv' := [(4, .ref o10), (3, .int r6), (2, .ref o1), (0, .ref (g.2.2.1 12)), (1, .int a0)]) hx hb dX11_fresh_36 hl (by decide) rfl (fun ls hl => ?_)
        refine lv_aload hx hb dX11_fresh_38 (lv_at hl 0 rfl) ?_
        refine lv_ifnonnull (tgt := 46) hx hb dX11_fresh_40 (by decide) ?_
        refine lv_aload hx hb dX11_fresh_46 (lv_at hl 0 rfl) ?_
        refine lv_iload_n hx hb dX11_fresh_48 rfl (lv_at hl 4 rfl) ?_
        refine ci_ C hW (runV (x := o10) (As := [.int a0]) (rest := []) (T := ((J, L, I, P, E, N), sgX g ++ dy)) C hW (c_X4_isFreshIn l g J L I P E N dy H.size o10 hm10 a0 hwf) mi_X4_isFreshIn tw_970 (recv_ (T := ((J, L, I, P, E, N), sgX g ++ dy)) C hW (List.mem_append_right _ hm10) rfl rfl) ⟨rfl, rfl, Nat.le_of_ble_eq_true rfl, Nat.le_of_ble_eq_true rfl⟩ rfl hl.1 rfl (Nat.le_of_ble_eq_true rfl) dX11_fresh_49 ⟨Nat.le_of_ble_eq_true rfl, Nat.le_of_ble_eq_true rfl⟩) (fun r11 u11 H locs hp11 hW => ?_)
        have hc11 : ((r11.toInt = 1) ∨ (r11.toInt = 0)) := hp11
        clear hp11
        have hW : WB g A s.heap H locs (J, L, I, P, E, N) (sgX g ++ dy) := hW
        refine lv_if_eq (tgt := 59) hx hb dX11_fresh_52 (by decide) (fun c12 => ?_) (fun c12 => ?_)
        · have c12 : r11.toInt = 0 := teq rfl kp0 c12
          refine lv_iconst (v := 0) hx hb dX11_fresh_59 (by decide) ?_
          have hWr : WB g A s.heap H locs ((hv J [42] [] J), L, I, P, E, N) (sgX g ++ dy) := by
            rw [← ag_hvE (J := J) (R := [42]) (F := []) ag_rf]
            exact hW
          exact end_i C hr hlocks J hWr trivial dX11_fresh_60
        · have c12 : ¬ r11.toInt = 0 := tne rfl kp0 c12
          refine lv_iconst (v := 1) hx hb dX11_fresh_55 (by decide) ?_
          refine lv_goto (tgt := 60) hx hb dX11_fresh_56 (by decide) ?_
          have hWr : WB g A s.heap H locs ((hv J [42] [] J), L, I, P, E, N) (sgX g ++ dy) := by
            rw [← ag_hvE (J := J) (R := [42]) (F := []) ag_rf]
            exact hW
          exact end_i C hr hlocks J hWr trivial dX11_fresh_60

set_option maxHeartbeats 4000000 in
set_option maxRecDepth 100000 in
theorem c_X11_printed (l : Launch) (g : gG) (J : Nat → Nat → Int32) (L : Nat → Nat → Int64) (I : Nat → Nat → Nat → Int32) (P : Nat → Nat → Nat → Option Nat) (E : Nat → Option Nat) (N : Nat → Nat) (dy : List (Nat × Nat)) (sz : Nat) (a0 : Int32) (a1 : Int32) (hwf : WXF g J P E N dy) : Met l yX11_printed (WS yX11_printed cX11_printed 4 (some .int)) (RM (5) 0 0) (PC g [.ref (g.2.2.1 12), .int a0, .int a1] ((J, L, I, P, E, N), sgX g ++ dy) sz) (va_Qi (fun (r : Int32) (u : (Nat → Nat → Int32) × (Nat → Nat → Nat → Int32)) => True) (fun u t => at_ g (FR g ((J, L, I, P, E, N), sgX g ++ dy) sz) (((hv J [42] [] u.1), L, (hv I [] [(5, 1)] u.2), P, E, N), sgX g ++ dy) t) (FR g ((J, L, I, P, E, N), sgX g ++ dy) sz)) 0 0 (FR g ((J, L, I, P, E, N), sgX g ++ dy) sz) := by
  refine ent (by decide +kernel) (Nat.le_of_ble_eq_true rfl) ?_
  intro p e s m below meth c ls hsz C hW hr hlocks hname hl
  generalize FR g ((J, L, I, P, E, N), sgX g ++ dy) sz = A at C hW ⊢
  have hx := C.1.1
  have hb := C.1.2.1
  have hts := C.1.2.2.2.2
  have hl : lv_has ls 4 [(0, .ref (g.2.2.1 12)), (1, .int a0), (2, .int a1)] := hl
  obtain ⟨H, hH⟩ : ∃ H : Heap, H = s.heap := ⟨_, rfl⟩
  obtain ⟨locs, hlocs⟩ : ∃ q : List Loc, q = [] := ⟨_, rfl⟩
  have hW : WB g A s.heap H locs (J, L, I, P, E, N) (sgX g ++ dy) := by rw [hH, hlocs]; exact hW
  refine start_ hH hlocs ?_
  refine lv_aload_n hx hb dX11_printed_0 rfl (lv_at hl 0 rfl) ?_
  refine lv_iload_n hx hb dX11_printed_1 rfl (lv_at hl 1 rfl) ?_
  refine cq_ C hW (runV (x := (g.2.2.1 12)) (As := [.int a0]) (rest := []) (T := ((J, L, I, P, E, N), sgX g ++ dy)) C hW (c_X11_newsOf l g J L I P E N dy H.size a0 hwf) mi_X11_newsOf tw_631 (recv_ (T := ((J, L, I, P, E, N), sgX g ++ dy)) C hW (mx_ rfl) rfl rfl) ⟨rfl, rfl, Nat.le_of_ble_eq_true rfl, Nat.le_of_ble_eq_true rfl⟩ rfl hl.1 rfl (Nat.le_of_ble_eq_true rfl) dX11_printed_2 ⟨Nat.le_of_ble_eq_true rfl, Nat.le_of_ble_eq_true rfl⟩) (fun q1 u1 H locs hp1 hW => ?_)
  have hq1 : (q1 = none ∨ (∃ o9 : Nat, q1 = some o9 ∧ (5, o9) ∈ dy)) := hp1
  clear hp1
  have hW : WB g A s.heap H locs (J, L, I, P, E, N) (sgX g ++ dy) := hW
  rcases hq1 with ho1 | ⟨o1, ho1, hm1⟩ <;> subst ho1
  · refine lv_asv (v' := .null) rfl ?_
    refine lv_astore_nN (lv' := [(3, .null), (0, .ref (g.2.2.1 12)), (1, .int a0), (2, .int a1)]) hx hb dX11_printed_5 rfl hl (by decide) rfl (fun ls hl => ?_)
    refine lv_aload_nN hx hb dX11_printed_6 rfl (lv_at hl 0 rfl) ?_
    refine lv_ifnonnullN hx hb dX11_printed_7 ?_
    refine lv_aload_n hx hb dX11_printed_10 rfl (lv_at hl 1 rfl) ?_
    refine lv_iconst (v := (-1)) hx hb dX11_printed_11 (by decide) ?_
    refine ci_ C hW (runV (x := (g.2.2.1 12)) (As := [.int (-1)]) (rest := []) (T := ((J, L, I, P, E, N), sgX g ++ dy)) C hW (c_X11_refuse l g J L I P E N dy H.size (-1) hwf) mi_X11_refuse tw_411 (recv_ (T := ((J, L, I, P, E, N), sgX g ++ dy)) C hW (mx_ rfl) rfl rfl) ⟨rfl, rfl, Nat.le_of_ble_eq_true rfl, Nat.le_of_ble_eq_true rfl⟩ rfl hl.1 rfl (Nat.le_of_ble_eq_true rfl) dX11_printed_12 ⟨Nat.le_of_ble_eq_true rfl, Nat.le_of_ble_eq_true rfl⟩) (fun r2 u2 H locs hp2 hW => ?_)
    have hc2 : ((r2 = (-1))) := hp2
    clear hp2
    have hr2 : r2.toInt = (-1) := by rw [hc2]; exact kn1
    have hW : WB g A s.heap H locs ((hv J [42] [] u2), L, I, P, E, N) (sgX g ++ dy) := hW
    have hWr : WB g A s.heap H locs ((hv J [42] [] (hv J [42] [] u2)), L, (hv I [] [(5, 1)] I), P, E, N) (sgX g ++ dy) := by
      rw [← ag_hvE (J := J) (R := [42]) (F := []) (ag_hv rfl rfl ag_rf)]
      rw [← ag_hvE (J := I) (R := []) (F := [(5, 1)]) ag_rf]
      exact hW
    exact end_i C hr hlocks ((hv J [42] [] u2), I) hWr trivial dX11_printed_15
  · refine lv_asv (v' := .ref o1) rfl ?_
    refine lv_astore_n (lv' := [(3, .ref o1), (0, .ref (g.2.2.1 12)), (1, .int a0), (2, .int a1)]) hx hb dX11_printed_5 rfl hl (by decide) rfl (fun ls hl => ?_)
    refine lv_aload_n hx hb dX11_printed_6 rfl (lv_at hl 0 rfl) ?_
    refine lv_ifnonnull (tgt := 16) hx hb dX11_printed_7 (by decide) ?_
    refine lv_aload_n hx hb dX11_printed_16 rfl (lv_at hl 0 rfl) ?_
    refine rg_5_1 C hW (List.mem_append_right _ hm1) tw_945 dX11_printed_17 ?_
    refine lv_topi (fun x3 (e3 : x3 = I 5 1 o1) => ?_)
    have t3 : x3.toInt = (I 5 1 o1).toInt := by rw [e3]
    refine lv_iconst (v := (-1)) hx hb dX11_printed_20 (by decide) ?_
    refine lv_icmp_eq (tgt := 31) hx hb dX11_printed_21 (by decide) (fun c4 => ?_) (fun c4 => ?_)
    · have c4 : x3.toInt = (-1) := teq rfl kn1 c4
      refine lv_iload_n hx hb dX11_printed_31 rfl (lv_at hl 3 rfl) ?_
      refine lv_aload_n hx hb dX11_printed_32 rfl (lv_at hl 1 rfl) ?_
      refine rg_12_1 C hW (mx_ rfl) tw_365 dX11_printed_33 ?_
      refine rg_3_1 C hW (mx_ rfl) tw_278 dX11_printed_36 ?_
      refine lv_icmp_ge (tgt := 49) hx hb dX11_printed_39 (by decide) (fun c5 => ?_) (fun c5 => ?_)
      · have c5 : (J 3 1).toInt ≤ a1.toInt := tle rfl rfl c5
        refine lv_iload_n hx hb dX11_printed_49 rfl (lv_at hl 3 rfl) ?_
        refine lv_sipush (v := 9999) hx hb dX11_printed_50 (by decide) ?_
        refine lv_icmp_le (tgt := 63) hx hb dX11_printed_53 (by decide) (fun c6 => ?_) (fun c6 => ?_)
        · have c6 : a1.toInt ≤ 9999 := tle rfl kp9999 c6
          refine lv_aload_n hx hb dX11_printed_63 rfl (lv_at hl 0 rfl) ?_
          refine lv_iload_n hx hb dX11_printed_64 rfl (lv_at hl 3 rfl) ?_
          refine rp_5_1 C hW (List.mem_append_right _ hm1) tw_945 dX11_printed_65 (fun H locs hW => ?_)
          refine lv_iconst (v := 1) hx hb dX11_printed_68 (by decide) ?_
          have hWr : WB g A s.heap H locs ((hv J [42] [] J), L, (hv I [] [(5, 1)] (up3 I 5 1 o1 a1)), P, E, N) (sgX g ++ dy) := by
            rw [← ag_hvE (J := J) (R := [42]) (F := []) ag_rf]
            rw [← ag_hvE (J := I) (R := []) (F := [(5, 1)]) (ag_up3 (Or.inr rfl) ag_rf)]
            exact hW
          exact end_i C hr hlocks (J, (up3 I 5 1 o1 a1)) hWr trivial dX11_printed_69
        · have c6 : 9999 < a1.toInt := tnle rfl kp9999 c6
          refine lv_aload_n hx hb dX11_printed_56 rfl (lv_at hl 1 rfl) ?_
          refine lv_bipush (v := (-6)) hx hb dX11_printed_57 (by decide) ?_
          refine ci_ C hW (runV (x := (g.2.2.1 12)) (As := [.int (-6)]) (rest := []) (T := ((J, L, I, P, E, N), sgX g ++ dy)) C hW (c_X11_refuse l g J L I P E N dy H.size (-6) hwf) mi_X11_refuse tw_411 (recv_ (T := ((J, L, I, P, E, N), sgX g ++ dy)) C hW (mx_ rfl) rfl rfl) ⟨rfl, rfl, Nat.le_of_ble_eq_true rfl, Nat.le_of_ble_eq_true rfl⟩ rfl hl.1 rfl (Nat.le_of_ble_eq_true rfl) dX11_printed_59 ⟨Nat.le_of_ble_eq_true rfl, Nat.le_of_ble_eq_true rfl⟩) (fun r7 u7 H locs hp7 hW => ?_)
          have hc7 : ((r7 = (-6))) := hp7
          clear hp7
          have hr7 : r7.toInt = (-6) := by rw [hc7]; exact kn6
          have hW : WB g A s.heap H locs ((hv J [42] [] u7), L, I, P, E, N) (sgX g ++ dy) := hW
          have hWr : WB g A s.heap H locs ((hv J [42] [] (hv J [42] [] u7)), L, (hv I [] [(5, 1)] I), P, E, N) (sgX g ++ dy) := by
            rw [← ag_hvE (J := J) (R := [42]) (F := []) (ag_hv rfl rfl ag_rf)]
            rw [← ag_hvE (J := I) (R := []) (F := [(5, 1)]) ag_rf]
            exact hW
          exact end_i C hr hlocks ((hv J [42] [] u7), I) hWr trivial dX11_printed_62
      · have c5 : a1.toInt < (J 3 1).toInt := tnle rfl rfl c5
        refine lv_aload_n hx hb dX11_printed_42 rfl (lv_at hl 1 rfl) ?_
        refine lv_bipush (v := (-4)) hx hb dX11_printed_43 (by decide) ?_
        refine ci_ C hW (runV (x := (g.2.2.1 12)) (As := [.int (-4)]) (rest := []) (T := ((J, L, I, P, E, N), sgX g ++ dy)) C hW (c_X11_refuse l g J L I P E N dy H.size (-4) hwf) mi_X11_refuse tw_411 (recv_ (T := ((J, L, I, P, E, N), sgX g ++ dy)) C hW (mx_ rfl) rfl rfl) ⟨rfl, rfl, Nat.le_of_ble_eq_true rfl, Nat.le_of_ble_eq_true rfl⟩ rfl hl.1 rfl (Nat.le_of_ble_eq_true rfl) dX11_printed_45 ⟨Nat.le_of_ble_eq_true rfl, Nat.le_of_ble_eq_true rfl⟩) (fun r8 u8 H locs hp8 hW => ?_)
        have hc8 : ((r8 = (-4))) := hp8
        clear hp8
        have hr8 : r8.toInt = (-4) := by rw [hc8]; exact kn4
        have hW : WB g A s.heap H locs ((hv J [42] [] u8), L, I, P, E, N) (sgX g ++ dy) := hW
        have hWr : WB g A s.heap H locs ((hv J [42] [] (hv J [42] [] u8)), L, (hv I [] [(5, 1)] I), P, E, N) (sgX g ++ dy) := by
          rw [← ag_hvE (J := J) (R := [42]) (F := []) (ag_hv rfl rfl ag_rf)]
          rw [← ag_hvE (J := I) (R := []) (F := [(5, 1)]) ag_rf]
          exact hW
        exact end_i C hr hlocks ((hv J [42] [] u8), I) hWr trivial dX11_printed_48
    · have c4 : ¬ x3.toInt = (-1) := tne rfl kn1 c4
      refine lv_aload_n hx hb dX11_printed_24 rfl (lv_at hl 1 rfl) ?_
      refine lv_bipush (v := (-3)) hx hb dX11_printed_25 (by decide) ?_
      refine ci_ C hW (runV (x := (g.2.2.1 12)) (As := [.int (-3)]) (rest := []) (T := ((J, L, I, P, E, N), sgX g ++ dy)) C hW (c_X11_refuse l g J L I P E N dy H.size (-3) hwf) mi_X11_refuse tw_411 (recv_ (T := ((J, L, I, P, E, N), sgX g ++ dy)) C hW (mx_ rfl) rfl rfl) ⟨rfl, rfl, Nat.le_of_ble_eq_true rfl, Nat.le_of_ble_eq_true rfl⟩ rfl hl.1 rfl (Nat.le_of_ble_eq_true rfl) dX11_printed_27 ⟨Nat.le_of_ble_eq_true rfl, Nat.le_of_ble_eq_true rfl⟩) (fun r9 u9 H locs hp9 hW => ?_)
      have hc9 : ((r9 = (-3))) := hp9
      clear hp9
      have hr9 : r9.toInt = (-3) := by rw [hc9]; exact kn3
      have hW : WB g A s.heap H locs ((hv J [42] [] u9), L, I, P, E, N) (sgX g ++ dy) := hW
      have hWr : WB g A s.heap H locs ((hv J [42] [] (hv J [42] [] u9)), L, (hv I [] [(5, 1)] I), P, E, N) (sgX g ++ dy) := by
        rw [← ag_hvE (J := J) (R := [42]) (F := []) (ag_hv rfl rfl ag_rf)]
        rw [← ag_hvE (J := I) (R := []) (F := [(5, 1)]) ag_rf]
        exact hW
      exact end_i C hr hlocks ((hv J [42] [] u9), I) hWr trivial dX11_printed_30

set_option maxHeartbeats 4000000 in
set_option maxRecDepth 100000 in
theorem c_X11_isKnown (l : Launch) (g : gG) (J : Nat → Nat → Int32) (L : Nat → Nat → Int64) (I : Nat → Nat → Nat → Int32) (P : Nat → Nat → Nat → Option Nat) (E : Nat → Option Nat) (N : Nat → Nat) (dy : List (Nat × Nat)) (sz : Nat) (a0 : Int32) (a1 : Int32) (hwf : WXF g J P E N dy) : Met l yX11_isKnown (WS yX11_isKnown cX11_isKnown 3 (some .boolean)) (RM (5) 0 0) (PC g [.ref (g.2.2.1 12), .int a0, .int a1] ((J, L, I, P, E, N), sgX g ++ dy) sz) (va_Qi (fun (r : Int32) (u : Unit) => ((r.toInt = 1) ∨ (r.toInt = 0))) (fun u t => at_ g (FR g ((J, L, I, P, E, N), sgX g ++ dy) sz) ((J, L, I, P, E, N), sgX g ++ dy) t) (FR g ((J, L, I, P, E, N), sgX g ++ dy) sz)) 0 0 (FR g ((J, L, I, P, E, N), sgX g ++ dy) sz) := by
  refine ent (by decide +kernel) (Nat.le_of_ble_eq_true rfl) ?_
  intro p e s m below meth c ls hsz C hW hr hlocks hname hl
  generalize FR g ((J, L, I, P, E, N), sgX g ++ dy) sz = A at C hW ⊢
  have hx := C.1.1
  have hb := C.1.2.1
  have hts := C.1.2.2.2.2
  have hl : lv_has ls 3 [(0, .ref (g.2.2.1 12)), (1, .int a0), (2, .int a1)] := hl
  obtain ⟨H, hH⟩ : ∃ H : Heap, H = s.heap := ⟨_, rfl⟩
  obtain ⟨locs, hlocs⟩ : ∃ q : List Loc, q = [] := ⟨_, rfl⟩
  have hW : WB g A s.heap H locs (J, L, I, P, E, N) (sgX g ++ dy) := by rw [hH, hlocs]; exact hW
  refine start_ hH hlocs ?_
  refine lv_iload_n hx hb dX11_isKnown_0 rfl (lv_at hl 1 rfl) ?_
  refine lv_if_ne (tgt := 23) hx hb dX11_isKnown_1 (by decide) (fun c1 => ?_) (fun c1 => ?_)
  · have c1 : ¬ a0.toInt = 0 := tne rfl kp0 c1
    refine lv_iload_n hx hb dX11_isKnown_23 rfl (lv_at hl 1 rfl) ?_
    refine ci_ C hW (runS (As := [.int a0]) (rest := []) (T := ((J, L, I, P, E, N), sgX g ++ dy)) C hW (c_X11_tellsOf l g J L I P E N dy H.size a0 ) mi_X11_tellsOf tw_636 ⟨rfl, rfl, Nat.le_of_ble_eq_true rfl, Nat.le_of_ble_eq_true rfl⟩ rfl hl.1 rfl (Nat.le_of_ble_eq_true rfl) dX11_isKnown_24 ⟨Nat.le_of_ble_eq_true rfl, Nat.le_of_ble_eq_true rfl⟩) (fun r2 u2 H locs hp2 hW => ?_)
    have hc2 : ((r2.toInt = 1) ∨ (r2.toInt = 0)) := hp2
    clear hp2
    have hW : WB g A s.heap H locs (J, L, I, P, E, N) (sgX g ++ dy) := hW
    refine lv_if_eq (tgt := 41) hx hb dX11_isKnown_27 (by decide) (fun c3 => ?_) (fun c3 => ?_)
    · have c3 : r2.toInt = 0 := teq rfl kp0 c3
      refine lv_iconst (v := 1) hx hb dX11_isKnown_41 (by decide) ?_
      refine lv_goto (tgt := 46) hx hb dX11_isKnown_42 (by decide) ?_
      exact end_z C hr hlocks (by decide) () hW (by first | exact Or.inl (by decide)) dX11_isKnown_46
    · have c3 : ¬ r2.toInt = 0 := tne rfl kp0 c3
      refine lv_aload_n hx hb dX11_isKnown_30 rfl (lv_at hl 0 rfl) ?_
      refine rg_12_1 C hW (mx_ rfl) tw_365 dX11_isKnown_31 ?_
      refine lv_iload_n hx hb dX11_isKnown_34 rfl (lv_at hl 2 rfl) ?_
      refine cq_ C hW (runV (x := (g.2.2.1 3)) (As := [.int a1]) (rest := []) (T := ((J, L, I, P, E, N), sgX g ++ dy)) C hW (c_X2_spanOf l g J L I P E N dy H.size a1 hwf) mi_X2_spanOf tw_639 (recv_ (T := ((J, L, I, P, E, N), sgX g ++ dy)) C hW (mx_ rfl) rfl rfl) ⟨rfl, rfl, Nat.le_of_ble_eq_true rfl, Nat.le_of_ble_eq_true rfl⟩ rfl hl.1 rfl (Nat.le_of_ble_eq_true rfl) dX11_isKnown_35 ⟨Nat.le_of_ble_eq_true rfl, Nat.le_of_ble_eq_true rfl⟩) (fun q4 u4 H locs hp4 hW => ?_)
      have hq4 : (q4 = none ∨ (∃ o9 : Nat, q4 = some o9 ∧ (9, o9) ∈ dy)) := hp4
      clear hp4
      have hW : WB g A s.heap H locs (J, L, I, P, E, N) (sgX g ++ dy) := hW
      rcases hq4 with ho4 | ⟨o4, ho4, hm4⟩ <;> subst ho4
      · refine lv_asv (v' := .null) rfl ?_
        refine lv_ifnullN (tgt := 45) hx hb dX11_isKnown_38 (by decide) ?_
        refine lv_iconst (v := 0) hx hb dX11_isKnown_45 (by decide) ?_
        exact end_z C hr hlocks (by decide) () hW (by first | exact Or.inr ((by decide))) dX11_isKnown_46
      · refine lv_asv (v' := .ref o4) rfl ?_
        refine lv_ifnull hx hb dX11_isKnown_38 ?_
        refine lv_iconst (v := 1) hx hb dX11_isKnown_41 (by decide) ?_
        refine lv_goto (tgt := 46) hx hb dX11_isKnown_42 (by decide) ?_
        exact end_z C hr hlocks (by decide) () hW (by first | exact Or.inl (by decide)) dX11_isKnown_46
  · have c1 : a0.toInt = 0 := teq rfl kp0 c1
    refine lv_iload_n hx hb dX11_isKnown_4 rfl (lv_at hl 2 rfl) ?_
    refine lv_iconst (v := (-1)) hx hb dX11_isKnown_5 (by decide) ?_
    refine lv_icmp_eq (tgt := 17) hx hb dX11_isKnown_6 (by decide) (fun c5 => ?_) (fun c5 => ?_)
    · have c5 : a1.toInt = (-1) := teq rfl kn1 c5
      refine lv_iconst (v := 1) hx hb dX11_isKnown_17 (by decide) ?_
      refine lv_goto (tgt := 22) hx hb dX11_isKnown_18 (by decide) ?_
      exact end_z C hr hlocks (by decide) () hW (by first | exact Or.inl (by decide)) dX11_isKnown_22
    · have c5 : ¬ a1.toInt = (-1) := tne rfl kn1 c5
      refine lv_aload_n hx hb dX11_isKnown_9 rfl (lv_at hl 0 rfl) ?_
      refine lv_iload_n hx hb dX11_isKnown_10 rfl (lv_at hl 2 rfl) ?_
      refine cq_ C hW (runV (x := (g.2.2.1 12)) (As := [.int a1]) (rest := []) (T := ((J, L, I, P, E, N), sgX g ++ dy)) C hW (c_X11_newsOf l g J L I P E N dy H.size a1 hwf) mi_X11_newsOf tw_631 (recv_ (T := ((J, L, I, P, E, N), sgX g ++ dy)) C hW (mx_ rfl) rfl rfl) ⟨rfl, rfl, Nat.le_of_ble_eq_true rfl, Nat.le_of_ble_eq_true rfl⟩ rfl hl.1 rfl (Nat.le_of_ble_eq_true rfl) dX11_isKnown_11 ⟨Nat.le_of_ble_eq_true rfl, Nat.le_of_ble_eq_true rfl⟩) (fun q6 u6 H locs hp6 hW => ?_)
      have hq6 : (q6 = none ∨ (∃ o9 : Nat, q6 = some o9 ∧ (5, o9) ∈ dy)) := hp6
      clear hp6
      have hW : WB g A s.heap H locs (J, L, I, P, E, N) (sgX g ++ dy) := hW
      rcases hq6 with ho6 | ⟨o6, ho6, hm6⟩ <;> subst ho6
      · refine lv_asv (v' := .null) rfl ?_
        refine lv_ifnullN (tgt := 21) hx hb dX11_isKnown_14 (by decide) ?_
        refine lv_iconst (v := 0) hx hb dX11_isKnown_21 (by decide) ?_
        exact end_z C hr hlocks (by decide) () hW (by first | exact Or.inr ((by decide))) dX11_isKnown_22
      · refine lv_asv (v' := .ref o6) rfl ?_
        refine lv_ifnull hx hb dX11_isKnown_14 ?_
        refine lv_iconst (v := 1) hx hb dX11_isKnown_17 (by decide) ?_
        refine lv_goto (tgt := 22) hx hb dX11_isKnown_18 (by decide) ?_
        exact end_z C hr hlocks (by decide) () hW (by first | exact Or.inl (by decide)) dX11_isKnown_22

set_option maxHeartbeats 4000000 in
set_option maxRecDepth 100000 in
theorem c_X11_isOfItsKind (l : Launch) (g : gG) (J : Nat → Nat → Int32) (L : Nat → Nat → Int64) (I : Nat → Nat → Nat → Int32) (P : Nat → Nat → Nat → Option Nat) (E : Nat → Option Nat) (N : Nat → Nat) (dy : List (Nat × Nat)) (sz : Nat) (a0 : Int32) (a1 : Int32) (hwf : WXF g J P E N dy) : Met l yX11_isOfItsKind (WS yX11_isOfItsKind cX11_isOfItsKind 4 (some .boolean)) (RM (5) 0 0) (PC g [.ref (g.2.2.1 12), .int a0, .int a1] ((J, L, I, P, E, N), sgX g ++ dy) sz) (va_Qi (fun (r : Int32) (u : Unit) => ((r.toInt = 1) ∨ (r.toInt = 0))) (fun u t => at_ g (FR g ((J, L, I, P, E, N), sgX g ++ dy) sz) ((J, L, I, P, E, N), sgX g ++ dy) t) (FR g ((J, L, I, P, E, N), sgX g ++ dy) sz)) 0 0 (FR g ((J, L, I, P, E, N), sgX g ++ dy) sz) := by
  refine ent (by decide +kernel) (Nat.le_of_ble_eq_true rfl) ?_
  intro p e s m below meth c ls hsz C hW hr hlocks hname hl
  generalize FR g ((J, L, I, P, E, N), sgX g ++ dy) sz = A at C hW ⊢
  have hx := C.1.1
  have hb := C.1.2.1
  have hts := C.1.2.2.2.2
  have hl : lv_has ls 4 [(0, .ref (g.2.2.1 12)), (1, .int a0), (2, .int a1)] := hl
  obtain ⟨H, hH⟩ : ∃ H : Heap, H = s.heap := ⟨_, rfl⟩
  obtain ⟨locs, hlocs⟩ : ∃ q : List Loc, q = [] := ⟨_, rfl⟩
  have hW : WB g A s.heap H locs (J, L, I, P, E, N) (sgX g ++ dy) := by rw [hH, hlocs]; exact hW
  refine start_ hH hlocs ?_
  refine lv_iload_n hx hb dX11_isOfItsKind_0 rfl (lv_at hl 1 rfl) ?_
  refine lv_iconst (v := 1) hx hb dX11_isOfItsKind_1 (by decide) ?_
  refine lv_icmp_eq (tgt := 12) hx hb dX11_isOfItsKind_2 (by decide) (fun c1 => ?_) (fun c1 => ?_)
  · have c1 : a0.toInt = 1 := teq rfl kp1 c1
    refine lv_aload_n hx hb dX11_isOfItsKind_12 rfl (lv_at hl 0 rfl) ?_
    refine rg_12_1 C hW (mx_ rfl) tw_365 dX11_isOfItsKind_13 ?_
    refine lv_iload_n hx hb dX11_isOfItsKind_16 rfl (lv_at hl 2 rfl) ?_
    refine cq_ C hW (runV (x := (g.2.2.1 3)) (As := [.int a1]) (rest := []) (T := ((J, L, I, P, E, N), sgX g ++ dy)) C hW (c_X2_spanOf l g J L I P E N dy H.size a1 hwf) mi_X2_spanOf tw_639 (recv_ (T := ((J, L, I, P, E, N), sgX g ++ dy)) C hW (mx_ rfl) rfl rfl) ⟨rfl, rfl, Nat.le_of_ble_eq_true rfl, Nat.le_of_ble_eq_true rfl⟩ rfl hl.1 rfl (Nat.le_of_ble_eq_true rfl) dX11_isOfItsKind_17 ⟨Nat.le_of_ble_eq_true rfl, Nat.le_of_ble_eq_true rfl⟩) (fun q2 u2 H locs hp2 hW => ?_)
    have hq2 : (q2 = none ∨ (∃ o9 : Nat, q2 = some o9 ∧ (9, o9) ∈ dy)) := hp2
    clear hp2
    have hW : WB g A s.heap H locs (J, L, I, P, E, N) (sgX g ++ dy) := hW
    rcases hq2 with ho2 | ⟨o2, ho2, hm2⟩ <;> subst ho2
    · refine lv_asv (v' := .null) rfl ?_
      refine lv_astore_nN (lv' := [(3, .null), (0, .ref (g.2.2.1 12)), (1, .int a0), (2, .int a1)]) hx hb dX11_isOfItsKind_20 rfl hl (by decide) rfl (fun ls hl => ?_)
      refine lv_aload_nN hx hb dX11_isOfItsKind_21 rfl (lv_at hl 0 rfl) ?_
      refine lv_ifnonnullN hx hb dX11_isOfItsKind_22 ?_
      refine lv_iconst (v := 0) hx hb dX11_isOfItsKind_25 (by decide) ?_
      exact end_z C hr hlocks (by decide) () hW (by first | exact Or.inr ((by decide))) dX11_isOfItsKind_26
    · refine lv_asv (v' := .ref o2) rfl ?_
      refine lv_astore_n (lv' := [(3, .ref o2), (0, .ref (g.2.2.1 12)), (1, .int a0), (2, .int a1)]) hx hb dX11_isOfItsKind_20 rfl hl (by decide) rfl (fun ls hl => ?_)
      refine lv_aload_n hx hb dX11_isOfItsKind_21 rfl (lv_at hl 0 rfl) ?_
      refine lv_ifnonnull (tgt := 27) hx hb dX11_isOfItsKind_22 (by decide) ?_
      refine lv_aload_n hx hb dX11_isOfItsKind_27 rfl (lv_at hl 0 rfl) ?_
      refine rg_9_2 C hW (List.mem_append_right _ hm2) tw_429 dX11_isOfItsKind_28 ?_
      refine lv_topi (fun x3 (e3 : x3 = I 9 2 o2) => ?_)
      have t3 : x3.toInt = (I 9 2 o2).toInt := by rw [e3]
      refine lv_if_ne (tgt := 36) hx hb dX11_isOfItsKind_31 (by decide) (fun c4 => ?_) (fun c4 => ?_)
      · have c4 : ¬ x3.toInt = 0 := tne rfl kp0 c4
        refine lv_iload_n hx hb dX11_isOfItsKind_36 rfl (lv_at hl 2 rfl) ?_
        refine lv_iconst (v := 1) hx hb dX11_isOfItsKind_37 (by decide) ?_
        refine lv_icmp_ne (tgt := 61) hx hb dX11_isOfItsKind_38 (by decide) (fun c5 => ?_) (fun c5 => ?_)
        · have c5 : ¬ a0.toInt = 1 := tne rfl kp1 c5
          exfalso; omega
        · have c5 : a0.toInt = 1 := teq rfl kp1 c5
          refine lv_aload_n hx hb dX11_isOfItsKind_41 rfl (lv_at hl 0 rfl) ?_
          refine rg_9_2 C hW (List.mem_append_right _ hm2) tw_429 dX11_isOfItsKind_42 ?_
          refine lv_topi (fun x6 (e6 : x6 = I 9 2 o2) => ?_)
          have t6 : x6.toInt = (I 9 2 o2).toInt := by rw [e6]
          refine lv_iconst (v := 3) hx hb dX11_isOfItsKind_45 (by decide) ?_
          refine lv_icmp_eq (tgt := 57) hx hb dX11_isOfItsKind_46 (by decide) (fun c7 => ?_) (fun c7 => ?_)
          · have c7 : x6.toInt = 3 := teq rfl kp3 c7
            refine lv_iconst (v := 1) hx hb dX11_isOfItsKind_57 (by decide) ?_
            refine lv_goto (tgt := 62) hx hb dX11_isOfItsKind_58 (by decide) ?_
            exact end_z C hr hlocks (by decide) () hW (by first | exact Or.inl (by decide)) dX11_isOfItsKind_62
          · have c7 : ¬ x6.toInt = 3 := tne rfl kp3 c7
            refine lv_aload_n hx hb dX11_isOfItsKind_49 rfl (lv_at hl 0 rfl) ?_
            refine rg_9_2 C hW (List.mem_append_right _ hm2) tw_429 dX11_isOfItsKind_50 ?_
            refine lv_topi (fun x8 (e8 : x8 = I 9 2 o2) => ?_)
            have t8 : x8.toInt = (I 9 2 o2).toInt := by rw [e8]
            refine lv_iconst (v := 5) hx hb dX11_isOfItsKind_53 (by decide) ?_
            refine lv_icmp_ne (tgt := 61) hx hb dX11_isOfItsKind_54 (by decide) (fun c9 => ?_) (fun c9 => ?_)
            · have c9 : ¬ x8.toInt = 5 := tne rfl kp5 c9
              refine lv_iconst (v := 0) hx hb dX11_isOfItsKind_61 (by decide) ?_
              exact end_z C hr hlocks (by decide) () hW (by first | exact Or.inr ((by decide))) dX11_isOfItsKind_62
            · have c9 : x8.toInt = 5 := teq rfl kp5 c9
              refine lv_iconst (v := 1) hx hb dX11_isOfItsKind_57 (by decide) ?_
              refine lv_goto (tgt := 62) hx hb dX11_isOfItsKind_58 (by decide) ?_
              exact end_z C hr hlocks (by decide) () hW (by first | exact Or.inl (by decide)) dX11_isOfItsKind_62
      · have c4 : x3.toInt = 0 := teq rfl kp0 c4
        refine lv_iconst (v := 1) hx hb dX11_isOfItsKind_34 (by decide) ?_
        exact end_z C hr hlocks (by decide) () hW (by first | exact Or.inl (by decide)) dX11_isOfItsKind_35
  · have c1 : ¬ a0.toInt = 1 := tne rfl kp1 c1
    refine lv_iload_n hx hb dX11_isOfItsKind_5 rfl (lv_at hl 1 rfl) ?_
    refine lv_iconst (v := 5) hx hb dX11_isOfItsKind_6 (by decide) ?_
    refine lv_icmp_eq (tgt := 12) hx hb dX11_isOfItsKind_7 (by decide) (fun c10 => ?_) (fun c10 => ?_)
    · have c10 : a0.toInt = 5 := teq rfl kp5 c10
      refine lv_aload_n hx hb dX11_isOfItsKind_12 rfl (lv_at hl 0 rfl) ?_
      refine rg_12_1 C hW (mx_ rfl) tw_365 dX11_isOfItsKind_13 ?_
      refine lv_iload_n hx hb dX11_isOfItsKind_16 rfl (lv_at hl 2 rfl) ?_
      refine cq_ C hW (runV (x := (g.2.2.1 3)) (As := [.int a1]) (rest := []) (T := ((J, L, I, P, E, N), sgX g ++ dy)) C hW (c_X2_spanOf l g J L I P E N dy H.size a1 hwf) mi_X2_spanOf tw_639 (recv_ (T := ((J, L, I, P, E, N), sgX g ++ dy)) C hW (mx_ rfl) rfl rfl) ⟨rfl, rfl, Nat.le_of_ble_eq_true rfl, Nat.le_of_ble_eq_true rfl⟩ rfl hl.1 rfl (Nat.le_of_ble_eq_true rfl) dX11_isOfItsKind_17 ⟨Nat.le_of_ble_eq_true rfl, Nat.le_of_ble_eq_true rfl⟩) (fun q11 u11 H locs hp11 hW => ?_)
      have hq11 : (q11 = none ∨ (∃ o9 : Nat, q11 = some o9 ∧ (9, o9) ∈ dy)) := hp11
      clear hp11
      have hW : WB g A s.heap H locs (J, L, I, P, E, N) (sgX g ++ dy) := hW
      rcases hq11 with ho11 | ⟨o11, ho11, hm11⟩ <;> subst ho11
      · refine lv_asv (v' := .null) rfl ?_
        refine lv_astore_nN (lv' := [(3, .null), (0, .ref (g.2.2.1 12)), (1, .int a0), (2, .int a1)]) hx hb dX11_isOfItsKind_20 rfl hl (by decide) rfl (fun ls hl => ?_)
        refine lv_aload_nN hx hb dX11_isOfItsKind_21 rfl (lv_at hl 0 rfl) ?_
        refine lv_ifnonnullN hx hb dX11_isOfItsKind_22 ?_
        refine lv_iconst (v := 0) hx hb dX11_isOfItsKind_25 (by decide) ?_
        exact end_z C hr hlocks (by decide) () hW (by first | exact Or.inr ((by decide))) dX11_isOfItsKind_26
      · refine lv_asv (v' := .ref o11) rfl ?_
        refine lv_astore_n (lv' := [(3, .ref o11), (0, .ref (g.2.2.1 12)), (1, .int a0), (2, .int a1)]) hx hb dX11_isOfItsKind_20 rfl hl (by decide) rfl (fun ls hl => ?_)
        refine lv_aload_n hx hb dX11_isOfItsKind_21 rfl (lv_at hl 0 rfl) ?_
        refine lv_ifnonnull (tgt := 27) hx hb dX11_isOfItsKind_22 (by decide) ?_
        refine lv_aload_n hx hb dX11_isOfItsKind_27 rfl (lv_at hl 0 rfl) ?_
        refine rg_9_2 C hW (List.mem_append_right _ hm11) tw_429 dX11_isOfItsKind_28 ?_
        refine lv_topi (fun x12 (e12 : x12 = I 9 2 o11) => ?_)
        have t12 : x12.toInt = (I 9 2 o11).toInt := by rw [e12]
        refine lv_if_ne (tgt := 36) hx hb dX11_isOfItsKind_31 (by decide) (fun c13 => ?_) (fun c13 => ?_)
        · have c13 : ¬ x12.toInt = 0 := tne rfl kp0 c13
          refine lv_iload_n hx hb dX11_isOfItsKind_36 rfl (lv_at hl 2 rfl) ?_
          refine lv_iconst (v := 1) hx hb dX11_isOfItsKind_37 (by decide) ?_
          refine lv_icmp_ne (tgt := 61) hx hb dX11_isOfItsKind_38 (by decide) (fun c14 => ?_) (fun c14 => ?_)
          · have c14 : ¬ a0.toInt = 1 := tne rfl kp1 c14
            refine lv_iconst (v := 0) hx hb dX11_isOfItsKind_61 (by decide) ?_
            exact end_z C hr hlocks (by decide) () hW (by first | exact Or.inr ((by decide))) dX11_isOfItsKind_62
          · have c14 : a0.toInt = 1 := teq rfl kp1 c14
            exfalso; omega
        · have c13 : x12.toInt = 0 := teq rfl kp0 c13
          refine lv_iconst (v := 1) hx hb dX11_isOfItsKind_34 (by decide) ?_
          exact end_z C hr hlocks (by decide) () hW (by first | exact Or.inl (by decide)) dX11_isOfItsKind_35
    · have c10 : ¬ a0.toInt = 5 := tne rfl kp5 c10
      refine lv_iconst (v := 1) hx hb dX11_isOfItsKind_10 (by decide) ?_
      exact end_z C hr hlocks (by decide) () hW (by first | exact Or.inl (by decide)) dX11_isOfItsKind_11

set_option maxHeartbeats 4000000 in
set_option maxRecDepth 100000 in
theorem c_X11_mayRead (l : Launch) (g : gG) (J : Nat → Nat → Int32) (L : Nat → Nat → Int64) (I : Nat → Nat → Nat → Int32) (P : Nat → Nat → Nat → Option Nat) (E : Nat → Option Nat) (N : Nat → Nat) (dy : List (Nat × Nat)) (sz : Nat) (a0 : Int32) (hwf : WXF g J P E N dy) : Met l yX11_mayRead (WS yX11_mayRead cX11_mayRead 3 (some .int)) (RM (5) 0 0) (PC g [.ref (g.2.2.1 12), .int a0] ((J, L, I, P, E, N), sgX g ++ dy) sz) (va_Qi (fun (r : Int32) (u : (Nat → Nat → Int32)) => True) (fun u t => at_ g (FR g ((J, L, I, P, E, N), sgX g ++ dy) sz) (((hv J [42] [] u), L, I, P, E, N), sgX g ++ dy) t) (FR g ((J, L, I, P, E, N), sgX g ++ dy) sz)) 0 0 (FR g ((J, L, I, P, E, N), sgX g ++ dy) sz) := by
  refine ent (by decide +kernel) (Nat.le_of_ble_eq_true rfl) ?_
  intro p e s m below meth c ls hsz C hW hr hlocks hname hl
  generalize FR g ((J, L, I, P, E, N), sgX g ++ dy) sz = A at C hW ⊢
  have hx := C.1.1
  have hb := C.1.2.1
  have hts := C.1.2.2.2.2
  have hl : lv_has ls 3 [(0, .ref (g.2.2.1 12)), (1, .int a0)] := hl
  obtain ⟨H, hH⟩ : ∃ H : Heap, H = s.heap := ⟨_, rfl⟩
  obtain ⟨locs, hlocs⟩ : ∃ q : List Loc, q = [] := ⟨_, rfl⟩
  have hW : WB g A s.heap H locs (J, L, I, P, E, N) (sgX g ++ dy) := by rw [hH, hlocs]; exact hW
  refine start_ hH hlocs ?_
  refine lv_aload_n hx hb dX11_mayRead_0 rfl (lv_at hl 0 rfl) ?_
  refine lv_iload_n hx hb dX11_mayRead_1 rfl (lv_at hl 1 rfl) ?_
  refine cq_ C hW (runV (x := (g.2.2.1 12)) (As := [.int a0]) (rest := []) (T := ((J, L, I, P, E, N), sgX g ++ dy)) C hW (c_X11_readerOf l g J L I P E N dy H.size a0 hwf) mi_X11_readerOf tw_614 (recv_ (T := ((J, L, I, P, E, N), sgX g ++ dy)) C hW (mx_ rfl) rfl rfl) ⟨rfl, rfl, Nat.le_of_ble_eq_true rfl, Nat.le_of_ble_eq_true rfl⟩ rfl hl.1 rfl (Nat.le_of_ble_eq_true rfl) dX11_mayRead_2 ⟨Nat.le_of_ble_eq_true rfl, Nat.le_of_ble_eq_true rfl⟩) (fun q1 u1 H locs hp1 hW => ?_)
  have hq1 : (q1 = none ∨ (∃ o9 : Nat, q1 = some o9 ∧ (7, o9) ∈ dy)) := hp1
  clear hp1
  have hW : WB g A s.heap H locs (J, L, I, P, E, N) (sgX g ++ dy) := hW
  rcases hq1 with ho1 | ⟨o1, ho1, hm1⟩ <;> subst ho1
  · refine lv_asv (v' := .null) rfl ?_
    refine lv_astore_nN (lv' := [(2, .null), (0, .ref (g.2.2.1 12)), (1, .int a0)]) hx hb dX11_mayRead_5 rfl hl (by decide) rfl (fun ls hl => ?_)
    refine lv_aload_nN hx hb dX11_mayRead_6 rfl (lv_at hl 0 rfl) ?_
    refine lv_ifnonnullN hx hb dX11_mayRead_7 ?_
    refine lv_aload_n hx hb dX11_mayRead_10 rfl (lv_at hl 1 rfl) ?_
    refine lv_iconst (v := (-1)) hx hb dX11_mayRead_11 (by decide) ?_
    refine ci_ C hW (runV (x := (g.2.2.1 12)) (As := [.int (-1)]) (rest := []) (T := ((J, L, I, P, E, N), sgX g ++ dy)) C hW (c_X11_refuse l g J L I P E N dy H.size (-1) hwf) mi_X11_refuse tw_411 (recv_ (T := ((J, L, I, P, E, N), sgX g ++ dy)) C hW (mx_ rfl) rfl rfl) ⟨rfl, rfl, Nat.le_of_ble_eq_true rfl, Nat.le_of_ble_eq_true rfl⟩ rfl hl.1 rfl (Nat.le_of_ble_eq_true rfl) dX11_mayRead_12 ⟨Nat.le_of_ble_eq_true rfl, Nat.le_of_ble_eq_true rfl⟩) (fun r2 u2 H locs hp2 hW => ?_)
    have hc2 : ((r2 = (-1))) := hp2
    clear hp2
    have hr2 : r2.toInt = (-1) := by rw [hc2]; exact kn1
    have hW : WB g A s.heap H locs ((hv J [42] [] u2), L, I, P, E, N) (sgX g ++ dy) := hW
    have hWr : WB g A s.heap H locs ((hv J [42] [] (hv J [42] [] u2)), L, I, P, E, N) (sgX g ++ dy) := by
      rw [← ag_hvE (J := J) (R := [42]) (F := []) (ag_hv rfl rfl ag_rf)]
      exact hW
    exact end_i C hr hlocks (hv J [42] [] u2) hWr trivial dX11_mayRead_15
  · refine lv_asv (v' := .ref o1) rfl ?_
    refine lv_astore_n (lv' := [(2, .ref o1), (0, .ref (g.2.2.1 12)), (1, .int a0)]) hx hb dX11_mayRead_5 rfl hl (by decide) rfl (fun ls hl => ?_)
    refine lv_aload_n hx hb dX11_mayRead_6 rfl (lv_at hl 0 rfl) ?_
    refine lv_ifnonnull (tgt := 16) hx hb dX11_mayRead_7 (by decide) ?_
    refine lv_aload_n hx hb dX11_mayRead_16 rfl (lv_at hl 0 rfl) ?_
    refine lv_aload_n hx hb dX11_mayRead_17 rfl (lv_at hl 1 rfl) ?_
    refine rg_12_1 C hW (mx_ rfl) tw_365 dX11_mayRead_18 ?_
    refine rg_3_1 C hW (mx_ rfl) tw_278 dX11_mayRead_21 ?_
    refine lv_aload_n hx hb dX11_mayRead_24 rfl (lv_at hl 1 rfl) ?_
    refine rg_12_12 C hW (mx_ rfl) tw_376 dX11_mayRead_25 ?_
    refine lv_aload_n hx hb dX11_mayRead_28 rfl (lv_at hl 1 rfl) ?_
    refine rg_12_13 C hW (mx_ rfl) tw_377 dX11_mayRead_29 ?_
    refine ci_ C hW (runV (x := o1) (As := [.int (J 3 1), .int (J 12 12), .int (J 12 13)]) (rest := []) (T := ((J, L, I, P, E, N), sgX g ++ dy)) C hW (c_X6_isFree l g J L I P E N dy H.size o1 hm1 (J 3 1) (J 12 12) (J 12 13) hwf) mi_X6_isFree tw_619 (recv_ (T := ((J, L, I, P, E, N), sgX g ++ dy)) C hW (List.mem_append_right _ hm1) rfl rfl) ⟨rfl, rfl, Nat.le_of_ble_eq_true rfl, Nat.le_of_ble_eq_true rfl⟩ rfl hl.1 rfl (Nat.le_of_ble_eq_true rfl) dX11_mayRead_32 ⟨Nat.le_of_ble_eq_true rfl, Nat.le_of_ble_eq_true rfl⟩) (fun r3 u3 H locs hp3 hW => ?_)
    have hc3 : ((r3.toInt = 1) ∨ (r3.toInt = 0)) := hp3
    clear hp3
    have hW : WB g A s.heap H locs (J, L, I, P, E, N) (sgX g ++ dy) := hW
    refine lv_if_eq (tgt := 42) hx hb dX11_mayRead_35 (by decide) (fun c4 => ?_) (fun c4 => ?_)
    · have c4 : r3.toInt = 0 := teq rfl kp0 c4
      refine lv_iconst (v := 0) hx hb dX11_mayRead_42 (by decide) ?_
      have hWr : WB g A s.heap H locs ((hv J [42] [] J), L, I, P, E, N) (sgX g ++ dy) := by
        rw [← ag_hvE (J := J) (R := [42]) (F := []) ag_rf]
        exact hW
      exact end_i C hr hlocks J hWr trivial dX11_mayRead_43
    · have c4 : ¬ r3.toInt = 0 := tne rfl kp0 c4
      refine lv_iconst (v := 1) hx hb dX11_mayRead_38 (by decide) ?_
      refine lv_goto (tgt := 43) hx hb dX11_mayRead_39 (by decide) ?_
      have hWr : WB g A s.heap H locs ((hv J [42] [] J), L, I, P, E, N) (sgX g ++ dy) := by
        rw [← ag_hvE (J := J) (R := [42]) (F := []) ag_rf]
        exact hW
      exact end_i C hr hlocks J hWr trivial dX11_mayRead_43

set_option maxHeartbeats 4000000 in
set_option maxRecDepth 100000 in
theorem c_X11_markRead (l : Launch) (g : gG) (J : Nat → Nat → Int32) (L : Nat → Nat → Int64) (I : Nat → Nat → Nat → Int32) (P : Nat → Nat → Nat → Option Nat) (E : Nat → Option Nat) (N : Nat → Nat) (dy : List (Nat × Nat)) (sz : Nat) (a0 : Int32) (a1 : Int32) (a2 : Int32) (hwf : WXF g J P E N dy) : Met l yX11_markRead (WS yX11_markRead cX11_markRead 5 none) (RM (5) 0 0) (PC g [.ref (g.2.2.1 12), .int a0, .int a1, .int a2] ((J, L, I, P, E, N), sgX g ++ dy) sz) (va_Qv (fun (u : (Nat → Nat → Nat → Int32)) => True) (fun u t => at_ g (FR g ((J, L, I, P, E, N), sgX g ++ dy) sz) ((J, L, (hv I [] [(5, 2)] u), P, E, N), sgX g ++ dy) t) (FR g ((J, L, I, P, E, N), sgX g ++ dy) sz)) 0 0 (FR g ((J, L, I, P, E, N), sgX g ++ dy) sz) := by
  refine ent (by decide +kernel) (Nat.le_of_ble_eq_true rfl) ?_
  intro p e s m below meth c ls hsz C hW hr hlocks hname hl
  generalize FR g ((J, L, I, P, E, N), sgX g ++ dy) sz = A at C hW ⊢
  have hx := C.1.1
  have hb := C.1.2.1
  have hts := C.1.2.2.2.2
  have hl : lv_has ls 5 [(0, .ref (g.2.2.1 12)), (1, .int a0), (2, .int a1), (3, .int a2)] := hl
  obtain ⟨H, hH⟩ : ∃ H : Heap, H = s.heap := ⟨_, rfl⟩
  obtain ⟨locs, hlocs⟩ : ∃ q : List Loc, q = [] := ⟨_, rfl⟩
  have hW : WB g A s.heap H locs (J, L, I, P, E, N) (sgX g ++ dy) := by rw [hH, hlocs]; exact hW
  refine start_ hH hlocs ?_
  refine lv_iload_n hx hb dX11_markRead_0 rfl (lv_at hl 1 rfl) ?_
  refine lv_if_eq (tgt := 5) hx hb dX11_markRead_1 (by decide) (fun c1 => ?_) (fun c1 => ?_)
  · have c1 : a0.toInt = 0 := teq rfl kp0 c1
    refine lv_aload_n hx hb dX11_markRead_5 rfl (lv_at hl 0 rfl) ?_
    refine lv_iload_n hx hb dX11_markRead_6 rfl (lv_at hl 2 rfl) ?_
    refine cq_ C hW (runV (x := (g.2.2.1 12)) (As := [.int a1]) (rest := []) (T := ((J, L, I, P, E, N), sgX g ++ dy)) C hW (c_X11_newsOf l g J L I P E N dy H.size a1 hwf) mi_X11_newsOf tw_631 (recv_ (T := ((J, L, I, P, E, N), sgX g ++ dy)) C hW (mx_ rfl) rfl rfl) ⟨rfl, rfl, Nat.le_of_ble_eq_true rfl, Nat.le_of_ble_eq_true rfl⟩ rfl hl.1 rfl (Nat.le_of_ble_eq_true rfl) dX11_markRead_7 ⟨Nat.le_of_ble_eq_true rfl, Nat.le_of_ble_eq_true rfl⟩) (fun q2 u2 H locs hp2 hW => ?_)
    have hq2 : (q2 = none ∨ (∃ o9 : Nat, q2 = some o9 ∧ (5, o9) ∈ dy)) := hp2
    clear hp2
    have hW : WB g A s.heap H locs (J, L, I, P, E, N) (sgX g ++ dy) := hW
    rcases hq2 with ho2 | ⟨o2, ho2, hm2⟩ <;> subst ho2
    · refine lv_asv (v' := .null) rfl ?_
      refine lv_astoreN (lv' := [(4, .null), (0, .ref (g.2.2.1 12)), (1, .int a0), (2, .int a1), (3, .int a2)]) hx hb dX11_markRead_10 hl (by decide) rfl (fun ls hl => ?_)
      refine lv_aloadN hx hb dX11_markRead_12 (lv_at hl 0 rfl) ?_
      refine lv_ifnullN (tgt := 32) hx hb dX11_markRead_14 (by decide) ?_
      have hWr : WB g A s.heap H locs (J, L, (hv I [] [(5, 2)] I), P, E, N) (sgX g ++ dy) := by
        rw [← ag_hvE (J := I) (R := []) (F := [(5, 2)]) ag_rf]
        exact hW
      exact end_v C hr hlocks I hWr trivial dX11_markRead_32
    · refine lv_asv (v' := .ref o2) rfl ?_
      refine lv_astore (lv' := [(4, .ref o2), (0, .ref (g.2.2.1 12)), (1, .int a0), (2, .int a1), (3, .int a2)]) hx hb dX11_markRead_10 hl (by decide) rfl (fun ls hl => ?_)
      refine lv_aload hx hb dX11_markRead_12 (lv_at hl 0 rfl) ?_
      refine lv_ifnull hx hb dX11_markRead_14 ?_
      refine lv_aload hx hb dX11_markRead_17 (lv_at hl 0 rfl) ?_
      refine rg_5_2 C hW (List.mem_append_right _ hm2) tw_947 dX11_markRead_19 ?_
      refine lv_topi (fun x3 (e3 : x3 = I 5 2 o2) => ?_)
      have t3 : x3.toInt = (I 5 2 o2).toInt := by rw [e3]
      refine lv_iconst (v := (-1)) hx hb dX11_markRead_22 (by decide) ?_
      refine lv_icmp_ne (tgt := 32) hx hb dX11_markRead_23 (by decide) (fun c4 => ?_) (fun c4 => ?_)
      · have c4 : ¬ x3.toInt = (-1) := tne rfl kn1 c4
        have hWr : WB g A s.heap H locs (J, L, (hv I [] [(5, 2)] I), P, E, N) (sgX g ++ dy) := by
          rw [← ag_hvE (J := I) (R := []) (F := [(5, 2)]) ag_rf]
          exact hW
        exact end_v C hr hlocks I hWr trivial dX11_markRead_32
      · have c4 : x3.toInt = (-1) := teq rfl kn1 c4
        refine lv_aload hx hb dX11_markRead_26 (lv_at hl 0 rfl) ?_
        refine lv_iload_n hx hb dX11_markRead_28 rfl (lv_at hl 4 rfl) ?_
        refine rp_5_2 C hW (List.mem_append_right _ hm2) tw_947 dX11_markRead_29 (fun H locs hW => ?_)
        have hWr : WB g A s.heap H locs (J, L, (hv I [] [(5, 2)] (up3 I 5 2 o2 a2)), P, E, N) (sgX g ++ dy) := by
          rw [← ag_hvE (J := I) (R := []) (F := [(5, 2)]) (ag_up3 (Or.inr rfl) ag_rf)]
          exact hW
        exact end_v C hr hlocks (up3 I 5 2 o2 a2) hWr trivial dX11_markRead_32
  · have c1 : ¬ a0.toInt = 0 := tne rfl kp0 c1
    have hWr : WB g A s.heap H locs (J, L, (hv I [] [(5, 2)] I), P, E, N) (sgX g ++ dy) := by
      rw [← ag_hvE (J := I) (R := []) (F := [(5, 2)]) ag_rf]
      exact hW
    exact end_v C hr hlocks I hWr trivial dX11_markRead_4
