theorem dX11_newsOf_0 : decode cX11_newsOf 0 = .ok (.iload_n 1, 1) := dk_iload_n_1 (by decide +kernel)
theorem dX11_newsOf_1 : decode cX11_newsOf 1 = .ok (.ifCond .lt 28, 3) := dk_ifCond_lt (by decide +kernel)
theorem dX11_newsOf_4 : decode cX11_newsOf 4 = .ok (.iload_n 1, 1) := dk_iload_n_1 (by decide +kernel)
theorem dX11_newsOf_5 : decode cX11_newsOf 5 = .ok (.aload_n 0, 1) := dk_aload_n_0 (by decide +kernel)
theorem dX11_newsOf_6 : decode cX11_newsOf 6 = .ok (.getfield 33, 3) := dk_getfield (by decide +kernel)
theorem dX11_newsOf_9 : decode cX11_newsOf 9 = .ok (.invokevirtual 93, 3) := dk_invokevirtual (by decide +kernel)
theorem dX11_newsOf_12 : decode cX11_newsOf 12 = .ok (.if_icmp .ge 17, 3) := dk_if_icmp_ge (by decide +kernel)
theorem dX11_newsOf_15 : decode cX11_newsOf 15 = .ok (.aload_n 0, 1) := dk_aload_n_0 (by decide +kernel)
theorem dX11_newsOf_16 : decode cX11_newsOf 16 = .ok (.getfield 33, 3) := dk_getfield (by decide +kernel)
theorem dX11_newsOf_19 : decode cX11_newsOf 19 = .ok (.iload_n 1, 1) := dk_iload_n_1 (by decide +kernel)
theorem dX11_newsOf_20 : decode cX11_newsOf 20 = .ok (.invokevirtual 334, 3) := dk_invokevirtual (by decide +kernel)
theorem dX11_newsOf_23 : decode cX11_newsOf 23 = .ok (.checkcast 292, 3) := dk_checkcast (by decide +kernel)
theorem dX11_newsOf_26 : decode cX11_newsOf 26 = .ok (.goto 4, 3) := dk_goto (by decide +kernel)
theorem dX11_newsOf_29 : decode cX11_newsOf 29 = .ok (.aconst_null, 1) := dk_aconst_null (by decide +kernel)
theorem dX11_newsOf_30 : decode cX11_newsOf 30 = .ok (.areturn, 1) := dk_areturn (by decide +kernel)
theorem dX11_readerOf_0 : decode cX11_readerOf 0 = .ok (.iload_n 1, 1) := dk_iload_n_1 (by decide +kernel)
theorem dX11_readerOf_1 : decode cX11_readerOf 1 = .ok (.ifCond .lt 28, 3) := dk_ifCond_lt (by decide +kernel)
theorem dX11_readerOf_4 : decode cX11_readerOf 4 = .ok (.iload_n 1, 1) := dk_iload_n_1 (by decide +kernel)
theorem dX11_readerOf_5 : decode cX11_readerOf 5 = .ok (.aload_n 0, 1) := dk_aload_n_0 (by decide +kernel)
theorem dX11_readerOf_6 : decode cX11_readerOf 6 = .ok (.getfield 26, 3) := dk_getfield (by decide +kernel)
theorem dX11_readerOf_9 : decode cX11_readerOf 9 = .ok (.invokevirtual 93, 3) := dk_invokevirtual (by decide +kernel)
theorem dX11_readerOf_12 : decode cX11_readerOf 12 = .ok (.if_icmp .ge 17, 3) := dk_if_icmp_ge (by decide +kernel)
theorem dX11_readerOf_15 : decode cX11_readerOf 15 = .ok (.aload_n 0, 1) := dk_aload_n_0 (by decide +kernel)
theorem dX11_readerOf_16 : decode cX11_readerOf 16 = .ok (.getfield 26, 3) := dk_getfield (by decide +kernel)
theorem dX11_readerOf_19 : decode cX11_readerOf 19 = .ok (.iload_n 1, 1) := dk_iload_n_1 (by decide +kernel)
theorem dX11_readerOf_20 : decode cX11_readerOf 20 = .ok (.invokevirtual 334, 3) := dk_invokevirtual (by decide +kernel)
theorem dX11_readerOf_23 : decode cX11_readerOf 23 = .ok (.checkcast 149, 3) := dk_checkcast (by decide +kernel)
theorem dX11_readerOf_26 : decode cX11_readerOf 26 = .ok (.goto 4, 3) := dk_goto (by decide +kernel)
theorem dX11_readerOf_29 : decode cX11_readerOf 29 = .ok (.aconst_null, 1) := dk_aconst_null (by decide +kernel)
theorem dX11_readerOf_30 : decode cX11_readerOf 30 = .ok (.areturn, 1) := dk_areturn (by decide +kernel)
theorem dX11_readRefusal_0 : decode cX11_readRefusal 0 = .ok (.aload_n 0, 1) := dk_aload_n_0 (by decide +kernel)
theorem dX11_readRefusal_1 : decode cX11_readRefusal 1 = .ok (.ifnonnull 5, 3) := dk_ifnonnull (by decide +kernel)
theorem dX11_readRefusal_6 : decode cX11_readRefusal 6 = .ok (.aload_n 0, 1) := dk_aload_n_0 (by decide +kernel)
theorem dX11_readRefusal_7 : decode cX11_readRefusal 7 = .ok (.getfield 196, 3) := dk_getfield (by decide +kernel)
theorem dX11_readRefusal_10 : decode cX11_readRefusal 10 = .ok (.ifCond .ne 7, 3) := dk_ifCond_ne (by decide +kernel)
theorem dX11_readRefusal_13 : decode cX11_readRefusal 13 = .ok (.iconst 0, 1) := dk_iconst_0 (by decide +kernel)
theorem dX11_readRefusal_14 : decode cX11_readRefusal 14 = .ok (.goto 5, 3) := dk_goto (by decide +kernel)
theorem dX11_readRefusal_17 : decode cX11_readRefusal 17 = .ok (.bipush (-3), 2) := dk_bipush (by decide +kernel)
theorem dX11_readRefusal_19 : decode cX11_readRefusal 19 = .ok (.ireturn, 1) := dk_ireturn (by decide +kernel)
theorem dX11_readRefusal_4 : decode cX11_readRefusal 4 = .ok (.iconst (-1), 1) := dk_iconst_m1 (by decide +kernel)
theorem dX11_readRefusal_5 : decode cX11_readRefusal 5 = .ok (.ireturn, 1) := dk_ireturn (by decide +kernel)
theorem dX4_isFreshIn_0 : decode cX4_isFreshIn 0 = .ok (.aload_n 0, 1) := dk_aload_n_0 (by decide +kernel)
theorem dX4_isFreshIn_1 : decode cX4_isFreshIn 1 = .ok (.getfield 15, 3) := dk_getfield (by decide +kernel)
theorem dX4_isFreshIn_4 : decode cX4_isFreshIn 4 = .ok (.iload_n 1, 1) := dk_iload_n_1 (by decide +kernel)
theorem dX4_isFreshIn_5 : decode cX4_isFreshIn 5 = .ok (.if_icmp .ne 23, 3) := dk_if_icmp_ne (by decide +kernel)
theorem dX4_isFreshIn_8 : decode cX4_isFreshIn 8 = .ok (.aload_n 0, 1) := dk_aload_n_0 (by decide +kernel)
theorem dX4_isFreshIn_9 : decode cX4_isFreshIn 9 = .ok (.getfield 9, 3) := dk_getfield (by decide +kernel)
theorem dX4_isFreshIn_12 : decode cX4_isFreshIn 12 = .ok (.iconst (-1), 1) := dk_iconst_m1 (by decide +kernel)
theorem dX4_isFreshIn_13 : decode cX4_isFreshIn 13 = .ok (.if_icmp .eq 11, 3) := dk_if_icmp_eq (by decide +kernel)
theorem dX4_isFreshIn_16 : decode cX4_isFreshIn 16 = .ok (.aload_n 0, 1) := dk_aload_n_0 (by decide +kernel)
theorem dX4_isFreshIn_17 : decode cX4_isFreshIn 17 = .ok (.getfield 9, 3) := dk_getfield (by decide +kernel)
theorem dX4_isFreshIn_20 : decode cX4_isFreshIn 20 = .ok (.iload_n 1, 1) := dk_iload_n_1 (by decide +kernel)
theorem dX4_isFreshIn_21 : decode cX4_isFreshIn 21 = .ok (.if_icmp .le 7, 3) := dk_if_icmp_le (by decide +kernel)
theorem dX4_isFreshIn_24 : decode cX4_isFreshIn 24 = .ok (.iconst 1, 1) := dk_iconst_1 (by decide +kernel)
theorem dX4_isFreshIn_25 : decode cX4_isFreshIn 25 = .ok (.goto 4, 3) := dk_goto (by decide +kernel)
theorem dX4_isFreshIn_28 : decode cX4_isFreshIn 28 = .ok (.iconst 0, 1) := dk_iconst_0 (by decide +kernel)
theorem dX4_isFreshIn_29 : decode cX4_isFreshIn 29 = .ok (.ireturn, 1) := dk_ireturn (by decide +kernel)
theorem dX6_isFree_0 : decode cX6_isFree 0 = .ok (.aload_n 0, 1) := dk_aload_n_0 (by decide +kernel)
theorem dX6_isFree_1 : decode cX6_isFree 1 = .ok (.getfield 18, 3) := dk_getfield (by decide +kernel)
theorem dX6_isFree_4 : decode cX6_isFree 4 = .ok (.iload_n 2, 1) := dk_iload_n_2 (by decide +kernel)
theorem dX6_isFree_5 : decode cX6_isFree 5 = .ok (.if_icmp .lt 13, 3) := dk_if_icmp_lt (by decide +kernel)
theorem dX6_isFree_8 : decode cX6_isFree 8 = .ok (.iload_n 1, 1) := dk_iload_n_1 (by decide +kernel)
theorem dX6_isFree_9 : decode cX6_isFree 9 = .ok (.aload_n 0, 1) := dk_aload_n_0 (by decide +kernel)
theorem dX6_isFree_10 : decode cX6_isFree 10 = .ok (.getfield 9, 3) := dk_getfield (by decide +kernel)
theorem dX6_isFree_13 : decode cX6_isFree 13 = .ok (.iload_n 3, 1) := dk_iload_n_3 (by decide +kernel)
theorem dX6_isFree_14 : decode cX6_isFree 14 = .ok (.iadd, 1) := dk_iadd (by decide +kernel)
theorem dX6_isFree_15 : decode cX6_isFree 15 = .ok (.if_icmp .le 7, 3) := dk_if_icmp_le (by decide +kernel)
theorem dX6_isFree_18 : decode cX6_isFree 18 = .ok (.iconst 1, 1) := dk_iconst_1 (by decide +kernel)
theorem dX6_isFree_19 : decode cX6_isFree 19 = .ok (.goto 4, 3) := dk_goto (by decide +kernel)
theorem dX6_isFree_22 : decode cX6_isFree 22 = .ok (.iconst 0, 1) := dk_iconst_0 (by decide +kernel)
theorem dX6_isFree_23 : decode cX6_isFree 23 = .ok (.ireturn, 1) := dk_ireturn (by decide +kernel)
theorem dX3_breakable_0 : decode cX3_breakable 0 = .ok (.iconst 0, 1) := dk_iconst_0 (by decide +kernel)
theorem dX3_breakable_1 : decode cX3_breakable 1 = .ok (.istore_n 1, 1) := dk_istore_n_1 (by decide +kernel)
theorem dX3_breakable_2 : decode cX3_breakable 2 = .ok (.iconst 1, 1) := dk_iconst_1 (by decide +kernel)
theorem dX3_breakable_3 : decode cX3_breakable 3 = .ok (.istore_n 2, 1) := dk_istore_n_2 (by decide +kernel)
theorem dX3_breakable_4 : decode cX3_breakable 4 = .ok (.iload_n 2, 1) := dk_iload_n_2 (by decide +kernel)
theorem dX3_breakable_5 : decode cX3_breakable 5 = .ok (.aload_n 0, 1) := dk_aload_n_0 (by decide +kernel)
theorem dX3_breakable_6 : decode cX3_breakable 6 = .ok (.getfield 12, 3) := dk_getfield (by decide +kernel)
theorem dX3_breakable_9 : decode cX3_breakable 9 = .ok (.invokevirtual 44, 3) := dk_invokevirtual (by decide +kernel)
theorem dX3_breakable_12 : decode cX3_breakable 12 = .ok (.if_icmp .ge 21, 3) := dk_if_icmp_ge (by decide +kernel)
theorem dX3_breakable_15 : decode cX3_breakable 15 = .ok (.iload_n 2, 1) := dk_iload_n_2 (by decide +kernel)
theorem dX3_breakable_16 : decode cX3_breakable 16 = .ok (.bipush 11, 2) := dk_bipush (by decide +kernel)
theorem dX3_breakable_18 : decode cX3_breakable 18 = .ok (.if_icmp .gt 15, 3) := dk_if_icmp_gt (by decide +kernel)
theorem dX3_breakable_21 : decode cX3_breakable 21 = .ok (.iload_n 1, 1) := dk_iload_n_1 (by decide +kernel)
theorem dX3_breakable_22 : decode cX3_breakable 22 = .ok (.iconst 1, 1) := dk_iconst_1 (by decide +kernel)
theorem dX3_breakable_23 : decode cX3_breakable 23 = .ok (.iload_n 2, 1) := dk_iload_n_2 (by decide +kernel)
theorem dX3_breakable_24 : decode cX3_breakable 24 = .ok (.ishl, 1) := dk_ishl (by decide +kernel)
theorem dX3_breakable_25 : decode cX3_breakable 25 = .ok (.ior, 1) := dk_ior (by decide +kernel)
theorem dX3_breakable_26 : decode cX3_breakable 26 = .ok (.istore_n 1, 1) := dk_istore_n_1 (by decide +kernel)
theorem dX3_breakable_27 : decode cX3_breakable 27 = .ok (.iinc 2 1, 3) := dk_iinc (by decide +kernel)
theorem dX3_breakable_30 : decode cX3_breakable 30 = .ok (.goto (-26), 3) := dk_goto (by decide +kernel)
theorem dX3_breakable_33 : decode cX3_breakable 33 = .ok (.iconst 0, 1) := dk_iconst_0 (by decide +kernel)
theorem dX3_breakable_34 : decode cX3_breakable 34 = .ok (.istore_n 2, 1) := dk_istore_n_2 (by decide +kernel)
theorem dX3_breakable_35 : decode cX3_breakable 35 = .ok (.iload_n 2, 1) := dk_iload_n_2 (by decide +kernel)
theorem dX3_breakable_36 : decode cX3_breakable 36 = .ok (.aload_n 0, 1) := dk_aload_n_0 (by decide +kernel)
theorem dX3_breakable_37 : decode cX3_breakable 37 = .ok (.getfield 21, 3) := dk_getfield (by decide +kernel)
theorem dX3_breakable_40 : decode cX3_breakable 40 = .ok (.invokevirtual 44, 3) := dk_invokevirtual (by decide +kernel)
theorem dX3_breakable_43 : decode cX3_breakable 43 = .ok (.if_icmp .ge 44, 3) := dk_if_icmp_ge (by decide +kernel)
theorem dX3_breakable_46 : decode cX3_breakable 46 = .ok (.aload_n 0, 1) := dk_aload_n_0 (by decide +kernel)
theorem dX3_breakable_47 : decode cX3_breakable 47 = .ok (.getfield 21, 3) := dk_getfield (by decide +kernel)
theorem dX3_breakable_50 : decode cX3_breakable 50 = .ok (.iload_n 2, 1) := dk_iload_n_2 (by decide +kernel)
theorem dX3_breakable_51 : decode cX3_breakable 51 = .ok (.invokevirtual 48, 3) := dk_invokevirtual (by decide +kernel)
theorem dX3_breakable_54 : decode cX3_breakable 54 = .ok (.checkcast 52, 3) := dk_checkcast (by decide +kernel)
theorem dX3_breakable_57 : decode cX3_breakable 57 = .ok (.astore_n 3, 1) := dk_astore_n_3 (by decide +kernel)
theorem dX3_breakable_58 : decode cX3_breakable 58 = .ok (.iload_n 1, 1) := dk_iload_n_1 (by decide +kernel)
theorem dX3_breakable_59 : decode cX3_breakable 59 = .ok (.aload_n 3, 1) := dk_aload_n_3 (by decide +kernel)
theorem dX3_breakable_60 : decode cX3_breakable 60 = .ok (.getfield 113, 3) := dk_getfield (by decide +kernel)
theorem dX3_breakable_63 : decode cX3_breakable 63 = .ok (.ifCond .eq 7, 3) := dk_ifCond_eq (by decide +kernel)
theorem dX3_breakable_66 : decode cX3_breakable 66 = .ok (.iload_n 1, 1) := dk_iload_n_1 (by decide +kernel)
theorem dX3_breakable_67 : decode cX3_breakable 67 = .ok (.goto 12, 3) := dk_goto (by decide +kernel)
theorem dX3_breakable_70 : decode cX3_breakable 70 = .ok (.aload_n 3, 1) := dk_aload_n_3 (by decide +kernel)
theorem dX3_breakable_71 : decode cX3_breakable 71 = .ok (.getfield 127, 3) := dk_getfield (by decide +kernel)
theorem dX3_breakable_74 : decode cX3_breakable 74 = .ok (.getfield 130, 3) := dk_getfield (by decide +kernel)
theorem dX3_breakable_77 : decode cX3_breakable 77 = .ok (.iconst (-1), 1) := dk_iconst_m1 (by decide +kernel)
theorem dX3_breakable_78 : decode cX3_breakable 78 = .ok (.ixor, 1) := dk_ixor (by decide +kernel)
theorem dX3_breakable_79 : decode cX3_breakable 79 = .ok (.iand, 1) := dk_iand (by decide +kernel)
theorem dX3_breakable_80 : decode cX3_breakable 80 = .ok (.istore_n 1, 1) := dk_istore_n_1 (by decide +kernel)
theorem dX3_breakable_81 : decode cX3_breakable 81 = .ok (.iinc 2 1, 3) := dk_iinc (by decide +kernel)
theorem dX3_breakable_84 : decode cX3_breakable 84 = .ok (.goto (-49), 3) := dk_goto (by decide +kernel)
theorem dX3_breakable_87 : decode cX3_breakable 87 = .ok (.iload_n 1, 1) := dk_iload_n_1 (by decide +kernel)
theorem dX3_breakable_88 : decode cX3_breakable 88 = .ok (.ireturn, 1) := dk_ireturn (by decide +kernel)
theorem dX3_hitsAllComplaints_0 : decode cX3_hitsAllComplaints 0 = .ok (.iconst 0, 1) := dk_iconst_0 (by decide +kernel)
theorem dX3_hitsAllComplaints_1 : decode cX3_hitsAllComplaints 1 = .ok (.istore_n 2, 1) := dk_istore_n_2 (by decide +kernel)
theorem dX3_hitsAllComplaints_2 : decode cX3_hitsAllComplaints 2 = .ok (.iload_n 2, 1) := dk_iload_n_2 (by decide +kernel)
theorem dX3_hitsAllComplaints_3 : decode cX3_hitsAllComplaints 3 = .ok (.aload_n 0, 1) := dk_aload_n_0 (by decide +kernel)
theorem dX3_hitsAllComplaints_4 : decode cX3_hitsAllComplaints 4 = .ok (.getfield 21, 3) := dk_getfield (by decide +kernel)
theorem dX3_hitsAllComplaints_7 : decode cX3_hitsAllComplaints 7 = .ok (.invokevirtual 44, 3) := dk_invokevirtual (by decide +kernel)
theorem dX3_hitsAllComplaints_10 : decode cX3_hitsAllComplaints 10 = .ok (.if_icmp .ge 42, 3) := dk_if_icmp_ge (by decide +kernel)
theorem dX3_hitsAllComplaints_13 : decode cX3_hitsAllComplaints 13 = .ok (.aload_n 0, 1) := dk_aload_n_0 (by decide +kernel)
theorem dX3_hitsAllComplaints_14 : decode cX3_hitsAllComplaints 14 = .ok (.getfield 21, 3) := dk_getfield (by decide +kernel)
theorem dX3_hitsAllComplaints_17 : decode cX3_hitsAllComplaints 17 = .ok (.iload_n 2, 1) := dk_iload_n_2 (by decide +kernel)
theorem dX3_hitsAllComplaints_18 : decode cX3_hitsAllComplaints 18 = .ok (.invokevirtual 48, 3) := dk_invokevirtual (by decide +kernel)
theorem dX3_hitsAllComplaints_21 : decode cX3_hitsAllComplaints 21 = .ok (.checkcast 52, 3) := dk_checkcast (by decide +kernel)
theorem dX3_hitsAllComplaints_24 : decode cX3_hitsAllComplaints 24 = .ok (.astore_n 3, 1) := dk_astore_n_3 (by decide +kernel)
theorem dX3_hitsAllComplaints_25 : decode cX3_hitsAllComplaints 25 = .ok (.aload_n 3, 1) := dk_aload_n_3 (by decide +kernel)
theorem dX3_hitsAllComplaints_26 : decode cX3_hitsAllComplaints 26 = .ok (.getfield 113, 3) := dk_getfield (by decide +kernel)
theorem dX3_hitsAllComplaints_29 : decode cX3_hitsAllComplaints 29 = .ok (.ifCond .eq 17, 3) := dk_ifCond_eq (by decide +kernel)
theorem dX3_hitsAllComplaints_32 : decode cX3_hitsAllComplaints 32 = .ok (.aload_n 3, 1) := dk_aload_n_3 (by decide +kernel)
theorem dX3_hitsAllComplaints_33 : decode cX3_hitsAllComplaints 33 = .ok (.getfield 127, 3) := dk_getfield (by decide +kernel)
theorem dX3_hitsAllComplaints_36 : decode cX3_hitsAllComplaints 36 = .ok (.getfield 130, 3) := dk_getfield (by decide +kernel)
theorem dX3_hitsAllComplaints_39 : decode cX3_hitsAllComplaints 39 = .ok (.iload_n 1, 1) := dk_iload_n_1 (by decide +kernel)
theorem dX3_hitsAllComplaints_40 : decode cX3_hitsAllComplaints 40 = .ok (.iand, 1) := dk_iand (by decide +kernel)
theorem dX3_hitsAllComplaints_41 : decode cX3_hitsAllComplaints 41 = .ok (.ifCond .ne 5, 3) := dk_ifCond_ne (by decide +kernel)
theorem dX3_hitsAllComplaints_44 : decode cX3_hitsAllComplaints 44 = .ok (.iconst 0, 1) := dk_iconst_0 (by decide +kernel)
theorem dX3_hitsAllComplaints_45 : decode cX3_hitsAllComplaints 45 = .ok (.ireturn, 1) := dk_ireturn (by decide +kernel)
theorem dX3_hitsAllComplaints_46 : decode cX3_hitsAllComplaints 46 = .ok (.iinc 2 1, 3) := dk_iinc (by decide +kernel)
theorem dX3_hitsAllComplaints_49 : decode cX3_hitsAllComplaints 49 = .ok (.goto (-47), 3) := dk_goto (by decide +kernel)
theorem dX3_hitsAllComplaints_52 : decode cX3_hitsAllComplaints 52 = .ok (.iconst 1, 1) := dk_iconst_1 (by decide +kernel)
theorem dX3_hitsAllComplaints_53 : decode cX3_hitsAllComplaints 53 = .ok (.ireturn, 1) := dk_ireturn (by decide +kernel)
theorem dX3_raise_0 : decode cX3_raise 0 = .ok (.iconst 0, 1) := dk_iconst_0 (by decide +kernel)
theorem dX3_raise_1 : decode cX3_raise 1 = .ok (.istore_n 2, 1) := dk_istore_n_2 (by decide +kernel)
theorem dX3_raise_2 : decode cX3_raise 2 = .ok (.iload_n 2, 1) := dk_iload_n_2 (by decide +kernel)
theorem dX3_raise_3 : decode cX3_raise 3 = .ok (.aload_n 0, 1) := dk_aload_n_0 (by decide +kernel)
theorem dX3_raise_4 : decode cX3_raise 4 = .ok (.getfield 24, 3) := dk_getfield (by decide +kernel)
theorem dX3_raise_7 : decode cX3_raise 7 = .ok (.invokevirtual 44, 3) := dk_invokevirtual (by decide +kernel)
theorem dX3_raise_10 : decode cX3_raise 10 = .ok (.if_icmp .ge 41, 3) := dk_if_icmp_ge (by decide +kernel)
theorem dX3_raise_13 : decode cX3_raise 13 = .ok (.aload_n 0, 1) := dk_aload_n_0 (by decide +kernel)
theorem dX3_raise_14 : decode cX3_raise 14 = .ok (.getfield 24, 3) := dk_getfield (by decide +kernel)
theorem dX3_raise_17 : decode cX3_raise 17 = .ok (.iload_n 2, 1) := dk_iload_n_2 (by decide +kernel)
theorem dX3_raise_18 : decode cX3_raise 18 = .ok (.invokevirtual 48, 3) := dk_invokevirtual (by decide +kernel)
theorem dX3_raise_21 : decode cX3_raise 21 = .ok (.checkcast 35, 3) := dk_checkcast (by decide +kernel)
theorem dX3_raise_24 : decode cX3_raise 24 = .ok (.astore_n 3, 1) := dk_astore_n_3 (by decide +kernel)
theorem dX3_raise_25 : decode cX3_raise 25 = .ok (.aload_n 3, 1) := dk_aload_n_3 (by decide +kernel)
theorem dX3_raise_26 : decode cX3_raise 26 = .ok (.iload_n 1, 1) := dk_iload_n_1 (by decide +kernel)
theorem dX3_raise_27 : decode cX3_raise 27 = .ok (.iload_n 2, 1) := dk_iload_n_2 (by decide +kernel)
theorem dX3_raise_28 : decode cX3_raise 28 = .ok (.ishr, 1) := dk_ishr (by decide +kernel)
theorem dX3_raise_29 : decode cX3_raise 29 = .ok (.iconst 1, 1) := dk_iconst_1 (by decide +kernel)
theorem dX3_raise_30 : decode cX3_raise 30 = .ok (.iand, 1) := dk_iand (by decide +kernel)
theorem dX3_raise_31 : decode cX3_raise 31 = .ok (.ifCond .eq 10, 3) := dk_ifCond_eq (by decide +kernel)
theorem dX3_raise_34 : decode cX3_raise 34 = .ok (.aload_n 3, 1) := dk_aload_n_3 (by decide +kernel)
theorem dX3_raise_35 : decode cX3_raise 35 = .ok (.getfield 147, 3) := dk_getfield (by decide +kernel)
theorem dX3_raise_38 : decode cX3_raise 38 = .ok (.goto 4, 3) := dk_goto (by decide +kernel)
theorem dX3_raise_41 : decode cX3_raise 41 = .ok (.iconst 0, 1) := dk_iconst_0 (by decide +kernel)
theorem dX3_raise_42 : decode cX3_raise 42 = .ok (.putfield 150, 3) := dk_putfield (by decide +kernel)
theorem dX3_raise_45 : decode cX3_raise 45 = .ok (.iinc 2 1, 3) := dk_iinc (by decide +kernel)
theorem dX3_raise_48 : decode cX3_raise 48 = .ok (.goto (-46), 3) := dk_goto (by decide +kernel)
theorem dX3_raise_51 : decode cX3_raise 51 = .ok (.return_, 1) := dk_return_ (by decide +kernel)
set_option maxHeartbeats 4000000 in
set_option maxRecDepth 100000 in
theorem c_X3_breakable (l : Launch) (g : gG) (J : Nat → Nat → Int32) (L : Nat → Nat → Int64) (I : Nat → Nat → Nat → Int32) (P : Nat → Nat → Nat → Option Nat) (E : Nat → Option Nat) (N : Nat → Nat) (dy : List (Nat × Nat)) (sz : Nat)  (hwf : WXF g J P E N dy) : Met l yX3_breakable (WS yX3_breakable cX3_breakable 4 (some .int)) (RM (4) 0 0) (PC g [.ref (g.2.2.1 4)] ((J, L, I, P, E, N), sgX g ++ dy) sz) (va_Qi (fun (r : Int32) (u : Unit) => True) (fun u t => at_ g (FR g ((J, L, I, P, E, N), sgX g ++ dy) sz) ((J, L, I, P, E, N), sgX g ++ dy) t) (FR g ((J, L, I, P, E, N), sgX g ++ dy) sz)) 0 0 (FR g ((J, L, I, P, E, N), sgX g ++ dy) sz) := by
  refine ent (by decide +kernel) (Nat.le_of_ble_eq_true rfl) ?_
  intro p e s m below meth c ls hsz C hW hr hlocks hname hl
  generalize FR g ((J, L, I, P, E, N), sgX g ++ dy) sz = A at C hW ⊢
  have hx := C.1.1
  have hb := C.1.2.1
  have hts := C.1.2.2.2.2
  have hl : lv_has ls 4 [(0, .ref (g.2.2.1 4))] := hl
  obtain ⟨H, hH⟩ : ∃ H : Heap, H = s.heap := ⟨_, rfl⟩
  obtain ⟨locs, hlocs⟩ : ∃ q : List Loc, q = [] := ⟨_, rfl⟩
  have hW : WB g A s.heap H locs (J, L, I, P, E, N) (sgX g ++ dy) := by rw [hH, hlocs]; exact hW
  obtain ⟨h20a, h20b, -⟩ := hwf.1.1
  obtain ⟨h21a, h21b, -⟩ := hwf.1.2.1
  obtain ⟨h22a, h22b, -⟩ := hwf.1.2.2.1
  obtain ⟨h23a, h23b, -⟩ := hwf.1.2.2.2
  obtain ⟨h24a, h24b, -⟩ := hwf.2.1.1
  obtain ⟨h25a, h25b, -⟩ := hwf.2.1.2.1
  obtain ⟨h26a, h26b, -⟩ := hwf.2.1.2.2.1
  obtain ⟨h27a, h27b, -⟩ := hwf.2.1.2.2.2
  refine start_ hH hlocs ?_
  refine lv_iconst (v := 0) hx hb dX3_breakable_0 (by decide) ?_
  refine lv_istore_n (lv' := [(1, .int 0), (0, .ref (g.2.2.1 4))]) hx hb dX3_breakable_1 rfl hl (by decide) rfl (fun ls hl => ?_)
  refine lv_iconst (v := 1) hx hb dX3_breakable_2 (by decide) ?_
  refine lv_istore_n (lv' := [(2, .int 1), (1, .int 0), (0, .ref (g.2.2.1 4))]) hx hb dX3_breakable_3 rfl hl (by decide) rfl (fun ls hl => ?_)
  have loop4 : ∀ (n : Nat) (m1 : Int32) (m2 : Int32) (H : Heap) (locs : List Loc) (ls : Array Slot), ((J 20 2).toInt - m2.toInt).toNat < n → 0 ≤ m2.toInt → WB g A s.heap H locs (J, L, I, P, E, N) (sgX g ++ dy) → lv_has ls 4 [(2, .int m2), (1, .int m1), (0, .ref (g.2.2.1 4))] → W p l e (RM (4) 0 0) s m ([.ref (g.2.2.1 4)] : List Value).toArray below meth c H locs 0 0 (MQ below (va_Qi (fun (r : Int32) (u : Unit) => True) (fun u t => at_ g A ((J, L, I, P, E, N), sgX g ++ dy) t) A) ([.ref (g.2.2.1 4)] : List Value).toArray s 0 0 A) (F0 m 4 ls []) := by
    intro n
    induction n with
    | zero => intro m1 m2 H locs ls hmeas; exact absurd hmeas (Nat.not_lt_zero _)
    | succ n ih =>
      intro m1 m2 H locs ls hmeas hi hW hl
      refine lv_iload_n hx hb dX3_breakable_4 rfl (lv_at hl 0 rfl) ?_
      refine lv_aload_n hx hb dX3_breakable_5 rfl (lv_at hl 2 rfl) ?_
      refine rg_4_0 C hW (mx_ rfl) tw_232 dX3_breakable_6 ?_
      refine ci_ C hW (runV (x := (g.2.2.1 20)) (As := []) (rest := [.int m2]) (T := ((J, L, I, P, E, N), sgX g ++ dy)) C hW (c_Jx4a65c_size_8abf5 l g J L I P E N dy H.size 20 rfl ) mi_Jx4a65c_size_8abf5 tw_467 (recv_ (T := ((J, L, I, P, E, N), sgX g ++ dy)) C hW (mx_ rfl) (cel_list rfl) rfl) ⟨rfl, rfl, Nat.le_of_ble_eq_true rfl, Nat.le_of_ble_eq_true rfl⟩ rfl hl.1 rfl (Nat.le_of_ble_eq_true rfl) dX3_breakable_9 ⟨Nat.le_of_ble_eq_true rfl, Nat.le_of_ble_eq_true rfl⟩) (fun r1 u1 H locs hp1 hW => ?_)
      have hc1 : ((r1 = J 20 2)) := hp1
      clear hp1
      have hr1 : r1 = J 20 2 := hc1
      refine lv_as (J 20 2) hr1 ?_
      have hW : WB g A s.heap H locs (J, L, I, P, E, N) (sgX g ++ dy) := hW
      refine lv_icmp_ge (tgt := 33) hx hb dX3_breakable_12 (by decide) (fun c2 => ?_) (fun c2 => ?_)
      · have c2 : (J 20 2).toInt ≤ m2.toInt := tle rfl rfl c2
        refine lv_iconst (v := 0) hx hb dX3_breakable_33 (by decide) ?_
        refine lv_istore_n (lv' := [(2, .int 0), (1, .int m1), (0, .ref (g.2.2.1 4))]) hx hb dX3_breakable_34 rfl hl (by decide) rfl (fun ls hl => ?_)
        have loop35 : ∀ (n35 : Nat) (m1 : Int32) (m2 : Int32) (H : Heap) (locs : List Loc) (ls : Array Slot), ((J 22 2).toInt - m2.toInt).toNat < n35 → 0 ≤ m2.toInt → WB g A s.heap H locs (J, L, I, P, E, N) (sgX g ++ dy) → lv_has ls 4 [(2, .int m2), (1, .int m1), (0, .ref (g.2.2.1 4))] → W p l e (RM (4) 0 0) s m ([.ref (g.2.2.1 4)] : List Value).toArray below meth c H locs 0 0 (MQ below (va_Qi (fun (r : Int32) (u : Unit) => True) (fun u t => at_ g A ((J, L, I, P, E, N), sgX g ++ dy) t) A) ([.ref (g.2.2.1 4)] : List Value).toArray s 0 0 A) (F0 m 35 ls []) := by
          intro n35
          induction n35 with
          | zero => intro m1 m2 H locs ls hmeas; exact absurd hmeas (Nat.not_lt_zero _)
          | succ n35 ih35 =>
            intro m1 m2 H locs ls hmeas hi hW hl
            refine lv_iload_n hx hb dX3_breakable_35 rfl (lv_at hl 0 rfl) ?_
            refine lv_aload_n hx hb dX3_breakable_36 rfl (lv_at hl 2 rfl) ?_
            refine rg_4_2 C hW (mx_ rfl) tw_236 dX3_breakable_37 ?_
            refine ci_ C hW (runV (x := (g.2.2.1 22)) (As := []) (rest := [.int m2]) (T := ((J, L, I, P, E, N), sgX g ++ dy)) C hW (c_Jx4a65c_size_8abf5 l g J L I P E N dy H.size 22 rfl ) mi_Jx4a65c_size_8abf5 tw_467 (recv_ (T := ((J, L, I, P, E, N), sgX g ++ dy)) C hW (mx_ rfl) (cel_list rfl) rfl) ⟨rfl, rfl, Nat.le_of_ble_eq_true rfl, Nat.le_of_ble_eq_true rfl⟩ rfl hl.1 rfl (Nat.le_of_ble_eq_true rfl) dX3_breakable_40 ⟨Nat.le_of_ble_eq_true rfl, Nat.le_of_ble_eq_true rfl⟩) (fun r3 u3 H locs hp3 hW => ?_)
            have hc3 : ((r3 = J 22 2)) := hp3
            clear hp3
            have hr3 : r3 = J 22 2 := hc3
            refine lv_as (J 22 2) hr3 ?_
            have hW : WB g A s.heap H locs (J, L, I, P, E, N) (sgX g ++ dy) := hW
            refine lv_icmp_ge (tgt := 87) hx hb dX3_breakable_43 (by decide) (fun c4 => ?_) (fun c4 => ?_)
            · have c4 : (J 22 2).toInt ≤ m2.toInt := tle rfl rfl c4
              refine lv_iload_n hx hb dX3_breakable_87 rfl (lv_at hl 1 rfl) ?_
              exact end_i C hr hlocks () hW trivial dX3_breakable_88
            · have c4 : m2.toInt < (J 22 2).toInt := tnle rfl rfl c4
              refine lv_aload_n hx hb dX3_breakable_46 rfl (lv_at hl 2 rfl) ?_
              refine rg_4_2 C hW (mx_ rfl) tw_236 dX3_breakable_47 ?_
              refine lv_iload_n hx hb dX3_breakable_50 rfl (lv_at hl 0 rfl) ?_
              refine cq_ C hW (runV (x := (g.2.2.1 22)) (As := [.int m2]) (rest := []) (T := ((J, L, I, P, E, N), sgX g ++ dy)) C hW ((c_Jx4a65c_get_915e3 2) l g J L I P E N dy H.size 22 rfl m2 (show LWF g J P E N dy 22 2 from hwf.1.2.2.1) (show 0 ≤ m2.toInt ∧ m2.toInt < (J 22 2).toInt from by omega)) mi_Jx4a65c_get_915e3 tw_471 (recv_ (T := ((J, L, I, P, E, N), sgX g ++ dy)) C hW (mx_ rfl) (cel_list rfl) rfl) ⟨rfl, rfl, Nat.le_of_ble_eq_true rfl, Nat.le_of_ble_eq_true rfl⟩ rfl hl.1 rfl (Nat.le_of_ble_eq_true rfl) dX3_breakable_51 ⟨Nat.le_of_ble_eq_true rfl, Nat.le_of_ble_eq_true rfl⟩) (fun q5 u5 H locs hp5 hW => ?_)
              have hq5 : (q5 = some (elt E P 22 m2.toNatClampNeg)) := hp5
              clear hp5
              have hW : WB g A s.heap H locs (J, L, I, P, E, N) (sgX g ++ dy) := hW
              subst hq5
              obtain ⟨o5, ho5⟩ : ∃ z : Nat, z = elt E P 22 m2.toNatClampNeg := ⟨_, rfl⟩
              have hm5 : (2, o5) ∈ dy := by rw [ho5]; exact (lw_mem (er := 2) hwf.1.2.2.1 (show (m2.toNatClampNeg : Int) < (J 22 2).toInt from by have := tcl m2; omega))
              refine lv_asv (v' := .ref o5) (by rw [ho5]; rfl) ?_
              refine g_cast C hW (List.mem_append_right _ hm5) rfl rfl tw_580 dX3_breakable_54 ?_
              refine lv_astore_n (lv' := [(3, .ref o5), (2, .int m2), (1, .int m1), (0, .ref (g.2.2.1 4))]) hx hb dX3_breakable_57 rfl hl (by decide) rfl (fun ls hl => ?_)
              refine lv_iload_n hx hb dX3_breakable_58 rfl (lv_at hl 2 rfl) ?_
              refine lv_aload_n hx hb dX3_breakable_59 rfl (lv_at hl 0 rfl) ?_
              refine rg_2_4 C hW (List.mem_append_right _ hm5) tw_555 dX3_breakable_60 ?_
              refine lv_topi (fun x6 (e6 : x6 = I 2 4 o5) => ?_)
              have t6 : x6.toInt = (I 2 4 o5).toInt := by rw [e6]
              refine lv_if_eq (tgt := 70) hx hb dX3_breakable_63 (by decide) (fun c7 => ?_) (fun c7 => ?_)
              · have c7 : x6.toInt = 0 := teq rfl kp0 c7
                refine lv_aload_n hx hb dX3_breakable_70 rfl (lv_at hl 0 rfl) ?_
                refine rg_2_0 C hW (List.mem_append_right _ hm5) tw_549 dX3_breakable_71 ?_
                obtain ⟨b8, hb8, hbm8⟩ := hwf.2.2.2.2.1 o5 hm5
                refine lv_asv (v' := .ref b8) (by show va_rf (P 2 0 o5) = _; rw [hb8]; rfl) ?_
                refine rg_6_2 C hW (List.mem_append_right _ hbm8) tw_141 dX3_breakable_74 ?_
                refine lv_topi (fun x9 (e9 : x9 = I 6 2 b8) => ?_)
                have t9 : x9.toInt = (I 6 2 b8).toInt := by rw [e9]
                refine lv_iconst (v := (-1)) hx hb dX3_breakable_77 (by decide) ?_
                refine lv_ixor hx hb dX3_breakable_78 ?_
                refine lv_topi (fun x10 (e10 : x10 = x9 ^^^ (-1)) => ?_)
                refine lv_iand hx hb dX3_breakable_79 ?_
                refine lv_topi (fun x11 (e11 : x11 = m1 &&& x10) => ?_)
                refine lv_istore_n (lv' := [(1, .int x11), (3, .ref o5), (2, .int m2), (0, .ref (g.2.2.1 4))]) hx hb dX3_breakable_80 rfl hl (by decide) rfl (fun ls hl => ?_)
                obtain ⟨x12, e12⟩ : ∃ y : Int32, y = m2 + 1 := ⟨_, rfl⟩
                refine lv_iinc (v := x12) (lv' := [(2, .int x12), (1, .int x11), (3, .ref o5), (0, .ref (g.2.2.1 4))]) hx hb dX3_breakable_81 hl (k := 2) rfl (by rw [e12]; rfl) (by decide) rfl (fun ls hl => ?_)
                try have t12 : x12.toInt = m2.toInt + 1 := tadd e12 rfl kp1 (by omega)
                refine lv_goto (tgt := 35) hx hb dX3_breakable_84 (by decide) ?_
                refine ih35 x11 x12 H locs ls ?_ ?_ hW (lv_sub hl [0, 1, 3] rfl)
                · show ((J 22 2).toInt - x12.toInt).toNat < n35
                  omega
                · show 0 ≤ x12.toInt
                  first | omega | exact hi | assumption
              · have c7 : ¬ x6.toInt = 0 := tne rfl kp0 c7
                refine lv_iload_n hx hb dX3_breakable_66 rfl (lv_at hl 2 rfl) ?_
                refine lv_goto (tgt := 79) hx hb dX3_breakable_67 (by decide) ?_
                refine lv_iand hx hb dX3_breakable_79 ?_
                refine lv_topi (fun x13 (e13 : x13 = m1 &&& m1) => ?_)
                refine lv_istore_n (lv' := [(1, .int x13), (3, .ref o5), (2, .int m2), (0, .ref (g.2.2.1 4))]) hx hb dX3_breakable_80 rfl hl (by decide) rfl (fun ls hl => ?_)
                obtain ⟨x14, e14⟩ : ∃ y : Int32, y = m2 + 1 := ⟨_, rfl⟩
                refine lv_iinc (v := x14) (lv' := [(2, .int x14), (1, .int x13), (3, .ref o5), (0, .ref (g.2.2.1 4))]) hx hb dX3_breakable_81 hl (k := 2) rfl (by rw [e14]; rfl) (by decide) rfl (fun ls hl => ?_)
                try have t14 : x14.toInt = m2.toInt + 1 := tadd e14 rfl kp1 (by omega)
                refine lv_goto (tgt := 35) hx hb dX3_breakable_84 (by decide) ?_
                refine ih35 x13 x14 H locs ls ?_ ?_ hW (lv_sub hl [0, 1, 3] rfl)
                · show ((J 22 2).toInt - x14.toInt).toNat < n35
                  omega
                · show 0 ≤ x14.toInt
                  first | omega | exact hi | assumption
        -- into the loop
        refine loop35 (((J 22 2).toInt - (0 : Int32).toInt).toNat + 1) m1 0 H locs ls ?_ ?_ hW (lv_sub hl [0, 1, 2] rfl)
        · exact Nat.lt_succ_self _
        · show 0 ≤ (0 : Int32).toInt
          try rw [kp0]
          first | omega | exact hi | assumption
      · have c2 : m2.toInt < (J 20 2).toInt := tnle rfl rfl c2
        refine lv_iload_n hx hb dX3_breakable_15 rfl (lv_at hl 0 rfl) ?_
        refine lv_bipush (v := 11) hx hb dX3_breakable_16 (by decide) ?_
        refine lv_icmp_gt (tgt := 33) hx hb dX3_breakable_18 (by decide) (fun c15 => ?_) (fun c15 => ?_)
        · have c15 : 11 < m2.toInt := tlt kp11 rfl c15
          refine lv_iconst (v := 0) hx hb dX3_breakable_33 (by decide) ?_
          refine lv_istore_n (lv' := [(2, .int 0), (1, .int m1), (0, .ref (g.2.2.1 4))]) hx hb dX3_breakable_34 rfl hl (by decide) rfl (fun ls hl => ?_)
          have loop35 : ∀ (n35 : Nat) (m1 : Int32) (m2 : Int32) (H : Heap) (locs : List Loc) (ls : Array Slot), ((J 22 2).toInt - m2.toInt).toNat < n35 → 0 ≤ m2.toInt → WB g A s.heap H locs (J, L, I, P, E, N) (sgX g ++ dy) → lv_has ls 4 [(2, .int m2), (1, .int m1), (0, .ref (g.2.2.1 4))] → W p l e (RM (4) 0 0) s m ([.ref (g.2.2.1 4)] : List Value).toArray below meth c H locs 0 0 (MQ below (va_Qi (fun (r : Int32) (u : Unit) => True) (fun u t => at_ g A ((J, L, I, P, E, N), sgX g ++ dy) t) A) ([.ref (g.2.2.1 4)] : List Value).toArray s 0 0 A) (F0 m 35 ls []) := by
            intro n35
            induction n35 with
            | zero => intro m1 m2 H locs ls hmeas; exact absurd hmeas (Nat.not_lt_zero _)
            | succ n35 ih35 =>
              intro m1 m2 H locs ls hmeas hi hW hl
              refine lv_iload_n hx hb dX3_breakable_35 rfl (lv_at hl 0 rfl) ?_
              refine lv_aload_n hx hb dX3_breakable_36 rfl (lv_at hl 2 rfl) ?_
              refine rg_4_2 C hW (mx_ rfl) tw_236 dX3_breakable_37 ?_
              refine ci_ C hW (runV (x := (g.2.2.1 22)) (As := []) (rest := [.int m2]) (T := ((J, L, I, P, E, N), sgX g ++ dy)) C hW (c_Jx4a65c_size_8abf5 l g J L I P E N dy H.size 22 rfl ) mi_Jx4a65c_size_8abf5 tw_467 (recv_ (T := ((J, L, I, P, E, N), sgX g ++ dy)) C hW (mx_ rfl) (cel_list rfl) rfl) ⟨rfl, rfl, Nat.le_of_ble_eq_true rfl, Nat.le_of_ble_eq_true rfl⟩ rfl hl.1 rfl (Nat.le_of_ble_eq_true rfl) dX3_breakable_40 ⟨Nat.le_of_ble_eq_true rfl, Nat.le_of_ble_eq_true rfl⟩) (fun r16 u16 H locs hp16 hW => ?_)
              have hc16 : ((r16 = J 22 2)) := hp16
              clear hp16
              have hr16 : r16 = J 22 2 := hc16
              refine lv_as (J 22 2) hr16 ?_
              have hW : WB g A s.heap H locs (J, L, I, P, E, N) (sgX g ++ dy) := hW
              refine lv_icmp_ge (tgt := 87) hx hb dX3_breakable_43 (by decide) (fun c17 => ?_) (fun c17 => ?_)
              · have c17 : (J 22 2).toInt ≤ m2.toInt := tle rfl rfl c17
                refine lv_iload_n hx hb dX3_breakable_87 rfl (lv_at hl 1 rfl) ?_
                exact end_i C hr hlocks () hW trivial dX3_breakable_88
              · have c17 : m2.toInt < (J 22 2).toInt := tnle rfl rfl c17
                refine lv_aload_n hx hb dX3_breakable_46 rfl (lv_at hl 2 rfl) ?_
                refine rg_4_2 C hW (mx_ rfl) tw_236 dX3_breakable_47 ?_
                refine lv_iload_n hx hb dX3_breakable_50 rfl (lv_at hl 0 rfl) ?_
                refine cq_ C hW (runV (x := (g.2.2.1 22)) (As := [.int m2]) (rest := []) (T := ((J, L, I, P, E, N), sgX g ++ dy)) C hW ((c_Jx4a65c_get_915e3 2) l g J L I P E N dy H.size 22 rfl m2 (show LWF g J P E N dy 22 2 from hwf.1.2.2.1) (show 0 ≤ m2.toInt ∧ m2.toInt < (J 22 2).toInt from by omega)) mi_Jx4a65c_get_915e3 tw_471 (recv_ (T := ((J, L, I, P, E, N), sgX g ++ dy)) C hW (mx_ rfl) (cel_list rfl) rfl) ⟨rfl, rfl, Nat.le_of_ble_eq_true rfl, Nat.le_of_ble_eq_true rfl⟩ rfl hl.1 rfl (Nat.le_of_ble_eq_true rfl) dX3_breakable_51 ⟨Nat.le_of_ble_eq_true rfl, Nat.le_of_ble_eq_true rfl⟩) (fun q18 u18 H locs hp18 hW => ?_)
                have hq18 : (q18 = some (elt E P 22 m2.toNatClampNeg)) := hp18
                clear hp18
                have hW : WB g A s.heap H locs (J, L, I, P, E, N) (sgX g ++ dy) := hW
                subst hq18
                obtain ⟨o18, ho18⟩ : ∃ z : Nat, z = elt E P 22 m2.toNatClampNeg := ⟨_, rfl⟩
                have hm18 : (2, o18) ∈ dy := by rw [ho18]; exact (lw_mem (er := 2) hwf.1.2.2.1 (show (m2.toNatClampNeg : Int) < (J 22 2).toInt from by have := tcl m2; omega))
                refine lv_asv (v' := .ref o18) (by rw [ho18]; rfl) ?_
                refine g_cast C hW (List.mem_append_right _ hm18) rfl rfl tw_580 dX3_breakable_54 ?_
                refine lv_astore_n (lv' := [(3, .ref o18), (2, .int m2), (1, .int m1), (0, .ref (g.2.2.1 4))]) hx hb dX3_breakable_57 rfl hl (by decide) rfl (fun ls hl => ?_)
                refine lv_iload_n hx hb dX3_breakable_58 rfl (lv_at hl 2 rfl) ?_
                refine lv_aload_n hx hb dX3_breakable_59 rfl (lv_at hl 0 rfl) ?_
                refine rg_2_4 C hW (List.mem_append_right _ hm18) tw_555 dX3_breakable_60 ?_
                refine lv_topi (fun x19 (e19 : x19 = I 2 4 o18) => ?_)
                have t19 : x19.toInt = (I 2 4 o18).toInt := by rw [e19]
                refine lv_if_eq (tgt := 70) hx hb dX3_breakable_63 (by decide) (fun c20 => ?_) (fun c20 => ?_)
                · have c20 : x19.toInt = 0 := teq rfl kp0 c20
                  refine lv_aload_n hx hb dX3_breakable_70 rfl (lv_at hl 0 rfl) ?_
                  refine rg_2_0 C hW (List.mem_append_right _ hm18) tw_549 dX3_breakable_71 ?_
                  obtain ⟨b21, hb21, hbm21⟩ := hwf.2.2.2.2.1 o18 hm18
                  refine lv_asv (v' := .ref b21) (by show va_rf (P 2 0 o18) = _; rw [hb21]; rfl) ?_
                  refine rg_6_2 C hW (List.mem_append_right _ hbm21) tw_141 dX3_breakable_74 ?_
                  refine lv_topi (fun x22 (e22 : x22 = I 6 2 b21) => ?_)
                  have t22 : x22.toInt = (I 6 2 b21).toInt := by rw [e22]
                  refine lv_iconst (v := (-1)) hx hb dX3_breakable_77 (by decide) ?_
                  refine lv_ixor hx hb dX3_breakable_78 ?_
                  refine lv_topi (fun x23 (e23 : x23 = x22 ^^^ (-1)) => ?_)
                  refine lv_iand hx hb dX3_breakable_79 ?_
                  refine lv_topi (fun x24 (e24 : x24 = m1 &&& x23) => ?_)
                  refine lv_istore_n (lv' := [(1, .int x24), (3, .ref o18), (2, .int m2), (0, .ref (g.2.2.1 4))]) hx hb dX3_breakable_80 rfl hl (by decide) rfl (fun ls hl => ?_)
                  obtain ⟨x25, e25⟩ : ∃ y : Int32, y = m2 + 1 := ⟨_, rfl⟩
                  refine lv_iinc (v := x25) (lv' := [(2, .int x25), (1, .int x24), (3, .ref o18), (0, .ref (g.2.2.1 4))]) hx hb dX3_breakable_81 hl (k := 2) rfl (by rw [e25]; rfl) (by decide) rfl (fun ls hl => ?_)
                  try have t25 : x25.toInt = m2.toInt + 1 := tadd e25 rfl kp1 (by omega)
                  refine lv_goto (tgt := 35) hx hb dX3_breakable_84 (by decide) ?_
                  refine ih35 x24 x25 H locs ls ?_ ?_ hW (lv_sub hl [0, 1, 3] rfl)
                  · show ((J 22 2).toInt - x25.toInt).toNat < n35
                    omega
                  · show 0 ≤ x25.toInt
                    first | omega | exact hi | assumption
                · have c20 : ¬ x19.toInt = 0 := tne rfl kp0 c20
                  refine lv_iload_n hx hb dX3_breakable_66 rfl (lv_at hl 2 rfl) ?_
                  refine lv_goto (tgt := 79) hx hb dX3_breakable_67 (by decide) ?_
                  refine lv_iand hx hb dX3_breakable_79 ?_
                  refine lv_topi (fun x26 (e26 : x26 = m1 &&& m1) => ?_)
                  refine lv_istore_n (lv' := [(1, .int x26), (3, .ref o18), (2, .int m2), (0, .ref (g.2.2.1 4))]) hx hb dX3_breakable_80 rfl hl (by decide) rfl (fun ls hl => ?_)
                  obtain ⟨x27, e27⟩ : ∃ y : Int32, y = m2 + 1 := ⟨_, rfl⟩
                  refine lv_iinc (v := x27) (lv' := [(2, .int x27), (1, .int x26), (3, .ref o18), (0, .ref (g.2.2.1 4))]) hx hb dX3_breakable_81 hl (k := 2) rfl (by rw [e27]; rfl) (by decide) rfl (fun ls hl => ?_)
                  try have t27 : x27.toInt = m2.toInt + 1 := tadd e27 rfl kp1 (by omega)
                  refine lv_goto (tgt := 35) hx hb dX3_breakable_84 (by decide) ?_
                  refine ih35 x26 x27 H locs ls ?_ ?_ hW (lv_sub hl [0, 1, 3] rfl)
                  · show ((J 22 2).toInt - x27.toInt).toNat < n35
                    omega
                  · show 0 ≤ x27.toInt
                    first | omega | exact hi | assumption
          -- into the loop
          refine loop35 (((J 22 2).toInt - (0 : Int32).toInt).toNat + 1) m1 0 H locs ls ?_ ?_ hW (lv_sub hl [0, 1, 2] rfl)
          · exact Nat.lt_succ_self _
          · show 0 ≤ (0 : Int32).toInt
            try rw [kp0]
            first | omega | exact hi | assumption
        · have c15 : m2.toInt ≤ 11 := tnlt kp11 rfl c15
          refine lv_iload_n hx hb dX3_breakable_21 rfl (lv_at hl 1 rfl) ?_
          refine lv_iconst (v := 1) hx hb dX3_breakable_22 (by decide) ?_
          refine lv_iload_n hx hb dX3_breakable_23 rfl (lv_at hl 0 rfl) ?_
          refine lv_ishl hx hb dX3_breakable_24 ?_
          refine lv_topi (fun x28 (e28 : x28 = 1 <<< (m2 &&& 31)) => ?_)
          refine lv_ior hx hb dX3_breakable_25 ?_
          refine lv_topi (fun x29 (e29 : x29 = m1 ||| x28) => ?_)
          refine lv_istore_n (lv' := [(1, .int x29), (2, .int m2), (0, .ref (g.2.2.1 4))]) hx hb dX3_breakable_26 rfl hl (by decide) rfl (fun ls hl => ?_)
          obtain ⟨x30, e30⟩ : ∃ y : Int32, y = m2 + 1 := ⟨_, rfl⟩
          refine lv_iinc (v := x30) (lv' := [(2, .int x30), (1, .int x29), (0, .ref (g.2.2.1 4))]) hx hb dX3_breakable_27 hl (k := 1) rfl (by rw [e30]; rfl) (by decide) rfl (fun ls hl => ?_)
          try have t30 : x30.toInt = m2.toInt + 1 := tadd e30 rfl kp1 (by omega)
          refine lv_goto (tgt := 4) hx hb dX3_breakable_30 (by decide) ?_
          refine ih x29 x30 H locs ls ?_ ?_ hW (lv_sub hl [0, 1, 2] rfl)
          · show ((J 20 2).toInt - x30.toInt).toNat < n
            omega
          · show 0 ≤ x30.toInt
            first | omega | exact hi | assumption
  -- into the loop
  refine loop4 (((J 20 2).toInt - (1 : Int32).toInt).toNat + 1) 0 1 H locs ls ?_ ?_ hW (lv_sub hl [0, 1, 2] rfl)
  · exact Nat.lt_succ_self _
  · show 0 ≤ (1 : Int32).toInt
    try rw [kp0]
    try rw [kp1]
    first | omega | exact hi | assumption

set_option maxHeartbeats 4000000 in
set_option maxRecDepth 100000 in
theorem c_X3_hitsAllComplaints (l : Launch) (g : gG) (J : Nat → Nat → Int32) (L : Nat → Nat → Int64) (I : Nat → Nat → Nat → Int32) (P : Nat → Nat → Nat → Option Nat) (E : Nat → Option Nat) (N : Nat → Nat) (dy : List (Nat × Nat)) (sz : Nat) (a0 : Int32) (hwf : WXF g J P E N dy) : Met l yX3_hitsAllComplaints (WS yX3_hitsAllComplaints cX3_hitsAllComplaints 4 (some .boolean)) (RM (4) 0 0) (PC g [.ref (g.2.2.1 4), .int a0] ((J, L, I, P, E, N), sgX g ++ dy) sz) (va_Qi (fun (r : Int32) (u : Unit) => ((r.toInt = 1) ∨ (r.toInt = 0))) (fun u t => at_ g (FR g ((J, L, I, P, E, N), sgX g ++ dy) sz) ((J, L, I, P, E, N), sgX g ++ dy) t) (FR g ((J, L, I, P, E, N), sgX g ++ dy) sz)) 0 0 (FR g ((J, L, I, P, E, N), sgX g ++ dy) sz) := by
  refine ent (by decide +kernel) (Nat.le_of_ble_eq_true rfl) ?_
  intro p e s m below meth c ls hsz C hW hr hlocks hname hl
  generalize FR g ((J, L, I, P, E, N), sgX g ++ dy) sz = A at C hW ⊢
  have hx := C.1.1
  have hb := C.1.2.1
  have hts := C.1.2.2.2.2
  have hl : lv_has ls 4 [(0, .ref (g.2.2.1 4)), (1, .int a0)] := hl
  obtain ⟨H, hH⟩ : ∃ H : Heap, H = s.heap := ⟨_, rfl⟩
  obtain ⟨locs, hlocs⟩ : ∃ q : List Loc, q = [] := ⟨_, rfl⟩
  have hW : WB g A s.heap H locs (J, L, I, P, E, N) (sgX g ++ dy) := by rw [hH, hlocs]; exact hW
  obtain ⟨h20a, h20b, -⟩ := hwf.1.1
  obtain ⟨h21a, h21b, -⟩ := hwf.1.2.1
  obtain ⟨h22a, h22b, -⟩ := hwf.1.2.2.1
  obtain ⟨h23a, h23b, -⟩ := hwf.1.2.2.2
  obtain ⟨h24a, h24b, -⟩ := hwf.2.1.1
  obtain ⟨h25a, h25b, -⟩ := hwf.2.1.2.1
  obtain ⟨h26a, h26b, -⟩ := hwf.2.1.2.2.1
  obtain ⟨h27a, h27b, -⟩ := hwf.2.1.2.2.2
  refine start_ hH hlocs ?_
  refine lv_iconst (v := 0) hx hb dX3_hitsAllComplaints_0 (by decide) ?_
  refine lv_istore_n (lv' := [(2, .int 0), (0, .ref (g.2.2.1 4)), (1, .int a0)]) hx hb dX3_hitsAllComplaints_1 rfl hl (by decide) rfl (fun ls hl => ?_)
  have loop2 : ∀ (n : Nat) (m2 : Int32) (H : Heap) (locs : List Loc) (ls : Array Slot), ((J 22 2).toInt - m2.toInt).toNat < n → 0 ≤ m2.toInt → WB g A s.heap H locs (J, L, I, P, E, N) (sgX g ++ dy) → lv_has ls 4 [(2, .int m2), (0, .ref (g.2.2.1 4)), (1, .int a0)] → W p l e (RM (4) 0 0) s m ([.ref (g.2.2.1 4), .int a0] : List Value).toArray below meth c H locs 0 0 (MQ below (va_Qi (fun (r : Int32) (u : Unit) => ((r.toInt = 1) ∨ (r.toInt = 0))) (fun u t => at_ g A ((J, L, I, P, E, N), sgX g ++ dy) t) A) ([.ref (g.2.2.1 4), .int a0] : List Value).toArray s 0 0 A) (F0 m 2 ls []) := by
    intro n
    induction n with
    | zero => intro m2 H locs ls hmeas; exact absurd hmeas (Nat.not_lt_zero _)
    | succ n ih =>
      intro m2 H locs ls hmeas hi hW hl
      refine lv_iload_n hx hb dX3_hitsAllComplaints_2 rfl (lv_at hl 0 rfl) ?_
      refine lv_aload_n hx hb dX3_hitsAllComplaints_3 rfl (lv_at hl 1 rfl) ?_
      refine rg_4_2 C hW (mx_ rfl) tw_236 dX3_hitsAllComplaints_4 ?_
      refine ci_ C hW (runV (x := (g.2.2.1 22)) (As := []) (rest := [.int m2]) (T := ((J, L, I, P, E, N), sgX g ++ dy)) C hW (c_Jx4a65c_size_8abf5 l g J L I P E N dy H.size 22 rfl ) mi_Jx4a65c_size_8abf5 tw_467 (recv_ (T := ((J, L, I, P, E, N), sgX g ++ dy)) C hW (mx_ rfl) (cel_list rfl) rfl) ⟨rfl, rfl, Nat.le_of_ble_eq_true rfl, Nat.le_of_ble_eq_true rfl⟩ rfl hl.1 rfl (Nat.le_of_ble_eq_true rfl) dX3_hitsAllComplaints_7 ⟨Nat.le_of_ble_eq_true rfl, Nat.le_of_ble_eq_true rfl⟩) (fun r1 u1 H locs hp1 hW => ?_)
      have hc1 : ((r1 = J 22 2)) := hp1
      clear hp1
      have hr1 : r1 = J 22 2 := hc1
      refine lv_as (J 22 2) hr1 ?_
      have hW : WB g A s.heap H locs (J, L, I, P, E, N) (sgX g ++ dy) := hW
      refine lv_icmp_ge (tgt := 52) hx hb dX3_hitsAllComplaints_10 (by decide) (fun c2 => ?_) (fun c2 => ?_)
      · have c2 : (J 22 2).toInt ≤ m2.toInt := tle rfl rfl c2
        refine lv_iconst (v := 1) hx hb dX3_hitsAllComplaints_52 (by decide) ?_
        exact end_z C hr hlocks (by decide) () hW (by first | exact Or.inl (by decide)) dX3_hitsAllComplaints_53
      · have c2 : m2.toInt < (J 22 2).toInt := tnle rfl rfl c2
        refine lv_aload_n hx hb dX3_hitsAllComplaints_13 rfl (lv_at hl 1 rfl) ?_
        refine rg_4_2 C hW (mx_ rfl) tw_236 dX3_hitsAllComplaints_14 ?_
        refine lv_iload_n hx hb dX3_hitsAllComplaints_17 rfl (lv_at hl 0 rfl) ?_
        refine cq_ C hW (runV (x := (g.2.2.1 22)) (As := [.int m2]) (rest := []) (T := ((J, L, I, P, E, N), sgX g ++ dy)) C hW ((c_Jx4a65c_get_915e3 2) l g J L I P E N dy H.size 22 rfl m2 (show LWF g J P E N dy 22 2 from hwf.1.2.2.1) (show 0 ≤ m2.toInt ∧ m2.toInt < (J 22 2).toInt from by omega)) mi_Jx4a65c_get_915e3 tw_471 (recv_ (T := ((J, L, I, P, E, N), sgX g ++ dy)) C hW (mx_ rfl) (cel_list rfl) rfl) ⟨rfl, rfl, Nat.le_of_ble_eq_true rfl, Nat.le_of_ble_eq_true rfl⟩ rfl hl.1 rfl (Nat.le_of_ble_eq_true rfl) dX3_hitsAllComplaints_18 ⟨Nat.le_of_ble_eq_true rfl, Nat.le_of_ble_eq_true rfl⟩) (fun q3 u3 H locs hp3 hW => ?_)
        have hq3 : (q3 = some (elt E P 22 m2.toNatClampNeg)) := hp3
        clear hp3
        have hW : WB g A s.heap H locs (J, L, I, P, E, N) (sgX g ++ dy) := hW
        subst hq3
        obtain ⟨o3, ho3⟩ : ∃ z : Nat, z = elt E P 22 m2.toNatClampNeg := ⟨_, rfl⟩
        have hm3 : (2, o3) ∈ dy := by rw [ho3]; exact (lw_mem (er := 2) hwf.1.2.2.1 (show (m2.toNatClampNeg : Int) < (J 22 2).toInt from by have := tcl m2; omega))
        refine lv_asv (v' := .ref o3) (by rw [ho3]; rfl) ?_
        refine g_cast C hW (List.mem_append_right _ hm3) rfl rfl tw_580 dX3_hitsAllComplaints_21 ?_
        refine lv_astore_n (lv' := [(3, .ref o3), (2, .int m2), (0, .ref (g.2.2.1 4)), (1, .int a0)]) hx hb dX3_hitsAllComplaints_24 rfl hl (by decide) rfl (fun ls hl => ?_)
        refine lv_aload_n hx hb dX3_hitsAllComplaints_25 rfl (lv_at hl 0 rfl) ?_
        refine rg_2_4 C hW (List.mem_append_right _ hm3) tw_555 dX3_hitsAllComplaints_26 ?_
        refine lv_topi (fun x4 (e4 : x4 = I 2 4 o3) => ?_)
        have t4 : x4.toInt = (I 2 4 o3).toInt := by rw [e4]
        refine lv_if_eq (tgt := 46) hx hb dX3_hitsAllComplaints_29 (by decide) (fun c5 => ?_) (fun c5 => ?_)
        · have c5 : x4.toInt = 0 := teq rfl kp0 c5
          obtain ⟨x6, e6⟩ : ∃ y : Int32, y = m2 + 1 := ⟨_, rfl⟩
          refine lv_iinc (v := x6) (lv' := [(2, .int x6), (3, .ref o3), (0, .ref (g.2.2.1 4)), (1, .int a0)]) hx hb dX3_hitsAllComplaints_46 hl (k := 1) rfl (by rw [e6]; rfl) (by decide) rfl (fun ls hl => ?_)
          try have t6 : x6.toInt = m2.toInt + 1 := tadd e6 rfl kp1 (by omega)
          refine lv_goto (tgt := 2) hx hb dX3_hitsAllComplaints_49 (by decide) ?_
          refine ih x6 H locs ls ?_ ?_ hW (lv_sub hl [0, 2, 3] rfl)
          · show ((J 22 2).toInt - x6.toInt).toNat < n
            omega
          · show 0 ≤ x6.toInt
            first | omega | exact hi | assumption
        · have c5 : ¬ x4.toInt = 0 := tne rfl kp0 c5
          refine lv_aload_n hx hb dX3_hitsAllComplaints_32 rfl (lv_at hl 0 rfl) ?_
          refine rg_2_0 C hW (List.mem_append_right _ hm3) tw_549 dX3_hitsAllComplaints_33 ?_
          obtain ⟨b7, hb7, hbm7⟩ := hwf.2.2.2.2.1 o3 hm3
          refine lv_asv (v' := .ref b7) (by show va_rf (P 2 0 o3) = _; rw [hb7]; rfl) ?_
          refine rg_6_2 C hW (List.mem_append_right _ hbm7) tw_141 dX3_hitsAllComplaints_36 ?_
          refine lv_topi (fun x8 (e8 : x8 = I 6 2 b7) => ?_)
          have t8 : x8.toInt = (I 6 2 b7).toInt := by rw [e8]
          refine lv_iload_n hx hb dX3_hitsAllComplaints_39 rfl (lv_at hl 3 rfl) ?_
          refine lv_iand hx hb dX3_hitsAllComplaints_40 ?_
          refine lv_topi (fun x9 (e9 : x9 = x8 &&& a0) => ?_)
          refine lv_if_ne (tgt := 46) hx hb dX3_hitsAllComplaints_41 (by decide) (fun c10 => ?_) (fun c10 => ?_)
          · have c10 : ¬ x9.toInt = 0 := tne rfl kp0 c10
            obtain ⟨x11, e11⟩ : ∃ y : Int32, y = m2 + 1 := ⟨_, rfl⟩
            refine lv_iinc (v := x11) (lv' := [(2, .int x11), (3, .ref o3), (0, .ref (g.2.2.1 4)), (1, .int a0)]) hx hb dX3_hitsAllComplaints_46 hl (k := 1) rfl (by rw [e11]; rfl) (by decide) rfl (fun ls hl => ?_)
            try have t11 : x11.toInt = m2.toInt + 1 := tadd e11 rfl kp1 (by omega)
            refine lv_goto (tgt := 2) hx hb dX3_hitsAllComplaints_49 (by decide) ?_
            refine ih x11 H locs ls ?_ ?_ hW (lv_sub hl [0, 2, 3] rfl)
            · show ((J 22 2).toInt - x11.toInt).toNat < n
              omega
            · show 0 ≤ x11.toInt
              first | omega | exact hi | assumption
          · have c10 : x9.toInt = 0 := teq rfl kp0 c10
            refine lv_iconst (v := 0) hx hb dX3_hitsAllComplaints_44 (by decide) ?_
            exact end_z C hr hlocks (by decide) () hW (by first | exact Or.inr ((by decide))) dX3_hitsAllComplaints_45
  -- into the loop
  refine loop2 (((J 22 2).toInt - (0 : Int32).toInt).toNat + 1) 0 H locs ls ?_ ?_ hW (lv_sub hl [0, 1, 2] rfl)
  · exact Nat.lt_succ_self _
  · show 0 ≤ (0 : Int32).toInt
    try rw [kp0]
    first | omega | exact hi | assumption
