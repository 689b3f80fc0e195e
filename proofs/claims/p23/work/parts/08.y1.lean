theorem dX7_weigh_0 : decode cX7_weigh 0 = .ok (.aload_n 0, 1) := dk_aload_n_0 (by decide +kernel)
theorem dX7_weigh_1 : decode cX7_weigh 1 = .ok (.iconst 0, 1) := dk_iconst_0 (by decide +kernel)
theorem dX7_weigh_2 : decode cX7_weigh 2 = .ok (.putfield 15, 3) := dk_putfield (by decide +kernel)
theorem dX7_weigh_5 : decode cX7_weigh 5 = .ok (.aload_n 1, 1) := dk_aload_n_1 (by decide +kernel)
theorem dX7_weigh_6 : decode cX7_weigh 6 = .ok (.astore_n 2, 1) := dk_astore_n_2 (by decide +kernel)
theorem dX7_weigh_7 : decode cX7_weigh 7 = .ok (.aload_n 2, 1) := dk_aload_n_2 (by decide +kernel)
theorem dX7_weigh_8 : decode cX7_weigh 8 = .ok (.arraylength, 1) := dk_arraylength (by decide +kernel)
theorem dX7_weigh_9 : decode cX7_weigh 9 = .ok (.istore_n 3, 1) := dk_istore_n_3 (by decide +kernel)
theorem dX7_weigh_10 : decode cX7_weigh 10 = .ok (.iconst 0, 1) := dk_iconst_0 (by decide +kernel)
theorem dX7_weigh_11 : decode cX7_weigh 11 = .ok (.istore 4, 2) := dk_istore (by decide +kernel)
theorem dX7_weigh_13 : decode cX7_weigh 13 = .ok (.iload 4, 2) := dk_iload (by decide +kernel)
theorem dX7_weigh_15 : decode cX7_weigh 15 = .ok (.iload_n 3, 1) := dk_iload_n_3 (by decide +kernel)
theorem dX7_weigh_16 : decode cX7_weigh 16 = .ok (.if_icmp .ge 59, 3) := dk_if_icmp_ge (by decide +kernel)
theorem dX7_weigh_19 : decode cX7_weigh 19 = .ok (.aload_n 2, 1) := dk_aload_n_2 (by decide +kernel)
theorem dX7_weigh_20 : decode cX7_weigh 20 = .ok (.iload 4, 2) := dk_iload (by decide +kernel)
theorem dX7_weigh_22 : decode cX7_weigh 22 = .ok (.iaload, 1) := dk_iaload (by decide +kernel)
theorem dX7_weigh_23 : decode cX7_weigh 23 = .ok (.istore 5, 2) := dk_istore (by decide +kernel)
theorem dX7_weigh_25 : decode cX7_weigh 25 = .ok (.iload 5, 2) := dk_iload (by decide +kernel)
theorem dX7_weigh_27 : decode cX7_weigh 27 = .ok (.ifCond .lt 12, 3) := dk_ifCond_lt (by decide +kernel)
theorem dX7_weigh_30 : decode cX7_weigh 30 = .ok (.aload_n 0, 1) := dk_aload_n_0 (by decide +kernel)
theorem dX7_weigh_31 : decode cX7_weigh 31 = .ok (.iload 5, 2) := dk_iload (by decide +kernel)
theorem dX7_weigh_33 : decode cX7_weigh 33 = .ok (.invokevirtual 19, 3) := dk_invokevirtual (by decide +kernel)
theorem dX7_weigh_36 : decode cX7_weigh 36 = .ok (.goto 33, 3) := dk_goto (by decide +kernel)
theorem dX7_weigh_39 : decode cX7_weigh 39 = .ok (.iload 5, 2) := dk_iload (by decide +kernel)
theorem dX7_weigh_41 : decode cX7_weigh 41 = .ok (.ineg, 1) := dk_ineg (by decide +kernel)
theorem dX7_weigh_42 : decode cX7_weigh 42 = .ok (.invokestatic 23, 3) := dk_invokestatic (by decide +kernel)
theorem dX7_weigh_45 : decode cX7_weigh 45 = .ok (.ifCond .eq 17, 3) := dk_ifCond_eq (by decide +kernel)
theorem dX7_weigh_48 : decode cX7_weigh 48 = .ok (.aload_n 0, 1) := dk_aload_n_0 (by decide +kernel)
theorem dX7_weigh_49 : decode cX7_weigh 49 = .ok (.aload_n 0, 1) := dk_aload_n_0 (by decide +kernel)
theorem dX7_weigh_50 : decode cX7_weigh 50 = .ok (.iload 5, 2) := dk_iload (by decide +kernel)
theorem dX7_weigh_52 : decode cX7_weigh 52 = .ok (.ineg, 1) := dk_ineg (by decide +kernel)
theorem dX7_weigh_53 : decode cX7_weigh 53 = .ok (.invokevirtual 29, 3) := dk_invokevirtual (by decide +kernel)
theorem dX7_weigh_56 : decode cX7_weigh 56 = .ok (.invokevirtual 19, 3) := dk_invokevirtual (by decide +kernel)
theorem dX7_weigh_59 : decode cX7_weigh 59 = .ok (.goto 10, 3) := dk_goto (by decide +kernel)
theorem dX7_weigh_62 : decode cX7_weigh 62 = .ok (.aload_n 0, 1) := dk_aload_n_0 (by decide +kernel)
theorem dX7_weigh_63 : decode cX7_weigh 63 = .ok (.iload 5, 2) := dk_iload (by decide +kernel)
theorem dX7_weigh_65 : decode cX7_weigh 65 = .ok (.ineg, 1) := dk_ineg (by decide +kernel)
theorem dX7_weigh_66 : decode cX7_weigh 66 = .ok (.invokevirtual 33, 3) := dk_invokevirtual (by decide +kernel)
theorem dX7_weigh_69 : decode cX7_weigh 69 = .ok (.iinc 4 1, 3) := dk_iinc (by decide +kernel)
theorem dX7_weigh_72 : decode cX7_weigh 72 = .ok (.goto (-59), 3) := dk_goto (by decide +kernel)
theorem dX7_weigh_75 : decode cX7_weigh 75 = .ok (.aload_n 0, 1) := dk_aload_n_0 (by decide +kernel)
theorem dX7_weigh_76 : decode cX7_weigh 76 = .ok (.getfield 15, 3) := dk_getfield (by decide +kernel)
theorem dX7_weigh_79 : decode cX7_weigh 79 = .ok (.ifCond .le 29, 3) := dk_ifCond_le (by decide +kernel)
theorem dX7_weigh_82 : decode cX7_weigh 82 = .ok (.aload_n 0, 1) := dk_aload_n_0 (by decide +kernel)
theorem dX7_weigh_83 : decode cX7_weigh 83 = .ok (.getfield 15, 3) := dk_getfield (by decide +kernel)
theorem dX7_weigh_86 : decode cX7_weigh 86 = .ok (.aload_n 0, 1) := dk_aload_n_0 (by decide +kernel)
theorem dX7_weigh_87 : decode cX7_weigh 87 = .ok (.getfield 9, 3) := dk_getfield (by decide +kernel)
theorem dX7_weigh_90 : decode cX7_weigh 90 = .ok (.arraylength, 1) := dk_arraylength (by decide +kernel)
theorem dX7_weigh_91 : decode cX7_weigh 91 = .ok (.if_icmp .gt 17, 3) := dk_if_icmp_gt (by decide +kernel)
theorem dX7_weigh_94 : decode cX7_weigh 94 = .ok (.aload_n 0, 1) := dk_aload_n_0 (by decide +kernel)
theorem dX7_weigh_95 : decode cX7_weigh 95 = .ok (.getfield 9, 3) := dk_getfield (by decide +kernel)
theorem dX7_weigh_98 : decode cX7_weigh 98 = .ok (.aload_n 0, 1) := dk_aload_n_0 (by decide +kernel)
theorem dX7_weigh_99 : decode cX7_weigh 99 = .ok (.getfield 15, 3) := dk_getfield (by decide +kernel)
theorem dX7_weigh_102 : decode cX7_weigh 102 = .ok (.iconst 1, 1) := dk_iconst_1 (by decide +kernel)
theorem dX7_weigh_103 : decode cX7_weigh 103 = .ok (.isub, 1) := dk_isub (by decide +kernel)
theorem dX7_weigh_104 : decode cX7_weigh 104 = .ok (.iaload, 1) := dk_iaload (by decide +kernel)
theorem dX7_weigh_105 : decode cX7_weigh 105 = .ok (.goto 4, 3) := dk_goto (by decide +kernel)
theorem dX7_weigh_108 : decode cX7_weigh 108 = .ok (.iconst 0, 1) := dk_iconst_0 (by decide +kernel)
theorem dX7_weigh_109 : decode cX7_weigh 109 = .ok (.ireturn, 1) := dk_ireturn (by decide +kernel)
theorem dX11_valueOf_0 : decode cX11_valueOf 0 = .ok (.aload_n 1, 1) := dk_aload_n_1 (by decide +kernel)
theorem dX11_valueOf_1 : decode cX11_valueOf 1 = .ok (.getfield 378, 3) := dk_getfield (by decide +kernel)
theorem dX11_valueOf_4 : decode cX11_valueOf 4 = .ok (.ifCond .eq 12, 3) := dk_ifCond_eq (by decide +kernel)
theorem dX11_valueOf_7 : decode cX11_valueOf 7 = .ok (.aload_n 0, 1) := dk_aload_n_0 (by decide +kernel)
theorem dX11_valueOf_8 : decode cX11_valueOf 8 = .ok (.getfield 10, 3) := dk_getfield (by decide +kernel)
theorem dX11_valueOf_11 : decode cX11_valueOf 11 = .ok (.aload_n 2, 1) := dk_aload_n_2 (by decide +kernel)
theorem dX11_valueOf_12 : decode cX11_valueOf 12 = .ok (.iload_n 3, 1) := dk_iload_n_3 (by decide +kernel)
theorem dX11_valueOf_13 : decode cX11_valueOf 13 = .ok (.invokevirtual 199, 3) := dk_invokevirtual (by decide +kernel)
theorem dX11_valueOf_16 : decode cX11_valueOf 16 = .ok (.aload_n 0, 1) := dk_aload_n_0 (by decide +kernel)
theorem dX11_valueOf_17 : decode cX11_valueOf 17 = .ok (.getfield 46, 3) := dk_getfield (by decide +kernel)
theorem dX11_valueOf_20 : decode cX11_valueOf 20 = .ok (.aload_n 2, 1) := dk_aload_n_2 (by decide +kernel)
theorem dX11_valueOf_21 : decode cX11_valueOf 21 = .ok (.getfield 196, 3) := dk_getfield (by decide +kernel)
theorem dX11_valueOf_24 : decode cX11_valueOf 24 = .ok (.putfield 351, 3) := dk_putfield (by decide +kernel)
theorem dX11_valueOf_27 : decode cX11_valueOf 27 = .ok (.aload_n 0, 1) := dk_aload_n_0 (by decide +kernel)
theorem dX11_valueOf_28 : decode cX11_valueOf 28 = .ok (.getfield 46, 3) := dk_getfield (by decide +kernel)
theorem dX11_valueOf_31 : decode cX11_valueOf 31 = .ok (.iload_n 3, 1) := dk_iload_n_3 (by decide +kernel)
theorem dX11_valueOf_32 : decode cX11_valueOf 32 = .ok (.invokestatic 352, 3) := dk_invokestatic (by decide +kernel)
theorem dX11_valueOf_35 : decode cX11_valueOf 35 = .ok (.putfield 355, 3) := dk_putfield (by decide +kernel)
theorem dX11_valueOf_38 : decode cX11_valueOf 38 = .ok (.aload_n 0, 1) := dk_aload_n_0 (by decide +kernel)
theorem dX11_valueOf_39 : decode cX11_valueOf 39 = .ok (.getfield 46, 3) := dk_getfield (by decide +kernel)
theorem dX11_valueOf_42 : decode cX11_valueOf 42 = .ok (.aload_n 2, 1) := dk_aload_n_2 (by decide +kernel)
theorem dX11_valueOf_43 : decode cX11_valueOf 43 = .ok (.getfield 179, 3) := dk_getfield (by decide +kernel)
theorem dX11_valueOf_46 : decode cX11_valueOf 46 = .ok (.putfield 358, 3) := dk_putfield (by decide +kernel)
theorem dX11_valueOf_49 : decode cX11_valueOf 49 = .ok (.aload_n 0, 1) := dk_aload_n_0 (by decide +kernel)
theorem dX11_valueOf_50 : decode cX11_valueOf 50 = .ok (.getfield 46, 3) := dk_getfield (by decide +kernel)
theorem dX11_valueOf_53 : decode cX11_valueOf 53 = .ok (.aload_n 0, 1) := dk_aload_n_0 (by decide +kernel)
theorem dX11_valueOf_54 : decode cX11_valueOf 54 = .ok (.getfield 10, 3) := dk_getfield (by decide +kernel)
theorem dX11_valueOf_57 : decode cX11_valueOf 57 = .ok (.getfield 203, 3) := dk_getfield (by decide +kernel)
theorem dX11_valueOf_60 : decode cX11_valueOf 60 = .ok (.putfield 359, 3) := dk_putfield (by decide +kernel)
theorem dX11_valueOf_63 : decode cX11_valueOf 63 = .ok (.aload_n 0, 1) := dk_aload_n_0 (by decide +kernel)
theorem dX11_valueOf_64 : decode cX11_valueOf 64 = .ok (.getfield 46, 3) := dk_getfield (by decide +kernel)
theorem dX11_valueOf_67 : decode cX11_valueOf 67 = .ok (.aload_n 0, 1) := dk_aload_n_0 (by decide +kernel)
theorem dX11_valueOf_68 : decode cX11_valueOf 68 = .ok (.getfield 10, 3) := dk_getfield (by decide +kernel)
theorem dX11_valueOf_71 : decode cX11_valueOf 71 = .ok (.getfield 206, 3) := dk_getfield (by decide +kernel)
theorem dX11_valueOf_74 : decode cX11_valueOf 74 = .ok (.putfield 360, 3) := dk_putfield (by decide +kernel)
theorem dX11_valueOf_77 : decode cX11_valueOf 77 = .ok (.aload_n 0, 1) := dk_aload_n_0 (by decide +kernel)
theorem dX11_valueOf_78 : decode cX11_valueOf 78 = .ok (.getfield 46, 3) := dk_getfield (by decide +kernel)
theorem dX11_valueOf_81 : decode cX11_valueOf 81 = .ok (.aload_n 2, 1) := dk_aload_n_2 (by decide +kernel)
theorem dX11_valueOf_82 : decode cX11_valueOf 82 = .ok (.getfield 209, 3) := dk_getfield (by decide +kernel)
theorem dX11_valueOf_85 : decode cX11_valueOf 85 = .ok (.putfield 361, 3) := dk_putfield (by decide +kernel)
theorem dX11_valueOf_88 : decode cX11_valueOf 88 = .ok (.aload_n 0, 1) := dk_aload_n_0 (by decide +kernel)
theorem dX11_valueOf_89 : decode cX11_valueOf 89 = .ok (.getfield 46, 3) := dk_getfield (by decide +kernel)
theorem dX11_valueOf_92 : decode cX11_valueOf 92 = .ok (.aload_n 0, 1) := dk_aload_n_0 (by decide +kernel)
theorem dX11_valueOf_93 : decode cX11_valueOf 93 = .ok (.getfield 19, 3) := dk_getfield (by decide +kernel)
theorem dX11_valueOf_96 : decode cX11_valueOf 96 = .ok (.getfield 71, 3) := dk_getfield (by decide +kernel)
theorem dX11_valueOf_99 : decode cX11_valueOf 99 = .ok (.iload_n 3, 1) := dk_iload_n_3 (by decide +kernel)
theorem dX11_valueOf_100 : decode cX11_valueOf 100 = .ok (.isub, 1) := dk_isub (by decide +kernel)
theorem dX11_valueOf_101 : decode cX11_valueOf 101 = .ok (.putfield 362, 3) := dk_putfield (by decide +kernel)
theorem dX11_valueOf_104 : decode cX11_valueOf 104 = .ok (.aload_n 0, 1) := dk_aload_n_0 (by decide +kernel)
theorem dX11_valueOf_105 : decode cX11_valueOf 105 = .ok (.getfield 46, 3) := dk_getfield (by decide +kernel)
theorem dX11_valueOf_108 : decode cX11_valueOf 108 = .ok (.aload_n 0, 1) := dk_aload_n_0 (by decide +kernel)
theorem dX11_valueOf_109 : decode cX11_valueOf 109 = .ok (.getfield 10, 3) := dk_getfield (by decide +kernel)
theorem dX11_valueOf_112 : decode cX11_valueOf 112 = .ok (.getfield 129, 3) := dk_getfield (by decide +kernel)
theorem dX11_valueOf_115 : decode cX11_valueOf 115 = .ok (.invokevirtual 93, 3) := dk_invokevirtual (by decide +kernel)
theorem dX11_valueOf_118 : decode cX11_valueOf 118 = .ok (.putfield 365, 3) := dk_putfield (by decide +kernel)
theorem dX11_valueOf_121 : decode cX11_valueOf 121 = .ok (.aload_n 0, 1) := dk_aload_n_0 (by decide +kernel)
theorem dX11_valueOf_122 : decode cX11_valueOf 122 = .ok (.getfield 46, 3) := dk_getfield (by decide +kernel)
theorem dX11_valueOf_125 : decode cX11_valueOf 125 = .ok (.aload_n 1, 1) := dk_aload_n_1 (by decide +kernel)
theorem dX11_valueOf_126 : decode cX11_valueOf 126 = .ok (.getfield 367, 3) := dk_getfield (by decide +kernel)
theorem dX11_valueOf_129 : decode cX11_valueOf 129 = .ok (.invokevirtual 370, 3) := dk_invokevirtual (by decide +kernel)
theorem dX11_valueOf_132 : decode cX11_valueOf 132 = .ok (.ireturn, 1) := dk_ireturn (by decide +kernel)
theorem dX9_holds_0 : decode cX9_holds 0 = .ok (.aload_n 0, 1) := dk_aload_n_0 (by decide +kernel)
theorem dX9_holds_1 : decode cX9_holds 1 = .ok (.astore_n 2, 1) := dk_astore_n_2 (by decide +kernel)
theorem dX9_holds_2 : decode cX9_holds 2 = .ok (.aload_n 2, 1) := dk_aload_n_2 (by decide +kernel)
theorem dX9_holds_3 : decode cX9_holds 3 = .ok (.arraylength, 1) := dk_arraylength (by decide +kernel)
theorem dX9_holds_4 : decode cX9_holds 4 = .ok (.istore_n 3, 1) := dk_istore_n_3 (by decide +kernel)
theorem dX9_holds_5 : decode cX9_holds 5 = .ok (.iconst 0, 1) := dk_iconst_0 (by decide +kernel)
theorem dX9_holds_6 : decode cX9_holds 6 = .ok (.istore 4, 2) := dk_istore (by decide +kernel)
theorem dX9_holds_8 : decode cX9_holds 8 = .ok (.iload 4, 2) := dk_iload (by decide +kernel)
theorem dX9_holds_10 : decode cX9_holds 10 = .ok (.iload_n 3, 1) := dk_iload_n_3 (by decide +kernel)
theorem dX9_holds_11 : decode cX9_holds 11 = .ok (.if_icmp .ge 24, 3) := dk_if_icmp_ge (by decide +kernel)
theorem dX9_holds_14 : decode cX9_holds 14 = .ok (.aload_n 2, 1) := dk_aload_n_2 (by decide +kernel)
theorem dX9_holds_15 : decode cX9_holds 15 = .ok (.iload 4, 2) := dk_iload (by decide +kernel)
theorem dX9_holds_17 : decode cX9_holds 17 = .ok (.iaload, 1) := dk_iaload (by decide +kernel)
theorem dX9_holds_18 : decode cX9_holds 18 = .ok (.istore 5, 2) := dk_istore (by decide +kernel)
theorem dX9_holds_20 : decode cX9_holds 20 = .ok (.iload 5, 2) := dk_iload (by decide +kernel)
theorem dX9_holds_22 : decode cX9_holds 22 = .ok (.iload_n 1, 1) := dk_iload_n_1 (by decide +kernel)
theorem dX9_holds_23 : decode cX9_holds 23 = .ok (.ineg, 1) := dk_ineg (by decide +kernel)
theorem dX9_holds_24 : decode cX9_holds 24 = .ok (.if_icmp .ne 5, 3) := dk_if_icmp_ne (by decide +kernel)
theorem dX9_holds_27 : decode cX9_holds 27 = .ok (.iconst 1, 1) := dk_iconst_1 (by decide +kernel)
theorem dX9_holds_28 : decode cX9_holds 28 = .ok (.ireturn, 1) := dk_ireturn (by decide +kernel)
theorem dX9_holds_29 : decode cX9_holds 29 = .ok (.iinc 4 1, 3) := dk_iinc (by decide +kernel)
theorem dX9_holds_32 : decode cX9_holds 32 = .ok (.goto (-24), 3) := dk_goto (by decide +kernel)
theorem dX9_holds_35 : decode cX9_holds 35 = .ok (.iconst 0, 1) := dk_iconst_0 (by decide +kernel)
theorem dX9_holds_36 : decode cX9_holds 36 = .ok (.ireturn, 1) := dk_ireturn (by decide +kernel)
theorem dX11_inForce_0 : decode cX11_inForce 0 = .ok (.aconst_null, 1) := dk_aconst_null (by decide +kernel)
theorem dX11_inForce_1 : decode cX11_inForce 1 = .ok (.astore_n 3, 1) := dk_astore_n_3 (by decide +kernel)
theorem dX11_inForce_2 : decode cX11_inForce 2 = .ok (.iconst 0, 1) := dk_iconst_0 (by decide +kernel)
theorem dX11_inForce_3 : decode cX11_inForce 3 = .ok (.istore 4, 2) := dk_istore (by decide +kernel)
theorem dX11_inForce_5 : decode cX11_inForce 5 = .ok (.iload 4, 2) := dk_iload (by decide +kernel)
theorem dX11_inForce_7 : decode cX11_inForce 7 = .ok (.aload_n 0, 1) := dk_aload_n_0 (by decide +kernel)
theorem dX11_inForce_8 : decode cX11_inForce 8 = .ok (.getfield 30, 3) := dk_getfield (by decide +kernel)
theorem dX11_inForce_11 : decode cX11_inForce 11 = .ok (.invokevirtual 93, 3) := dk_invokevirtual (by decide +kernel)
theorem dX11_inForce_14 : decode cX11_inForce 14 = .ok (.if_icmp .ge 63, 3) := dk_if_icmp_ge (by decide +kernel)
theorem dX11_inForce_17 : decode cX11_inForce 17 = .ok (.aload_n 0, 1) := dk_aload_n_0 (by decide +kernel)
theorem dX11_inForce_18 : decode cX11_inForce 18 = .ok (.getfield 30, 3) := dk_getfield (by decide +kernel)
theorem dX11_inForce_21 : decode cX11_inForce 21 = .ok (.iload 4, 2) := dk_iload (by decide +kernel)
theorem dX11_inForce_23 : decode cX11_inForce 23 = .ok (.invokevirtual 334, 3) := dk_invokevirtual (by decide +kernel)
theorem dX11_inForce_26 : decode cX11_inForce 26 = .ok (.checkcast 227, 3) := dk_checkcast (by decide +kernel)
theorem dX11_inForce_29 : decode cX11_inForce 29 = .ok (.astore 5, 2) := dk_astore (by decide +kernel)
theorem dX11_inForce_31 : decode cX11_inForce 31 = .ok (.aload 5, 2) := dk_aload (by decide +kernel)
theorem dX11_inForce_33 : decode cX11_inForce 33 = .ok (.getfield 341, 3) := dk_getfield (by decide +kernel)
theorem dX11_inForce_36 : decode cX11_inForce 36 = .ok (.iload_n 1, 1) := dk_iload_n_1 (by decide +kernel)
theorem dX11_inForce_37 : decode cX11_inForce 37 = .ok (.if_icmp .ne 34, 3) := dk_if_icmp_ne (by decide +kernel)
theorem dX11_inForce_40 : decode cX11_inForce 40 = .ok (.aload 5, 2) := dk_aload (by decide +kernel)
theorem dX11_inForce_42 : decode cX11_inForce 42 = .ok (.getfield 344, 3) := dk_getfield (by decide +kernel)
theorem dX11_inForce_45 : decode cX11_inForce 45 = .ok (.iload_n 2, 1) := dk_iload_n_2 (by decide +kernel)
theorem dX11_inForce_46 : decode cX11_inForce 46 = .ok (.if_icmp .le 6, 3) := dk_if_icmp_le (by decide +kernel)
theorem dX11_inForce_49 : decode cX11_inForce 49 = .ok (.goto 22, 3) := dk_goto (by decide +kernel)
theorem dX11_inForce_52 : decode cX11_inForce 52 = .ok (.aload_n 3, 1) := dk_aload_n_3 (by decide +kernel)
theorem dX11_inForce_53 : decode cX11_inForce 53 = .ok (.ifnull 15, 3) := dk_ifnull (by decide +kernel)
theorem dX11_inForce_56 : decode cX11_inForce 56 = .ok (.aload 5, 2) := dk_aload (by decide +kernel)
theorem dX11_inForce_58 : decode cX11_inForce 58 = .ok (.getfield 344, 3) := dk_getfield (by decide +kernel)
theorem dX11_inForce_61 : decode cX11_inForce 61 = .ok (.aload_n 3, 1) := dk_aload_n_3 (by decide +kernel)
theorem dX11_inForce_62 : decode cX11_inForce 62 = .ok (.getfield 344, 3) := dk_getfield (by decide +kernel)
theorem dX11_inForce_65 : decode cX11_inForce 65 = .ok (.if_icmp .lt 6, 3) := dk_if_icmp_lt (by decide +kernel)
theorem dX11_inForce_68 : decode cX11_inForce 68 = .ok (.aload 5, 2) := dk_aload (by decide +kernel)
theorem dX11_inForce_70 : decode cX11_inForce 70 = .ok (.astore_n 3, 1) := dk_astore_n_3 (by decide +kernel)
theorem dX11_inForce_71 : decode cX11_inForce 71 = .ok (.iinc 4 1, 3) := dk_iinc (by decide +kernel)
theorem dX11_inForce_74 : decode cX11_inForce 74 = .ok (.goto (-69), 3) := dk_goto (by decide +kernel)
theorem dX11_inForce_77 : decode cX11_inForce 77 = .ok (.aload_n 3, 1) := dk_aload_n_3 (by decide +kernel)
theorem dX11_inForce_78 : decode cX11_inForce 78 = .ok (.areturn, 1) := dk_areturn (by decide +kernel)
set_option maxHeartbeats 4000000 in
set_option maxRecDepth 100000 in
theorem c_X7_weigh (l : Launch) (g : gG) (J : Nat → Nat → Int32) (L : Nat → Nat → Int64) (I : Nat → Nat → Nat → Int32) (P : Nat → Nat → Nat → Option Nat) (E : Nat → Option Nat) (N : Nat → Nat) (dy : List (Nat × Nat)) (sz : Nat) (a0 : Nat) (hm0 : (46, a0) ∈ dy) (hN : N a0 ≤ 60) : Met l yX7_weigh (WS yX7_weigh cX7_weigh 6 (some .int)) (RM (3) 0 0) (PC g [.ref (g.2.2.1 8), .ref a0] ((J, L, I, P, E, N), sgX g ++ dy) sz) (va_Qi (fun (r : Int32) (u : (Nat → Nat → Int32)) => True) (fun u t => at_ g (FR g ((J, L, I, P, E, N), sgX g ++ dy) sz) (((hv J [45] [(8, 1)] u), L, I, P, E, N), sgX g ++ dy) t) (FR g ((J, L, I, P, E, N), sgX g ++ dy) sz)) 0 0 (FR g ((J, L, I, P, E, N), sgX g ++ dy) sz) := by
  refine ent (by decide +kernel) (Nat.le_of_ble_eq_true rfl) ?_
  intro p e s m below meth c ls hsz C hW hr hlocks hname hl
  generalize FR g ((J, L, I, P, E, N), sgX g ++ dy) sz = A at C hW ⊢
  have hx := C.1.1
  have hb := C.1.2.1
  have hts := C.1.2.2.2.2
  have hl : lv_has ls 6 [(0, .ref (g.2.2.1 8)), (1, .ref a0)] := hl
  obtain ⟨H, hH⟩ : ∃ H : Heap, H = s.heap := ⟨_, rfl⟩
  obtain ⟨locs, hlocs⟩ : ∃ q : List Loc, q = [] := ⟨_, rfl⟩
  have hW : WB g A s.heap H locs (J, L, I, P, E, N) (sgX g ++ dy) := by rw [hH, hlocs]; exact hW
  refine start_ hH hlocs ?_
  refine lv_aload_n hx hb dX7_weigh_0 rfl (lv_at hl 0 rfl) ?_
  refine lv_iconst (v := 0) hx hb dX7_weigh_1 (by decide) ?_
  refine rp_8_1 C hW (mx_ rfl) tw_326 dX7_weigh_2 (fun H locs hW => ?_)
  refine lv_aload_n hx hb dX7_weigh_5 rfl (lv_at hl 1 rfl) ?_
  refine lv_astore_n (lv' := [(2, .ref a0), (0, .ref (g.2.2.1 8)), (1, .ref a0)]) hx hb dX7_weigh_6 rfl hl (by decide) rfl (fun ls hl => ?_)
  refine lv_aload_n hx hb dX7_weigh_7 rfl (lv_at hl 0 rfl) ?_
  obtain ⟨x1, e1⟩ : ∃ y : Int32, y = Int32.ofNat (N a0) := ⟨_, rfl⟩
  have t1 : x1.toInt = (N a0 : Int) := by rw [e1]; exact Int32.toInt_ofNat_of_lt (by omega)
  refine g_alen (t0 := 0) C hW (List.mem_append_right _ hm0) rfl rfl e1.symm dX7_weigh_8 ?_
  refine lv_istore_n (lv' := [(3, .int x1), (2, .ref a0), (0, .ref (g.2.2.1 8)), (1, .ref a0)]) hx hb dX7_weigh_9 rfl hl (by decide) rfl (fun ls hl => ?_)
  refine lv_iconst (v := 0) hx hb dX7_weigh_10 (by decide) ?_
  refine lv_istore (lv' := [(4, .int 0), (3, .int x1), (2, .ref a0), (0, .ref (g.2.2.1 8)), (1, .ref a0)]) hx hb dX7_weigh_11 hl (by decide) rfl (fun ls hl => ?_)
  have loop13 : ∀ (n : Nat) (m4 : Int32) (Gl2 : Nat → Nat → Int32) (H : Heap) (locs : List Loc) (ls : Array Slot), ((N a0 : Int) - m4.toInt).toNat < n → 0 ≤ m4.toInt → WB g A s.heap H locs ((hv (up2 J 8 1 0) [45] [(8, 1)] Gl2), L, I, P, E, N) (sgX g ++ dy) → lv_has ls 6 [(4, .int m4), (3, .int x1), (2, .ref a0), (0, .ref (g.2.2.1 8)), (1, .ref a0)] → W p l e (RM (3) 0 0) s m ([.ref (g.2.2.1 8), .ref a0] : List Value).toArray below meth c H locs 0 0 (MQ below (va_Qi (fun (r : Int32) (u : (Nat → Nat → Int32)) => True) (fun u t => at_ g A (((hv J [45] [(8, 1)] u), L, I, P, E, N), sgX g ++ dy) t) A) ([.ref (g.2.2.1 8), .ref a0] : List Value).toArray s 0 0 A) (F0 m 13 ls []) := by
    intro n
    induction n with
    | zero => intro m4 Gl2 H locs ls hmeas; exact absurd hmeas (Nat.not_lt_zero _)
    | succ n ih =>
      intro m4 Gl2 H locs ls hmeas hi hW hl
      refine lv_iload hx hb dX7_weigh_13 (lv_at hl 0 rfl) ?_
      refine lv_iload_n hx hb dX7_weigh_15 rfl (lv_at hl 1 rfl) ?_
      refine lv_icmp_ge (tgt := 75) hx hb dX7_weigh_16 (by decide) (fun c3 => ?_) (fun c3 => ?_)
      · have c3 : x1.toInt ≤ m4.toInt := tle rfl rfl c3
        refine lv_aload_n hx hb dX7_weigh_75 rfl (lv_at hl 3 rfl) ?_
        refine rg_8_1 C hW (mx_ rfl) tw_326 dX7_weigh_76 ?_
        refine lv_as (Gl2 8 1) rfl ?_
        refine lv_if_le (tgt := 108) hx hb dX7_weigh_79 (by decide) (fun c4 => ?_) (fun c4 => ?_)
        · have c4 : (Gl2 8 1).toInt ≤ 0 := tle rfl kp0 c4
          refine lv_iconst (v := 0) hx hb dX7_weigh_108 (by decide) ?_
          have hWr : WB g A s.heap H locs ((hv J [45] [(8, 1)] (hv (up2 J 8 1 0) [45] [(8, 1)] Gl2)), L, I, P, E, N) (sgX g ++ dy) := by
            rw [← ag_hvE (J := J) (R := [45]) (F := [(8, 1)]) (ag_hv rfl rfl (ag_up (Or.inr rfl) ag_rf))]
            exact hW
          exact end_i C hr hlocks (hv (up2 J 8 1 0) [45] [(8, 1)] Gl2) hWr trivial dX7_weigh_109
        · have c4 : 0 < (Gl2 8 1).toInt := tnle rfl kp0 c4
          refine lv_aload_n hx hb dX7_weigh_82 rfl (lv_at hl 3 rfl) ?_
          refine rg_8_1 C hW (mx_ rfl) tw_326 dX7_weigh_83 ?_
          refine lv_as (Gl2 8 1) rfl ?_
          refine lv_aload_n hx hb dX7_weigh_86 rfl (lv_at hl 3 rfl) ?_
          refine rg_8_0 C hW (mx_ rfl) tw_325 dX7_weigh_87 ?_
          refine rl_45 C hW (mx_ rfl) dX7_weigh_90 ?_
          refine lv_icmp_gt (tgt := 108) hx hb dX7_weigh_91 (by decide) (fun c5 => ?_) (fun c5 => ?_)
          · have c5 : 60 < (Gl2 8 1).toInt := tlt kp60 rfl c5
            refine lv_iconst (v := 0) hx hb dX7_weigh_108 (by decide) ?_
            have hWr : WB g A s.heap H locs ((hv J [45] [(8, 1)] (hv (up2 J 8 1 0) [45] [(8, 1)] Gl2)), L, I, P, E, N) (sgX g ++ dy) := by
              rw [← ag_hvE (J := J) (R := [45]) (F := [(8, 1)]) (ag_hv rfl rfl (ag_up (Or.inr rfl) ag_rf))]
              exact hW
            exact end_i C hr hlocks (hv (up2 J 8 1 0) [45] [(8, 1)] Gl2) hWr trivial dX7_weigh_109
          · have c5 : (Gl2 8 1).toInt ≤ 60 := tnlt kp60 rfl c5
            refine lv_aload_n hx hb dX7_weigh_94 rfl (lv_at hl 3 rfl) ?_
            refine rg_8_0 C hW (mx_ rfl) tw_325 dX7_weigh_95 ?_
            refine lv_aload_n hx hb dX7_weigh_98 rfl (lv_at hl 3 rfl) ?_
            refine rg_8_1 C hW (mx_ rfl) tw_326 dX7_weigh_99 ?_
            refine lv_as (Gl2 8 1) rfl ?_
            refine lv_iconst (v := 1) hx hb dX7_weigh_102 (by decide) ?_
            refine lv_isub hx hb dX7_weigh_103 ?_
            refine lv_topi (fun x6 (e6 : x6 = (Gl2 8 1) - 1) => ?_)
            try have t6 : x6.toInt = (Gl2 8 1).toInt - 1 := tsub e6 rfl kp1 (by omega)
            have hin : vp_in x6 60 := tin rfl (by omega)
            refine ra_45 C hW (mx_ rfl) hin dX7_weigh_104 ?_
            refine lv_topi (fun x7 (e7 : x7 = Gl2 45 x6.toNatClampNeg) => ?_)
            refine lv_goto (tgt := 109) hx hb dX7_weigh_105 (by decide) ?_
            have hWr : WB g A s.heap H locs ((hv J [45] [(8, 1)] (hv (up2 J 8 1 0) [45] [(8, 1)] Gl2)), L, I, P, E, N) (sgX g ++ dy) := by
              rw [← ag_hvE (J := J) (R := [45]) (F := [(8, 1)]) (ag_hv rfl rfl (ag_up (Or.inr rfl) ag_rf))]
              exact hW
            exact end_i C hr hlocks (hv (up2 J 8 1 0) [45] [(8, 1)] Gl2) hWr trivial dX7_weigh_109
      · have c3 : m4.toInt < x1.toInt := tnle rfl rfl c3
        refine lv_aload_n hx hb dX7_weigh_19 rfl (lv_at hl 2 rfl) ?_
        refine lv_iload hx hb dX7_weigh_20 (lv_at hl 0 rfl) ?_
        have hin22 : vp_in m4 (N a0) := tin rfl (by omega)
        refine g_iald C hW (List.mem_append_right _ hm0) rfl hin22 dX7_weigh_22 ?_
        refine lv_topi (fun x8 (e8 : x8 = I 46 m4.toNatClampNeg a0) => ?_)
        refine lv_istore (lv' := [(5, .int x8), (4, .int m4), (3, .int x1), (2, .ref a0), (0, .ref (g.2.2.1 8)), (1, .ref a0)]) hx hb dX7_weigh_23 hl (by decide) rfl (fun ls hl => ?_)
        refine lv_iload hx hb dX7_weigh_25 (lv_at hl 0 rfl) ?_
        refine lv_if_lt (tgt := 39) hx hb dX7_weigh_27 (by decide) (fun c9 => ?_) (fun c9 => ?_)
        · have c9 : x8.toInt < 0 := tlt rfl kp0 c9
          refine lv_iload hx hb dX7_weigh_39 (lv_at hl 0 rfl) ?_
          refine lv_ineg hx hb dX7_weigh_41 ?_
          refine lv_topi (fun x10 (e10 : x10 = -x8) => ?_)
          try have t10 : x10.toInt = -x8.toInt := tneg e10 rfl (by omega)
          refine ci_ C hW (runSN (As := [.int x10]) (rest := []) (T := (((hv (up2 J 8 1 0) [45] [(8, 1)] Gl2), L, I, P, E, N), sgX g ++ dy)) C hW (c_X10_isLetter l g (hv (up2 J 8 1 0) [45] [(8, 1)] Gl2) L I P E N dy H.size x10 ) mi_X10_isLetter (List.mem_of_getElem? (i := 3) rfl) ⟨rfl, rfl, Nat.le_of_ble_eq_true rfl, Nat.le_of_ble_eq_true rfl⟩ rfl hl.1 rfl (Nat.le_of_ble_eq_true rfl) dX7_weigh_42 ⟨Nat.le_of_ble_eq_true rfl, Nat.le_of_ble_eq_true rfl⟩) (fun r11 u11 H locs hp11 hW => ?_)
          have hc11 : ((r11.toInt = 1) ∨ (r11.toInt = 0)) := hp11
          clear hp11
          have hW : WB g A s.heap H locs ((hv (up2 J 8 1 0) [45] [(8, 1)] Gl2), L, I, P, E, N) (sgX g ++ dy) := hW
          refine lv_if_eq (tgt := 62) hx hb dX7_weigh_45 (by decide) (fun c12 => ?_) (fun c12 => ?_)
          · have c12 : r11.toInt = 0 := teq rfl kp0 c12
            refine lv_aload_n hx hb dX7_weigh_62 rfl (lv_at hl 4 rfl) ?_
            refine lv_iload hx hb dX7_weigh_63 (lv_at hl 0 rfl) ?_
            refine lv_ineg hx hb dX7_weigh_65 ?_
            refine lv_topi (fun x13 (e13 : x13 = -x8) => ?_)
            try have t13 : x13.toInt = -x8.toInt := tneg e13 rfl (by omega)
            refine cv_ C hW (runV (x := (g.2.2.1 8)) (As := [.int x13]) (rest := []) (T := (((hv (up2 J 8 1 0) [45] [(8, 1)] Gl2), L, I, P, E, N), sgX g ++ dy)) C hW (c_X7_join l g (hv (up2 J 8 1 0) [45] [(8, 1)] Gl2) L I P E N dy H.size x13 ) mi_X7_join tw_681 (recv_ (T := (((hv (up2 J 8 1 0) [45] [(8, 1)] Gl2), L, I, P, E, N), sgX g ++ dy)) C hW (mx_ rfl) rfl rfl) ⟨rfl, rfl, Nat.le_of_ble_eq_true rfl, Nat.le_of_ble_eq_true rfl⟩ rfl hl.1 rfl (Nat.le_of_ble_eq_true rfl) dX7_weigh_66 ⟨Nat.le_of_ble_eq_true rfl, Nat.le_of_ble_eq_true rfl⟩) (fun u14 H locs hp14 hW => ?_)
            have hW : WB g A s.heap H locs ((hv (hv (up2 J 8 1 0) [45] [(8, 1)] Gl2) [45] [(8, 1)] u14), L, I, P, E, N) (sgX g ++ dy) := hW
            obtain ⟨x15, e15⟩ : ∃ y : Int32, y = m4 + 1 := ⟨_, rfl⟩
            refine lv_iinc (v := x15) (lv' := [(4, .int x15), (5, .int x8), (3, .int x1), (2, .ref a0), (0, .ref (g.2.2.1 8)), (1, .ref a0)]) hx hb dX7_weigh_69 hl (k := 1) rfl (by rw [e15]; rfl) (by decide) rfl (fun ls hl => ?_)
            try have t15 : x15.toInt = m4.toInt + 1 := tadd e15 rfl kp1 (by omega)
            refine lv_goto (tgt := 13) hx hb dX7_weigh_72 (by decide) ?_
            have hWl : WB g A s.heap H locs ((hv (up2 J 8 1 0) [45] [(8, 1)] (hv (hv (up2 J 8 1 0) [45] [(8, 1)] Gl2) [45] [(8, 1)] u14)), L, I, P, E, N) (sgX g ++ dy) := by
              rw [← ag_hvE (J := (up2 J 8 1 0)) (R := [45]) (F := [(8, 1)]) (ag_hv rfl rfl (ag_hv rfl rfl ag_rf))]
              exact hW
            refine ih x15 (hv (hv (up2 J 8 1 0) [45] [(8, 1)] Gl2) [45] [(8, 1)] u14) H locs ls ?_ ?_ hWl (lv_sub hl [0, 2, 3, 4, 5] rfl)
            · show ((N a0 : Int) - x15.toInt).toNat < n
              omega
            · show 0 ≤ x15.toInt
              first | omega | exact hi | assumption
          · have c12 : ¬ r11.toInt = 0 := tne rfl kp0 c12
            refine lv_aload_n hx hb dX7_weigh_48 rfl (lv_at hl 4 rfl) ?_
            refine lv_aload_n hx hb dX7_weigh_49 rfl (lv_at hl 4 rfl) ?_
            refine lv_iload hx hb dX7_weigh_50 (lv_at hl 0 rfl) ?_
            refine lv_ineg hx hb dX7_weigh_52 ?_
            refine lv_topi (fun x16 (e16 : x16 = -x8) => ?_)
            try have t16 : x16.toInt = -x8.toInt := tneg e16 rfl (by omega)
            refine ci_ C hW (runV (x := (g.2.2.1 8)) (As := [.int x16]) (rest := [.ref (g.2.2.1 8)]) (T := (((hv (up2 J 8 1 0) [45] [(8, 1)] Gl2), L, I, P, E, N), sgX g ++ dy)) C hW (c_X7_letter l g (hv (up2 J 8 1 0) [45] [(8, 1)] Gl2) L I P E N dy H.size x16 ) mi_X7_letter tw_677 (recv_ (T := (((hv (up2 J 8 1 0) [45] [(8, 1)] Gl2), L, I, P, E, N), sgX g ++ dy)) C hW (mx_ rfl) rfl rfl) ⟨rfl, rfl, Nat.le_of_ble_eq_true rfl, Nat.le_of_ble_eq_true rfl⟩ rfl hl.1 rfl (Nat.le_of_ble_eq_true rfl) dX7_weigh_53 ⟨Nat.le_of_ble_eq_true rfl, Nat.le_of_ble_eq_true rfl⟩) (fun r17 u17 H locs hp17 hW => ?_)
            have hW : WB g A s.heap H locs ((hv (up2 J 8 1 0) [45] [(8, 1)] Gl2), L, I, P, E, N) (sgX g ++ dy) := hW
            refine cv_ C hW (runV (x := (g.2.2.1 8)) (As := [.int r17]) (rest := []) (T := (((hv (up2 J 8 1 0) [45] [(8, 1)] Gl2), L, I, P, E, N), sgX g ++ dy)) C hW (c_X7_push l g (hv (up2 J 8 1 0) [45] [(8, 1)] Gl2) L I P E N dy H.size r17 ) mi_X7_push tw_670 (recv_ (T := (((hv (up2 J 8 1 0) [45] [(8, 1)] Gl2), L, I, P, E, N), sgX g ++ dy)) C hW (mx_ rfl) rfl rfl) ⟨rfl, rfl, Nat.le_of_ble_eq_true rfl, Nat.le_of_ble_eq_true rfl⟩ rfl hl.1 rfl (Nat.le_of_ble_eq_true rfl) dX7_weigh_56 ⟨Nat.le_of_ble_eq_true rfl, Nat.le_of_ble_eq_true rfl⟩) (fun u18 H locs hp18 hW => ?_)
            have hW : WB g A s.heap H locs ((hv (hv (up2 J 8 1 0) [45] [(8, 1)] Gl2) [45] [(8, 1)] u18), L, I, P, E, N) (sgX g ++ dy) := hW
            refine lv_goto (tgt := 69) hx hb dX7_weigh_59 (by decide) ?_
            obtain ⟨x19, e19⟩ : ∃ y : Int32, y = m4 + 1 := ⟨_, rfl⟩
            refine lv_iinc (v := x19) (lv' := [(4, .int x19), (5, .int x8), (3, .int x1), (2, .ref a0), (0, .ref (g.2.2.1 8)), (1, .ref a0)]) hx hb dX7_weigh_69 hl (k := 1) rfl (by rw [e19]; rfl) (by decide) rfl (fun ls hl => ?_)
            try have t19 : x19.toInt = m4.toInt + 1 := tadd e19 rfl kp1 (by omega)
            refine lv_goto (tgt := 13) hx hb dX7_weigh_72 (by decide) ?_
            have hWl : WB g A s.heap H locs ((hv (up2 J 8 1 0) [45] [(8, 1)] (hv (hv (up2 J 8 1 0) [45] [(8, 1)] Gl2) [45] [(8, 1)] u18)), L, I, P, E, N) (sgX g ++ dy) := by
              rw [← ag_hvE (J := (up2 J 8 1 0)) (R := [45]) (F := [(8, 1)]) (ag_hv rfl rfl (ag_hv rfl rfl ag_rf))]
              exact hW
            refine ih x19 (hv (hv (up2 J 8 1 0) [45] [(8, 1)] Gl2) [45] [(8, 1)] u18) H locs ls ?_ ?_ hWl (lv_sub hl [0, 2, 3, 4, 5] rfl)
            · show ((N a0 : Int) - x19.toInt).toNat < n
              omega
            · show 0 ≤ x19.toInt
              first | omega | exact hi | assumption
        · have c9 : 0 ≤ x8.toInt := tnlt rfl kp0 c9
          refine lv_aload_n hx hb dX7_weigh_30 rfl (lv_at hl 4 rfl) ?_
          refine lv_iload hx hb dX7_weigh_31 (lv_at hl 0 rfl) ?_
          refine cv_ C hW (runV (x := (g.2.2.1 8)) (As := [.int x8]) (rest := []) (T := (((hv (up2 J 8 1 0) [45] [(8, 1)] Gl2), L, I, P, E, N), sgX g ++ dy)) C hW (c_X7_push l g (hv (up2 J 8 1 0) [45] [(8, 1)] Gl2) L I P E N dy H.size x8 ) mi_X7_push tw_670 (recv_ (T := (((hv (up2 J 8 1 0) [45] [(8, 1)] Gl2), L, I, P, E, N), sgX g ++ dy)) C hW (mx_ rfl) rfl rfl) ⟨rfl, rfl, Nat.le_of_ble_eq_true rfl, Nat.le_of_ble_eq_true rfl⟩ rfl hl.1 rfl (Nat.le_of_ble_eq_true rfl) dX7_weigh_33 ⟨Nat.le_of_ble_eq_true rfl, Nat.le_of_ble_eq_true rfl⟩) (fun u20 H locs hp20 hW => ?_)
          have hW : WB g A s.heap H locs ((hv (hv (up2 J 8 1 0) [45] [(8, 1)] Gl2) [45] [(8, 1)] u20), L, I, P, E, N) (sgX g ++ dy) := hW
          refine lv_goto (tgt := 69) hx hb dX7_weigh_36 (by decide) ?_
          obtain ⟨x21, e21⟩ : ∃ y : Int32, y = m4 + 1 := ⟨_, rfl⟩
          refine lv_iinc (v := x21) (lv' := [(4, .int x21), (5, .int x8), (3, .int x1), (2, .ref a0), (0, .ref (g.2.2.1 8)), (1, .ref a0)]) hx hb dX7_weigh_69 hl (k := 1) rfl (by rw [e21]; rfl) (by decide) rfl (fun ls hl => ?_)
          try have t21 : x21.toInt = m4.toInt + 1 := tadd e21 rfl kp1 (by omega)
          refine lv_goto (tgt := 13) hx hb dX7_weigh_72 (by decide) ?_
          have hWl : WB g A s.heap H locs ((hv (up2 J 8 1 0) [45] [(8, 1)] (hv (hv (up2 J 8 1 0) [45] [(8, 1)] Gl2) [45] [(8, 1)] u20)), L, I, P, E, N) (sgX g ++ dy) := by
            rw [← ag_hvE (J := (up2 J 8 1 0)) (R := [45]) (F := [(8, 1)]) (ag_hv rfl rfl (ag_hv rfl rfl ag_rf))]
            exact hW
          refine ih x21 (hv (hv (up2 J 8 1 0) [45] [(8, 1)] Gl2) [45] [(8, 1)] u20) H locs ls ?_ ?_ hWl (lv_sub hl [0, 2, 3, 4, 5] rfl)
          · show ((N a0 : Int) - x21.toInt).toNat < n
            omega
          · show 0 ≤ x21.toInt
            first | omega | exact hi | assumption
  -- into the loop
  have hWl : WB g A s.heap H locs ((hv (up2 J 8 1 0) [45] [(8, 1)] (up2 J 8 1 0)), L, I, P, E, N) (sgX g ++ dy) := by
    rw [← ag_hvE (J := (up2 J 8 1 0)) (R := [45]) (F := [(8, 1)]) ag_rf]
    exact hW
  refine loop13 (((N a0 : Int) - (0 : Int32).toInt).toNat + 1) 0 (up2 J 8 1 0) H locs ls ?_ ?_ hWl (lv_sub hl [0, 1, 2, 3, 4] rfl)
  · exact Nat.lt_succ_self _
  · show 0 ≤ (0 : Int32).toInt
    try rw [kp0]
    first | omega | exact hi | assumption

set_option maxHeartbeats 4000000 in
set_option maxRecDepth 100000 in
theorem c_X11_valueOf (l : Launch) (g : gG) (J : Nat → Nat → Int32) (L : Nat → Nat → Int64) (I : Nat → Nat → Nat → Int32) (P : Nat → Nat → Nat → Option Nat) (E : Nat → Option Nat) (N : Nat → Nat) (dy : List (Nat × Nat)) (sz : Nat) (a0 : Nat) (hm0 : (10, a0) ∈ dy) (a1 : Nat) (hm1 : (9, a1) ∈ dy) (a2 : Int32) (hwf : WXF g J P E N dy) : Met l yX11_valueOf (WS yX11_valueOf cX11_valueOf 4 (some .int)) (RM (6) 0 0) (PC g [.ref (g.2.2.1 12), .ref a0, .ref a1, .int a2] ((J, L, I, P, E, N), sgX g ++ dy) sz) (va_Qi (fun (r : Int32) (u : (Nat → Nat → Int32) × (Nat → Nat → Nat → Int32)) => True) (fun u t => at_ g (FR g ((J, L, I, P, E, N), sgX g ++ dy) sz) (((hv J [45] [(4, 6), (4, 7), (8, 1), (8, 2), (8, 3), (8, 4), (8, 5), (8, 6), (8, 7), (8, 8), (8, 9)] u.1), L, (hv I [] [(6, 6), (6, 7)] u.2), P, E, N), sgX g ++ dy) t) (FR g ((J, L, I, P, E, N), sgX g ++ dy) sz)) 0 0 (FR g ((J, L, I, P, E, N), sgX g ++ dy) sz) := by
  refine ent (by decide +kernel) (Nat.le_of_ble_eq_true rfl) ?_
  intro p e s m below meth c ls hsz C hW hr hlocks hname hl
  generalize FR g ((J, L, I, P, E, N), sgX g ++ dy) sz = A at C hW ⊢
  have hx := C.1.1
  have hb := C.1.2.1
  have hts := C.1.2.2.2.2
  have hl : lv_has ls 4 [(0, .ref (g.2.2.1 12)), (1, .ref a0), (2, .ref a1), (3, .int a2)] := hl
  obtain ⟨H, hH⟩ : ∃ H : Heap, H = s.heap := ⟨_, rfl⟩
  obtain ⟨locs, hlocs⟩ : ∃ q : List Loc, q = [] := ⟨_, rfl⟩
  have hW : WB g A s.heap H locs (J, L, I, P, E, N) (sgX g ++ dy) := by rw [hH, hlocs]; exact hW
  refine start_ hH hlocs ?_
  refine lv_aload_n hx hb dX11_valueOf_0 rfl (lv_at hl 1 rfl) ?_
  refine rg_10_3 C hW (List.mem_append_right _ hm0) tw_807 dX11_valueOf_1 ?_
  refine lv_topi (fun x1 (e1 : x1 = I 10 3 a0) => ?_)
  have t1 : x1.toInt = (I 10 3 a0).toInt := by rw [e1]
  refine lv_if_eq (tgt := 16) hx hb dX11_valueOf_4 (by decide) (fun c2 => ?_) (fun c2 => ?_)
  · have c2 : x1.toInt = 0 := teq rfl kp0 c2
    refine lv_aload_n hx hb dX11_valueOf_16 rfl (lv_at hl 0 rfl) ?_
    refine rg_12_6 C hW (mx_ rfl) tw_370 dX11_valueOf_17 ?_
    refine lv_aload_n hx hb dX11_valueOf_20 rfl (lv_at hl 2 rfl) ?_
    refine rg_9_2 C hW (List.mem_append_right _ hm1) tw_429 dX11_valueOf_21 ?_
    refine lv_topi (fun x3 (e3 : x3 = I 9 2 a1) => ?_)
    have t3 : x3.toInt = (I 9 2 a1).toInt := by rw [e3]
    refine rp_8_2 C hW (mx_ rfl) tw_328 dX11_valueOf_24 (fun H locs hW => ?_)
    refine lv_aload_n hx hb dX11_valueOf_27 rfl (lv_at hl 0 rfl) ?_
    refine rg_12_6 C hW (mx_ rfl) tw_370 dX11_valueOf_28 ?_
    refine lv_iload_n hx hb dX11_valueOf_31 rfl (lv_at hl 3 rfl) ?_
    refine ci_ C hW (runS (As := [.int a2]) (rest := [.ref (g.2.2.1 8)]) (T := (((up2 J 8 2 x3), L, I, P, E, N), sgX g ++ dy)) C hW (c_X11_hourOf l g (up2 J 8 2 x3) L I P E N dy H.size a2 ) mi_X11_hourOf tw_663 ⟨rfl, rfl, Nat.le_of_ble_eq_true rfl, Nat.le_of_ble_eq_true rfl⟩ rfl hl.1 rfl (Nat.le_of_ble_eq_true rfl) dX11_valueOf_32 ⟨Nat.le_of_ble_eq_true rfl, Nat.le_of_ble_eq_true rfl⟩) (fun r4 u4 H locs hp4 hW => ?_)
    have hW : WB g A s.heap H locs ((up2 J 8 2 x3), L, I, P, E, N) (sgX g ++ dy) := hW
    refine rp_8_3 C hW (mx_ rfl) tw_330 dX11_valueOf_35 (fun H locs hW => ?_)
    refine lv_aload_n hx hb dX11_valueOf_38 rfl (lv_at hl 0 rfl) ?_
    refine rg_12_6 C hW (mx_ rfl) tw_370 dX11_valueOf_39 ?_
    refine lv_aload_n hx hb dX11_valueOf_42 rfl (lv_at hl 2 rfl) ?_
    refine rg_9_5 C hW (List.mem_append_right _ hm1) tw_436 dX11_valueOf_43 ?_
    refine lv_topi (fun x5 (e5 : x5 = I 9 5 a1) => ?_)
    have t5 : x5.toInt = (I 9 5 a1).toInt := by rw [e5]
    refine rp_8_4 C hW (mx_ rfl) tw_332 dX11_valueOf_46 (fun H locs hW => ?_)
    refine lv_aload_n hx hb dX11_valueOf_49 rfl (lv_at hl 0 rfl) ?_
    refine rg_12_6 C hW (mx_ rfl) tw_370 dX11_valueOf_50 ?_
    refine lv_aload_n hx hb dX11_valueOf_53 rfl (lv_at hl 0 rfl) ?_
    refine rg_12_0 C hW (mx_ rfl) tw_364 dX11_valueOf_54 ?_
    refine rg_4_6 C hW (mx_ rfl) tw_245 dX11_valueOf_57 ?_
    refine lv_as (J 4 6) rfl ?_
    refine rp_8_5 C hW (mx_ rfl) tw_334 dX11_valueOf_60 (fun H locs hW => ?_)
    refine lv_aload_n hx hb dX11_valueOf_63 rfl (lv_at hl 0 rfl) ?_
    refine rg_12_6 C hW (mx_ rfl) tw_370 dX11_valueOf_64 ?_
    refine lv_aload_n hx hb dX11_valueOf_67 rfl (lv_at hl 0 rfl) ?_
    refine rg_12_0 C hW (mx_ rfl) tw_364 dX11_valueOf_68 ?_
    refine rg_4_7 C hW (mx_ rfl) tw_247 dX11_valueOf_71 ?_
    refine lv_as (J 4 7) rfl ?_
    refine rp_8_6 C hW (mx_ rfl) tw_336 dX11_valueOf_74 (fun H locs hW => ?_)
    refine lv_aload_n hx hb dX11_valueOf_77 rfl (lv_at hl 0 rfl) ?_
    refine rg_12_6 C hW (mx_ rfl) tw_370 dX11_valueOf_78 ?_
    refine lv_aload_n hx hb dX11_valueOf_81 rfl (lv_at hl 2 rfl) ?_
    refine rg_9_3 C hW (List.mem_append_right _ hm1) tw_432 dX11_valueOf_82 ?_
    refine lv_topi (fun x6 (e6 : x6 = I 9 3 a1) => ?_)
    have t6 : x6.toInt = (I 9 3 a1).toInt := by rw [e6]
    refine rp_8_7 C hW (mx_ rfl) tw_338 dX11_valueOf_85 (fun H locs hW => ?_)
    refine lv_aload_n hx hb dX11_valueOf_88 rfl (lv_at hl 0 rfl) ?_
    refine rg_12_6 C hW (mx_ rfl) tw_370 dX11_valueOf_89 ?_
    refine lv_aload_n hx hb dX11_valueOf_92 rfl (lv_at hl 0 rfl) ?_
    refine rg_12_1 C hW (mx_ rfl) tw_365 dX11_valueOf_93 ?_
    refine rg_3_1 C hW (mx_ rfl) tw_278 dX11_valueOf_96 ?_
    refine lv_as (J 3 1) rfl ?_
    refine lv_iload_n hx hb dX11_valueOf_99 rfl (lv_at hl 3 rfl) ?_
    refine lv_isub hx hb dX11_valueOf_100 ?_
    refine lv_topi (fun x7 (e7 : x7 = (J 3 1) - a2) => ?_)
    refine rp_8_8 C hW (mx_ rfl) tw_340 dX11_valueOf_101 (fun H locs hW => ?_)
    refine lv_aload_n hx hb dX11_valueOf_104 rfl (lv_at hl 0 rfl) ?_
    refine rg_12_6 C hW (mx_ rfl) tw_370 dX11_valueOf_105 ?_
    refine lv_aload_n hx hb dX11_valueOf_108 rfl (lv_at hl 0 rfl) ?_
    refine rg_12_0 C hW (mx_ rfl) tw_364 dX11_valueOf_109 ?_
    refine rg_4_2 C hW (mx_ rfl) tw_237 dX11_valueOf_112 ?_
    refine ci_ C hW (runV (x := (g.2.2.1 22)) (As := []) (rest := [.ref (g.2.2.1 8)]) (T := (((up2 (up2 (up2 (up2 (up2 (up2 (up2 J 8 2 x3) 8 3 r4) 8 4 x5) 8 5 (J 4 6)) 8 6 (J 4 7)) 8 7 x6) 8 8 x7), L, I, P, E, N), sgX g ++ dy)) C hW (c_Jx4a65c_size_8abf5 l g (up2 (up2 (up2 (up2 (up2 (up2 (up2 J 8 2 x3) 8 3 r4) 8 4 x5) 8 5 (J 4 6)) 8 6 (J 4 7)) 8 7 x6) 8 8 x7) L I P E N dy H.size 22 rfl ) mi_Jx4a65c_size_8abf5 tw_485 (recv_ (T := (((up2 (up2 (up2 (up2 (up2 (up2 (up2 J 8 2 x3) 8 3 r4) 8 4 x5) 8 5 (J 4 6)) 8 6 (J 4 7)) 8 7 x6) 8 8 x7), L, I, P, E, N), sgX g ++ dy)) C hW (mx_ rfl) (cel_list rfl) rfl) ⟨rfl, rfl, Nat.le_of_ble_eq_true rfl, Nat.le_of_ble_eq_true rfl⟩ rfl hl.1 rfl (Nat.le_of_ble_eq_true rfl) dX11_valueOf_115 ⟨Nat.le_of_ble_eq_true rfl, Nat.le_of_ble_eq_true rfl⟩) (fun r8 u8 H locs hp8 hW => ?_)
    have hc8 : ((r8 = J 22 2)) := hp8
    clear hp8
    have hr8 : r8 = J 22 2 := hc8
    refine lv_as (J 22 2) hr8 ?_
    have hW : WB g A s.heap H locs ((up2 (up2 (up2 (up2 (up2 (up2 (up2 J 8 2 x3) 8 3 r4) 8 4 x5) 8 5 (J 4 6)) 8 6 (J 4 7)) 8 7 x6) 8 8 x7), L, I, P, E, N) (sgX g ++ dy) := hW
    refine rp_8_9 C hW (mx_ rfl) tw_342 dX11_valueOf_118 (fun H locs hW => ?_)
    refine lv_aload_n hx hb dX11_valueOf_121 rfl (lv_at hl 0 rfl) ?_
    refine rg_12_6 C hW (mx_ rfl) tw_370 dX11_valueOf_122 ?_
    refine lv_aload_n hx hb dX11_valueOf_125 rfl (lv_at hl 1 rfl) ?_
    refine rg_10_2 C hW (List.mem_append_right _ hm0) tw_805 dX11_valueOf_126 ?_
    obtain ⟨b9, hb9, hbm9⟩ := hwf.2.2.2.2.2 a0 hm0
    obtain ⟨hbm9, hbn9⟩ := hbm9
    refine lv_asv (v' := .ref b9) (by show va_rf (P 10 2 a0) = _; rw [hb9]; rfl) ?_
    refine ci_ C hW (runV (x := (g.2.2.1 8)) (As := [.ref b9]) (rest := []) (T := (((up2 (up2 (up2 (up2 (up2 (up2 (up2 (up2 J 8 2 x3) 8 3 r4) 8 4 x5) 8 5 (J 4 6)) 8 6 (J 4 7)) 8 7 x6) 8 8 x7) 8 9 (J 22 2)), L, I, P, E, N), sgX g ++ dy)) C hW (c_X7_weigh l g (up2 (up2 (up2 (up2 (up2 (up2 (up2 (up2 J 8 2 x3) 8 3 r4) 8 4 x5) 8 5 (J 4 6)) 8 6 (J 4 7)) 8 7 x6) 8 8 x7) 8 9 (J 22 2)) L I P E N dy H.size b9 hbm9 (show N b9 ≤ 60 from by omega)) mi_X7_weigh tw_666 (recv_ (T := (((up2 (up2 (up2 (up2 (up2 (up2 (up2 (up2 J 8 2 x3) 8 3 r4) 8 4 x5) 8 5 (J 4 6)) 8 6 (J 4 7)) 8 7 x6) 8 8 x7) 8 9 (J 22 2)), L, I, P, E, N), sgX g ++ dy)) C hW (mx_ rfl) rfl rfl) ⟨rfl, rfl, Nat.le_of_ble_eq_true rfl, Nat.le_of_ble_eq_true rfl⟩ rfl hl.1 rfl (Nat.le_of_ble_eq_true rfl) dX11_valueOf_129 ⟨Nat.le_of_ble_eq_true rfl, Nat.le_of_ble_eq_true rfl⟩) (fun r10 u10 H locs hp10 hW => ?_)
    have hW : WB g A s.heap H locs ((hv (up2 (up2 (up2 (up2 (up2 (up2 (up2 (up2 J 8 2 x3) 8 3 r4) 8 4 x5) 8 5 (J 4 6)) 8 6 (J 4 7)) 8 7 x6) 8 8 x7) 8 9 (J 22 2)) [45] [(8, 1)] u10), L, I, P, E, N) (sgX g ++ dy) := hW
    have hWr : WB g A s.heap H locs ((hv J [45] [(4, 6), (4, 7), (8, 1), (8, 2), (8, 3), (8, 4), (8, 5), (8, 6), (8, 7), (8, 8), (8, 9)] (hv (up2 (up2 (up2 (up2 (up2 (up2 (up2 (up2 J 8 2 x3) 8 3 r4) 8 4 x5) 8 5 (J 4 6)) 8 6 (J 4 7)) 8 7 x6) 8 8 x7) 8 9 (J 22 2)) [45] [(8, 1)] u10)), L, (hv I [] [(6, 6), (6, 7)] I), P, E, N) (sgX g ++ dy) := by
      rw [← ag_hvE (J := J) (R := [45]) (F := [(4, 6), (4, 7), (8, 1), (8, 2), (8, 3), (8, 4), (8, 5), (8, 6), (8, 7), (8, 8), (8, 9)]) (ag_hv rfl rfl (ag_up (Or.inr rfl) (ag_up (Or.inr rfl) (ag_up (Or.inr rfl) (ag_up (Or.inr rfl) (ag_up (Or.inr rfl) (ag_up (Or.inr rfl) (ag_up (Or.inr rfl) (ag_up (Or.inr rfl) ag_rf)))))))))]
      rw [← ag_hvE (J := I) (R := []) (F := [(6, 6), (6, 7)]) ag_rf]
      exact hW
    exact end_i C hr hlocks ((hv (up2 (up2 (up2 (up2 (up2 (up2 (up2 (up2 J 8 2 x3) 8 3 r4) 8 4 x5) 8 5 (J 4 6)) 8 6 (J 4 7)) 8 7 x6) 8 8 x7) 8 9 (J 22 2)) [45] [(8, 1)] u10), I) hWr trivial dX11_valueOf_132
  · have c2 : ¬ x1.toInt = 0 := tne rfl kp0 c2
    refine lv_aload_n hx hb dX11_valueOf_7 rfl (lv_at hl 0 rfl) ?_
    refine rg_12_0 C hW (mx_ rfl) tw_364 dX11_valueOf_8 ?_
    refine lv_aload_n hx hb dX11_valueOf_11 rfl (lv_at hl 2 rfl) ?_
    refine lv_iload_n hx hb dX11_valueOf_12 rfl (lv_at hl 3 rfl) ?_
    refine cv_ C hW (runV (x := (g.2.2.1 4)) (As := [.ref a1, .int a2]) (rest := []) (T := ((J, L, I, P, E, N), sgX g ++ dy)) C hW (c_X3_tally l g J L I P E N dy H.size a1 hm1 a2 hwf) mi_X3_tally tw_712 (recv_ (T := ((J, L, I, P, E, N), sgX g ++ dy)) C hW (mx_ rfl) rfl rfl) ⟨rfl, rfl, Nat.le_of_ble_eq_true rfl, Nat.le_of_ble_eq_true rfl⟩ rfl hl.1 rfl (Nat.le_of_ble_eq_true rfl) dX11_valueOf_13 ⟨Nat.le_of_ble_eq_true rfl, Nat.le_of_ble_eq_true rfl⟩) (fun u11 H locs hp11 hW => ?_)
    have hW : WB g A s.heap H locs ((hv J [] [(4, 6), (4, 7)] u11.1), L, (hv I [] [(6, 6), (6, 7)] u11.2), P, E, N) (sgX g ++ dy) := hW
    refine lv_aload_n hx hb dX11_valueOf_16 rfl (lv_at hl 0 rfl) ?_
    refine rg_12_6 C hW (mx_ rfl) tw_370 dX11_valueOf_17 ?_
    refine lv_aload_n hx hb dX11_valueOf_20 rfl (lv_at hl 2 rfl) ?_
    refine rg_9_2 C hW (List.mem_append_right _ hm1) tw_429 dX11_valueOf_21 ?_
    refine lv_topi (fun x12 (e12 : x12 = I 9 2 a1) => ?_)
    have t12 : x12.toInt = (I 9 2 a1).toInt := by rw [e12]
    refine rp_8_2 C hW (mx_ rfl) tw_328 dX11_valueOf_24 (fun H locs hW => ?_)
    refine lv_aload_n hx hb dX11_valueOf_27 rfl (lv_at hl 0 rfl) ?_
    refine rg_12_6 C hW (mx_ rfl) tw_370 dX11_valueOf_28 ?_
    refine lv_iload_n hx hb dX11_valueOf_31 rfl (lv_at hl 3 rfl) ?_
    refine ci_ C hW (runS (As := [.int a2]) (rest := [.ref (g.2.2.1 8)]) (T := (((up2 (hv J [] [(4, 6), (4, 7)] u11.1) 8 2 x12), L, (hv I [] [(6, 6), (6, 7)] u11.2), P, E, N), sgX g ++ dy)) C hW (c_X11_hourOf l g (up2 (hv J [] [(4, 6), (4, 7)] u11.1) 8 2 x12) L (hv I [] [(6, 6), (6, 7)] u11.2) P E N dy H.size a2 ) mi_X11_hourOf tw_663 ⟨rfl, rfl, Nat.le_of_ble_eq_true rfl, Nat.le_of_ble_eq_true rfl⟩ rfl hl.1 rfl (Nat.le_of_ble_eq_true rfl) dX11_valueOf_32 ⟨Nat.le_of_ble_eq_true rfl, Nat.le_of_ble_eq_true rfl⟩) (fun r13 u13 H locs hp13 hW => ?_)
    have hW : WB g A s.heap H locs ((up2 (hv J [] [(4, 6), (4, 7)] u11.1) 8 2 x12), L, (hv I [] [(6, 6), (6, 7)] u11.2), P, E, N) (sgX g ++ dy) := hW
    refine rp_8_3 C hW (mx_ rfl) tw_330 dX11_valueOf_35 (fun H locs hW => ?_)
    refine lv_aload_n hx hb dX11_valueOf_38 rfl (lv_at hl 0 rfl) ?_
    refine rg_12_6 C hW (mx_ rfl) tw_370 dX11_valueOf_39 ?_
    refine lv_aload_n hx hb dX11_valueOf_42 rfl (lv_at hl 2 rfl) ?_
    refine rg_9_5 C hW (List.mem_append_right _ hm1) tw_436 dX11_valueOf_43 ?_
    refine lv_topi (fun x14 (e14 : x14 = I 9 5 a1) => ?_)
    have t14 : x14.toInt = (I 9 5 a1).toInt := by rw [e14]
    refine rp_8_4 C hW (mx_ rfl) tw_332 dX11_valueOf_46 (fun H locs hW => ?_)
    refine lv_aload_n hx hb dX11_valueOf_49 rfl (lv_at hl 0 rfl) ?_
    refine rg_12_6 C hW (mx_ rfl) tw_370 dX11_valueOf_50 ?_
    refine lv_aload_n hx hb dX11_valueOf_53 rfl (lv_at hl 0 rfl) ?_
    refine rg_12_0 C hW (mx_ rfl) tw_364 dX11_valueOf_54 ?_
    refine rg_4_6 C hW (mx_ rfl) tw_245 dX11_valueOf_57 ?_
    refine lv_topi (fun x15 (e15 : x15 = u11.1 4 6) => ?_)
    have t15 : x15.toInt = (u11.1 4 6).toInt := by rw [e15]
    refine rp_8_5 C hW (mx_ rfl) tw_334 dX11_valueOf_60 (fun H locs hW => ?_)
    refine lv_aload_n hx hb dX11_valueOf_63 rfl (lv_at hl 0 rfl) ?_
    refine rg_12_6 C hW (mx_ rfl) tw_370 dX11_valueOf_64 ?_
    refine lv_aload_n hx hb dX11_valueOf_67 rfl (lv_at hl 0 rfl) ?_
    refine rg_12_0 C hW (mx_ rfl) tw_364 dX11_valueOf_68 ?_
    refine rg_4_7 C hW (mx_ rfl) tw_247 dX11_valueOf_71 ?_
    refine lv_topi (fun x16 (e16 : x16 = u11.1 4 7) => ?_)
    have t16 : x16.toInt = (u11.1 4 7).toInt := by rw [e16]
    refine rp_8_6 C hW (mx_ rfl) tw_336 dX11_valueOf_74 (fun H locs hW => ?_)
    refine lv_aload_n hx hb dX11_valueOf_77 rfl (lv_at hl 0 rfl) ?_
    refine rg_12_6 C hW (mx_ rfl) tw_370 dX11_valueOf_78 ?_
    refine lv_aload_n hx hb dX11_valueOf_81 rfl (lv_at hl 2 rfl) ?_
    refine rg_9_3 C hW (List.mem_append_right _ hm1) tw_432 dX11_valueOf_82 ?_
    refine lv_topi (fun x17 (e17 : x17 = I 9 3 a1) => ?_)
    have t17 : x17.toInt = (I 9 3 a1).toInt := by rw [e17]
    refine rp_8_7 C hW (mx_ rfl) tw_338 dX11_valueOf_85 (fun H locs hW => ?_)
    refine lv_aload_n hx hb dX11_valueOf_88 rfl (lv_at hl 0 rfl) ?_
    refine rg_12_6 C hW (mx_ rfl) tw_370 dX11_valueOf_89 ?_
    refine lv_aload_n hx hb dX11_valueOf_92 rfl (lv_at hl 0 rfl) ?_
    refine rg_12_1 C hW (mx_ rfl) tw_365 dX11_valueOf_93 ?_
    refine rg_3_1 C hW (mx_ rfl) tw_278 dX11_valueOf_96 ?_
    refine lv_as (J 3 1) rfl ?_
    refine lv_iload_n hx hb dX11_valueOf_99 rfl (lv_at hl 3 rfl) ?_
    refine lv_isub hx hb dX11_valueOf_100 ?_
    refine lv_topi (fun x18 (e18 : x18 = (J 3 1) - a2) => ?_)
    refine rp_8_8 C hW (mx_ rfl) tw_340 dX11_valueOf_101 (fun H locs hW => ?_)
    refine lv_aload_n hx hb dX11_valueOf_104 rfl (lv_at hl 0 rfl) ?_
    refine rg_12_6 C hW (mx_ rfl) tw_370 dX11_valueOf_105 ?_
    refine lv_aload_n hx hb dX11_valueOf_108 rfl (lv_at hl 0 rfl) ?_
    refine rg_12_0 C hW (mx_ rfl) tw_364 dX11_valueOf_109 ?_
    refine rg_4_2 C hW (mx_ rfl) tw_237 dX11_valueOf_112 ?_
    refine ci_ C hW (runV (x := (g.2.2.1 22)) (As := []) (rest := [.ref (g.2.2.1 8)]) (T := (((up2 (up2 (up2 (up2 (up2 (up2 (up2 (hv J [] [(4, 6), (4, 7)] u11.1) 8 2 x12) 8 3 r13) 8 4 x14) 8 5 x15) 8 6 x16) 8 7 x17) 8 8 x18), L, (hv I [] [(6, 6), (6, 7)] u11.2), P, E, N), sgX g ++ dy)) C hW (c_Jx4a65c_size_8abf5 l g (up2 (up2 (up2 (up2 (up2 (up2 (up2 (hv J [] [(4, 6), (4, 7)] u11.1) 8 2 x12) 8 3 r13) 8 4 x14) 8 5 x15) 8 6 x16) 8 7 x17) 8 8 x18) L (hv I [] [(6, 6), (6, 7)] u11.2) P E N dy H.size 22 rfl ) mi_Jx4a65c_size_8abf5 tw_485 (recv_ (T := (((up2 (up2 (up2 (up2 (up2 (up2 (up2 (hv J [] [(4, 6), (4, 7)] u11.1) 8 2 x12) 8 3 r13) 8 4 x14) 8 5 x15) 8 6 x16) 8 7 x17) 8 8 x18), L, (hv I [] [(6, 6), (6, 7)] u11.2), P, E, N), sgX g ++ dy)) C hW (mx_ rfl) (cel_list rfl) rfl) ⟨rfl, rfl, Nat.le_of_ble_eq_true rfl, Nat.le_of_ble_eq_true rfl⟩ rfl hl.1 rfl (Nat.le_of_ble_eq_true rfl) dX11_valueOf_115 ⟨Nat.le_of_ble_eq_true rfl, Nat.le_of_ble_eq_true rfl⟩) (fun r19 u19 H locs hp19 hW => ?_)
    have hc19 : ((r19 = J 22 2)) := hp19
    clear hp19
    have hr19 : r19 = J 22 2 := hc19
    refine lv_as (J 22 2) hr19 ?_
    have hW : WB g A s.heap H locs ((up2 (up2 (up2 (up2 (up2 (up2 (up2 (hv J [] [(4, 6), (4, 7)] u11.1) 8 2 x12) 8 3 r13) 8 4 x14) 8 5 x15) 8 6 x16) 8 7 x17) 8 8 x18), L, (hv I [] [(6, 6), (6, 7)] u11.2), P, E, N) (sgX g ++ dy) := hW
    refine rp_8_9 C hW (mx_ rfl) tw_342 dX11_valueOf_118 (fun H locs hW => ?_)
    refine lv_aload_n hx hb dX11_valueOf_121 rfl (lv_at hl 0 rfl) ?_
    refine rg_12_6 C hW (mx_ rfl) tw_370 dX11_valueOf_122 ?_
    refine lv_aload_n hx hb dX11_valueOf_125 rfl (lv_at hl 1 rfl) ?_
    refine rg_10_2 C hW (List.mem_append_right _ hm0) tw_805 dX11_valueOf_126 ?_
    obtain ⟨b20, hb20, hbm20⟩ := hwf.2.2.2.2.2 a0 hm0
    obtain ⟨hbm20, hbn20⟩ := hbm20
    refine lv_asv (v' := .ref b20) (by show va_rf (P 10 2 a0) = _; rw [hb20]; rfl) ?_
    refine ci_ C hW (runV (x := (g.2.2.1 8)) (As := [.ref b20]) (rest := []) (T := (((up2 (up2 (up2 (up2 (up2 (up2 (up2 (up2 (hv J [] [(4, 6), (4, 7)] u11.1) 8 2 x12) 8 3 r13) 8 4 x14) 8 5 x15) 8 6 x16) 8 7 x17) 8 8 x18) 8 9 (J 22 2)), L, (hv I [] [(6, 6), (6, 7)] u11.2), P, E, N), sgX g ++ dy)) C hW (c_X7_weigh l g (up2 (up2 (up2 (up2 (up2 (up2 (up2 (up2 (hv J [] [(4, 6), (4, 7)] u11.1) 8 2 x12) 8 3 r13) 8 4 x14) 8 5 x15) 8 6 x16) 8 7 x17) 8 8 x18) 8 9 (J 22 2)) L (hv I [] [(6, 6), (6, 7)] u11.2) P E N dy H.size b20 hbm20 (show N b20 ≤ 60 from by omega)) mi_X7_weigh tw_666 (recv_ (T := (((up2 (up2 (up2 (up2 (up2 (up2 (up2 (up2 (hv J [] [(4, 6), (4, 7)] u11.1) 8 2 x12) 8 3 r13) 8 4 x14) 8 5 x15) 8 6 x16) 8 7 x17) 8 8 x18) 8 9 (J 22 2)), L, (hv I [] [(6, 6), (6, 7)] u11.2), P, E, N), sgX g ++ dy)) C hW (mx_ rfl) rfl rfl) ⟨rfl, rfl, Nat.le_of_ble_eq_true rfl, Nat.le_of_ble_eq_true rfl⟩ rfl hl.1 rfl (Nat.le_of_ble_eq_true rfl) dX11_valueOf_129 ⟨Nat.le_of_ble_eq_true rfl, Nat.le_of_ble_eq_true rfl⟩) (fun r21 u21 H locs hp21 hW => ?_)
    have hW : WB g A s.heap H locs ((hv (up2 (up2 (up2 (up2 (up2 (up2 (up2 (up2 (hv J [] [(4, 6), (4, 7)] u11.1) 8 2 x12) 8 3 r13) 8 4 x14) 8 5 x15) 8 6 x16) 8 7 x17) 8 8 x18) 8 9 (J 22 2)) [45] [(8, 1)] u21), L, (hv I [] [(6, 6), (6, 7)] u11.2), P, E, N) (sgX g ++ dy) := hW
    have hWr : WB g A s.heap H locs ((hv J [45] [(4, 6), (4, 7), (8, 1), (8, 2), (8, 3), (8, 4), (8, 5), (8, 6), (8, 7), (8, 8), (8, 9)] (hv (up2 (up2 (up2 (up2 (up2 (up2 (up2 (up2 (hv J [] [(4, 6), (4, 7)] u11.1) 8 2 x12) 8 3 r13) 8 4 x14) 8 5 x15) 8 6 x16) 8 7 x17) 8 8 x18) 8 9 (J 22 2)) [45] [(8, 1)] u21)), L, (hv I [] [(6, 6), (6, 7)] (hv I [] [(6, 6), (6, 7)] u11.2)), P, E, N) (sgX g ++ dy) := by
      rw [← ag_hvE (J := J) (R := [45]) (F := [(4, 6), (4, 7), (8, 1), (8, 2), (8, 3), (8, 4), (8, 5), (8, 6), (8, 7), (8, 8), (8, 9)]) (ag_hv rfl rfl (ag_up (Or.inr rfl) (ag_up (Or.inr rfl) (ag_up (Or.inr rfl) (ag_up (Or.inr rfl) (ag_up (Or.inr rfl) (ag_up (Or.inr rfl) (ag_up (Or.inr rfl) (ag_up (Or.inr rfl) (ag_hv rfl rfl ag_rf))))))))))]
      rw [← ag_hvE (J := I) (R := []) (F := [(6, 6), (6, 7)]) (ag_hv rfl rfl ag_rf)]
      exact hW
    exact end_i C hr hlocks ((hv (up2 (up2 (up2 (up2 (up2 (up2 (up2 (up2 (hv J [] [(4, 6), (4, 7)] u11.1) 8 2 x12) 8 3 r13) 8 4 x14) 8 5 x15) 8 6 x16) 8 7 x17) 8 8 x18) 8 9 (J 22 2)) [45] [(8, 1)] u21), (hv I [] [(6, 6), (6, 7)] u11.2)) hWr trivial dX11_valueOf_132

set_option maxHeartbeats 4000000 in
set_option maxRecDepth 100000 in
theorem c_X11_inForce (l : Launch) (g : gG) (J : Nat → Nat → Int32) (L : Nat → Nat → Int64) (I : Nat → Nat → Nat → Int32) (P : Nat → Nat → Nat → Option Nat) (E : Nat → Option Nat) (N : Nat → Nat) (dy : List (Nat × Nat)) (sz : Nat) (a0 : Int32) (a1 : Int32) (hwf : WXF g J P E N dy) : Met l yX11_inForce (WS yX11_inForce cX11_inForce 6 (some (.object "EarPaper$Term"))) (RM (4) 0 0) (PC g [.ref (g.2.2.1 12), .int a0, .int a1] ((J, L, I, P, E, N), sgX g ++ dy) sz) (va_Qq (fun (r : Option Nat) (u : Unit) => (r = none ∨ (∃ o9 : Nat, r = some o9 ∧ (10, o9) ∈ dy))) (fun u t => at_ g (FR g ((J, L, I, P, E, N), sgX g ++ dy) sz) ((J, L, I, P, E, N), sgX g ++ dy) t) (FR g ((J, L, I, P, E, N), sgX g ++ dy) sz)) 0 0 (FR g ((J, L, I, P, E, N), sgX g ++ dy) sz) := by
  refine ent (by decide +kernel) (Nat.le_of_ble_eq_true rfl) ?_
  intro p e s m below meth c ls hsz C hW hr hlocks hname hl
  generalize FR g ((J, L, I, P, E, N), sgX g ++ dy) sz = A at C hW ⊢
  have hx := C.1.1
  have hb := C.1.2.1
  have hts := C.1.2.2.2.2
  have hl : lv_has ls 6 [(0, .ref (g.2.2.1 12)), (1, .int a0), (2, .int a1)] := hl
  obtain ⟨H, hH⟩ : ∃ H : Heap, H = s.heap := ⟨_, rfl⟩
  obtain ⟨locs, hlocs⟩ : ∃ q : List Loc, q = [] := ⟨_, rfl⟩
  have hW : WB g A s.heap H locs (J, L, I, P, E, N) (sgX g ++ dy) := by rw [hH, hlocs]; exact hW
  obtain ⟨h25a, h25b, -⟩ := hwf.2.1.2.1
  refine start_ hH hlocs ?_
  refine lv_null hx hb dX11_inForce_0 ?_
  refine lv_astore_nN (lv' := [(3, .null), (0, .ref (g.2.2.1 12)), (1, .int a0), (2, .int a1)]) hx hb dX11_inForce_1 rfl hl (by decide) rfl (fun ls hl => ?_)
  refine lv_iconst (v := 0) hx hb dX11_inForce_2 (by decide) ?_
  refine lv_istore (lv' := [(4, .int 0), (3, .null), (0, .ref (g.2.2.1 12)), (1, .int a0), (2, .int a1)]) hx hb dX11_inForce_3 hl (by decide) rfl (fun ls hl => ?_)
  have loop5 : ∀ (n : Nat) (m4 : Int32) (m3 : Option Nat) (H : Heap) (locs : List Loc) (ls : Array Slot), ((J 25 2).toInt - m4.toInt).toNat < n → 0 ≤ m4.toInt → m3 = none ∨ (∃ o9 : Nat, m3 = some o9 ∧ (10, o9) ∈ dy) → WB g A s.heap H locs (J, L, I, P, E, N) (sgX g ++ dy) → lv_has ls 6 [(4, .int m4), (3, va_rf m3), (0, .ref (g.2.2.1 12)), (1, .int a0), (2, .int a1)] → W p l e (RM (4) 0 0) s m ([.ref (g.2.2.1 12), .int a0, .int a1] : List Value).toArray below meth c H locs 0 0 (MQ below (va_Qq (fun (r : Option Nat) (u : Unit) => (r = none ∨ (∃ o9 : Nat, r = some o9 ∧ (10, o9) ∈ dy))) (fun u t => at_ g A ((J, L, I, P, E, N), sgX g ++ dy) t) A) ([.ref (g.2.2.1 12), .int a0, .int a1] : List Value).toArray s 0 0 A) (F0 m 5 ls []) := by
    intro n
    induction n with
    | zero => intro m4 m3 H locs ls hmeas; exact absurd hmeas (Nat.not_lt_zero _)
    | succ n ih =>
      intro m4 m3 H locs ls hmeas hi hOm3 hW hl
      rcases hOm3 with hq1 | ⟨oq1, hq1, mq1⟩ <;> subst hq1
      · have hl : lv_has ls 6 [(4, .int m4), (3, .null), (0, .ref (g.2.2.1 12)), (1, .int a0), (2, .int a1)] := hl
        refine lv_iload hx hb dX11_inForce_5 (lv_at hl 0 rfl) ?_
        refine lv_aload_n hx hb dX11_inForce_7 rfl (lv_at hl 2 rfl) ?_
        refine rg_12_3 C hW (mx_ rfl) tw_367 dX11_inForce_8 ?_
        refine ci_ C hW (runV (x := (g.2.2.1 25)) (As := []) (rest := [.int m4]) (T := ((J, L, I, P, E, N), sgX g ++ dy)) C hW (c_Jx4a65c_size_8abf5 l g J L I P E N dy H.size 25 rfl ) mi_Jx4a65c_size_8abf5 tw_485 (recv_ (T := ((J, L, I, P, E, N), sgX g ++ dy)) C hW (mx_ rfl) (cel_list rfl) rfl) ⟨rfl, rfl, Nat.le_of_ble_eq_true rfl, Nat.le_of_ble_eq_true rfl⟩ rfl hl.1 rfl (Nat.le_of_ble_eq_true rfl) dX11_inForce_11 ⟨Nat.le_of_ble_eq_true rfl, Nat.le_of_ble_eq_true rfl⟩) (fun r2 u2 H locs hp2 hW => ?_)
        have hc2 : ((r2 = J 25 2)) := hp2
        clear hp2
        have hr2 : r2 = J 25 2 := hc2
        refine lv_as (J 25 2) hr2 ?_
        have hW : WB g A s.heap H locs (J, L, I, P, E, N) (sgX g ++ dy) := hW
        refine lv_icmp_ge (tgt := 77) hx hb dX11_inForce_14 (by decide) (fun c3 => ?_) (fun c3 => ?_)
        · have c3 : (J 25 2).toInt ≤ m4.toInt := tle rfl rfl c3
          refine lv_aload_nN hx hb dX11_inForce_77 rfl (lv_at hl 1 rfl) ?_
          exact end_q (v := none) C hr (Or.inl ⟨_, rfl⟩) hlocks () hW (Or.inl rfl) dX11_inForce_78
        · have c3 : m4.toInt < (J 25 2).toInt := tnle rfl rfl c3
          refine lv_aload_n hx hb dX11_inForce_17 rfl (lv_at hl 2 rfl) ?_
          refine rg_12_3 C hW (mx_ rfl) tw_367 dX11_inForce_18 ?_
          refine lv_iload hx hb dX11_inForce_21 (lv_at hl 0 rfl) ?_
          refine cq_ C hW (runV (x := (g.2.2.1 25)) (As := [.int m4]) (rest := []) (T := ((J, L, I, P, E, N), sgX g ++ dy)) C hW ((c_Jx4a65c_get_915e3 10) l g J L I P E N dy H.size 25 rfl m4 (show LWF g J P E N dy 25 10 from hwf.2.1.2.1) (show 0 ≤ m4.toInt ∧ m4.toInt < (J 25 2).toInt from by omega)) mi_Jx4a65c_get_915e3 tw_618 (recv_ (T := ((J, L, I, P, E, N), sgX g ++ dy)) C hW (mx_ rfl) (cel_list rfl) rfl) ⟨rfl, rfl, Nat.le_of_ble_eq_true rfl, Nat.le_of_ble_eq_true rfl⟩ rfl hl.1 rfl (Nat.le_of_ble_eq_true rfl) dX11_inForce_23 ⟨Nat.le_of_ble_eq_true rfl, Nat.le_of_ble_eq_true rfl⟩) (fun q4 u4 H locs hp4 hW => ?_)
          have hq4 : (q4 = some (elt E P 25 m4.toNatClampNeg)) := hp4
          clear hp4
          have hW : WB g A s.heap H locs (J, L, I, P, E, N) (sgX g ++ dy) := hW
          subst hq4
          obtain ⟨o4, ho4⟩ : ∃ z : Nat, z = elt E P 25 m4.toNatClampNeg := ⟨_, rfl⟩
          have hm4 : (10, o4) ∈ dy := by rw [ho4]; exact (lw_mem (er := 10) hwf.2.1.2.1 (show (m4.toNatClampNeg : Int) < (J 25 2).toInt from by have := tcl m4; omega))
          refine lv_asv (v' := .ref o4) (by rw [ho4]; rfl) ?_
          refine g_cast C hW (List.mem_append_right _ hm4) rfl rfl tw_662 dX11_inForce_26 ?_
          refine lv_astore (lv' := [(5, .ref o4), (4, .int m4), (3, .null), (0, .ref (g.2.2.1 12)), (1, .int a0), (2, .int a1)]) hx hb dX11_inForce_29 hl (by decide) rfl (fun ls hl => ?_)
          refine lv_aload hx hb dX11_inForce_31 (lv_at hl 0 rfl) ?_
          refine rg_10_0 C hW (List.mem_append_right _ hm4) tw_801 dX11_inForce_33 ?_
          refine lv_topi (fun x5 (e5 : x5 = I 10 0 o4) => ?_)
          have t5 : x5.toInt = (I 10 0 o4).toInt := by rw [e5]
          refine lv_iload_n hx hb dX11_inForce_36 rfl (lv_at hl 4 rfl) ?_
          refine lv_icmp_ne (tgt := 71) hx hb dX11_inForce_37 (by decide) (fun c6 => ?_) (fun c6 => ?_)
          · have c6 : ¬ x5.toInt = a0.toInt := tne rfl rfl c6
            obtain ⟨x7, e7⟩ : ∃ y : Int32, y = m4 + 1 := ⟨_, rfl⟩
            refine lv_iinc (v := x7) (lv' := [(4, .int x7), (5, .ref o4), (3, .null), (0, .ref (g.2.2.1 12)), (1, .int a0), (2, .int a1)]) hx hb dX11_inForce_71 hl (k := 1) rfl (by rw [e7]; rfl) (by decide) rfl (fun ls hl => ?_)
            try have t7 : x7.toInt = m4.toInt + 1 := tadd e7 rfl kp1 (by omega)
            refine lv_goto (tgt := 5) hx hb dX11_inForce_74 (by decide) ?_
            refine ih x7 (none : Option Nat) H locs ls ?_ ?_ ?_ hW (lv_sub hl [0, 2, 3, 4, 5] rfl)
            · show ((J 25 2).toInt - x7.toInt).toNat < n
              omega
            · show 0 ≤ x7.toInt
              first | omega | exact hi | assumption
            · show (none : Option Nat) = none ∨ (∃ o9 : Nat, (none : Option Nat) = some o9 ∧ (10, o9) ∈ dy)
              exact Or.inl rfl
          · have c6 : x5.toInt = a0.toInt := teq rfl rfl c6
            refine lv_aload hx hb dX11_inForce_40 (lv_at hl 0 rfl) ?_
            refine rg_10_1 C hW (List.mem_append_right _ hm4) tw_803 dX11_inForce_42 ?_
            refine lv_topi (fun x8 (e8 : x8 = I 10 1 o4) => ?_)
            have t8 : x8.toInt = (I 10 1 o4).toInt := by rw [e8]
            refine lv_iload_n hx hb dX11_inForce_45 rfl (lv_at hl 5 rfl) ?_
            refine lv_icmp_le (tgt := 52) hx hb dX11_inForce_46 (by decide) (fun c9 => ?_) (fun c9 => ?_)
            · have c9 : x8.toInt ≤ a1.toInt := tle rfl rfl c9
              refine lv_aload_nN hx hb dX11_inForce_52 rfl (lv_at hl 2 rfl) ?_
              refine lv_ifnullN (tgt := 68) hx hb dX11_inForce_53 (by decide) ?_
              refine lv_aload hx hb dX11_inForce_68 (lv_at hl 0 rfl) ?_
              refine lv_astore_n (lv' := [(3, .ref o4), (5, .ref o4), (4, .int m4), (0, .ref (g.2.2.1 12)), (1, .int a0), (2, .int a1)]) hx hb dX11_inForce_70 rfl hl (by decide) rfl (fun ls hl => ?_)
              obtain ⟨x10, e10⟩ : ∃ y : Int32, y = m4 + 1 := ⟨_, rfl⟩
              refine lv_iinc (v := x10) (lv' := [(4, .int x10), (3, .ref o4), (5, .ref o4), (0, .ref (g.2.2.1 12)), (1, .int a0), (2, .int a1)]) hx hb dX11_inForce_71 hl (k := 2) rfl (by rw [e10]; rfl) (by decide) rfl (fun ls hl => ?_)
              try have t10 : x10.toInt = m4.toInt + 1 := tadd e10 rfl kp1 (by omega)
              refine lv_goto (tgt := 5) hx hb dX11_inForce_74 (by decide) ?_
              refine ih x10 (some o4) H locs ls ?_ ?_ ?_ hW (lv_sub hl [0, 1, 3, 4, 5] rfl)
              · show ((J 25 2).toInt - x10.toInt).toNat < n
                omega
              · show 0 ≤ x10.toInt
                first | omega | exact hi | assumption
              · show (some o4) = none ∨ (∃ o9 : Nat, (some o4) = some o9 ∧ (10, o9) ∈ dy)
                exact Or.inr ⟨_, rfl, hm4⟩
            · have c9 : a1.toInt < x8.toInt := tnle rfl rfl c9
              refine lv_goto (tgt := 71) hx hb dX11_inForce_49 (by decide) ?_
              obtain ⟨x11, e11⟩ : ∃ y : Int32, y = m4 + 1 := ⟨_, rfl⟩
              refine lv_iinc (v := x11) (lv' := [(4, .int x11), (5, .ref o4), (3, .null), (0, .ref (g.2.2.1 12)), (1, .int a0), (2, .int a1)]) hx hb dX11_inForce_71 hl (k := 1) rfl (by rw [e11]; rfl) (by decide) rfl (fun ls hl => ?_)
              try have t11 : x11.toInt = m4.toInt + 1 := tadd e11 rfl kp1 (by omega)
              refine lv_goto (tgt := 5) hx hb dX11_inForce_74 (by decide) ?_
              refine ih x11 (none : Option Nat) H locs ls ?_ ?_ ?_ hW (lv_sub hl [0, 2, 3, 4, 5] rfl)
              · show ((J 25 2).toInt - x11.toInt).toNat < n
                omega
              · show 0 ≤ x11.toInt
                first | omega | exact hi | assumption
              · show (none : Option Nat) = none ∨ (∃ o9 : Nat, (none : Option Nat) = some o9 ∧ (10, o9) ∈ dy)
                exact Or.inl rfl
      · have hl : lv_has ls 6 [(4, .int m4), (3, .ref oq1), (0, .ref (g.2.2.1 12)), (1, .int a0), (2, .int a1)] := hl
        refine lv_iload hx hb dX11_inForce_5 (lv_at hl 0 rfl) ?_
        refine lv_aload_n hx hb dX11_inForce_7 rfl (lv_at hl 2 rfl) ?_
        refine rg_12_3 C hW (mx_ rfl) tw_367 dX11_inForce_8 ?_
        refine ci_ C hW (runV (x := (g.2.2.1 25)) (As := []) (rest := [.int m4]) (T := ((J, L, I, P, E, N), sgX g ++ dy)) C hW (c_Jx4a65c_size_8abf5 l g J L I P E N dy H.size 25 rfl ) mi_Jx4a65c_size_8abf5 tw_485 (recv_ (T := ((J, L, I, P, E, N), sgX g ++ dy)) C hW (mx_ rfl) (cel_list rfl) rfl) ⟨rfl, rfl, Nat.le_of_ble_eq_true rfl, Nat.le_of_ble_eq_true rfl⟩ rfl hl.1 rfl (Nat.le_of_ble_eq_true rfl) dX11_inForce_11 ⟨Nat.le_of_ble_eq_true rfl, Nat.le_of_ble_eq_true rfl⟩) (fun r12 u12 H locs hp12 hW => ?_)
        have hc12 : ((r12 = J 25 2)) := hp12
        clear hp12
        have hr12 : r12 = J 25 2 := hc12
        refine lv_as (J 25 2) hr12 ?_
        have hW : WB g A s.heap H locs (J, L, I, P, E, N) (sgX g ++ dy) := hW
        refine lv_icmp_ge (tgt := 77) hx hb dX11_inForce_14 (by decide) (fun c13 => ?_) (fun c13 => ?_)
        · have c13 : (J 25 2).toInt ≤ m4.toInt := tle rfl rfl c13
          refine lv_aload_n hx hb dX11_inForce_77 rfl (lv_at hl 1 rfl) ?_
          exact end_q (v := some oq1) C hr (Or.inl ⟨_, rfl⟩) hlocks () hW (Or.inr ⟨_, rfl, mq1⟩) dX11_inForce_78
        · have c13 : m4.toInt < (J 25 2).toInt := tnle rfl rfl c13
          refine lv_aload_n hx hb dX11_inForce_17 rfl (lv_at hl 2 rfl) ?_
          refine rg_12_3 C hW (mx_ rfl) tw_367 dX11_inForce_18 ?_
          refine lv_iload hx hb dX11_inForce_21 (lv_at hl 0 rfl) ?_
          refine cq_ C hW (runV (x := (g.2.2.1 25)) (As := [.int m4]) (rest := []) (T := ((J, L, I, P, E, N), sgX g ++ dy)) C hW ((c_Jx4a65c_get_915e3 10) l g J L I P E N dy H.size 25 rfl m4 (show LWF g J P E N dy 25 10 from hwf.2.1.2.1) (show 0 ≤ m4.toInt ∧ m4.toInt < (J 25 2).toInt from by omega)) mi_Jx4a65c_get_915e3 tw_618 (recv_ (T := ((J, L, I, P, E, N), sgX g ++ dy)) C hW (mx_ rfl) (cel_list rfl) rfl) ⟨rfl, rfl, Nat.le_of_ble_eq_true rfl, Nat.le_of_ble_eq_true rfl⟩ rfl hl.1 rfl (Nat.le_of_ble_eq_true rfl) dX11_inForce_23 ⟨Nat.le_of_ble_eq_true rfl, Nat.le_of_ble_eq_true rfl⟩) (fun q14 u14 H locs hp14 hW => ?_)
          have hq14 : (q14 = some (elt E P 25 m4.toNatClampNeg)) := hp14
          clear hp14
          have hW : WB g A s.heap H locs (J, L, I, P, E, N) (sgX g ++ dy) := hW
          subst hq14
          obtain ⟨o14, ho14⟩ : ∃ z : Nat, z = elt E P 25 m4.toNatClampNeg := ⟨_, rfl⟩
          have hm14 : (10, o14) ∈ dy := by rw [ho14]; exact (lw_mem (er := 10) hwf.2.1.2.1 (show (m4.toNatClampNeg : Int) < (J 25 2).toInt from by have := tcl m4; omega))
          refine lv_asv (v' := .ref o14) (by rw [ho14]; rfl) ?_
          refine g_cast C hW (List.mem_append_right _ hm14) rfl rfl tw_662 dX11_inForce_26 ?_
          refine lv_astore (lv' := [(5, .ref o14), (4, .int m4), (3, .ref oq1), (0, .ref (g.2.2.1 12)), (1, .int a0), (2, .int a1)]) hx hb dX11_inForce_29 hl (by decide) rfl (fun ls hl => ?_)
          refine lv_aload hx hb dX11_inForce_31 (lv_at hl 0 rfl) ?_
          refine rg_10_0 C hW (List.mem_append_right _ hm14) tw_801 dX11_inForce_33 ?_
          refine lv_topi (fun x15 (e15 : x15 = I 10 0 o14) => ?_)
          have t15 : x15.toInt = (I 10 0 o14).toInt := by rw [e15]
          refine lv_iload_n hx hb dX11_inForce_36 rfl (lv_at hl 4 rfl) ?_
          refine lv_icmp_ne (tgt := 71) hx hb dX11_inForce_37 (by decide) (fun c16 => ?_) (fun c16 => ?_)
          · have c16 : ¬ x15.toInt = a0.toInt := tne rfl rfl c16
            obtain ⟨x17, e17⟩ : ∃ y : Int32, y = m4 + 1 := ⟨_, rfl⟩
            refine lv_iinc (v := x17) (lv' := [(4, .int x17), (5, .ref o14), (3, .ref oq1), (0, .ref (g.2.2.1 12)), (1, .int a0), (2, .int a1)]) hx hb dX11_inForce_71 hl (k := 1) rfl (by rw [e17]; rfl) (by decide) rfl (fun ls hl => ?_)
            try have t17 : x17.toInt = m4.toInt + 1 := tadd e17 rfl kp1 (by omega)
            refine lv_goto (tgt := 5) hx hb dX11_inForce_74 (by decide) ?_
            refine ih x17 (some oq1) H locs ls ?_ ?_ ?_ hW (lv_sub hl [0, 2, 3, 4, 5] rfl)
            · show ((J 25 2).toInt - x17.toInt).toNat < n
              omega
            · show 0 ≤ x17.toInt
              first | omega | exact hi | assumption
            · show (some oq1) = none ∨ (∃ o9 : Nat, (some oq1) = some o9 ∧ (10, o9) ∈ dy)
              exact Or.inr ⟨_, rfl, mq1⟩
          · have c16 : x15.toInt = a0.toInt := teq rfl rfl c16
            refine lv_aload hx hb dX11_inForce_40 (lv_at hl 0 rfl) ?_
            refine rg_10_1 C hW (List.mem_append_right _ hm14) tw_803 dX11_inForce_42 ?_
            refine lv_topi (fun x18 (e18 : x18 = I 10 1 o14) => ?_)
            have t18 : x18.toInt = (I 10 1 o14).toInt := by rw [e18]
            refine lv_iload_n hx hb dX11_inForce_45 rfl (lv_at hl 5 rfl) ?_
            refine lv_icmp_le (tgt := 52) hx hb dX11_inForce_46 (by decide) (fun c19 => ?_) (fun c19 => ?_)
            · have c19 : x18.toInt ≤ a1.toInt := tle rfl rfl c19
              refine lv_aload_n hx hb dX11_inForce_52 rfl (lv_at hl 2 rfl) ?_
              refine lv_ifnull hx hb dX11_inForce_53 ?_
              refine lv_aload hx hb dX11_inForce_56 (lv_at hl 0 rfl) ?_
              refine rg_10_1 C hW (List.mem_append_right _ hm14) tw_803 dX11_inForce_58 ?_
              refine lv_topi (fun x20 (e20 : x20 = I 10 1 o14) => ?_)
              have t20 : x20.toInt = (I 10 1 o14).toInt := by rw [e20]
              refine lv_aload_n hx hb dX11_inForce_61 rfl (lv_at hl 2 rfl) ?_
              refine rg_10_1 C hW (List.mem_append_right _ mq1) tw_803 dX11_inForce_62 ?_
              refine lv_topi (fun x21 (e21 : x21 = I 10 1 oq1) => ?_)
              have t21 : x21.toInt = (I 10 1 oq1).toInt := by rw [e21]
              refine lv_icmp_lt (tgt := 71) hx hb dX11_inForce_65 (by decide) (fun c22 => ?_) (fun c22 => ?_)
              · have c22 : x20.toInt < x21.toInt := tlt rfl rfl c22
                obtain ⟨x23, e23⟩ : ∃ y : Int32, y = m4 + 1 := ⟨_, rfl⟩
                refine lv_iinc (v := x23) (lv' := [(4, .int x23), (5, .ref o14), (3, .ref oq1), (0, .ref (g.2.2.1 12)), (1, .int a0), (2, .int a1)]) hx hb dX11_inForce_71 hl (k := 1) rfl (by rw [e23]; rfl) (by decide) rfl (fun ls hl => ?_)
                try have t23 : x23.toInt = m4.toInt + 1 := tadd e23 rfl kp1 (by omega)
                refine lv_goto (tgt := 5) hx hb dX11_inForce_74 (by decide) ?_
                refine ih x23 (some oq1) H locs ls ?_ ?_ ?_ hW (lv_sub hl [0, 2, 3, 4, 5] rfl)
                · show ((J 25 2).toInt - x23.toInt).toNat < n
                  omega
                · show 0 ≤ x23.toInt
                  first | omega | exact hi | assumption
                · show (some oq1) = none ∨ (∃ o9 : Nat, (some oq1) = some o9 ∧ (10, o9) ∈ dy)
                  exact Or.inr ⟨_, rfl, mq1⟩
              · have c22 : x21.toInt ≤ x20.toInt := tnlt rfl rfl c22
                refine lv_aload hx hb dX11_inForce_68 (lv_at hl 0 rfl) ?_
                refine lv_astore_n (lv' := [(3, .ref o14), (5, .ref o14), (4, .int m4), (0, .ref (g.2.2.1 12)), (1, .int a0), (2, .int a1)]) hx hb dX11_inForce_70 rfl hl (by decide) rfl (fun ls hl => ?_)
                obtain ⟨x24, e24⟩ : ∃ y : Int32, y = m4 + 1 := ⟨_, rfl⟩
                refine lv_iinc (v := x24) (lv' := [(4, .int x24), (3, .ref o14), (5, .ref o14), (0, .ref (g.2.2.1 12)), (1, .int a0), (2, .int a1)]) hx hb dX11_inForce_71 hl (k := 2) rfl (by rw [e24]; rfl) (by decide) rfl (fun ls hl => ?_)
                try have t24 : x24.toInt = m4.toInt + 1 := tadd e24 rfl kp1 (by omega)
                refine lv_goto (tgt := 5) hx hb dX11_inForce_74 (by decide) ?_
                refine ih x24 (some o14) H locs ls ?_ ?_ ?_ hW (lv_sub hl [0, 1, 3, 4, 5] rfl)
                · show ((J 25 2).toInt - x24.toInt).toNat < n
                  omega
                · show 0 ≤ x24.toInt
                  first | omega | exact hi | assumption
                · show (some o14) = none ∨ (∃ o9 : Nat, (some o14) = some o9 ∧ (10, o9) ∈ dy)
                  exact Or.inr ⟨_, rfl, hm14⟩
            · have c19 : a1.toInt < x18.toInt := tnle rfl rfl c19
              refine lv_goto (tgt := 71) hx hb dX11_inForce_49 (by decide) ?_
              obtain ⟨x25, e25⟩ : ∃ y : Int32, y = m4 + 1 := ⟨_, rfl⟩
              refine lv_iinc (v := x25) (lv' := [(4, .int x25), (5, .ref o14), (3, .ref oq1), (0, .ref (g.2.2.1 12)), (1, .int a0), (2, .int a1)]) hx hb dX11_inForce_71 hl (k := 1) rfl (by rw [e25]; rfl) (by decide) rfl (fun ls hl => ?_)
              try have t25 : x25.toInt = m4.toInt + 1 := tadd e25 rfl kp1 (by omega)
              refine lv_goto (tgt := 5) hx hb dX11_inForce_74 (by decide) ?_
              refine ih x25 (some oq1) H locs ls ?_ ?_ ?_ hW (lv_sub hl [0, 2, 3, 4, 5] rfl)
              · show ((J 25 2).toInt - x25.toInt).toNat < n
                omega
              · show 0 ≤ x25.toInt
                first | omega | exact hi | assumption
              · show (some oq1) = none ∨ (∃ o9 : Nat, (some oq1) = some o9 ∧ (10, o9) ∈ dy)
                exact Or.inr ⟨_, rfl, mq1⟩
  -- into the loop
  refine loop5 (((J 25 2).toInt - (0 : Int32).toInt).toNat + 1) 0 (none : Option Nat) H locs ls ?_ ?_ ?_ hW (lv_sub hl [0, 1, 2, 3, 4] rfl)
  · exact Nat.lt_succ_self _
  · show 0 ≤ (0 : Int32).toInt
    try rw [kp0]
    first | omega | exact hi | assumption
  · show (none : Option Nat) = none ∨ (∃ o9 : Nat, (none : Option Nat) = some o9 ∧ (10, o9) ∈ dy)
    try rw [kp0]
    exact Or.inl rfl
