theorem dX7_work_0 : decode cX7_work 0 = .ok (.iload_n 0, 1) := dk_iload_n_0 (by decide +kernel)
theorem dX7_work_1 : decode cX7_work 1 = .ok (.tableswitch 145 42 61 #[103, 95, 145, 99, 145, 107, 145, 145, 145, 145, 145, 145, 145, 145, 145, 145, 145, 145, 121, 133], 95) := by decide +kernel
theorem dX7_work_96 : decode cX7_work 96 = .ok (.lload_n 1, 1) := dk_lload_n_1 (by decide +kernel)
theorem dX7_work_97 : decode cX7_work 97 = .ok (.lload_n 3, 1) := dk_lload_n_3 (by decide +kernel)
theorem dX7_work_98 : decode cX7_work 98 = .ok (.ladd, 1) := dk_ladd (by decide +kernel)
theorem dX7_work_99 : decode cX7_work 99 = .ok (.lreturn, 1) := dk_lreturn (by decide +kernel)
theorem dX7_work_100 : decode cX7_work 100 = .ok (.lload_n 1, 1) := dk_lload_n_1 (by decide +kernel)
theorem dX7_work_101 : decode cX7_work 101 = .ok (.lload_n 3, 1) := dk_lload_n_3 (by decide +kernel)
theorem dX7_work_102 : decode cX7_work 102 = .ok (.lsub, 1) := dk_lsub (by decide +kernel)
theorem dX7_work_103 : decode cX7_work 103 = .ok (.lreturn, 1) := dk_lreturn (by decide +kernel)
theorem dX7_work_104 : decode cX7_work 104 = .ok (.lload_n 1, 1) := dk_lload_n_1 (by decide +kernel)
theorem dX7_work_105 : decode cX7_work 105 = .ok (.lload_n 3, 1) := dk_lload_n_3 (by decide +kernel)
theorem dX7_work_106 : decode cX7_work 106 = .ok (.lmul, 1) := dk_lmul (by decide +kernel)
theorem dX7_work_107 : decode cX7_work 107 = .ok (.lreturn, 1) := dk_lreturn (by decide +kernel)
theorem dX7_work_108 : decode cX7_work 108 = .ok (.lload_n 3, 1) := dk_lload_n_3 (by decide +kernel)
theorem dX7_work_109 : decode cX7_work 109 = .ok (.lconst 0, 1) := dk_lconst_0 (by decide +kernel)
theorem dX7_work_110 : decode cX7_work 110 = .ok (.lcmp, 1) := dk_lcmp (by decide +kernel)
theorem dX7_work_111 : decode cX7_work 111 = .ok (.ifCond .ne 7, 3) := dk_ifCond_ne (by decide +kernel)
theorem dX7_work_114 : decode cX7_work 114 = .ok (.lconst 0, 1) := dk_lconst_0 (by decide +kernel)
theorem dX7_work_115 : decode cX7_work 115 = .ok (.goto 6, 3) := dk_goto (by decide +kernel)
theorem dX7_work_118 : decode cX7_work 118 = .ok (.lload_n 1, 1) := dk_lload_n_1 (by decide +kernel)
theorem dX7_work_119 : decode cX7_work 119 = .ok (.lload_n 3, 1) := dk_lload_n_3 (by decide +kernel)
theorem dX7_work_120 : decode cX7_work 120 = .ok (.ldiv, 1) := dk_ldiv (by decide +kernel)
theorem dX7_work_121 : decode cX7_work 121 = .ok (.lreturn, 1) := dk_lreturn (by decide +kernel)
theorem dX7_work_122 : decode cX7_work 122 = .ok (.lload_n 1, 1) := dk_lload_n_1 (by decide +kernel)
theorem dX7_work_123 : decode cX7_work 123 = .ok (.lload_n 3, 1) := dk_lload_n_3 (by decide +kernel)
theorem dX7_work_124 : decode cX7_work 124 = .ok (.lcmp, 1) := dk_lcmp (by decide +kernel)
theorem dX7_work_125 : decode cX7_work 125 = .ok (.ifCond .ge 7, 3) := dk_ifCond_ge (by decide +kernel)
theorem dX7_work_128 : decode cX7_work 128 = .ok (.lconst 1, 1) := dk_lconst_1 (by decide +kernel)
theorem dX7_work_129 : decode cX7_work 129 = .ok (.goto 4, 3) := dk_goto (by decide +kernel)
theorem dX7_work_132 : decode cX7_work 132 = .ok (.lconst 0, 1) := dk_lconst_0 (by decide +kernel)
theorem dX7_work_133 : decode cX7_work 133 = .ok (.lreturn, 1) := dk_lreturn (by decide +kernel)
theorem dX7_work_134 : decode cX7_work 134 = .ok (.lload_n 1, 1) := dk_lload_n_1 (by decide +kernel)
theorem dX7_work_135 : decode cX7_work 135 = .ok (.lload_n 3, 1) := dk_lload_n_3 (by decide +kernel)
theorem dX7_work_136 : decode cX7_work 136 = .ok (.lcmp, 1) := dk_lcmp (by decide +kernel)
theorem dX7_work_137 : decode cX7_work 137 = .ok (.ifCond .ne 7, 3) := dk_ifCond_ne (by decide +kernel)
theorem dX7_work_140 : decode cX7_work 140 = .ok (.lconst 1, 1) := dk_lconst_1 (by decide +kernel)
theorem dX7_work_141 : decode cX7_work 141 = .ok (.goto 4, 3) := dk_goto (by decide +kernel)
theorem dX7_work_144 : decode cX7_work 144 = .ok (.lconst 0, 1) := dk_lconst_0 (by decide +kernel)
theorem dX7_work_145 : decode cX7_work 145 = .ok (.lreturn, 1) := dk_lreturn (by decide +kernel)
theorem dX7_work_146 : decode cX7_work 146 = .ok (.lload_n 1, 1) := dk_lload_n_1 (by decide +kernel)
theorem dX7_work_147 : decode cX7_work 147 = .ok (.lload_n 3, 1) := dk_lload_n_3 (by decide +kernel)
theorem dX7_work_148 : decode cX7_work 148 = .ok (.lcmp, 1) := dk_lcmp (by decide +kernel)
theorem dX7_work_149 : decode cX7_work 149 = .ok (.ifCond .le 7, 3) := dk_ifCond_le (by decide +kernel)
theorem dX7_work_152 : decode cX7_work 152 = .ok (.lconst 1, 1) := dk_lconst_1 (by decide +kernel)
theorem dX7_work_153 : decode cX7_work 153 = .ok (.goto 4, 3) := dk_goto (by decide +kernel)
theorem dX7_work_156 : decode cX7_work 156 = .ok (.lconst 0, 1) := dk_lconst_0 (by decide +kernel)
theorem dX7_work_157 : decode cX7_work 157 = .ok (.lreturn, 1) := dk_lreturn (by decide +kernel)
theorem dX7_join_0 : decode cX7_join 0 = .ok (.aload_n 0, 1) := dk_aload_n_0 (by decide +kernel)
theorem dX7_join_1 : decode cX7_join 1 = .ok (.getfield 15, 3) := dk_getfield (by decide +kernel)
theorem dX7_join_4 : decode cX7_join 4 = .ok (.iconst 2, 1) := dk_iconst_2 (by decide +kernel)
theorem dX7_join_5 : decode cX7_join 5 = .ok (.if_icmp .lt 15, 3) := dk_if_icmp_lt (by decide +kernel)
theorem dX7_join_8 : decode cX7_join 8 = .ok (.aload_n 0, 1) := dk_aload_n_0 (by decide +kernel)
theorem dX7_join_9 : decode cX7_join 9 = .ok (.getfield 15, 3) := dk_getfield (by decide +kernel)
theorem dX7_join_12 : decode cX7_join 12 = .ok (.aload_n 0, 1) := dk_aload_n_0 (by decide +kernel)
theorem dX7_join_13 : decode cX7_join 13 = .ok (.getfield 9, 3) := dk_getfield (by decide +kernel)
theorem dX7_join_16 : decode cX7_join 16 = .ok (.arraylength, 1) := dk_arraylength (by decide +kernel)
theorem dX7_join_17 : decode cX7_join 17 = .ok (.if_icmp .le 4, 3) := dk_if_icmp_le (by decide +kernel)
theorem dX7_join_20 : decode cX7_join 20 = .ok (.return_, 1) := dk_return_ (by decide +kernel)
theorem dX7_join_21 : decode cX7_join 21 = .ok (.iload_n 1, 1) := dk_iload_n_1 (by decide +kernel)
theorem dX7_join_22 : decode cX7_join 22 = .ok (.aload_n 0, 1) := dk_aload_n_0 (by decide +kernel)
theorem dX7_join_23 : decode cX7_join 23 = .ok (.getfield 9, 3) := dk_getfield (by decide +kernel)
theorem dX7_join_26 : decode cX7_join 26 = .ok (.aload_n 0, 1) := dk_aload_n_0 (by decide +kernel)
theorem dX7_join_27 : decode cX7_join 27 = .ok (.getfield 15, 3) := dk_getfield (by decide +kernel)
theorem dX7_join_30 : decode cX7_join 30 = .ok (.iconst 2, 1) := dk_iconst_2 (by decide +kernel)
theorem dX7_join_31 : decode cX7_join 31 = .ok (.isub, 1) := dk_isub (by decide +kernel)
theorem dX7_join_32 : decode cX7_join 32 = .ok (.iaload, 1) := dk_iaload (by decide +kernel)
theorem dX7_join_33 : decode cX7_join 33 = .ok (.i2l, 1) := dk_i2l (by decide +kernel)
theorem dX7_join_34 : decode cX7_join 34 = .ok (.aload_n 0, 1) := dk_aload_n_0 (by decide +kernel)
theorem dX7_join_35 : decode cX7_join 35 = .ok (.getfield 9, 3) := dk_getfield (by decide +kernel)
theorem dX7_join_38 : decode cX7_join 38 = .ok (.aload_n 0, 1) := dk_aload_n_0 (by decide +kernel)
theorem dX7_join_39 : decode cX7_join 39 = .ok (.getfield 15, 3) := dk_getfield (by decide +kernel)
theorem dX7_join_42 : decode cX7_join 42 = .ok (.iconst 1, 1) := dk_iconst_1 (by decide +kernel)
theorem dX7_join_43 : decode cX7_join 43 = .ok (.isub, 1) := dk_isub (by decide +kernel)
theorem dX7_join_44 : decode cX7_join 44 = .ok (.iaload, 1) := dk_iaload (by decide +kernel)
theorem dX7_join_45 : decode cX7_join 45 = .ok (.i2l, 1) := dk_i2l (by decide +kernel)
theorem dX7_join_46 : decode cX7_join 46 = .ok (.invokestatic 60, 3) := dk_invokestatic (by decide +kernel)
theorem dX7_join_49 : decode cX7_join 49 = .ok (.lstore_n 2, 1) := dk_lstore_n_2 (by decide +kernel)
theorem dX7_join_50 : decode cX7_join 50 = .ok (.aload_n 0, 1) := dk_aload_n_0 (by decide +kernel)
theorem dX7_join_51 : decode cX7_join 51 = .ok (.dup, 1) := dk_dup (by decide +kernel)
theorem dX7_join_52 : decode cX7_join 52 = .ok (.getfield 15, 3) := dk_getfield (by decide +kernel)
theorem dX7_join_55 : decode cX7_join 55 = .ok (.iconst 1, 1) := dk_iconst_1 (by decide +kernel)
theorem dX7_join_56 : decode cX7_join 56 = .ok (.isub, 1) := dk_isub (by decide +kernel)
theorem dX7_join_57 : decode cX7_join 57 = .ok (.putfield 15, 3) := dk_putfield (by decide +kernel)
theorem dX7_join_60 : decode cX7_join 60 = .ok (.aload_n 0, 1) := dk_aload_n_0 (by decide +kernel)
theorem dX7_join_61 : decode cX7_join 61 = .ok (.getfield 9, 3) := dk_getfield (by decide +kernel)
theorem dX7_join_64 : decode cX7_join 64 = .ok (.aload_n 0, 1) := dk_aload_n_0 (by decide +kernel)
theorem dX7_join_65 : decode cX7_join 65 = .ok (.getfield 15, 3) := dk_getfield (by decide +kernel)
theorem dX7_join_68 : decode cX7_join 68 = .ok (.iconst 1, 1) := dk_iconst_1 (by decide +kernel)
theorem dX7_join_69 : decode cX7_join 69 = .ok (.isub, 1) := dk_isub (by decide +kernel)
theorem dX7_join_70 : decode cX7_join 70 = .ok (.ldc2_w 64, 3) := dk_ldc2_w (by decide +kernel)
theorem dX7_join_73 : decode cX7_join 73 = .ok (.ldc2_w 66, 3) := dk_ldc2_w (by decide +kernel)
theorem dX7_join_76 : decode cX7_join 76 = .ok (.lload_n 2, 1) := dk_lload_n_2 (by decide +kernel)
theorem dX7_join_77 : decode cX7_join 77 = .ok (.invokestatic 68, 3) := dk_invokestatic (by decide +kernel)
theorem dX7_join_80 : decode cX7_join 80 = .ok (.invokestatic 74, 3) := dk_invokestatic (by decide +kernel)
theorem dX7_join_83 : decode cX7_join 83 = .ok (.l2i, 1) := dk_l2i (by decide +kernel)
theorem dX7_join_84 : decode cX7_join 84 = .ok (.iastore, 1) := dk_iastore (by decide +kernel)
theorem dX7_join_85 : decode cX7_join 85 = .ok (.return_, 1) := dk_return_ (by decide +kernel)
theorem dX11_check_0 : decode cX11_check 0 = .ok (.iload_n 1, 1) := dk_iload_n_1 (by decide +kernel)
theorem dX11_check_1 : decode cX11_check 1 = .ok (.ifCond .lt 30, 3) := dk_ifCond_lt (by decide +kernel)
theorem dX11_check_4 : decode cX11_check 4 = .ok (.iload_n 1, 1) := dk_iload_n_1 (by decide +kernel)
theorem dX11_check_5 : decode cX11_check 5 = .ok (.aload_n 0, 1) := dk_aload_n_0 (by decide +kernel)
theorem dX11_check_6 : decode cX11_check 6 = .ok (.getfield 19, 3) := dk_getfield (by decide +kernel)
theorem dX11_check_9 : decode cX11_check 9 = .ok (.getfield 71, 3) := dk_getfield (by decide +kernel)
theorem dX11_check_12 : decode cX11_check 12 = .ok (.if_icmp .ge 19, 3) := dk_if_icmp_ge (by decide +kernel)
theorem dX11_check_15 : decode cX11_check 15 = .ok (.aload_n 0, 1) := dk_aload_n_0 (by decide +kernel)
theorem dX11_check_16 : decode cX11_check 16 = .ok (.getfield 315, 3) := dk_getfield (by decide +kernel)
theorem dX11_check_19 : decode cX11_check 19 = .ok (.aload_n 0, 1) := dk_aload_n_0 (by decide +kernel)
theorem dX11_check_20 : decode cX11_check 20 = .ok (.getfield 19, 3) := dk_getfield (by decide +kernel)
theorem dX11_check_23 : decode cX11_check 23 = .ok (.getfield 71, 3) := dk_getfield (by decide +kernel)
theorem dX11_check_26 : decode cX11_check 26 = .ok (.iload_n 1, 1) := dk_iload_n_1 (by decide +kernel)
theorem dX11_check_27 : decode cX11_check 27 = .ok (.isub, 1) := dk_isub (by decide +kernel)
theorem dX11_check_28 : decode cX11_check 28 = .ok (.if_icmp .le 9, 3) := dk_if_icmp_le (by decide +kernel)
theorem dX11_check_31 : decode cX11_check 31 = .ok (.aload_n 0, 1) := dk_aload_n_0 (by decide +kernel)
theorem dX11_check_32 : decode cX11_check 32 = .ok (.iconst (-1), 1) := dk_iconst_m1 (by decide +kernel)
theorem dX11_check_33 : decode cX11_check 33 = .ok (.invokevirtual 67, 3) := dk_invokevirtual (by decide +kernel)
theorem dX11_check_36 : decode cX11_check 36 = .ok (.ireturn, 1) := dk_ireturn (by decide +kernel)
theorem dX11_check_37 : decode cX11_check 37 = .ok (.aload_n 0, 1) := dk_aload_n_0 (by decide +kernel)
theorem dX11_check_38 : decode cX11_check 38 = .ok (.getfield 315, 3) := dk_getfield (by decide +kernel)
theorem dX11_check_41 : decode cX11_check 41 = .ok (.istore_n 2, 1) := dk_istore_n_2 (by decide +kernel)
theorem dX11_check_42 : decode cX11_check 42 = .ok (.aload_n 0, 1) := dk_aload_n_0 (by decide +kernel)
theorem dX11_check_43 : decode cX11_check 43 = .ok (.iconst 0, 1) := dk_iconst_0 (by decide +kernel)
theorem dX11_check_44 : decode cX11_check 44 = .ok (.putfield 315, 3) := dk_putfield (by decide +kernel)
theorem dX11_check_47 : decode cX11_check 47 = .ok (.iconst 0, 1) := dk_iconst_0 (by decide +kernel)
theorem dX11_check_48 : decode cX11_check 48 = .ok (.istore_n 3, 1) := dk_istore_n_3 (by decide +kernel)
theorem dX11_check_49 : decode cX11_check 49 = .ok (.iload_n 3, 1) := dk_iload_n_3 (by decide +kernel)
theorem dX11_check_50 : decode cX11_check 50 = .ok (.iload_n 2, 1) := dk_iload_n_2 (by decide +kernel)
theorem dX11_check_51 : decode cX11_check 51 = .ok (.if_icmp .ge 51, 3) := dk_if_icmp_ge (by decide +kernel)
theorem dX11_check_54 : decode cX11_check 54 = .ok (.iload_n 3, 1) := dk_iload_n_3 (by decide +kernel)
theorem dX11_check_55 : decode cX11_check 55 = .ok (.aload_n 0, 1) := dk_aload_n_0 (by decide +kernel)
theorem dX11_check_56 : decode cX11_check 56 = .ok (.getfield 54, 3) := dk_getfield (by decide +kernel)
theorem dX11_check_59 : decode cX11_check 59 = .ok (.arraylength, 1) := dk_arraylength (by decide +kernel)
theorem dX11_check_60 : decode cX11_check 60 = .ok (.if_icmp .ge 42, 3) := dk_if_icmp_ge (by decide +kernel)
theorem dX11_check_63 : decode cX11_check 63 = .ok (.aload_n 0, 1) := dk_aload_n_0 (by decide +kernel)
theorem dX11_check_64 : decode cX11_check 64 = .ok (.getfield 19, 3) := dk_getfield (by decide +kernel)
theorem dX11_check_67 : decode cX11_check 67 = .ok (.iload_n 1, 1) := dk_iload_n_1 (by decide +kernel)
theorem dX11_check_68 : decode cX11_check 68 = .ok (.iload_n 3, 1) := dk_iload_n_3 (by decide +kernel)
theorem dX11_check_69 : decode cX11_check 69 = .ok (.iadd, 1) := dk_iadd (by decide +kernel)
theorem dX11_check_70 : decode cX11_check 70 = .ok (.invokevirtual 192, 3) := dk_invokevirtual (by decide +kernel)
theorem dX11_check_73 : decode cX11_check 73 = .ok (.astore 4, 2) := dk_astore (by decide +kernel)
theorem dX11_check_75 : decode cX11_check 75 = .ok (.aload 4, 2) := dk_aload (by decide +kernel)
theorem dX11_check_77 : decode cX11_check 77 = .ok (.ifnull 17, 3) := dk_ifnull (by decide +kernel)
theorem dX11_check_80 : decode cX11_check 80 = .ok (.aload 4, 2) := dk_aload (by decide +kernel)
theorem dX11_check_82 : decode cX11_check 82 = .ok (.getfield 196, 3) := dk_getfield (by decide +kernel)
theorem dX11_check_85 : decode cX11_check 85 = .ok (.aload_n 0, 1) := dk_aload_n_0 (by decide +kernel)
theorem dX11_check_86 : decode cX11_check 86 = .ok (.getfield 54, 3) := dk_getfield (by decide +kernel)
theorem dX11_check_89 : decode cX11_check 89 = .ok (.iload_n 3, 1) := dk_iload_n_3 (by decide +kernel)
theorem dX11_check_90 : decode cX11_check 90 = .ok (.iaload, 1) := dk_iaload (by decide +kernel)
theorem dX11_check_91 : decode cX11_check 91 = .ok (.if_icmp .eq 5, 3) := dk_if_icmp_eq (by decide +kernel)
theorem dX11_check_94 : decode cX11_check 94 = .ok (.iload_n 3, 1) := dk_iload_n_3 (by decide +kernel)
theorem dX11_check_95 : decode cX11_check 95 = .ok (.ireturn, 1) := dk_ireturn (by decide +kernel)
theorem dX11_check_96 : decode cX11_check 96 = .ok (.iinc 3 1, 3) := dk_iinc (by decide +kernel)
theorem dX11_check_99 : decode cX11_check 99 = .ok (.goto (-50), 3) := dk_goto (by decide +kernel)
theorem dX11_check_102 : decode cX11_check 102 = .ok (.bipush (-9), 2) := dk_bipush (by decide +kernel)
theorem dX11_check_104 : decode cX11_check 104 = .ok (.ireturn, 1) := dk_ireturn (by decide +kernel)
theorem dX3_addListener_0 : decode cX3_addListener 0 = .ok (.iconst 0, 1) := dk_iconst_0 (by decide +kernel)
theorem dX3_addListener_1 : decode cX3_addListener 1 = .ok (.istore 4, 2) := dk_istore (by decide +kernel)
theorem dX3_addListener_3 : decode cX3_addListener 3 = .ok (.iload 4, 2) := dk_iload (by decide +kernel)
theorem dX3_addListener_5 : decode cX3_addListener 5 = .ok (.aload_n 0, 1) := dk_aload_n_0 (by decide +kernel)
theorem dX3_addListener_6 : decode cX3_addListener 6 = .ok (.getfield 31, 3) := dk_getfield (by decide +kernel)
theorem dX3_addListener_9 : decode cX3_addListener 9 = .ok (.arraylength, 1) := dk_arraylength (by decide +kernel)
theorem dX3_addListener_10 : decode cX3_addListener 10 = .ok (.if_icmp .ge 33, 3) := dk_if_icmp_ge (by decide +kernel)
theorem dX3_addListener_13 : decode cX3_addListener 13 = .ok (.aload_n 0, 1) := dk_aload_n_0 (by decide +kernel)
theorem dX3_addListener_14 : decode cX3_addListener 14 = .ok (.getfield 31, 3) := dk_getfield (by decide +kernel)
theorem dX3_addListener_17 : decode cX3_addListener 17 = .ok (.iload 4, 2) := dk_iload (by decide +kernel)
theorem dX3_addListener_19 : decode cX3_addListener 19 = .ok (.dup2, 1) := dk_dup2 (by decide +kernel)
theorem dX3_addListener_20 : decode cX3_addListener 20 = .ok (.laload, 1) := dk_laload (by decide +kernel)
theorem dX3_addListener_21 : decode cX3_addListener 21 = .ok (.iload_n 1, 1) := dk_iload_n_1 (by decide +kernel)
theorem dX3_addListener_22 : decode cX3_addListener 22 = .ok (.iload 4, 2) := dk_iload (by decide +kernel)
theorem dX3_addListener_24 : decode cX3_addListener 24 = .ok (.ishr, 1) := dk_ishr (by decide +kernel)
theorem dX3_addListener_25 : decode cX3_addListener 25 = .ok (.iconst 1, 1) := dk_iconst_1 (by decide +kernel)
theorem dX3_addListener_26 : decode cX3_addListener 26 = .ok (.iand, 1) := dk_iand (by decide +kernel)
theorem dX3_addListener_27 : decode cX3_addListener 27 = .ok (.ifCond .eq 7, 3) := dk_ifCond_eq (by decide +kernel)
theorem dX3_addListener_30 : decode cX3_addListener 30 = .ok (.lload_n 2, 1) := dk_lload_n_2 (by decide +kernel)
theorem dX3_addListener_31 : decode cX3_addListener 31 = .ok (.goto 4, 3) := dk_goto (by decide +kernel)
theorem dX3_addListener_34 : decode cX3_addListener 34 = .ok (.lconst 0, 1) := dk_lconst_0 (by decide +kernel)
theorem dX3_addListener_35 : decode cX3_addListener 35 = .ok (.lor, 1) := dk_lor (by decide +kernel)
theorem dX3_addListener_36 : decode cX3_addListener 36 = .ok (.lastore, 1) := dk_lastore (by decide +kernel)
theorem dX3_addListener_37 : decode cX3_addListener 37 = .ok (.iinc 4 1, 3) := dk_iinc (by decide +kernel)
theorem dX3_addListener_40 : decode cX3_addListener 40 = .ok (.goto (-37), 3) := dk_goto (by decide +kernel)
theorem dX3_addListener_43 : decode cX3_addListener 43 = .ok (.return_, 1) := dk_return_ (by decide +kernel)
theorem dX11_complain_0 : decode cX11_complain 0 = .ok (.aload_n 0, 1) := dk_aload_n_0 (by decide +kernel)
theorem dX11_complain_1 : decode cX11_complain 1 = .ok (.getfield 10, 3) := dk_getfield (by decide +kernel)
theorem dX11_complain_4 : decode cX11_complain 4 = .ok (.iload_n 1, 1) := dk_iload_n_1 (by decide +kernel)
theorem dX11_complain_5 : decode cX11_complain 5 = .ok (.invokevirtual 141, 3) := dk_invokevirtual (by decide +kernel)
theorem dX11_complain_8 : decode cX11_complain 8 = .ok (.astore_n 3, 1) := dk_astore_n_3 (by decide +kernel)
theorem dX11_complain_9 : decode cX11_complain 9 = .ok (.aload_n 3, 1) := dk_aload_n_3 (by decide +kernel)
theorem dX11_complain_10 : decode cX11_complain 10 = .ok (.ifnonnull 9, 3) := dk_ifnonnull (by decide +kernel)
theorem dX11_complain_13 : decode cX11_complain 13 = .ok (.aload_n 0, 1) := dk_aload_n_0 (by decide +kernel)
theorem dX11_complain_14 : decode cX11_complain 14 = .ok (.iconst (-1), 1) := dk_iconst_m1 (by decide +kernel)
theorem dX11_complain_15 : decode cX11_complain 15 = .ok (.invokevirtual 67, 3) := dk_invokevirtual (by decide +kernel)
theorem dX11_complain_18 : decode cX11_complain 18 = .ok (.ireturn, 1) := dk_ireturn (by decide +kernel)
theorem dX11_complain_19 : decode cX11_complain 19 = .ok (.aload_n 3, 1) := dk_aload_n_3 (by decide +kernel)
theorem dX11_complain_20 : decode cX11_complain 20 = .ok (.getfield 257, 3) := dk_getfield (by decide +kernel)
theorem dX11_complain_23 : decode cX11_complain 23 = .ok (.iload_n 2, 1) := dk_iload_n_2 (by decide +kernel)
theorem dX11_complain_24 : decode cX11_complain 24 = .ok (.if_icmp .ne 5, 3) := dk_if_icmp_ne (by decide +kernel)
theorem dX11_complain_27 : decode cX11_complain 27 = .ok (.iconst 0, 1) := dk_iconst_0 (by decide +kernel)
theorem dX11_complain_28 : decode cX11_complain 28 = .ok (.ireturn, 1) := dk_ireturn (by decide +kernel)
theorem dX11_complain_29 : decode cX11_complain 29 = .ok (.aload_n 3, 1) := dk_aload_n_3 (by decide +kernel)
theorem dX11_complain_30 : decode cX11_complain 30 = .ok (.iload_n 2, 1) := dk_iload_n_2 (by decide +kernel)
theorem dX11_complain_31 : decode cX11_complain 31 = .ok (.putfield 257, 3) := dk_putfield (by decide +kernel)
theorem dX11_complain_34 : decode cX11_complain 34 = .ok (.iconst 1, 1) := dk_iconst_1 (by decide +kernel)
theorem dX11_complain_35 : decode cX11_complain 35 = .ok (.ireturn, 1) := dk_ireturn (by decide +kernel)
set_option maxHeartbeats 4000000 in
set_option maxRecDepth 100000 in
theorem c_X7_work (l : Launch) (g : gG) (J : Nat → Nat → Int32) (L : Nat → Nat → Int64) (I : Nat → Nat → Nat → Int32) (P : Nat → Nat → Nat → Option Nat) (E : Nat → Option Nat) (N : Nat → Nat) (dy : List (Nat × Nat)) (sz : Nat) (a0 : Int32) (a1 : Int64) (a2 : Int64)  : Met l yX7_work (WS yX7_work cX7_work 5 (some .long)) (RM (1) 0 0) (PC g [.int a0, .long a1, .long a2] ((J, L, I, P, E, N), sgX g ++ dy) sz) (va_Ql (fun (r : Int64) (u : Unit) => True) (fun u t => at_ g (FR g ((J, L, I, P, E, N), sgX g ++ dy) sz) ((J, L, I, P, E, N), sgX g ++ dy) t) (FR g ((J, L, I, P, E, N), sgX g ++ dy) sz)) 0 0 (FR g ((J, L, I, P, E, N), sgX g ++ dy) sz) := by
  refine ent (by decide +kernel) (Nat.le_of_ble_eq_true rfl) ?_
  intro p e s m below meth c ls hsz C hW hr hlocks hname hl
  generalize FR g ((J, L, I, P, E, N), sgX g ++ dy) sz = A at C hW ⊢
  have hx := C.1.1
  have hb := C.1.2.1
  have hts := C.1.2.2.2.2
  have hl : lv_has ls 5 [(0, .int a0), (1, .long a1), (3, .long a2)] := hl
  obtain ⟨H, hH⟩ : ∃ H : Heap, H = s.heap := ⟨_, rfl⟩
  obtain ⟨locs, hlocs⟩ : ∃ q : List Loc, q = [] := ⟨_, rfl⟩
  have hW : WB g A s.heap H locs (J, L, I, P, E, N) (sgX g ++ dy) := by rw [hH, hlocs]; exact hW
  refine start_ hH hlocs ?_
  refine lv_iload_n hx hb dX7_work_0 rfl (lv_at hl 0 rfl) ?_
  rcases Int.lt_or_le a0.toInt 42 with c1 | c1
  · refine lv_tableOut (tgt := 146) hx hb dX7_work_1 (Or.inl c1) (by decide) ?_
    refine lv_lload_n hx hb dX7_work_146 rfl (lv_at hl 1 rfl) ?_
    refine lv_lload_n hx hb dX7_work_147 rfl (lv_at hl 2 rfl) ?_
    refine W.lcmp hx hb dX7_work_148 ?_
    refine lv_topi (fun x2 (e2 : x2 = lg_cmp a1 a2) => ?_)
    refine lv_if_le (tgt := 156) hx hb dX7_work_149 (by decide) (fun c3 => ?_) (fun c3 => ?_)
    · have c3 : x2.toInt ≤ 0 := tle rfl kp0 c3
      refine lv_lconst (v := 0) hx hb dX7_work_156 (by decide) ?_
      exact end_l C hr hlocks () hW trivial dX7_work_157
    · have c3 : 0 < x2.toInt := tnle rfl kp0 c3
      refine lv_lconst (v := 1) hx hb dX7_work_152 (by decide) ?_
      refine lv_goto (tgt := 157) hx hb dX7_work_153 (by decide) ?_
      exact end_l C hr hlocks () hW trivial dX7_work_157
  · rcases Int.lt_or_le 61 a0.toInt with c1b | c1b
    · refine lv_tableOut (tgt := 146) hx hb dX7_work_1 (Or.inr c1b) (by decide) ?_
      refine lv_lload_n hx hb dX7_work_146 rfl (lv_at hl 1 rfl) ?_
      refine lv_lload_n hx hb dX7_work_147 rfl (lv_at hl 2 rfl) ?_
      refine W.lcmp hx hb dX7_work_148 ?_
      refine lv_topi (fun x4 (e4 : x4 = lg_cmp a1 a2) => ?_)
      refine lv_if_le (tgt := 156) hx hb dX7_work_149 (by decide) (fun c5 => ?_) (fun c5 => ?_)
      · have c5 : x4.toInt ≤ 0 := tle rfl kp0 c5
        refine lv_lconst (v := 0) hx hb dX7_work_156 (by decide) ?_
        exact end_l C hr hlocks () hW trivial dX7_work_157
      · have c5 : 0 < x4.toInt := tnle rfl kp0 c5
        refine lv_lconst (v := 1) hx hb dX7_work_152 (by decide) ?_
        refine lv_goto (tgt := 157) hx hb dX7_work_153 (by decide) ?_
        exact end_l C hr hlocks () hW trivial dX7_work_157
    · rcases (show a0.toInt = 42 ∨ a0.toInt = 43 ∨ a0.toInt = 44 ∨ a0.toInt = 45 ∨ a0.toInt = 46 ∨ a0.toInt = 47 ∨ a0.toInt = 48 ∨ a0.toInt = 49 ∨ a0.toInt = 50 ∨ a0.toInt = 51 ∨ a0.toInt = 52 ∨ a0.toInt = 53 ∨ a0.toInt = 54 ∨ a0.toInt = 55 ∨ a0.toInt = 56 ∨ a0.toInt = 57 ∨ a0.toInt = 58 ∨ a0.toInt = 59 ∨ a0.toInt = 60 ∨ a0.toInt = 61 by omega) with c1k | c1k | c1k | c1k | c1k | c1k | c1k | c1k | c1k | c1k | c1k | c1k | c1k | c1k | c1k | c1k | c1k | c1k | c1k | c1k
      · refine lv_tableIn (off := 103) (tgt := 104) hx hb dX7_work_1 (Int.not_lt.mpr c1) (Int.not_lt.mpr c1b) (by rw [c1k]; rfl) (by decide) ?_
        refine lv_lload_n hx hb dX7_work_104 rfl (lv_at hl 1 rfl) ?_
        refine lv_lload_n hx hb dX7_work_105 rfl (lv_at hl 2 rfl) ?_
        refine lv_lmul hx hb dX7_work_106 ?_
        refine lv_topl (fun z6 ez6 => ?_)
        exact end_l C hr hlocks () hW trivial dX7_work_107
      · refine lv_tableIn (off := 95) (tgt := 96) hx hb dX7_work_1 (Int.not_lt.mpr c1) (Int.not_lt.mpr c1b) (by rw [c1k]; rfl) (by decide) ?_
        refine lv_lload_n hx hb dX7_work_96 rfl (lv_at hl 1 rfl) ?_
        refine lv_lload_n hx hb dX7_work_97 rfl (lv_at hl 2 rfl) ?_
        refine lv_ladd hx hb dX7_work_98 ?_
        refine lv_topl (fun z7 ez7 => ?_)
        exact end_l C hr hlocks () hW trivial dX7_work_99
      · refine lv_tableIn (off := 145) (tgt := 146) hx hb dX7_work_1 (Int.not_lt.mpr c1) (Int.not_lt.mpr c1b) (by rw [c1k]; rfl) (by decide) ?_
        refine lv_lload_n hx hb dX7_work_146 rfl (lv_at hl 1 rfl) ?_
        refine lv_lload_n hx hb dX7_work_147 rfl (lv_at hl 2 rfl) ?_
        refine W.lcmp hx hb dX7_work_148 ?_
        refine lv_topi (fun x8 (e8 : x8 = lg_cmp a1 a2) => ?_)
        refine lv_if_le (tgt := 156) hx hb dX7_work_149 (by decide) (fun c9 => ?_) (fun c9 => ?_)
        · have c9 : x8.toInt ≤ 0 := tle rfl kp0 c9
          refine lv_lconst (v := 0) hx hb dX7_work_156 (by decide) ?_
          exact end_l C hr hlocks () hW trivial dX7_work_157
        · have c9 : 0 < x8.toInt := tnle rfl kp0 c9
          refine lv_lconst (v := 1) hx hb dX7_work_152 (by decide) ?_
          refine lv_goto (tgt := 157) hx hb dX7_work_153 (by decide) ?_
          exact end_l C hr hlocks () hW trivial dX7_work_157
      · refine lv_tableIn (off := 99) (tgt := 100) hx hb dX7_work_1 (Int.not_lt.mpr c1) (Int.not_lt.mpr c1b) (by rw [c1k]; rfl) (by decide) ?_
        refine lv_lload_n hx hb dX7_work_100 rfl (lv_at hl 1 rfl) ?_
        refine lv_lload_n hx hb dX7_work_101 rfl (lv_at hl 2 rfl) ?_
        refine lv_lsub hx hb dX7_work_102 ?_
        refine lv_topl (fun z10 ez10 => ?_)
        exact end_l C hr hlocks () hW trivial dX7_work_103
      · refine lv_tableIn (off := 145) (tgt := 146) hx hb dX7_work_1 (Int.not_lt.mpr c1) (Int.not_lt.mpr c1b) (by rw [c1k]; rfl) (by decide) ?_
        refine lv_lload_n hx hb dX7_work_146 rfl (lv_at hl 1 rfl) ?_
        refine lv_lload_n hx hb dX7_work_147 rfl (lv_at hl 2 rfl) ?_
        refine W.lcmp hx hb dX7_work_148 ?_
        refine lv_topi (fun x11 (e11 : x11 = lg_cmp a1 a2) => ?_)
        refine lv_if_le (tgt := 156) hx hb dX7_work_149 (by decide) (fun c12 => ?_) (fun c12 => ?_)
        · have c12 : x11.toInt ≤ 0 := tle rfl kp0 c12
          refine lv_lconst (v := 0) hx hb dX7_work_156 (by decide) ?_
          exact end_l C hr hlocks () hW trivial dX7_work_157
        · have c12 : 0 < x11.toInt := tnle rfl kp0 c12
          refine lv_lconst (v := 1) hx hb dX7_work_152 (by decide) ?_
          refine lv_goto (tgt := 157) hx hb dX7_work_153 (by decide) ?_
          exact end_l C hr hlocks () hW trivial dX7_work_157
      · refine lv_tableIn (off := 107) (tgt := 108) hx hb dX7_work_1 (Int.not_lt.mpr c1) (Int.not_lt.mpr c1b) (by rw [c1k]; rfl) (by decide) ?_
        refine lv_lload_n hx hb dX7_work_108 rfl (lv_at hl 2 rfl) ?_
        refine lv_lconst (v := 0) hx hb dX7_work_109 (by decide) ?_
        refine W.lcmp hx hb dX7_work_110 ?_
        refine lv_topi (fun x13 (e13 : x13 = lg_cmp a2 (0 : Int64)) => ?_)
        refine lv_if_ne (tgt := 118) hx hb dX7_work_111 (by decide) (fun c14 => ?_) (fun c14 => ?_)
        · have c14 : ¬ x13.toInt = 0 := tne rfl kp0 c14
          refine lv_lload_n hx hb dX7_work_118 rfl (lv_at hl 1 rfl) ?_
          refine lv_lload_n hx hb dX7_work_119 rfl (lv_at hl 2 rfl) ?_
          refine lv_ldiv hx hb dX7_work_120 (by intro h; have q := (lg_cmp_eq a2 0).mpr h; rw [← e13] at q; exact c14 (by rw [q]; rfl)) ?_
          refine lv_topl (fun z15 ez15 => ?_)
          exact end_l C hr hlocks () hW trivial dX7_work_121
        · have c14 : x13.toInt = 0 := teq rfl kp0 c14
          refine lv_lconst (v := 0) hx hb dX7_work_114 (by decide) ?_
          refine lv_goto (tgt := 121) hx hb dX7_work_115 (by decide) ?_
          exact end_l C hr hlocks () hW trivial dX7_work_121
      · refine lv_tableIn (off := 145) (tgt := 146) hx hb dX7_work_1 (Int.not_lt.mpr c1) (Int.not_lt.mpr c1b) (by rw [c1k]; rfl) (by decide) ?_
        refine lv_lload_n hx hb dX7_work_146 rfl (lv_at hl 1 rfl) ?_
        refine lv_lload_n hx hb dX7_work_147 rfl (lv_at hl 2 rfl) ?_
        refine W.lcmp hx hb dX7_work_148 ?_
        refine lv_topi (fun x16 (e16 : x16 = lg_cmp a1 a2) => ?_)
        refine lv_if_le (tgt := 156) hx hb dX7_work_149 (by decide) (fun c17 => ?_) (fun c17 => ?_)
        · have c17 : x16.toInt ≤ 0 := tle rfl kp0 c17
          refine lv_lconst (v := 0) hx hb dX7_work_156 (by decide) ?_
          exact end_l C hr hlocks () hW trivial dX7_work_157
        · have c17 : 0 < x16.toInt := tnle rfl kp0 c17
          refine lv_lconst (v := 1) hx hb dX7_work_152 (by decide) ?_
          refine lv_goto (tgt := 157) hx hb dX7_work_153 (by decide) ?_
          exact end_l C hr hlocks () hW trivial dX7_work_157
      · refine lv_tableIn (off := 145) (tgt := 146) hx hb dX7_work_1 (Int.not_lt.mpr c1) (Int.not_lt.mpr c1b) (by rw [c1k]; rfl) (by decide) ?_
        refine lv_lload_n hx hb dX7_work_146 rfl (lv_at hl 1 rfl) ?_
        refine lv_lload_n hx hb dX7_work_147 rfl (lv_at hl 2 rfl) ?_
        refine W.lcmp hx hb dX7_work_148 ?_
        refine lv_topi (fun x18 (e18 : x18 = lg_cmp a1 a2) => ?_)
        refine lv_if_le (tgt := 156) hx hb dX7_work_149 (by decide) (fun c19 => ?_) (fun c19 => ?_)
        · have c19 : x18.toInt ≤ 0 := tle rfl kp0 c19
          refine lv_lconst (v := 0) hx hb dX7_work_156 (by decide) ?_
          exact end_l C hr hlocks () hW trivial dX7_work_157
        · have c19 : 0 < x18.toInt := tnle rfl kp0 c19
          refine lv_lconst (v := 1) hx hb dX7_work_152 (by decide) ?_
          refine lv_goto (tgt := 157) hx hb dX7_work_153 (by decide) ?_
          exact end_l C hr hlocks () hW trivial dX7_work_157
      · refine lv_tableIn (off := 145) (tgt := 146) hx hb dX7_work_1 (Int.not_lt.mpr c1) (Int.not_lt.mpr c1b) (by rw [c1k]; rfl) (by decide) ?_
        refine lv_lload_n hx hb dX7_work_146 rfl (lv_at hl 1 rfl) ?_
        refine lv_lload_n hx hb dX7_work_147 rfl (lv_at hl 2 rfl) ?_
        refine W.lcmp hx hb dX7_work_148 ?_
        refine lv_topi (fun x20 (e20 : x20 = lg_cmp a1 a2) => ?_)
        refine lv_if_le (tgt := 156) hx hb dX7_work_149 (by decide) (fun c21 => ?_) (fun c21 => ?_)
        · have c21 : x20.toInt ≤ 0 := tle rfl kp0 c21
          refine lv_lconst (v := 0) hx hb dX7_work_156 (by decide) ?_
          exact end_l C hr hlocks () hW trivial dX7_work_157
        · have c21 : 0 < x20.toInt := tnle rfl kp0 c21
          refine lv_lconst (v := 1) hx hb dX7_work_152 (by decide) ?_
          refine lv_goto (tgt := 157) hx hb dX7_work_153 (by decide) ?_
          exact end_l C hr hlocks () hW trivial dX7_work_157
      · refine lv_tableIn (off := 145) (tgt := 146) hx hb dX7_work_1 (Int.not_lt.mpr c1) (Int.not_lt.mpr c1b) (by rw [c1k]; rfl) (by decide) ?_
        refine lv_lload_n hx hb dX7_work_146 rfl (lv_at hl 1 rfl) ?_
        refine lv_lload_n hx hb dX7_work_147 rfl (lv_at hl 2 rfl) ?_
        refine W.lcmp hx hb dX7_work_148 ?_
        refine lv_topi (fun x22 (e22 : x22 = lg_cmp a1 a2) => ?_)
        refine lv_if_le (tgt := 156) hx hb dX7_work_149 (by decide) (fun c23 => ?_) (fun c23 => ?_)
        · have c23 : x22.toInt ≤ 0 := tle rfl kp0 c23
          refine lv_lconst (v := 0) hx hb dX7_work_156 (by decide) ?_
          exact end_l C hr hlocks () hW trivial dX7_work_157
        · have c23 : 0 < x22.toInt := tnle rfl kp0 c23
          refine lv_lconst (v := 1) hx hb dX7_work_152 (by decide) ?_
          refine lv_goto (tgt := 157) hx hb dX7_work_153 (by decide) ?_
          exact end_l C hr hlocks () hW trivial dX7_work_157
      · refine lv_tableIn (off := 145) (tgt := 146) hx hb dX7_work_1 (Int.not_lt.mpr c1) (Int.not_lt.mpr c1b) (by rw [c1k]; rfl) (by decide) ?_
        refine lv_lload_n hx hb dX7_work_146 rfl (lv_at hl 1 rfl) ?_
        refine lv_lload_n hx hb dX7_work_147 rfl (lv_at hl 2 rfl) ?_
        refine W.lcmp hx hb dX7_work_148 ?_
        refine lv_topi (fun x24 (e24 : x24 = lg_cmp a1 a2) => ?_)
        refine lv_if_le (tgt := 156) hx hb dX7_work_149 (by decide) (fun c25 => ?_) (fun c25 => ?_)
        · have c25 : x24.toInt ≤ 0 := tle rfl kp0 c25
          refine lv_lconst (v := 0) hx hb dX7_work_156 (by decide) ?_
          exact end_l C hr hlocks () hW trivial dX7_work_157
        · have c25 : 0 < x24.toInt := tnle rfl kp0 c25
          refine lv_lconst (v := 1) hx hb dX7_work_152 (by decide) ?_
          refine lv_goto (tgt := 157) hx hb dX7_work_153 (by decide) ?_
          exact end_l C hr hlocks () hW trivial dX7_work_157
      · refine lv_tableIn (off := 145) (tgt := 146) hx hb dX7_work_1 (Int.not_lt.mpr c1) (Int.not_lt.mpr c1b) (by rw [c1k]; rfl) (by decide) ?_
        refine lv_lload_n hx hb dX7_work_146 rfl (lv_at hl 1 rfl) ?_
        refine lv_lload_n hx hb dX7_work_147 rfl (lv_at hl 2 rfl) ?_
        refine W.lcmp hx hb dX7_work_148 ?_
        refine lv_topi (fun x26 (e26 : x26 = lg_cmp a1 a2) => ?_)
        refine lv_if_le (tgt := 156) hx hb dX7_work_149 (by decide) (fun c27 => ?_) (fun c27 => ?_)
        · have c27 : x26.toInt ≤ 0 := tle rfl kp0 c27
          refine lv_lconst (v := 0) hx hb dX7_work_156 (by decide) ?_
          exact end_l C hr hlocks () hW trivial dX7_work_157
        · have c27 : 0 < x26.toInt := tnle rfl kp0 c27
          refine lv_lconst (v := 1) hx hb dX7_work_152 (by decide) ?_
          refine lv_goto (tgt := 157) hx hb dX7_work_153 (by decide) ?_
          exact end_l C hr hlocks () hW trivial dX7_work_157
      · refine lv_tableIn (off := 145) (tgt := 146) hx hb dX7_work_1 (Int.not_lt.mpr c1) (Int.not_lt.mpr c1b) (by rw [c1k]; rfl) (by decide) ?_
        refine lv_lload_n hx hb dX7_work_146 rfl (lv_at hl 1 rfl) ?_
        refine lv_lload_n hx hb dX7_work_147 rfl (lv_at hl 2 rfl) ?_
        refine W.lcmp hx hb dX7_work_148 ?_
        refine lv_topi (fun x28 (e28 : x28 = lg_cmp a1 a2) => ?_)
        refine lv_if_le (tgt := 156) hx hb dX7_work_149 (by decide) (fun c29 => ?_) (fun c29 => ?_)
        · have c29 : x28.toInt ≤ 0 := tle rfl kp0 c29
          refine lv_lconst (v := 0) hx hb dX7_work_156 (by decide) ?_
          exact end_l C hr hlocks () hW trivial dX7_work_157
        · have c29 : 0 < x28.toInt := tnle rfl kp0 c29
          refine lv_lconst (v := 1) hx hb dX7_work_152 (by decide) ?_
          refine lv_goto (tgt := 157) hx hb dX7_work_153 (by decide) ?_
          exact end_l C hr hlocks () hW trivial dX7_work_157
      · refine lv_tableIn (off := 145) (tgt := 146) hx hb dX7_work_1 (Int.not_lt.mpr c1) (Int.not_lt.mpr c1b) (by rw [c1k]; rfl) (by decide) ?_
        refine lv_lload_n hx hb dX7_work_146 rfl (lv_at hl 1 rfl) ?_
        refine lv_lload_n hx hb dX7_work_147 rfl (lv_at hl 2 rfl) ?_
        refine W.lcmp hx hb dX7_work_148 ?_
        refine lv_topi (fun x30 (e30 : x30 = lg_cmp a1 a2) => ?_)
        refine lv_if_le (tgt := 156) hx hb dX7_work_149 (by decide) (fun c31 => ?_) (fun c31 => ?_)
        · have c31 : x30.toInt ≤ 0 := tle rfl kp0 c31
          refine lv_lconst (v := 0) hx hb dX7_work_156 (by decide) ?_
          exact end_l C hr hlocks () hW trivial dX7_work_157
        · have c31 : 0 < x30.toInt := tnle rfl kp0 c31
          refine lv_lconst (v := 1) hx hb dX7_work_152 (by decide) ?_
          refine lv_goto (tgt := 157) hx hb dX7_work_153 (by decide) ?_
          exact end_l C hr hlocks () hW trivial dX7_work_157
      · refine lv_tableIn (off := 145) (tgt := 146) hx hb dX7_work_1 (Int.not_lt.mpr c1) (Int.not_lt.mpr c1b) (by rw [c1k]; rfl) (by decide) ?_
        refine lv_lload_n hx hb dX7_work_146 rfl (lv_at hl 1 rfl) ?_
        refine lv_lload_n hx hb dX7_work_147 rfl (lv_at hl 2 rfl) ?_
        refine W.lcmp hx hb dX7_work_148 ?_
        refine lv_topi (fun x32 (e32 : x32 = lg_cmp a1 a2) => ?_)
        refine lv_if_le (tgt := 156) hx hb dX7_work_149 (by decide) (fun c33 => ?_) (fun c33 => ?_)
        · have c33 : x32.toInt ≤ 0 := tle rfl kp0 c33
          refine lv_lconst (v := 0) hx hb dX7_work_156 (by decide) ?_
          exact end_l C hr hlocks () hW trivial dX7_work_157
        · have c33 : 0 < x32.toInt := tnle rfl kp0 c33
          refine lv_lconst (v := 1) hx hb dX7_work_152 (by decide) ?_
          refine lv_goto (tgt := 157) hx hb dX7_work_153 (by decide) ?_
          exact end_l C hr hlocks () hW trivial dX7_work_157
      · refine lv_tableIn (off := 145) (tgt := 146) hx hb dX7_work_1 (Int.not_lt.mpr c1) (Int.not_lt.mpr c1b) (by rw [c1k]; rfl) (by decide) ?_
        refine lv_lload_n hx hb dX7_work_146 rfl (lv_at hl 1 rfl) ?_
        refine lv_lload_n hx hb dX7_work_147 rfl (lv_at hl 2 rfl) ?_
        refine W.lcmp hx hb dX7_work_148 ?_
        refine lv_topi (fun x34 (e34 : x34 = lg_cmp a1 a2) => ?_)
        refine lv_if_le (tgt := 156) hx hb dX7_work_149 (by decide) (fun c35 => ?_) (fun c35 => ?_)
        · have c35 : x34.toInt ≤ 0 := tle rfl kp0 c35
          refine lv_lconst (v := 0) hx hb dX7_work_156 (by decide) ?_
          exact end_l C hr hlocks () hW trivial dX7_work_157
        · have c35 : 0 < x34.toInt := tnle rfl kp0 c35
          refine lv_lconst (v := 1) hx hb dX7_work_152 (by decide) ?_
          refine lv_goto (tgt := 157) hx hb dX7_work_153 (by decide) ?_
          exact end_l C hr hlocks () hW trivial dX7_work_157
      · refine lv_tableIn (off := 145) (tgt := 146) hx hb dX7_work_1 (Int.not_lt.mpr c1) (Int.not_lt.mpr c1b) (by rw [c1k]; rfl) (by decide) ?_
        refine lv_lload_n hx hb dX7_work_146 rfl (lv_at hl 1 rfl) ?_
        refine lv_lload_n hx hb dX7_work_147 rfl (lv_at hl 2 rfl) ?_
        refine W.lcmp hx hb dX7_work_148 ?_
        refine lv_topi (fun x36 (e36 : x36 = lg_cmp a1 a2) => ?_)
        refine lv_if_le (tgt := 156) hx hb dX7_work_149 (by decide) (fun c37 => ?_) (fun c37 => ?_)
        · have c37 : x36.toInt ≤ 0 := tle rfl kp0 c37
          refine lv_lconst (v := 0) hx hb dX7_work_156 (by decide) ?_
          exact end_l C hr hlocks () hW trivial dX7_work_157
        · have c37 : 0 < x36.toInt := tnle rfl kp0 c37
          refine lv_lconst (v := 1) hx hb dX7_work_152 (by decide) ?_
          refine lv_goto (tgt := 157) hx hb dX7_work_153 (by decide) ?_
          exact end_l C hr hlocks () hW trivial dX7_work_157
      · refine lv_tableIn (off := 145) (tgt := 146) hx hb dX7_work_1 (Int.not_lt.mpr c1) (Int.not_lt.mpr c1b) (by rw [c1k]; rfl) (by decide) ?_
        refine lv_lload_n hx hb dX7_work_146 rfl (lv_at hl 1 rfl) ?_
        refine lv_lload_n hx hb dX7_work_147 rfl (lv_at hl 2 rfl) ?_
        refine W.lcmp hx hb dX7_work_148 ?_
        refine lv_topi (fun x38 (e38 : x38 = lg_cmp a1 a2) => ?_)
        refine lv_if_le (tgt := 156) hx hb dX7_work_149 (by decide) (fun c39 => ?_) (fun c39 => ?_)
        · have c39 : x38.toInt ≤ 0 := tle rfl kp0 c39
          refine lv_lconst (v := 0) hx hb dX7_work_156 (by decide) ?_
          exact end_l C hr hlocks () hW trivial dX7_work_157
        · have c39 : 0 < x38.toInt := tnle rfl kp0 c39
          refine lv_lconst (v := 1) hx hb dX7_work_152 (by decide) ?_
          refine lv_goto (tgt := 157) hx hb dX7_work_153 (by decide) ?_
          exact end_l C hr hlocks () hW trivial dX7_work_157
      · refine lv_tableIn (off := 121) (tgt := 122) hx hb dX7_work_1 (Int.not_lt.mpr c1) (Int.not_lt.mpr c1b) (by rw [c1k]; rfl) (by decide) ?_
        refine lv_lload_n hx hb dX7_work_122 rfl (lv_at hl 1 rfl) ?_
        refine lv_lload_n hx hb dX7_work_123 rfl (lv_at hl 2 rfl) ?_
        refine W.lcmp hx hb dX7_work_124 ?_
        refine lv_topi (fun x40 (e40 : x40 = lg_cmp a1 a2) => ?_)
        refine lv_if_ge (tgt := 132) hx hb dX7_work_125 (by decide) (fun c41 => ?_) (fun c41 => ?_)
        · have c41 : 0 ≤ x40.toInt := tle kp0 rfl c41
          refine lv_lconst (v := 0) hx hb dX7_work_132 (by decide) ?_
          exact end_l C hr hlocks () hW trivial dX7_work_133
        · have c41 : x40.toInt < 0 := tnle kp0 rfl c41
          refine lv_lconst (v := 1) hx hb dX7_work_128 (by decide) ?_
          refine lv_goto (tgt := 133) hx hb dX7_work_129 (by decide) ?_
          exact end_l C hr hlocks () hW trivial dX7_work_133
      · refine lv_tableIn (off := 133) (tgt := 134) hx hb dX7_work_1 (Int.not_lt.mpr c1) (Int.not_lt.mpr c1b) (by rw [c1k]; rfl) (by decide) ?_
        refine lv_lload_n hx hb dX7_work_134 rfl (lv_at hl 1 rfl) ?_
        refine lv_lload_n hx hb dX7_work_135 rfl (lv_at hl 2 rfl) ?_
        refine W.lcmp hx hb dX7_work_136 ?_
        refine lv_topi (fun x42 (e42 : x42 = lg_cmp a1 a2) => ?_)
        refine lv_if_ne (tgt := 144) hx hb dX7_work_137 (by decide) (fun c43 => ?_) (fun c43 => ?_)
        · have c43 : ¬ x42.toInt = 0 := tne rfl kp0 c43
          refine lv_lconst (v := 0) hx hb dX7_work_144 (by decide) ?_
          exact end_l C hr hlocks () hW trivial dX7_work_145
        · have c43 : x42.toInt = 0 := teq rfl kp0 c43
          refine lv_lconst (v := 1) hx hb dX7_work_140 (by decide) ?_
          refine lv_goto (tgt := 145) hx hb dX7_work_141 (by decide) ?_
          exact end_l C hr hlocks () hW trivial dX7_work_145

set_option maxHeartbeats 4000000 in
set_option maxRecDepth 100000 in
theorem c_X7_join (l : Launch) (g : gG) (J : Nat → Nat → Int32) (L : Nat → Nat → Int64) (I : Nat → Nat → Nat → Int32) (P : Nat → Nat → Nat → Option Nat) (E : Nat → Option Nat) (N : Nat → Nat) (dy : List (Nat × Nat)) (sz : Nat) (a0 : Int32)  : Met l yX7_join (WS yX7_join cX7_join 4 none) (RM (2) 0 0) (PC g [.ref (g.2.2.1 8), .int a0] ((J, L, I, P, E, N), sgX g ++ dy) sz) (va_Qv (fun (u : (Nat → Nat → Int32)) => True) (fun u t => at_ g (FR g ((J, L, I, P, E, N), sgX g ++ dy) sz) (((hv J [45] [(8, 1)] u), L, I, P, E, N), sgX g ++ dy) t) (FR g ((J, L, I, P, E, N), sgX g ++ dy) sz)) 0 0 (FR g ((J, L, I, P, E, N), sgX g ++ dy) sz) := by
  refine ent (by decide +kernel) (Nat.le_of_ble_eq_true rfl) ?_
  intro p e s m below meth c ls hsz C hW hr hlocks hname hl
  generalize FR g ((J, L, I, P, E, N), sgX g ++ dy) sz = A at C hW ⊢
  have hx := C.1.1
  have hb := C.1.2.1
  have hts := C.1.2.2.2.2
  have hl : lv_has ls 4 [(0, .ref (g.2.2.1 8)), (1, .int a0)] := hl
  obtain ⟨H, hH⟩ : ∃ H : Heap, H = s.heap := ⟨_, rfl⟩
  obtain ⟨locs, hlocs⟩ : ∃ q : List Loc, q = [] := ⟨_, rfl⟩
  have hW : WB g A s.heap H locs (J, L, I, P, E, N) (sgX g ++ dy) := by rw [hH, hlocs]; exact hW
  refine start_ hH hlocs ?_
  refine lv_aload_n hx hb dX7_join_0 rfl (lv_at hl 0 rfl) ?_
  refine rg_8_1 C hW (mx_ rfl) tw_326 dX7_join_1 ?_
  refine lv_iconst (v := 2) hx hb dX7_join_4 (by decide) ?_
  refine lv_icmp_lt (tgt := 20) hx hb dX7_join_5 (by decide) (fun c1 => ?_) (fun c1 => ?_)
  · have c1 : (J 8 1).toInt < 2 := tlt rfl kp2 c1
    have hWr : WB g A s.heap H locs ((hv J [45] [(8, 1)] J), L, I, P, E, N) (sgX g ++ dy) := by
      rw [← ag_hvE (J := J) (R := [45]) (F := [(8, 1)]) ag_rf]
      exact hW
    exact end_v C hr hlocks J hWr trivial dX7_join_20
  · have c1 : 2 ≤ (J 8 1).toInt := tnlt rfl kp2 c1
    refine lv_aload_n hx hb dX7_join_8 rfl (lv_at hl 0 rfl) ?_
    refine rg_8_1 C hW (mx_ rfl) tw_326 dX7_join_9 ?_
    refine lv_aload_n hx hb dX7_join_12 rfl (lv_at hl 0 rfl) ?_
    refine rg_8_0 C hW (mx_ rfl) tw_325 dX7_join_13 ?_
    refine rl_45 C hW (mx_ rfl) dX7_join_16 ?_
    refine lv_icmp_le (tgt := 21) hx hb dX7_join_17 (by decide) (fun c2 => ?_) (fun c2 => ?_)
    · have c2 : (J 8 1).toInt ≤ 60 := tle rfl kp60 c2
      refine lv_iload_n hx hb dX7_join_21 rfl (lv_at hl 1 rfl) ?_
      refine lv_aload_n hx hb dX7_join_22 rfl (lv_at hl 0 rfl) ?_
      refine rg_8_0 C hW (mx_ rfl) tw_325 dX7_join_23 ?_
      refine lv_aload_n hx hb dX7_join_26 rfl (lv_at hl 0 rfl) ?_
      refine rg_8_1 C hW (mx_ rfl) tw_326 dX7_join_27 ?_
      refine lv_iconst (v := 2) hx hb dX7_join_30 (by decide) ?_
      refine lv_isub hx hb dX7_join_31 ?_
      refine lv_topi (fun x3 (e3 : x3 = (J 8 1) - 2) => ?_)
      try have t3 : x3.toInt = (J 8 1).toInt - 2 := tsub e3 rfl kp2 (by omega)
      have hin : vp_in x3 60 := tin rfl (by omega)
      refine ra_45 C hW (mx_ rfl) hin dX7_join_32 ?_
      refine lv_topi (fun x4 (e4 : x4 = J 45 x3.toNatClampNeg) => ?_)
      refine lv_i2l (v := x4.toInt64) hx hb dX7_join_33 rfl ?_
      refine lv_aload_n hx hb dX7_join_34 rfl (lv_at hl 0 rfl) ?_
      refine rg_8_0 C hW (mx_ rfl) tw_325 dX7_join_35 ?_
      refine lv_aload_n hx hb dX7_join_38 rfl (lv_at hl 0 rfl) ?_
      refine rg_8_1 C hW (mx_ rfl) tw_326 dX7_join_39 ?_
      refine lv_iconst (v := 1) hx hb dX7_join_42 (by decide) ?_
      refine lv_isub hx hb dX7_join_43 ?_
      refine lv_topi (fun x5 (e5 : x5 = (J 8 1) - 1) => ?_)
      try have t5 : x5.toInt = (J 8 1).toInt - 1 := tsub e5 rfl kp1 (by omega)
      have hin : vp_in x5 60 := tin rfl (by omega)
      refine ra_45 C hW (mx_ rfl) hin dX7_join_44 ?_
      refine lv_topi (fun x6 (e6 : x6 = J 45 x5.toNatClampNeg) => ?_)
      refine lv_i2l (v := x6.toInt64) hx hb dX7_join_45 rfl ?_
      refine cl_ C hW (runS (As := [.int a0, .long x4.toInt64, .long x6.toInt64]) (rest := []) (T := ((J, L, I, P, E, N), sgX g ++ dy)) C hW (c_X7_work l g J L I P E N dy H.size a0 x4.toInt64 x6.toInt64 ) mi_X7_work tw_685 ⟨rfl, rfl, Nat.le_of_ble_eq_true rfl, Nat.le_of_ble_eq_true rfl⟩ rfl hl.1 rfl (Nat.le_of_ble_eq_true rfl) dX7_join_46 ⟨Nat.le_of_ble_eq_true rfl, Nat.le_of_ble_eq_true rfl⟩) (fun z7 u7 H locs hp7 hW => ?_)
      have hW : WB g A s.heap H locs (J, L, I, P, E, N) (sgX g ++ dy) := hW
      refine lv_lstore_n (lv' := [(2, .long z7), (0, .ref (g.2.2.1 8)), (1, .int a0)]) hx hb dX7_join_49 rfl hl (by decide) rfl (fun ls hl => ?_)
      refine lv_aload_n hx hb dX7_join_50 rfl (lv_at hl 1 rfl) ?_
      refine lv_dup hx hb dX7_join_51 rfl ?_
      refine rg_8_1 C hW (mx_ rfl) tw_326 dX7_join_52 ?_
      refine lv_iconst (v := 1) hx hb dX7_join_55 (by decide) ?_
      refine lv_isub hx hb dX7_join_56 ?_
      refine lv_topi (fun x8 (e8 : x8 = (J 8 1) - 1) => ?_)
      try have t8 : x8.toInt = (J 8 1).toInt - 1 := tsub e8 rfl kp1 (by omega)
      refine rp_8_1 C hW (mx_ rfl) tw_326 dX7_join_57 (fun H locs hW => ?_)
      refine lv_aload_n hx hb dX7_join_60 rfl (lv_at hl 1 rfl) ?_
      refine rg_8_0 C hW (mx_ rfl) tw_325 dX7_join_61 ?_
      refine lv_aload_n hx hb dX7_join_64 rfl (lv_at hl 1 rfl) ?_
      refine rg_8_1 C hW (mx_ rfl) tw_326 dX7_join_65 ?_
      refine lv_as x8 rfl ?_
      refine lv_iconst (v := 1) hx hb dX7_join_68 (by decide) ?_
      refine lv_isub hx hb dX7_join_69 ?_
      refine lv_topi (fun x9 (e9 : x9 = x8 - 1) => ?_)
      try have t9 : x9.toInt = x8.toInt - 1 := tsub e9 rfl kp1 (by omega)
      refine lv_ldc2 hx hb C.1.2.2.2.1 (hts _ tw_688) dX7_join_70 ?_
      refine lv_ldc2 hx hb C.1.2.2.2.1 (hts _ tw_689) dX7_join_73 ?_
      refine lv_lload_n hx hb dX7_join_76 rfl (lv_at hl 0 rfl) ?_
      refine va_mmin_long hx hb (C.1.2.2.1.trans hl.1.symm) C.1.2.2.2.1 (hts _ tw_690) (hts _ tw_691) (hts _ tw_74) (hts _ tw_692) (Nat.le_of_ble_eq_true rfl) (Nat.le_of_ble_eq_true rfl) (Nat.le_of_ble_eq_true rfl) (Nat.le_of_ble_eq_true rfl) dX7_join_77 ?_
      refine lv_topl (fun z10 ez10 => ?_)
      refine va_mmax_long hx hb (C.1.2.2.1.trans hl.1.symm) C.1.2.2.2.1 (hts _ tw_693) (hts _ tw_694) (hts _ tw_74) (hts _ tw_695) (Nat.le_of_ble_eq_true rfl) (Nat.le_of_ble_eq_true rfl) (Nat.le_of_ble_eq_true rfl) (Nat.le_of_ble_eq_true rfl) dX7_join_80 ?_
      refine lv_topl (fun z11 ez11 => ?_)
      refine lv_l2i (v := z11.toInt32) hx hb dX7_join_83 rfl ?_
      refine lv_topi (fun x12 (e12 : x12 = z11.toInt32) => ?_)
      have hin : vp_in x9 60 := tin rfl (by omega)
      refine rs_45 C hW (mx_ rfl) hin dX7_join_84 (fun H locs hW => ?_)
      have hWr : WB g A s.heap H locs ((hv J [45] [(8, 1)] (up2 (up2 J 8 1 x8) 45 x9.toNatClampNeg x12)), L, I, P, E, N) (sgX g ++ dy) := by
        rw [← ag_hvE (J := J) (R := [45]) (F := [(8, 1)]) (ag_up (Or.inl rfl) (ag_up (Or.inr rfl) ag_rf))]
        exact hW
      exact end_v C hr hlocks (up2 (up2 J 8 1 x8) 45 x9.toNatClampNeg x12) hWr trivial dX7_join_85
    · have c2 : 60 < (J 8 1).toInt := tnle rfl kp60 c2
      have hWr : WB g A s.heap H locs ((hv J [45] [(8, 1)] J), L, I, P, E, N) (sgX g ++ dy) := by
        rw [← ag_hvE (J := J) (R := [45]) (F := [(8, 1)]) ag_rf]
        exact hW
      exact end_v C hr hlocks J hWr trivial dX7_join_20

set_option maxHeartbeats 4000000 in
set_option maxRecDepth 100000 in
theorem c_X3_addListener (l : Launch) (g : gG) (J : Nat → Nat → Int32) (L : Nat → Nat → Int64) (I : Nat → Nat → Nat → Int32) (P : Nat → Nat → Nat → Option Nat) (E : Nat → Option Nat) (N : Nat → Nat) (dy : List (Nat × Nat)) (sz : Nat) (a0 : Int32) (a1 : Int64)  : Met l yX3_addListener (WS yX3_addListener cX3_addListener 5 none) (RM (1) 0 0) (PC g [.ref (g.2.2.1 4), .int a0, .long a1] ((J, L, I, P, E, N), sgX g ++ dy) sz) (va_Qv (fun (u : (Nat → Nat → Int64)) => True) (fun u t => at_ g (FR g ((J, L, I, P, E, N), sgX g ++ dy) sz) ((J, (hv L [47] [] u), I, P, E, N), sgX g ++ dy) t) (FR g ((J, L, I, P, E, N), sgX g ++ dy) sz)) 0 0 (FR g ((J, L, I, P, E, N), sgX g ++ dy) sz) := by
  refine ent (by decide +kernel) (Nat.le_of_ble_eq_true rfl) ?_
  intro p e s m below meth c ls hsz C hW hr hlocks hname hl
  generalize FR g ((J, L, I, P, E, N), sgX g ++ dy) sz = A at C hW ⊢
  have hx := C.1.1
  have hb := C.1.2.1
  have hts := C.1.2.2.2.2
  have hl : lv_has ls 5 [(0, .ref (g.2.2.1 4)), (1, .int a0), (2, .long a1)] := hl
  obtain ⟨H, hH⟩ : ∃ H : Heap, H = s.heap := ⟨_, rfl⟩
  obtain ⟨locs, hlocs⟩ : ∃ q : List Loc, q = [] := ⟨_, rfl⟩
  have hW : WB g A s.heap H locs (J, L, I, P, E, N) (sgX g ++ dy) := by rw [hH, hlocs]; exact hW
  refine start_ hH hlocs ?_
  refine lv_iconst (v := 0) hx hb dX3_addListener_0 (by decide) ?_
  refine lv_istore (lv' := [(4, .int 0), (0, .ref (g.2.2.1 4)), (1, .int a0), (2, .long a1)]) hx hb dX3_addListener_1 hl (by decide) rfl (fun ls hl => ?_)
  have loop3 : ∀ (n : Nat) (m4 : Int32) (Ml1 : Nat → Nat → Int64) (H : Heap) (locs : List Loc) (ls : Array Slot), (24 - m4.toInt).toNat < n → 0 ≤ m4.toInt → WB g A s.heap H locs (J, (hv L [47] [] Ml1), I, P, E, N) (sgX g ++ dy) → lv_has ls 5 [(4, .int m4), (0, .ref (g.2.2.1 4)), (1, .int a0), (2, .long a1)] → W p l e (RM (1) 0 0) s m ([.ref (g.2.2.1 4), .int a0, .long a1] : List Value).toArray below meth c H locs 0 0 (MQ below (va_Qv (fun (u : (Nat → Nat → Int64)) => True) (fun u t => at_ g A ((J, (hv L [47] [] u), I, P, E, N), sgX g ++ dy) t) A) ([.ref (g.2.2.1 4), .int a0, .long a1] : List Value).toArray s 0 0 A) (F0 m 3 ls []) := by
    intro n
    induction n with
    | zero => intro m4 Ml1 H locs ls hmeas; exact absurd hmeas (Nat.not_lt_zero _)
    | succ n ih =>
      intro m4 Ml1 H locs ls hmeas hi hW hl
      refine lv_iload hx hb dX3_addListener_3 (lv_at hl 0 rfl) ?_
      refine lv_aload_n hx hb dX3_addListener_5 rfl (lv_at hl 1 rfl) ?_
      refine rg_4_8 C hW (mx_ rfl) tw_248 dX3_addListener_6 ?_
      refine rl_47 C hW (mx_ rfl) dX3_addListener_9 ?_
      refine lv_icmp_ge (tgt := 43) hx hb dX3_addListener_10 (by decide) (fun c2 => ?_) (fun c2 => ?_)
      · have c2 : 24 ≤ m4.toInt := tle kp24 rfl c2
        have hWr : WB g A s.heap H locs (J, (hv L [47] [] (hv L [47] [] Ml1)), I, P, E, N) (sgX g ++ dy) := by
          rw [← ag_hvE (J := L) (R := [47]) (F := []) (ag_hv rfl rfl ag_rf)]
          exact hW
        exact end_v C hr hlocks (hv L [47] [] Ml1) hWr trivial dX3_addListener_43
      · have c2 : m4.toInt < 24 := tnle kp24 rfl c2
        refine lv_aload_n hx hb dX3_addListener_13 rfl (lv_at hl 1 rfl) ?_
        refine rg_4_8 C hW (mx_ rfl) tw_248 dX3_addListener_14 ?_
        refine lv_iload hx hb dX3_addListener_17 (lv_at hl 0 rfl) ?_
        refine lv_dup2_11 hx hb dX3_addListener_19 rfl rfl ?_
        have hin : vp_in m4 24 := tin rfl (by omega)
        refine ra_47 C hW (mx_ rfl) hin dX3_addListener_20 ?_
        refine lv_topl (fun z3 ez3 => ?_)
        refine lv_iload_n hx hb dX3_addListener_21 rfl (lv_at hl 2 rfl) ?_
        refine lv_iload hx hb dX3_addListener_22 (lv_at hl 0 rfl) ?_
        refine lv_ishr hx hb dX3_addListener_24 ?_
        refine lv_topi (fun x4 (e4 : x4 = a0 >>> (m4 &&& 31)) => ?_)
        refine lv_iconst (v := 1) hx hb dX3_addListener_25 (by decide) ?_
        refine lv_iand hx hb dX3_addListener_26 ?_
        refine lv_topi (fun x5 (e5 : x5 = x4 &&& 1) => ?_)
        refine lv_if_eq (tgt := 34) hx hb dX3_addListener_27 (by decide) (fun c6 => ?_) (fun c6 => ?_)
        · have c6 : x5.toInt = 0 := teq rfl kp0 c6
          refine lv_lconst (v := 0) hx hb dX3_addListener_34 (by decide) ?_
          refine lv_lor hx hb dX3_addListener_35 ?_
          refine lv_topl (fun z7 ez7 => ?_)
          have hin : vp_in m4 24 := tin rfl (by omega)
          refine rs_47 C hW (mx_ rfl) hin dX3_addListener_36 (fun H locs hW => ?_)
          obtain ⟨x8, e8⟩ : ∃ y : Int32, y = m4 + 1 := ⟨_, rfl⟩
          refine lv_iinc (v := x8) (lv' := [(4, .int x8), (0, .ref (g.2.2.1 4)), (1, .int a0), (2, .long a1)]) hx hb dX3_addListener_37 hl (k := 0) rfl (by rw [e8]; rfl) (by decide) rfl (fun ls hl => ?_)
          try have t8 : x8.toInt = m4.toInt + 1 := tadd e8 rfl kp1 (by omega)
          refine lv_goto (tgt := 3) hx hb dX3_addListener_40 (by decide) ?_
          have hWl : WB g A s.heap H locs (J, (hv L [47] [] (up2 (hv L [47] [] Ml1) 47 m4.toNatClampNeg z7)), I, P, E, N) (sgX g ++ dy) := by
            rw [← ag_hvE (J := L) (R := [47]) (F := []) (ag_up (Or.inl rfl) (ag_hv rfl rfl ag_rf))]
            exact hW
          refine ih x8 (up2 (hv L [47] [] Ml1) 47 m4.toNatClampNeg z7) H locs ls ?_ ?_ hWl (lv_sub hl [0, 1, 2, 3] rfl)
          · show (24 - x8.toInt).toNat < n
            omega
          · show 0 ≤ x8.toInt
            first | omega | exact hi | assumption
        · have c6 : ¬ x5.toInt = 0 := tne rfl kp0 c6
          refine lv_lload_n hx hb dX3_addListener_30 rfl (lv_at hl 3 rfl) ?_
          refine lv_goto (tgt := 35) hx hb dX3_addListener_31 (by decide) ?_
          refine lv_lor hx hb dX3_addListener_35 ?_
          refine lv_topl (fun z9 ez9 => ?_)
          have hin : vp_in m4 24 := tin rfl (by omega)
          refine rs_47 C hW (mx_ rfl) hin dX3_addListener_36 (fun H locs hW => ?_)
          obtain ⟨x10, e10⟩ : ∃ y : Int32, y = m4 + 1 := ⟨_, rfl⟩
          refine lv_iinc (v := x10) (lv' := [(4, .int x10), (0, .ref (g.2.2.1 4)), (1, .int a0), (2, .long a1)]) hx hb dX3_addListener_37 hl (k := 0) rfl (by rw [e10]; rfl) (by decide) rfl (fun ls hl => ?_)
          try have t10 : x10.toInt = m4.toInt + 1 := tadd e10 rfl kp1 (by omega)
          refine lv_goto (tgt := 3) hx hb dX3_addListener_40 (by decide) ?_
          have hWl : WB g A s.heap H locs (J, (hv L [47] [] (up2 (hv L [47] [] Ml1) 47 m4.toNatClampNeg z9)), I, P, E, N) (sgX g ++ dy) := by
            rw [← ag_hvE (J := L) (R := [47]) (F := []) (ag_up (Or.inl rfl) (ag_hv rfl rfl ag_rf))]
            exact hW
          refine ih x10 (up2 (hv L [47] [] Ml1) 47 m4.toNatClampNeg z9) H locs ls ?_ ?_ hWl (lv_sub hl [0, 1, 2, 3] rfl)
          · show (24 - x10.toInt).toNat < n
            omega
          · show 0 ≤ x10.toInt
            first | omega | exact hi | assumption
  -- into the loop
  have hWl : WB g A s.heap H locs (J, (hv L [47] [] L), I, P, E, N) (sgX g ++ dy) := by
    rw [← ag_hvE (J := L) (R := [47]) (F := []) ag_rf]
    exact hW
  refine loop3 ((24 - (0 : Int32).toInt).toNat + 1) 0 L H locs ls ?_ ?_ hWl (lv_sub hl [0, 1, 2, 3] rfl)
  · exact Nat.lt_succ_self _
  · show 0 ≤ (0 : Int32).toInt
    try rw [kp0]
    first | omega | exact hi | assumption
