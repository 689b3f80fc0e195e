theorem dX10_isLetter_0 : decode cX10_isLetter 0 = .ok (.iload_n 0, 1) := dk_iload_n_0 (by decide +kernel)
theorem dX10_isLetter_1 : decode cX10_isLetter 1 = .ok (.tableswitch 109 97 119 #[107, 109, 109, 109, 109, 109, 109, 107, 109, 109, 107, 109, 107, 107, 109, 109, 109, 109, 107, 109, 109, 107, 107], 107) := by decide +kernel
theorem dX10_isLetter_108 : decode cX10_isLetter 108 = .ok (.iconst 1, 1) := dk_iconst_1 (by decide +kernel)
theorem dX10_isLetter_109 : decode cX10_isLetter 109 = .ok (.ireturn, 1) := dk_ireturn (by decide +kernel)
theorem dX10_isLetter_110 : decode cX10_isLetter 110 = .ok (.iconst 0, 1) := dk_iconst_0 (by decide +kernel)
theorem dX10_isLetter_111 : decode cX10_isLetter 111 = .ok (.ireturn, 1) := dk_ireturn (by decide +kernel)
theorem dX10_isDigit_0 : decode cX10_isDigit 0 = .ok (.iload_n 0, 1) := dk_iload_n_0 (by decide +kernel)
theorem dX10_isDigit_1 : decode cX10_isDigit 1 = .ok (.bipush 48, 2) := dk_bipush (by decide +kernel)
theorem dX10_isDigit_3 : decode cX10_isDigit 3 = .ok (.if_icmp .lt 13, 3) := dk_if_icmp_lt (by decide +kernel)
theorem dX10_isDigit_6 : decode cX10_isDigit 6 = .ok (.iload_n 0, 1) := dk_iload_n_0 (by decide +kernel)
theorem dX10_isDigit_7 : decode cX10_isDigit 7 = .ok (.bipush 57, 2) := dk_bipush (by decide +kernel)
theorem dX10_isDigit_9 : decode cX10_isDigit 9 = .ok (.if_icmp .gt 7, 3) := dk_if_icmp_gt (by decide +kernel)
theorem dX10_isDigit_12 : decode cX10_isDigit 12 = .ok (.iconst 1, 1) := dk_iconst_1 (by decide +kernel)
theorem dX10_isDigit_13 : decode cX10_isDigit 13 = .ok (.goto 4, 3) := dk_goto (by decide +kernel)
theorem dX10_isDigit_16 : decode cX10_isDigit 16 = .ok (.iconst 0, 1) := dk_iconst_0 (by decide +kernel)
theorem dX10_isDigit_17 : decode cX10_isDigit 17 = .ok (.ireturn, 1) := dk_ireturn (by decide +kernel)
theorem dX7_letter_0 : decode cX7_letter 0 = .ok (.iload_n 1, 1) := dk_iload_n_1 (by decide +kernel)
theorem dX7_letter_1 : decode cX7_letter 1 = .ok (.tableswitch 142 97 119 #[137, 142, 142, 142, 142, 142, 142, 112, 142, 142, 107, 142, 127, 142, 142, 142, 142, 142, 122, 142, 142, 117, 132], 107) := by decide +kernel
theorem dX7_letter_108 : decode cX7_letter 108 = .ok (.aload_n 0, 1) := dk_aload_n_0 (by decide +kernel)
theorem dX7_letter_109 : decode cX7_letter 109 = .ok (.getfield 36, 3) := dk_getfield (by decide +kernel)
theorem dX7_letter_112 : decode cX7_letter 112 = .ok (.ireturn, 1) := dk_ireturn (by decide +kernel)
theorem dX7_letter_113 : decode cX7_letter 113 = .ok (.aload_n 0, 1) := dk_aload_n_0 (by decide +kernel)
theorem dX7_letter_114 : decode cX7_letter 114 = .ok (.getfield 39, 3) := dk_getfield (by decide +kernel)
theorem dX7_letter_117 : decode cX7_letter 117 = .ok (.ireturn, 1) := dk_ireturn (by decide +kernel)
theorem dX7_letter_118 : decode cX7_letter 118 = .ok (.aload_n 0, 1) := dk_aload_n_0 (by decide +kernel)
theorem dX7_letter_119 : decode cX7_letter 119 = .ok (.getfield 42, 3) := dk_getfield (by decide +kernel)
theorem dX7_letter_122 : decode cX7_letter 122 = .ok (.ireturn, 1) := dk_ireturn (by decide +kernel)
theorem dX7_letter_123 : decode cX7_letter 123 = .ok (.aload_n 0, 1) := dk_aload_n_0 (by decide +kernel)
theorem dX7_letter_124 : decode cX7_letter 124 = .ok (.getfield 45, 3) := dk_getfield (by decide +kernel)
theorem dX7_letter_127 : decode cX7_letter 127 = .ok (.ireturn, 1) := dk_ireturn (by decide +kernel)
theorem dX7_letter_128 : decode cX7_letter 128 = .ok (.aload_n 0, 1) := dk_aload_n_0 (by decide +kernel)
theorem dX7_letter_129 : decode cX7_letter 129 = .ok (.getfield 48, 3) := dk_getfield (by decide +kernel)
theorem dX7_letter_132 : decode cX7_letter 132 = .ok (.ireturn, 1) := dk_ireturn (by decide +kernel)
theorem dX7_letter_133 : decode cX7_letter 133 = .ok (.aload_n 0, 1) := dk_aload_n_0 (by decide +kernel)
theorem dX7_letter_134 : decode cX7_letter 134 = .ok (.getfield 51, 3) := dk_getfield (by decide +kernel)
theorem dX7_letter_137 : decode cX7_letter 137 = .ok (.ireturn, 1) := dk_ireturn (by decide +kernel)
theorem dX7_letter_138 : decode cX7_letter 138 = .ok (.aload_n 0, 1) := dk_aload_n_0 (by decide +kernel)
theorem dX7_letter_139 : decode cX7_letter 139 = .ok (.getfield 54, 3) := dk_getfield (by decide +kernel)
theorem dX7_letter_142 : decode cX7_letter 142 = .ok (.ireturn, 1) := dk_ireturn (by decide +kernel)
theorem dX7_letter_143 : decode cX7_letter 143 = .ok (.aload_n 0, 1) := dk_aload_n_0 (by decide +kernel)
theorem dX7_letter_144 : decode cX7_letter 144 = .ok (.getfield 57, 3) := dk_getfield (by decide +kernel)
theorem dX7_letter_147 : decode cX7_letter 147 = .ok (.ireturn, 1) := dk_ireturn (by decide +kernel)
theorem dX7_push_0 : decode cX7_push 0 = .ok (.aload_n 0, 1) := dk_aload_n_0 (by decide +kernel)
theorem dX7_push_1 : decode cX7_push 1 = .ok (.getfield 15, 3) := dk_getfield (by decide +kernel)
theorem dX7_push_4 : decode cX7_push 4 = .ok (.ifCond .lt 35, 3) := dk_ifCond_lt (by decide +kernel)
theorem dX7_push_7 : decode cX7_push 7 = .ok (.aload_n 0, 1) := dk_aload_n_0 (by decide +kernel)
theorem dX7_push_8 : decode cX7_push 8 = .ok (.getfield 15, 3) := dk_getfield (by decide +kernel)
theorem dX7_push_11 : decode cX7_push 11 = .ok (.aload_n 0, 1) := dk_aload_n_0 (by decide +kernel)
theorem dX7_push_12 : decode cX7_push 12 = .ok (.getfield 9, 3) := dk_getfield (by decide +kernel)
theorem dX7_push_15 : decode cX7_push 15 = .ok (.arraylength, 1) := dk_arraylength (by decide +kernel)
theorem dX7_push_16 : decode cX7_push 16 = .ok (.if_icmp .ge 23, 3) := dk_if_icmp_ge (by decide +kernel)
theorem dX7_push_19 : decode cX7_push 19 = .ok (.aload_n 0, 1) := dk_aload_n_0 (by decide +kernel)
theorem dX7_push_20 : decode cX7_push 20 = .ok (.getfield 9, 3) := dk_getfield (by decide +kernel)
theorem dX7_push_23 : decode cX7_push 23 = .ok (.aload_n 0, 1) := dk_aload_n_0 (by decide +kernel)
theorem dX7_push_24 : decode cX7_push 24 = .ok (.getfield 15, 3) := dk_getfield (by decide +kernel)
theorem dX7_push_27 : decode cX7_push 27 = .ok (.iload_n 1, 1) := dk_iload_n_1 (by decide +kernel)
theorem dX7_push_28 : decode cX7_push 28 = .ok (.iastore, 1) := dk_iastore (by decide +kernel)
theorem dX7_push_29 : decode cX7_push 29 = .ok (.aload_n 0, 1) := dk_aload_n_0 (by decide +kernel)
theorem dX7_push_30 : decode cX7_push 30 = .ok (.dup, 1) := dk_dup (by decide +kernel)
theorem dX7_push_31 : decode cX7_push 31 = .ok (.getfield 15, 3) := dk_getfield (by decide +kernel)
theorem dX7_push_34 : decode cX7_push 34 = .ok (.iconst 1, 1) := dk_iconst_1 (by decide +kernel)
theorem dX7_push_35 : decode cX7_push 35 = .ok (.iadd, 1) := dk_iadd (by decide +kernel)
theorem dX7_push_36 : decode cX7_push 36 = .ok (.putfield 15, 3) := dk_putfield (by decide +kernel)
theorem dX7_push_39 : decode cX7_push 39 = .ok (.return_, 1) := dk_return_ (by decide +kernel)
theorem dX3_fewestBoosts_0 : decode cX3_fewestBoosts 0 = .ok (.iconst 1, 1) := dk_iconst_1 (by decide +kernel)
theorem dX3_fewestBoosts_1 : decode cX3_fewestBoosts 1 = .ok (.aload_n 0, 1) := dk_aload_n_0 (by decide +kernel)
theorem dX3_fewestBoosts_2 : decode cX3_fewestBoosts 2 = .ok (.getfield 24, 3) := dk_getfield (by decide +kernel)
theorem dX3_fewestBoosts_5 : decode cX3_fewestBoosts 5 = .ok (.invokevirtual 44, 3) := dk_invokevirtual (by decide +kernel)
theorem dX3_fewestBoosts_8 : decode cX3_fewestBoosts 8 = .ok (.bipush 9, 2) := dk_bipush (by decide +kernel)
theorem dX3_fewestBoosts_10 : decode cX3_fewestBoosts 10 = .ok (.invokestatic 133, 3) := dk_invokestatic (by decide +kernel)
theorem dX3_fewestBoosts_13 : decode cX3_fewestBoosts 13 = .ok (.ishl, 1) := dk_ishl (by decide +kernel)
theorem dX3_fewestBoosts_14 : decode cX3_fewestBoosts 14 = .ok (.iconst 1, 1) := dk_iconst_1 (by decide +kernel)
theorem dX3_fewestBoosts_15 : decode cX3_fewestBoosts 15 = .ok (.isub, 1) := dk_isub (by decide +kernel)
theorem dX3_fewestBoosts_16 : decode cX3_fewestBoosts 16 = .ok (.istore_n 2, 1) := dk_istore_n_2 (by decide +kernel)
theorem dX3_fewestBoosts_17 : decode cX3_fewestBoosts 17 = .ok (.bipush 20, 2) := dk_bipush (by decide +kernel)
theorem dX3_fewestBoosts_19 : decode cX3_fewestBoosts 19 = .ok (.istore_n 3, 1) := dk_istore_n_3 (by decide +kernel)
theorem dX3_fewestBoosts_20 : decode cX3_fewestBoosts 20 = .ok (.bipush (-9), 2) := dk_bipush (by decide +kernel)
theorem dX3_fewestBoosts_22 : decode cX3_fewestBoosts 22 = .ok (.istore 4, 2) := dk_istore (by decide +kernel)
theorem dX3_fewestBoosts_24 : decode cX3_fewestBoosts 24 = .ok (.aload_n 0, 1) := dk_aload_n_0 (by decide +kernel)
theorem dX3_fewestBoosts_25 : decode cX3_fewestBoosts 25 = .ok (.iload_n 2, 1) := dk_iload_n_2 (by decide +kernel)
theorem dX3_fewestBoosts_26 : decode cX3_fewestBoosts 26 = .ok (.iload_n 1, 1) := dk_iload_n_1 (by decide +kernel)
theorem dX3_fewestBoosts_27 : decode cX3_fewestBoosts 27 = .ok (.invokevirtual 139, 3) := dk_invokevirtual (by decide +kernel)
theorem dX3_fewestBoosts_30 : decode cX3_fewestBoosts 30 = .ok (.ifCond .eq 48, 3) := dk_ifCond_eq (by decide +kernel)
theorem dX3_fewestBoosts_33 : decode cX3_fewestBoosts 33 = .ok (.iconst 0, 1) := dk_iconst_0 (by decide +kernel)
theorem dX3_fewestBoosts_34 : decode cX3_fewestBoosts 34 = .ok (.istore 5, 2) := dk_istore (by decide +kernel)
theorem dX3_fewestBoosts_36 : decode cX3_fewestBoosts 36 = .ok (.iload 5, 2) := dk_iload (by decide +kernel)
theorem dX3_fewestBoosts_38 : decode cX3_fewestBoosts 38 = .ok (.iload_n 2, 1) := dk_iload_n_2 (by decide +kernel)
theorem dX3_fewestBoosts_39 : decode cX3_fewestBoosts 39 = .ok (.if_icmp .gt 39, 3) := dk_if_icmp_gt (by decide +kernel)
theorem dX3_fewestBoosts_42 : decode cX3_fewestBoosts 42 = .ok (.iload 5, 2) := dk_iload (by decide +kernel)
theorem dX3_fewestBoosts_44 : decode cX3_fewestBoosts 44 = .ok (.invokestatic 119, 3) := dk_invokestatic (by decide +kernel)
theorem dX3_fewestBoosts_47 : decode cX3_fewestBoosts 47 = .ok (.istore 6, 2) := dk_istore (by decide +kernel)
theorem dX3_fewestBoosts_49 : decode cX3_fewestBoosts 49 = .ok (.iload 6, 2) := dk_iload (by decide +kernel)
theorem dX3_fewestBoosts_51 : decode cX3_fewestBoosts 51 = .ok (.iload_n 3, 1) := dk_iload_n_3 (by decide +kernel)
theorem dX3_fewestBoosts_52 : decode cX3_fewestBoosts 52 = .ok (.if_icmp .ge 20, 3) := dk_if_icmp_ge (by decide +kernel)
theorem dX3_fewestBoosts_55 : decode cX3_fewestBoosts 55 = .ok (.aload_n 0, 1) := dk_aload_n_0 (by decide +kernel)
theorem dX3_fewestBoosts_56 : decode cX3_fewestBoosts 56 = .ok (.iload 5, 2) := dk_iload (by decide +kernel)
theorem dX3_fewestBoosts_58 : decode cX3_fewestBoosts 58 = .ok (.iload_n 1, 1) := dk_iload_n_1 (by decide +kernel)
theorem dX3_fewestBoosts_59 : decode cX3_fewestBoosts 59 = .ok (.invokevirtual 139, 3) := dk_invokevirtual (by decide +kernel)
theorem dX3_fewestBoosts_62 : decode cX3_fewestBoosts 62 = .ok (.ifCond .eq 10, 3) := dk_ifCond_eq (by decide +kernel)
theorem dX3_fewestBoosts_65 : decode cX3_fewestBoosts 65 = .ok (.iload 6, 2) := dk_iload (by decide +kernel)
theorem dX3_fewestBoosts_67 : decode cX3_fewestBoosts 67 = .ok (.istore_n 3, 1) := dk_istore_n_3 (by decide +kernel)
theorem dX3_fewestBoosts_68 : decode cX3_fewestBoosts 68 = .ok (.iload 5, 2) := dk_iload (by decide +kernel)
theorem dX3_fewestBoosts_70 : decode cX3_fewestBoosts 70 = .ok (.istore 4, 2) := dk_istore (by decide +kernel)
theorem dX3_fewestBoosts_72 : decode cX3_fewestBoosts 72 = .ok (.iinc 5 1, 3) := dk_iinc (by decide +kernel)
theorem dX3_fewestBoosts_75 : decode cX3_fewestBoosts 75 = .ok (.goto (-39), 3) := dk_goto (by decide +kernel)
theorem dX3_fewestBoosts_78 : decode cX3_fewestBoosts 78 = .ok (.aload_n 0, 1) := dk_aload_n_0 (by decide +kernel)
theorem dX3_fewestBoosts_79 : decode cX3_fewestBoosts 79 = .ok (.iconst 0, 1) := dk_iconst_0 (by decide +kernel)
theorem dX3_fewestBoosts_80 : decode cX3_fewestBoosts 80 = .ok (.invokevirtual 143, 3) := dk_invokevirtual (by decide +kernel)
theorem dX3_fewestBoosts_83 : decode cX3_fewestBoosts 83 = .ok (.iload 4, 2) := dk_iload (by decide +kernel)
theorem dX3_fewestBoosts_85 : decode cX3_fewestBoosts 85 = .ok (.ireturn, 1) := dk_ireturn (by decide +kernel)
theorem dX11_minuteOf_0 : decode cX11_minuteOf 0 = .ok (.aload_n 0, 1) := dk_aload_n_0 (by decide +kernel)
theorem dX11_minuteOf_1 : decode cX11_minuteOf 1 = .ok (.getfield 19, 3) := dk_getfield (by decide +kernel)
theorem dX11_minuteOf_4 : decode cX11_minuteOf 4 = .ok (.iload_n 1, 1) := dk_iload_n_1 (by decide +kernel)
theorem dX11_minuteOf_5 : decode cX11_minuteOf 5 = .ok (.invokevirtual 192, 3) := dk_invokevirtual (by decide +kernel)
theorem dX11_minuteOf_8 : decode cX11_minuteOf 8 = .ok (.astore_n 3, 1) := dk_astore_n_3 (by decide +kernel)
theorem dX11_minuteOf_9 : decode cX11_minuteOf 9 = .ok (.aload_n 3, 1) := dk_aload_n_3 (by decide +kernel)
theorem dX11_minuteOf_10 : decode cX11_minuteOf 10 = .ok (.ifnonnull 9, 3) := dk_ifnonnull (by decide +kernel)
theorem dX11_minuteOf_13 : decode cX11_minuteOf 13 = .ok (.aload_n 0, 1) := dk_aload_n_0 (by decide +kernel)
theorem dX11_minuteOf_14 : decode cX11_minuteOf 14 = .ok (.iconst (-1), 1) := dk_iconst_m1 (by decide +kernel)
theorem dX11_minuteOf_15 : decode cX11_minuteOf 15 = .ok (.invokevirtual 67, 3) := dk_invokevirtual (by decide +kernel)
theorem dX11_minuteOf_18 : decode cX11_minuteOf 18 = .ok (.ireturn, 1) := dk_ireturn (by decide +kernel)
theorem dX11_minuteOf_19 : decode cX11_minuteOf 19 = .ok (.iload_n 2, 1) := dk_iload_n_2 (by decide +kernel)
theorem dX11_minuteOf_20 : decode cX11_minuteOf 20 = .ok (.tableswitch 103 0 6 #[44, 49, 54, 59, 64, 81, 98], 44) := by decide +kernel
theorem dX11_minuteOf_64 : decode cX11_minuteOf 64 = .ok (.aload_n 3, 1) := dk_aload_n_3 (by decide +kernel)
theorem dX11_minuteOf_65 : decode cX11_minuteOf 65 = .ok (.getfield 196, 3) := dk_getfield (by decide +kernel)
theorem dX11_minuteOf_68 : decode cX11_minuteOf 68 = .ok (.ireturn, 1) := dk_ireturn (by decide +kernel)
theorem dX11_minuteOf_69 : decode cX11_minuteOf 69 = .ok (.aload_n 3, 1) := dk_aload_n_3 (by decide +kernel)
theorem dX11_minuteOf_70 : decode cX11_minuteOf 70 = .ok (.getfield 173, 3) := dk_getfield (by decide +kernel)
theorem dX11_minuteOf_73 : decode cX11_minuteOf 73 = .ok (.ireturn, 1) := dk_ireturn (by decide +kernel)
theorem dX11_minuteOf_74 : decode cX11_minuteOf 74 = .ok (.aload_n 3, 1) := dk_aload_n_3 (by decide +kernel)
theorem dX11_minuteOf_75 : decode cX11_minuteOf 75 = .ok (.getfield 179, 3) := dk_getfield (by decide +kernel)
theorem dX11_minuteOf_78 : decode cX11_minuteOf 78 = .ok (.ireturn, 1) := dk_ireturn (by decide +kernel)
theorem dX11_minuteOf_79 : decode cX11_minuteOf 79 = .ok (.aload_n 3, 1) := dk_aload_n_3 (by decide +kernel)
theorem dX11_minuteOf_80 : decode cX11_minuteOf 80 = .ok (.getfield 183, 3) := dk_getfield (by decide +kernel)
theorem dX11_minuteOf_83 : decode cX11_minuteOf 83 = .ok (.ireturn, 1) := dk_ireturn (by decide +kernel)
theorem dX11_minuteOf_84 : decode cX11_minuteOf 84 = .ok (.aload_n 0, 1) := dk_aload_n_0 (by decide +kernel)
theorem dX11_minuteOf_85 : decode cX11_minuteOf 85 = .ok (.getfield 10, 3) := dk_getfield (by decide +kernel)
theorem dX11_minuteOf_88 : decode cX11_minuteOf 88 = .ok (.aload_n 3, 1) := dk_aload_n_3 (by decide +kernel)
theorem dX11_minuteOf_89 : decode cX11_minuteOf 89 = .ok (.iload_n 1, 1) := dk_iload_n_1 (by decide +kernel)
theorem dX11_minuteOf_90 : decode cX11_minuteOf 90 = .ok (.invokevirtual 199, 3) := dk_invokevirtual (by decide +kernel)
theorem dX11_minuteOf_93 : decode cX11_minuteOf 93 = .ok (.aload_n 0, 1) := dk_aload_n_0 (by decide +kernel)
theorem dX11_minuteOf_94 : decode cX11_minuteOf 94 = .ok (.getfield 10, 3) := dk_getfield (by decide +kernel)
theorem dX11_minuteOf_97 : decode cX11_minuteOf 97 = .ok (.getfield 203, 3) := dk_getfield (by decide +kernel)
theorem dX11_minuteOf_100 : decode cX11_minuteOf 100 = .ok (.ireturn, 1) := dk_ireturn (by decide +kernel)
theorem dX11_minuteOf_101 : decode cX11_minuteOf 101 = .ok (.aload_n 0, 1) := dk_aload_n_0 (by decide +kernel)
theorem dX11_minuteOf_102 : decode cX11_minuteOf 102 = .ok (.getfield 10, 3) := dk_getfield (by decide +kernel)
theorem dX11_minuteOf_105 : decode cX11_minuteOf 105 = .ok (.aload_n 3, 1) := dk_aload_n_3 (by decide +kernel)
theorem dX11_minuteOf_106 : decode cX11_minuteOf 106 = .ok (.iload_n 1, 1) := dk_iload_n_1 (by decide +kernel)
theorem dX11_minuteOf_107 : decode cX11_minuteOf 107 = .ok (.invokevirtual 199, 3) := dk_invokevirtual (by decide +kernel)
theorem dX11_minuteOf_110 : decode cX11_minuteOf 110 = .ok (.aload_n 0, 1) := dk_aload_n_0 (by decide +kernel)
theorem dX11_minuteOf_111 : decode cX11_minuteOf 111 = .ok (.getfield 10, 3) := dk_getfield (by decide +kernel)
theorem dX11_minuteOf_114 : decode cX11_minuteOf 114 = .ok (.getfield 206, 3) := dk_getfield (by decide +kernel)
theorem dX11_minuteOf_117 : decode cX11_minuteOf 117 = .ok (.ireturn, 1) := dk_ireturn (by decide +kernel)
theorem dX11_minuteOf_118 : decode cX11_minuteOf 118 = .ok (.aload_n 3, 1) := dk_aload_n_3 (by decide +kernel)
theorem dX11_minuteOf_119 : decode cX11_minuteOf 119 = .ok (.getfield 209, 3) := dk_getfield (by decide +kernel)
theorem dX11_minuteOf_122 : decode cX11_minuteOf 122 = .ok (.ireturn, 1) := dk_ireturn (by decide +kernel)
theorem dX11_minuteOf_123 : decode cX11_minuteOf 123 = .ok (.aload_n 0, 1) := dk_aload_n_0 (by decide +kernel)
theorem dX11_minuteOf_124 : decode cX11_minuteOf 124 = .ok (.bipush (-2), 2) := dk_bipush (by decide +kernel)
theorem dX11_minuteOf_126 : decode cX11_minuteOf 126 = .ok (.invokevirtual 67, 3) := dk_invokevirtual (by decide +kernel)
theorem dX11_minuteOf_129 : decode cX11_minuteOf 129 = .ok (.ireturn, 1) := dk_ireturn (by decide +kernel)
theorem dX11_heard_0 : decode cX11_heard 0 = .ok (.aload_n 0, 1) := dk_aload_n_0 (by decide +kernel)
theorem dX11_heard_1 : decode cX11_heard 1 = .ok (.getfield 19, 3) := dk_getfield (by decide +kernel)
theorem dX11_heard_4 : decode cX11_heard 4 = .ok (.iload_n 1, 1) := dk_iload_n_1 (by decide +kernel)
theorem dX11_heard_5 : decode cX11_heard 5 = .ok (.invokevirtual 192, 3) := dk_invokevirtual (by decide +kernel)
theorem dX11_heard_8 : decode cX11_heard 8 = .ok (.astore_n 3, 1) := dk_astore_n_3 (by decide +kernel)
theorem dX11_heard_9 : decode cX11_heard 9 = .ok (.aload_n 0, 1) := dk_aload_n_0 (by decide +kernel)
theorem dX11_heard_10 : decode cX11_heard 10 = .ok (.getfield 10, 3) := dk_getfield (by decide +kernel)
theorem dX11_heard_13 : decode cX11_heard 13 = .ok (.iload_n 2, 1) := dk_iload_n_2 (by decide +kernel)
theorem dX11_heard_14 : decode cX11_heard 14 = .ok (.invokevirtual 141, 3) := dk_invokevirtual (by decide +kernel)
theorem dX11_heard_17 : decode cX11_heard 17 = .ok (.astore 4, 2) := dk_astore (by decide +kernel)
theorem dX11_heard_19 : decode cX11_heard 19 = .ok (.aload_n 3, 1) := dk_aload_n_3 (by decide +kernel)
theorem dX11_heard_20 : decode cX11_heard 20 = .ok (.ifnull 8, 3) := dk_ifnull (by decide +kernel)
theorem dX11_heard_23 : decode cX11_heard 23 = .ok (.aload 4, 2) := dk_aload (by decide +kernel)
theorem dX11_heard_25 : decode cX11_heard 25 = .ok (.ifnonnull 9, 3) := dk_ifnonnull (by decide +kernel)
theorem dX11_heard_28 : decode cX11_heard 28 = .ok (.aload_n 0, 1) := dk_aload_n_0 (by decide +kernel)
theorem dX11_heard_29 : decode cX11_heard 29 = .ok (.iconst (-1), 1) := dk_iconst_m1 (by decide +kernel)
theorem dX11_heard_30 : decode cX11_heard 30 = .ok (.invokevirtual 67, 3) := dk_invokevirtual (by decide +kernel)
theorem dX11_heard_33 : decode cX11_heard 33 = .ok (.ireturn, 1) := dk_ireturn (by decide +kernel)
theorem dX11_heard_34 : decode cX11_heard 34 = .ok (.aload_n 0, 1) := dk_aload_n_0 (by decide +kernel)
theorem dX11_heard_35 : decode cX11_heard 35 = .ok (.getfield 10, 3) := dk_getfield (by decide +kernel)
theorem dX11_heard_38 : decode cX11_heard 38 = .ok (.aload_n 3, 1) := dk_aload_n_3 (by decide +kernel)
theorem dX11_heard_39 : decode cX11_heard 39 = .ok (.getfield 179, 3) := dk_getfield (by decide +kernel)
theorem dX11_heard_42 : decode cX11_heard 42 = .ok (.aload_n 3, 1) := dk_aload_n_3 (by decide +kernel)
theorem dX11_heard_43 : decode cX11_heard 43 = .ok (.getfield 209, 3) := dk_getfield (by decide +kernel)
theorem dX11_heard_46 : decode cX11_heard 46 = .ok (.iload_n 1, 1) := dk_iload_n_1 (by decide +kernel)
theorem dX11_heard_47 : decode cX11_heard 47 = .ok (.invokevirtual 122, 3) := dk_invokevirtual (by decide +kernel)
theorem dX11_heard_50 : decode cX11_heard 50 = .ok (.aload_n 0, 1) := dk_aload_n_0 (by decide +kernel)
theorem dX11_heard_51 : decode cX11_heard 51 = .ok (.getfield 10, 3) := dk_getfield (by decide +kernel)
theorem dX11_heard_54 : decode cX11_heard 54 = .ok (.aload 4, 2) := dk_aload (by decide +kernel)
theorem dX11_heard_56 : decode cX11_heard 56 = .ok (.aload_n 3, 1) := dk_aload_n_3 (by decide +kernel)
theorem dX11_heard_57 : decode cX11_heard 57 = .ok (.iload_n 1, 1) := dk_iload_n_1 (by decide +kernel)
theorem dX11_heard_58 : decode cX11_heard 58 = .ok (.invokevirtual 210, 3) := dk_invokevirtual (by decide +kernel)
theorem dX11_heard_61 : decode cX11_heard 61 = .ok (.ireturn, 1) := dk_ireturn (by decide +kernel)
theorem dX11_loud_0 : decode cX11_loud 0 = .ok (.aload_n 0, 1) := dk_aload_n_0 (by decide +kernel)
theorem dX11_loud_1 : decode cX11_loud 1 = .ok (.getfield 10, 3) := dk_getfield (by decide +kernel)
theorem dX11_loud_4 : decode cX11_loud 4 = .ok (.iload_n 1, 1) := dk_iload_n_1 (by decide +kernel)
theorem dX11_loud_5 : decode cX11_loud 5 = .ok (.invokevirtual 86, 3) := dk_invokevirtual (by decide +kernel)
theorem dX11_loud_8 : decode cX11_loud 8 = .ok (.astore_n 3, 1) := dk_astore_n_3 (by decide +kernel)
theorem dX11_loud_9 : decode cX11_loud 9 = .ok (.aload_n 3, 1) := dk_aload_n_3 (by decide +kernel)
theorem dX11_loud_10 : decode cX11_loud 10 = .ok (.ifnonnull 9, 3) := dk_ifnonnull (by decide +kernel)
theorem dX11_loud_13 : decode cX11_loud 13 = .ok (.aload_n 0, 1) := dk_aload_n_0 (by decide +kernel)
theorem dX11_loud_14 : decode cX11_loud 14 = .ok (.iconst (-1), 1) := dk_iconst_m1 (by decide +kernel)
theorem dX11_loud_15 : decode cX11_loud 15 = .ok (.invokevirtual 67, 3) := dk_invokevirtual (by decide +kernel)
theorem dX11_loud_18 : decode cX11_loud 18 = .ok (.ireturn, 1) := dk_ireturn (by decide +kernel)
theorem dX11_loud_19 : decode cX11_loud 19 = .ok (.iload_n 2, 1) := dk_iload_n_2 (by decide +kernel)
theorem dX11_loud_20 : decode cX11_loud 20 = .ok (.invokestatic 119, 3) := dk_invokestatic (by decide +kernel)
theorem dX11_loud_23 : decode cX11_loud 23 = .ok (.istore 4, 2) := dk_istore (by decide +kernel)
theorem dX11_loud_25 : decode cX11_loud 25 = .ok (.iload 4, 2) := dk_iload (by decide +kernel)
theorem dX11_loud_27 : decode cX11_loud 27 = .ok (.ifCond .eq 10, 3) := dk_ifCond_eq (by decide +kernel)
theorem dX11_loud_30 : decode cX11_loud 30 = .ok (.aload_n 0, 1) := dk_aload_n_0 (by decide +kernel)
theorem dX11_loud_31 : decode cX11_loud 31 = .ok (.iload 4, 2) := dk_iload (by decide +kernel)
theorem dX11_loud_33 : decode cX11_loud 33 = .ok (.invokevirtual 67, 3) := dk_invokevirtual (by decide +kernel)
theorem dX11_loud_36 : decode cX11_loud 36 = .ok (.ireturn, 1) := dk_ireturn (by decide +kernel)
theorem dX11_loud_37 : decode cX11_loud 37 = .ok (.aload_n 0, 1) := dk_aload_n_0 (by decide +kernel)
theorem dX11_loud_38 : decode cX11_loud 38 = .ok (.getfield 10, 3) := dk_getfield (by decide +kernel)
theorem dX11_loud_41 : decode cX11_loud 41 = .ok (.iload_n 2, 1) := dk_iload_n_2 (by decide +kernel)
theorem dX11_loud_42 : decode cX11_loud 42 = .ok (.aload_n 0, 1) := dk_aload_n_0 (by decide +kernel)
theorem dX11_loud_43 : decode cX11_loud 43 = .ok (.getfield 10, 3) := dk_getfield (by decide +kernel)
theorem dX11_loud_46 : decode cX11_loud 46 = .ok (.getfield 76, 3) := dk_getfield (by decide +kernel)
theorem dX11_loud_49 : decode cX11_loud 49 = .ok (.aload_n 0, 1) := dk_aload_n_0 (by decide +kernel)
theorem dX11_loud_50 : decode cX11_loud 50 = .ok (.getfield 19, 3) := dk_getfield (by decide +kernel)
theorem dX11_loud_53 : decode cX11_loud 53 = .ok (.getfield 71, 3) := dk_getfield (by decide +kernel)
theorem dX11_loud_56 : decode cX11_loud 56 = .ok (.invokevirtual 122, 3) := dk_invokevirtual (by decide +kernel)
theorem dX11_loud_59 : decode cX11_loud 59 = .ok (.aload_n 3, 1) := dk_aload_n_3 (by decide +kernel)
theorem dX11_loud_60 : decode cX11_loud 60 = .ok (.getfield 126, 3) := dk_getfield (by decide +kernel)
theorem dX11_loud_63 : decode cX11_loud 63 = .ok (.ireturn, 1) := dk_ireturn (by decide +kernel)
theorem dX11_boosts_0 : decode cX11_boosts 0 = .ok (.iload_n 1, 1) := dk_iload_n_1 (by decide +kernel)
theorem dX11_boosts_1 : decode cX11_boosts 1 = .ok (.invokestatic 119, 3) := dk_invokestatic (by decide +kernel)
theorem dX11_boosts_4 : decode cX11_boosts 4 = .ok (.istore_n 2, 1) := dk_istore_n_2 (by decide +kernel)
theorem dX11_boosts_5 : decode cX11_boosts 5 = .ok (.iload_n 2, 1) := dk_iload_n_2 (by decide +kernel)
theorem dX11_boosts_6 : decode cX11_boosts 6 = .ok (.ifCond .eq 9, 3) := dk_ifCond_eq (by decide +kernel)
theorem dX11_boosts_9 : decode cX11_boosts 9 = .ok (.aload_n 0, 1) := dk_aload_n_0 (by decide +kernel)
theorem dX11_boosts_10 : decode cX11_boosts 10 = .ok (.iload_n 2, 1) := dk_iload_n_2 (by decide +kernel)
theorem dX11_boosts_11 : decode cX11_boosts 11 = .ok (.invokevirtual 67, 3) := dk_invokevirtual (by decide +kernel)
theorem dX11_boosts_14 : decode cX11_boosts 14 = .ok (.ireturn, 1) := dk_ireturn (by decide +kernel)
theorem dX11_boosts_15 : decode cX11_boosts 15 = .ok (.aload_n 0, 1) := dk_aload_n_0 (by decide +kernel)
theorem dX11_boosts_16 : decode cX11_boosts 16 = .ok (.getfield 10, 3) := dk_getfield (by decide +kernel)
theorem dX11_boosts_19 : decode cX11_boosts 19 = .ok (.iload_n 1, 1) := dk_iload_n_1 (by decide +kernel)
theorem dX11_boosts_20 : decode cX11_boosts 20 = .ok (.invokevirtual 270, 3) := dk_invokevirtual (by decide +kernel)
theorem dX11_boosts_23 : decode cX11_boosts 23 = .ok (.ireturn, 1) := dk_ireturn (by decide +kernel)
theorem dX11_breaks_0 : decode cX11_breaks 0 = .ok (.iload_n 1, 1) := dk_iload_n_1 (by decide +kernel)
theorem dX11_breaks_1 : decode cX11_breaks 1 = .ok (.ifCond .lt 8, 3) := dk_ifCond_lt (by decide +kernel)
theorem dX11_breaks_4 : decode cX11_breaks 4 = .ok (.iload_n 1, 1) := dk_iload_n_1 (by decide +kernel)
theorem dX11_breaks_5 : decode cX11_breaks 5 = .ok (.iconst 2, 1) := dk_iconst_2 (by decide +kernel)
theorem dX11_breaks_6 : decode cX11_breaks 6 = .ok (.if_icmp .le 10, 3) := dk_if_icmp_le (by decide +kernel)
theorem dX11_breaks_9 : decode cX11_breaks 9 = .ok (.aload_n 0, 1) := dk_aload_n_0 (by decide +kernel)
theorem dX11_breaks_10 : decode cX11_breaks 10 = .ok (.bipush (-2), 2) := dk_bipush (by decide +kernel)
theorem dX11_breaks_12 : decode cX11_breaks 12 = .ok (.invokevirtual 67, 3) := dk_invokevirtual (by decide +kernel)
theorem dX11_breaks_15 : decode cX11_breaks 15 = .ok (.ireturn, 1) := dk_ireturn (by decide +kernel)
theorem dX11_breaks_16 : decode cX11_breaks 16 = .ok (.aload_n 0, 1) := dk_aload_n_0 (by decide +kernel)
theorem dX11_breaks_17 : decode cX11_breaks 17 = .ok (.getfield 10, 3) := dk_getfield (by decide +kernel)
theorem dX11_breaks_20 : decode cX11_breaks 20 = .ok (.iload_n 1, 1) := dk_iload_n_1 (by decide +kernel)
theorem dX11_breaks_21 : decode cX11_breaks 21 = .ok (.invokevirtual 261, 3) := dk_invokevirtual (by decide +kernel)
theorem dX11_breaks_24 : decode cX11_breaks 24 = .ok (.ireturn, 1) := dk_ireturn (by decide +kernel)
set_option maxHeartbeats 4000000 in
set_option maxRecDepth 100000 in
theorem c_X10_isLetter (l : Launch) (g : gG) (J : Nat → Nat → Int32) (L : Nat → Nat → Int64) (I : Nat → Nat → Nat → Int32) (P : Nat → Nat → Nat → Option Nat) (E : Nat → Option Nat) (N : Nat → Nat) (dy : List (Nat × Nat)) (sz : Nat) (a0 : Int32)  : Met l yX10_isLetter (WS yX10_isLetter cX10_isLetter 1 (some .boolean)) (RM (1) 0 0) (PC g [.int a0] ((J, L, I, P, E, N), sgX g ++ dy) sz) (va_Qi (fun (r : Int32) (u : Unit) => ((r.toInt = 1) ∨ (r.toInt = 0))) (fun u t => at_ g (FR g ((J, L, I, P, E, N), sgX g ++ dy) sz) ((J, L, I, P, E, N), sgX g ++ dy) t) (FR g ((J, L, I, P, E, N), sgX g ++ dy) sz)) 0 0 (FR g ((J, L, I, P, E, N), sgX g ++ dy) sz) := by
  refine ent (by decide +kernel) (Nat.le_of_ble_eq_true rfl) ?_
  intro p e s m below meth c ls hsz C hW hr hlocks hname hl
  generalize FR g ((J, L, I, P, E, N), sgX g ++ dy) sz = A at C hW ⊢
  have hx := C.1.1
  have hb := C.1.2.1
  have hts := C.1.2.2.2.2
  have hl : lv_has ls 1 [(0, .int a0)] := hl
  obtain ⟨H, hH⟩ : ∃ H : Heap, H = s.heap := ⟨_, rfl⟩
  obtain ⟨locs, hlocs⟩ : ∃ q : List Loc, q = [] := ⟨_, rfl⟩
  have hW : WB g A s.heap H locs (J, L, I, P, E, N) (sgX g ++ dy) := by rw [hH, hlocs]; exact hW
  refine start_ hH hlocs ?_
  refine lv_iload_n hx hb dX10_isLetter_0 rfl (lv_at hl 0 rfl) ?_
  rcases Int.lt_or_le a0.toInt 97 with c1 | c1
  · refine lv_tableOut (tgt := 110) hx hb dX10_isLetter_1 (Or.inl c1) (by decide) ?_
    refine lv_iconst (v := 0) hx hb dX10_isLetter_110 (by decide) ?_
    exact end_z C hr hlocks (by decide) () hW (by first | exact Or.inr ((by decide))) dX10_isLetter_111
  · rcases Int.lt_or_le 119 a0.toInt with c1b | c1b
    · refine lv_tableOut (tgt := 110) hx hb dX10_isLetter_1 (Or.inr c1b) (by decide) ?_
      refine lv_iconst (v := 0) hx hb dX10_isLetter_110 (by decide) ?_
      exact end_z C hr hlocks (by decide) () hW (by first | exact Or.inr ((by decide))) dX10_isLetter_111
    · rcases (show a0.toInt = 97 ∨ a0.toInt = 98 ∨ a0.toInt = 99 ∨ a0.toInt = 100 ∨ a0.toInt = 101 ∨ a0.toInt = 102 ∨ a0.toInt = 103 ∨ a0.toInt = 104 ∨ a0.toInt = 105 ∨ a0.toInt = 106 ∨ a0.toInt = 107 ∨ a0.toInt = 108 ∨ a0.toInt = 109 ∨ a0.toInt = 110 ∨ a0.toInt = 111 ∨ a0.toInt = 112 ∨ a0.toInt = 113 ∨ a0.toInt = 114 ∨ a0.toInt = 115 ∨ a0.toInt = 116 ∨ a0.toInt = 117 ∨ a0.toInt = 118 ∨ a0.toInt = 119 by omega) with c1k | c1k | c1k | c1k | c1k | c1k | c1k | c1k | c1k | c1k | c1k | c1k | c1k | c1k | c1k | c1k | c1k | c1k | c1k | c1k | c1k | c1k | c1k
      · refine lv_tableIn (off := 107) (tgt := 108) hx hb dX10_isLetter_1 (Int.not_lt.mpr c1) (Int.not_lt.mpr c1b) (by rw [c1k]; rfl) (by decide) ?_
        refine lv_iconst (v := 1) hx hb dX10_isLetter_108 (by decide) ?_
        exact end_z C hr hlocks (by decide) () hW (by first | exact Or.inl (by decide)) dX10_isLetter_109
      · refine lv_tableIn (off := 109) (tgt := 110) hx hb dX10_isLetter_1 (Int.not_lt.mpr c1) (Int.not_lt.mpr c1b) (by rw [c1k]; rfl) (by decide) ?_
        refine lv_iconst (v := 0) hx hb dX10_isLetter_110 (by decide) ?_
        exact end_z C hr hlocks (by decide) () hW (by first | exact Or.inr ((by decide))) dX10_isLetter_111
      · refine lv_tableIn (off := 109) (tgt := 110) hx hb dX10_isLetter_1 (Int.not_lt.mpr c1) (Int.not_lt.mpr c1b) (by rw [c1k]; rfl) (by decide) ?_
        refine lv_iconst (v := 0) hx hb dX10_isLetter_110 (by decide) ?_
        exact end_z C hr hlocks (by decide) () hW (by first | exact Or.inr ((by decide))) dX10_isLetter_111
      · refine lv_tableIn (off := 109) (tgt := 110) hx hb dX10_isLetter_1 (Int.not_lt.mpr c1) (Int.not_lt.mpr c1b) (by rw [c1k]; rfl) (by decide) ?_
        refine lv_iconst (v := 0) hx hb dX10_isLetter_110 (by decide) ?_
        exact end_z C hr hlocks (by decide) () hW (by first | exact Or.inr ((by decide))) dX10_isLetter_111
      · refine lv_tableIn (off := 109) (tgt := 110) hx hb dX10_isLetter_1 (Int.not_lt.mpr c1) (Int.not_lt.mpr c1b) (by rw [c1k]; rfl) (by decide) ?_
        refine lv_iconst (v := 0) hx hb dX10_isLetter_110 (by decide) ?_
        exact end_z C hr hlocks (by decide) () hW (by first | exact Or.inr ((by decide))) dX10_isLetter_111
      · refine lv_tableIn (off := 109) (tgt := 110) hx hb dX10_isLetter_1 (Int.not_lt.mpr c1) (Int.not_lt.mpr c1b) (by rw [c1k]; rfl) (by decide) ?_
        refine lv_iconst (v := 0) hx hb dX10_isLetter_110 (by decide) ?_
        exact end_z C hr hlocks (by decide) () hW (by first | exact Or.inr ((by decide))) dX10_isLetter_111
      · refine lv_tableIn (off := 109) (tgt := 110) hx hb dX10_isLetter_1 (Int.not_lt.mpr c1) (Int.not_lt.mpr c1b) (by rw [c1k]; rfl) (by decide) ?_
        refine lv_iconst (v := 0) hx hb dX10_isLetter_110 (by decide) ?_
        exact end_z C hr hlocks (by decide) () hW (by first | exact Or.inr ((by decide))) dX10_isLetter_111
      · refine lv_tableIn (off := 107) (tgt := 108) hx hb dX10_isLetter_1 (Int.not_lt.mpr c1) (Int.not_lt.mpr c1b) (by rw [c1k]; rfl) (by decide) ?_
        refine lv_iconst (v := 1) hx hb dX10_isLetter_108 (by decide) ?_
        exact end_z C hr hlocks (by decide) () hW (by first | exact Or.inl (by decide)) dX10_isLetter_109
      · refine lv_tableIn (off := 109) (tgt := 110) hx hb dX10_isLetter_1 (Int.not_lt.mpr c1) (Int.not_lt.mpr c1b) (by rw [c1k]; rfl) (by decide) ?_
        refine lv_iconst (v := 0) hx hb dX10_isLetter_110 (by decide) ?_
        exact end_z C hr hlocks (by decide) () hW (by first | exact Or.inr ((by decide))) dX10_isLetter_111
      · refine lv_tableIn (off := 109) (tgt := 110) hx hb dX10_isLetter_1 (Int.not_lt.mpr c1) (Int.not_lt.mpr c1b) (by rw [c1k]; rfl) (by decide) ?_
        refine lv_iconst (v := 0) hx hb dX10_isLetter_110 (by decide) ?_
        exact end_z C hr hlocks (by decide) () hW (by first | exact Or.inr ((by decide))) dX10_isLetter_111
      · refine lv_tableIn (off := 107) (tgt := 108) hx hb dX10_isLetter_1 (Int.not_lt.mpr c1) (Int.not_lt.mpr c1b) (by rw [c1k]; rfl) (by decide) ?_
        refine lv_iconst (v := 1) hx hb dX10_isLetter_108 (by decide) ?_
        exact end_z C hr hlocks (by decide) () hW (by first | exact Or.inl (by decide)) dX10_isLetter_109
      · refine lv_tableIn (off := 109) (tgt := 110) hx hb dX10_isLetter_1 (Int.not_lt.mpr c1) (Int.not_lt.mpr c1b) (by rw [c1k]; rfl) (by decide) ?_
        refine lv_iconst (v := 0) hx hb dX10_isLetter_110 (by decide) ?_
        exact end_z C hr hlocks (by decide) () hW (by first | exact Or.inr ((by decide))) dX10_isLetter_111
      · refine lv_tableIn (off := 107) (tgt := 108) hx hb dX10_isLetter_1 (Int.not_lt.mpr c1) (Int.not_lt.mpr c1b) (by rw [c1k]; rfl) (by decide) ?_
        refine lv_iconst (v := 1) hx hb dX10_isLetter_108 (by decide) ?_
        exact end_z C hr hlocks (by decide) () hW (by first | exact Or.inl (by decide)) dX10_isLetter_109
      · refine lv_tableIn (off := 107) (tgt := 108) hx hb dX10_isLetter_1 (Int.not_lt.mpr c1) (Int.not_lt.mpr c1b) (by rw [c1k]; rfl) (by decide) ?_
        refine lv_iconst (v := 1) hx hb dX10_isLetter_108 (by decide) ?_
        exact end_z C hr hlocks (by decide) () hW (by first | exact Or.inl (by decide)) dX10_isLetter_109
      · refine lv_tableIn (off := 109) (tgt := 110) hx hb dX10_isLetter_1 (Int.not_lt.mpr c1) (Int.not_lt.mpr c1b) (by rw [c1k]; rfl) (by decide) ?_
        refine lv_iconst (v := 0) hx hb dX10_isLetter_110 (by decide) ?_
        exact end_z C hr hlocks (by decide) () hW (by first | exact Or.inr ((by decide))) dX10_isLetter_111
      · refine lv_tableIn (off := 109) (tgt := 110) hx hb dX10_isLetter_1 (Int.not_lt.mpr c1) (Int.not_lt.mpr c1b) (by rw [c1k]; rfl) (by decide) ?_
        refine lv_iconst (v := 0) hx hb dX10_isLetter_110 (by decide) ?_
        exact end_z C hr hlocks (by decide) () hW (by first | exact Or.inr ((by decide))) dX10_isLetter_111
      · refine lv_tableIn (off := 109) (tgt := 110) hx hb dX10_isLetter_1 (Int.not_lt.mpr c1) (Int.not_lt.mpr c1b) (by rw [c1k]; rfl) (by decide) ?_
        refine lv_iconst (v := 0) hx hb dX10_isLetter_110 (by decide) ?_
        exact end_z C hr hlocks (by decide) () hW (by first | exact Or.inr ((by decide))) dX10_isLetter_111
      · refine lv_tableIn (off := 109) (tgt := 110) hx hb dX10_isLetter_1 (Int.not_lt.mpr c1) (Int.not_lt.mpr c1b) (by rw [c1k]; rfl) (by decide) ?_
        refine lv_iconst (v := 0) hx hb dX10_isLetter_110 (by decide) ?_
        exact end_z C hr hlocks (by decide) () hW (by first | exact Or.inr ((by decide))) dX10_isLetter_111
      · refine lv_tableIn (off := 107) (tgt := 108) hx hb dX10_isLetter_1 (Int.not_lt.mpr c1) (Int.not_lt.mpr c1b) (by rw [c1k]; rfl) (by decide) ?_
        refine lv_iconst (v := 1) hx hb dX10_isLetter_108 (by decide) ?_
        exact end_z C hr hlocks (by decide) () hW (by first | exact Or.inl (by decide)) dX10_isLetter_109
      · refine lv_tableIn (off := 109) (tgt := 110) hx hb dX10_isLetter_1 (Int.not_lt.mpr c1) (Int.not_lt.mpr c1b) (by rw [c1k]; rfl) (by decide) ?_
        refine lv_iconst (v := 0) hx hb dX10_isLetter_110 (by decide) ?_
        exact end_z C hr hlocks (by decide) () hW (by first | exact Or.inr ((by decide))) dX10_isLetter_111
      · refine lv_tableIn (off := 109) (tgt := 110) hx hb dX10_isLetter_1 (Int.not_lt.mpr c1) (Int.not_lt.mpr c1b) (by rw [c1k]; rfl) (by decide) ?_
        refine lv_iconst (v := 0) hx hb dX10_isLetter_110 (by decide) ?_
        exact end_z C hr hlocks (by decide) () hW (by first | exact Or.inr ((by decide))) dX10_isLetter_111
      · refine lv_tableIn (off := 107) (tgt := 108) hx hb dX10_isLetter_1 (Int.not_lt.mpr c1) (Int.not_lt.mpr c1b) (by rw [c1k]; rfl) (by decide) ?_
        refine lv_iconst (v := 1) hx hb dX10_isLetter_108 (by decide) ?_
        exact end_z C hr hlocks (by decide) () hW (by first | exact Or.inl (by decide)) dX10_isLetter_109
      · refine lv_tableIn (off := 107) (tgt := 108) hx hb dX10_isLetter_1 (Int.not_lt.mpr c1) (Int.not_lt.mpr c1b) (by rw [c1k]; rfl) (by decide) ?_
        refine lv_iconst (v := 1) hx hb dX10_isLetter_108 (by decide) ?_
        exact end_z C hr hlocks (by decide) () hW (by first | exact Or.inl (by decide)) dX10_isLetter_109

set_option maxHeartbeats 4000000 in
set_option maxRecDepth 100000 in
theorem c_X7_letter (l : Launch) (g : gG) (J : Nat → Nat → Int32) (L : Nat → Nat → Int64) (I : Nat → Nat → Nat → Int32) (P : Nat → Nat → Nat → Option Nat) (E : Nat → Option Nat) (N : Nat → Nat) (dy : List (Nat × Nat)) (sz : Nat) (a0 : Int32)  : Met l yX7_letter (WS yX7_letter cX7_letter 2 (some .int)) (RM (1) 0 0) (PC g [.ref (g.2.2.1 8), .int a0] ((J, L, I, P, E, N), sgX g ++ dy) sz) (va_Qi (fun (r : Int32) (u : Unit) => True) (fun u t => at_ g (FR g ((J, L, I, P, E, N), sgX g ++ dy) sz) ((J, L, I, P, E, N), sgX g ++ dy) t) (FR g ((J, L, I, P, E, N), sgX g ++ dy) sz)) 0 0 (FR g ((J, L, I, P, E, N), sgX g ++ dy) sz) := by
  refine ent (by decide +kernel) (Nat.le_of_ble_eq_true rfl) ?_
  intro p e s m below meth c ls hsz C hW hr hlocks hname hl
  generalize FR g ((J, L, I, P, E, N), sgX g ++ dy) sz = A at C hW ⊢
  have hx := C.1.1
  have hb := C.1.2.1
  have hts := C.1.2.2.2.2
  have hl : lv_has ls 2 [(0, .ref (g.2.2.1 8)), (1, .int a0)] := hl
  obtain ⟨H, hH⟩ : ∃ H : Heap, H = s.heap := ⟨_, rfl⟩
  obtain ⟨locs, hlocs⟩ : ∃ q : List Loc, q = [] := ⟨_, rfl⟩
  have hW : WB g A s.heap H locs (J, L, I, P, E, N) (sgX g ++ dy) := by rw [hH, hlocs]; exact hW
  refine start_ hH hlocs ?_
  refine lv_iload_n hx hb dX7_letter_0 rfl (lv_at hl 1 rfl) ?_
  rcases Int.lt_or_le a0.toInt 97 with c1 | c1
  · refine lv_tableOut (tgt := 143) hx hb dX7_letter_1 (Or.inl c1) (by decide) ?_
    refine lv_aload_n hx hb dX7_letter_143 rfl (lv_at hl 0 rfl) ?_
    refine rg_8_9 C hW (mx_ rfl) tw_341 dX7_letter_144 ?_
    exact end_i C hr hlocks () hW trivial dX7_letter_147
  · rcases Int.lt_or_le 119 a0.toInt with c1b | c1b
    · refine lv_tableOut (tgt := 143) hx hb dX7_letter_1 (Or.inr c1b) (by decide) ?_
      refine lv_aload_n hx hb dX7_letter_143 rfl (lv_at hl 0 rfl) ?_
      refine rg_8_9 C hW (mx_ rfl) tw_341 dX7_letter_144 ?_
      exact end_i C hr hlocks () hW trivial dX7_letter_147
    · rcases (show a0.toInt = 97 ∨ a0.toInt = 98 ∨ a0.toInt = 99 ∨ a0.toInt = 100 ∨ a0.toInt = 101 ∨ a0.toInt = 102 ∨ a0.toInt = 103 ∨ a0.toInt = 104 ∨ a0.toInt = 105 ∨ a0.toInt = 106 ∨ a0.toInt = 107 ∨ a0.toInt = 108 ∨ a0.toInt = 109 ∨ a0.toInt = 110 ∨ a0.toInt = 111 ∨ a0.toInt = 112 ∨ a0.toInt = 113 ∨ a0.toInt = 114 ∨ a0.toInt = 115 ∨ a0.toInt = 116 ∨ a0.toInt = 117 ∨ a0.toInt = 118 ∨ a0.toInt = 119 by omega) with c1k | c1k | c1k | c1k | c1k | c1k | c1k | c1k | c1k | c1k | c1k | c1k | c1k | c1k | c1k | c1k | c1k | c1k | c1k | c1k | c1k | c1k | c1k
      · refine lv_tableIn (off := 137) (tgt := 138) hx hb dX7_letter_1 (Int.not_lt.mpr c1) (Int.not_lt.mpr c1b) (by rw [c1k]; rfl) (by decide) ?_
        refine lv_aload_n hx hb dX7_letter_138 rfl (lv_at hl 0 rfl) ?_
        refine rg_8_8 C hW (mx_ rfl) tw_339 dX7_letter_139 ?_
        exact end_i C hr hlocks () hW trivial dX7_letter_142
      · refine lv_tableIn (off := 142) (tgt := 143) hx hb dX7_letter_1 (Int.not_lt.mpr c1) (Int.not_lt.mpr c1b) (by rw [c1k]; rfl) (by decide) ?_
        refine lv_aload_n hx hb dX7_letter_143 rfl (lv_at hl 0 rfl) ?_
        refine rg_8_9 C hW (mx_ rfl) tw_341 dX7_letter_144 ?_
        exact end_i C hr hlocks () hW trivial dX7_letter_147
      · refine lv_tableIn (off := 142) (tgt := 143) hx hb dX7_letter_1 (Int.not_lt.mpr c1) (Int.not_lt.mpr c1b) (by rw [c1k]; rfl) (by decide) ?_
        refine lv_aload_n hx hb dX7_letter_143 rfl (lv_at hl 0 rfl) ?_
        refine rg_8_9 C hW (mx_ rfl) tw_341 dX7_letter_144 ?_
        exact end_i C hr hlocks () hW trivial dX7_letter_147
      · refine lv_tableIn (off := 142) (tgt := 143) hx hb dX7_letter_1 (Int.not_lt.mpr c1) (Int.not_lt.mpr c1b) (by rw [c1k]; rfl) (by decide) ?_
        refine lv_aload_n hx hb dX7_letter_143 rfl (lv_at hl 0 rfl) ?_
        refine rg_8_9 C hW (mx_ rfl) tw_341 dX7_letter_144 ?_
        exact end_i C hr hlocks () hW trivial dX7_letter_147
      · refine lv_tableIn (off := 142) (tgt := 143) hx hb dX7_letter_1 (Int.not_lt.mpr c1) (Int.not_lt.mpr c1b) (by rw [c1k]; rfl) (by decide) ?_
        refine lv_aload_n hx hb dX7_letter_143 rfl (lv_at hl 0 rfl) ?_
        refine rg_8_9 C hW (mx_ rfl) tw_341 dX7_letter_144 ?_
        exact end_i C hr hlocks () hW trivial dX7_letter_147
      · refine lv_tableIn (off := 142) (tgt := 143) hx hb dX7_letter_1 (Int.not_lt.mpr c1) (Int.not_lt.mpr c1b) (by rw [c1k]; rfl) (by decide) ?_
        refine lv_aload_n hx hb dX7_letter_143 rfl (lv_at hl 0 rfl) ?_
        refine rg_8_9 C hW (mx_ rfl) tw_341 dX7_letter_144 ?_
        exact end_i C hr hlocks () hW trivial dX7_letter_147
      · refine lv_tableIn (off := 142) (tgt := 143) hx hb dX7_letter_1 (Int.not_lt.mpr c1) (Int.not_lt.mpr c1b) (by rw [c1k]; rfl) (by decide) ?_
        refine lv_aload_n hx hb dX7_letter_143 rfl (lv_at hl 0 rfl) ?_
        refine rg_8_9 C hW (mx_ rfl) tw_341 dX7_letter_144 ?_
        exact end_i C hr hlocks () hW trivial dX7_letter_147
      · refine lv_tableIn (off := 112) (tgt := 113) hx hb dX7_letter_1 (Int.not_lt.mpr c1) (Int.not_lt.mpr c1b) (by rw [c1k]; rfl) (by decide) ?_
        refine lv_aload_n hx hb dX7_letter_113 rfl (lv_at hl 0 rfl) ?_
        refine rg_8_3 C hW (mx_ rfl) tw_329 dX7_letter_114 ?_
        exact end_i C hr hlocks () hW trivial dX7_letter_117
      · refine lv_tableIn (off := 142) (tgt := 143) hx hb dX7_letter_1 (Int.not_lt.mpr c1) (Int.not_lt.mpr c1b) (by rw [c1k]; rfl) (by decide) ?_
        refine lv_aload_n hx hb dX7_letter_143 rfl (lv_at hl 0 rfl) ?_
        refine rg_8_9 C hW (mx_ rfl) tw_341 dX7_letter_144 ?_
        exact end_i C hr hlocks () hW trivial dX7_letter_147
      · refine lv_tableIn (off := 142) (tgt := 143) hx hb dX7_letter_1 (Int.not_lt.mpr c1) (Int.not_lt.mpr c1b) (by rw [c1k]; rfl) (by decide) ?_
        refine lv_aload_n hx hb dX7_letter_143 rfl (lv_at hl 0 rfl) ?_
        refine rg_8_9 C hW (mx_ rfl) tw_341 dX7_letter_144 ?_
        exact end_i C hr hlocks () hW trivial dX7_letter_147
      · refine lv_tableIn (off := 107) (tgt := 108) hx hb dX7_letter_1 (Int.not_lt.mpr c1) (Int.not_lt.mpr c1b) (by rw [c1k]; rfl) (by decide) ?_
        refine lv_aload_n hx hb dX7_letter_108 rfl (lv_at hl 0 rfl) ?_
        refine rg_8_2 C hW (mx_ rfl) tw_327 dX7_letter_109 ?_
        exact end_i C hr hlocks () hW trivial dX7_letter_112
      · refine lv_tableIn (off := 142) (tgt := 143) hx hb dX7_letter_1 (Int.not_lt.mpr c1) (Int.not_lt.mpr c1b) (by rw [c1k]; rfl) (by decide) ?_
        refine lv_aload_n hx hb dX7_letter_143 rfl (lv_at hl 0 rfl) ?_
        refine rg_8_9 C hW (mx_ rfl) tw_341 dX7_letter_144 ?_
        exact end_i C hr hlocks () hW trivial dX7_letter_147
      · refine lv_tableIn (off := 127) (tgt := 128) hx hb dX7_letter_1 (Int.not_lt.mpr c1) (Int.not_lt.mpr c1b) (by rw [c1k]; rfl) (by decide) ?_
        refine lv_aload_n hx hb dX7_letter_128 rfl (lv_at hl 0 rfl) ?_
        refine rg_8_6 C hW (mx_ rfl) tw_335 dX7_letter_129 ?_
        exact end_i C hr hlocks () hW trivial dX7_letter_132
      · refine lv_tableIn (off := 142) (tgt := 143) hx hb dX7_letter_1 (Int.not_lt.mpr c1) (Int.not_lt.mpr c1b) (by rw [c1k]; rfl) (by decide) ?_
        refine lv_aload_n hx hb dX7_letter_143 rfl (lv_at hl 0 rfl) ?_
        refine rg_8_9 C hW (mx_ rfl) tw_341 dX7_letter_144 ?_
        exact end_i C hr hlocks () hW trivial dX7_letter_147
      · refine lv_tableIn (off := 142) (tgt := 143) hx hb dX7_letter_1 (Int.not_lt.mpr c1) (Int.not_lt.mpr c1b) (by rw [c1k]; rfl) (by decide) ?_
        refine lv_aload_n hx hb dX7_letter_143 rfl (lv_at hl 0 rfl) ?_
        refine rg_8_9 C hW (mx_ rfl) tw_341 dX7_letter_144 ?_
        exact end_i C hr hlocks () hW trivial dX7_letter_147
      · refine lv_tableIn (off := 142) (tgt := 143) hx hb dX7_letter_1 (Int.not_lt.mpr c1) (Int.not_lt.mpr c1b) (by rw [c1k]; rfl) (by decide) ?_
        refine lv_aload_n hx hb dX7_letter_143 rfl (lv_at hl 0 rfl) ?_
        refine rg_8_9 C hW (mx_ rfl) tw_341 dX7_letter_144 ?_
        exact end_i C hr hlocks () hW trivial dX7_letter_147
      · refine lv_tableIn (off := 142) (tgt := 143) hx hb dX7_letter_1 (Int.not_lt.mpr c1) (Int.not_lt.mpr c1b) (by rw [c1k]; rfl) (by decide) ?_
        refine lv_aload_n hx hb dX7_letter_143 rfl (lv_at hl 0 rfl) ?_
        refine rg_8_9 C hW (mx_ rfl) tw_341 dX7_letter_144 ?_
        exact end_i C hr hlocks () hW trivial dX7_letter_147
      · refine lv_tableIn (off := 142) (tgt := 143) hx hb dX7_letter_1 (Int.not_lt.mpr c1) (Int.not_lt.mpr c1b) (by rw [c1k]; rfl) (by decide) ?_
        refine lv_aload_n hx hb dX7_letter_143 rfl (lv_at hl 0 rfl) ?_
        refine rg_8_9 C hW (mx_ rfl) tw_341 dX7_letter_144 ?_
        exact end_i C hr hlocks () hW trivial dX7_letter_147
      · refine lv_tableIn (off := 122) (tgt := 123) hx hb dX7_letter_1 (Int.not_lt.mpr c1) (Int.not_lt.mpr c1b) (by rw [c1k]; rfl) (by decide) ?_
        refine lv_aload_n hx hb dX7_letter_123 rfl (lv_at hl 0 rfl) ?_
        refine rg_8_5 C hW (mx_ rfl) tw_333 dX7_letter_124 ?_
        exact end_i C hr hlocks () hW trivial dX7_letter_127
      · refine lv_tableIn (off := 142) (tgt := 143) hx hb dX7_letter_1 (Int.not_lt.mpr c1) (Int.not_lt.mpr c1b) (by rw [c1k]; rfl) (by decide) ?_
        refine lv_aload_n hx hb dX7_letter_143 rfl (lv_at hl 0 rfl) ?_
        refine rg_8_9 C hW (mx_ rfl) tw_341 dX7_letter_144 ?_
        exact end_i C hr hlocks () hW trivial dX7_letter_147
      · refine lv_tableIn (off := 142) (tgt := 143) hx hb dX7_letter_1 (Int.not_lt.mpr c1) (Int.not_lt.mpr c1b) (by rw [c1k]; rfl) (by decide) ?_
        refine lv_aload_n hx hb dX7_letter_143 rfl (lv_at hl 0 rfl) ?_
        refine rg_8_9 C hW (mx_ rfl) tw_341 dX7_letter_144 ?_
        exact end_i C hr hlocks () hW trivial dX7_letter_147
      · refine lv_tableIn (off := 117) (tgt := 118) hx hb dX7_letter_1 (Int.not_lt.mpr c1) (Int.not_lt.mpr c1b) (by rw [c1k]; rfl) (by decide) ?_
        refine lv_aload_n hx hb dX7_letter_118 rfl (lv_at hl 0 rfl) ?_
        refine rg_8_4 C hW (mx_ rfl) tw_331 dX7_letter_119 ?_
        exact end_i C hr hlocks () hW trivial dX7_letter_122
      · refine lv_tableIn (off := 132) (tgt := 133) hx hb dX7_letter_1 (Int.not_lt.mpr c1) (Int.not_lt.mpr c1b) (by rw [c1k]; rfl) (by decide) ?_
        refine lv_aload_n hx hb dX7_letter_133 rfl (lv_at hl 0 rfl) ?_
        refine rg_8_7 C hW (mx_ rfl) tw_337 dX7_letter_134 ?_
        exact end_i C hr hlocks () hW trivial dX7_letter_137

set_option maxHeartbeats 4000000 in
set_option maxRecDepth 100000 in
theorem c_X7_push (l : Launch) (g : gG) (J : Nat → Nat → Int32) (L : Nat → Nat → Int64) (I : Nat → Nat → Nat → Int32) (P : Nat → Nat → Nat → Option Nat) (E : Nat → Option Nat) (N : Nat → Nat) (dy : List (Nat × Nat)) (sz : Nat) (a0 : Int32)  : Met l yX7_push (WS yX7_push cX7_push 2 none) (RM (1) 0 0) (PC g [.ref (g.2.2.1 8), .int a0] ((J, L, I, P, E, N), sgX g ++ dy) sz) (va_Qv (fun (u : (Nat → Nat → Int32)) => True) (fun u t => at_ g (FR g ((J, L, I, P, E, N), sgX g ++ dy) sz) (((hv J [45] [(8, 1)] u), L, I, P, E, N), sgX g ++ dy) t) (FR g ((J, L, I, P, E, N), sgX g ++ dy) sz)) 0 0 (FR g ((J, L, I, P, E, N), sgX g ++ dy) sz) := by
  refine ent (by decide +kernel) (Nat.le_of_ble_eq_true rfl) ?_
  intro p e s m below meth c ls hsz C hW hr hlocks hname hl
  generalize FR g ((J, L, I, P, E, N), sgX g ++ dy) sz = A at C hW ⊢
  have hx := C.1.1
  have hb := C.1.2.1
  have hts := C.1.2.2.2.2
  have hl : lv_has ls 2 [(0, .ref (g.2.2.1 8)), (1, .int a0)] := hl
  obtain ⟨H, hH⟩ : ∃ H : Heap, H = s.heap := ⟨_, rfl⟩
  obtain ⟨locs, hlocs⟩ : ∃ q : List Loc, q = [] := ⟨_, rfl⟩
  have hW : WB g A s.heap H locs (J, L, I, P, E, N) (sgX g ++ dy) := by rw [hH, hlocs]; exact hW
  refine start_ hH hlocs ?_
  refine lv_aload_n hx hb dX7_push_0 rfl (lv_at hl 0 rfl) ?_
  refine rg_8_1 C hW (mx_ rfl) tw_326 dX7_push_1 ?_
  refine lv_if_lt (tgt := 39) hx hb dX7_push_4 (by decide) (fun c1 => ?_) (fun c1 => ?_)
  · have c1 : (J 8 1).toInt < 0 := tlt rfl kp0 c1
    have hWr : WB g A s.heap H locs ((hv J [45] [(8, 1)] J), L, I, P, E, N) (sgX g ++ dy) := by
      rw [← ag_hvE (J := J) (R := [45]) (F := [(8, 1)]) ag_rf]
      exact hW
    exact end_v C hr hlocks J hWr trivial dX7_push_39
  · have c1 : 0 ≤ (J 8 1).toInt := tnlt rfl kp0 c1
    refine lv_aload_n hx hb dX7_push_7 rfl (lv_at hl 0 rfl) ?_
    refine rg_8_1 C hW (mx_ rfl) tw_326 dX7_push_8 ?_
    refine lv_aload_n hx hb dX7_push_11 rfl (lv_at hl 0 rfl) ?_
    refine rg_8_0 C hW (mx_ rfl) tw_325 dX7_push_12 ?_
    refine rl_45 C hW (mx_ rfl) dX7_push_15 ?_
    refine lv_icmp_ge (tgt := 39) hx hb dX7_push_16 (by decide) (fun c2 => ?_) (fun c2 => ?_)
    · have c2 : 60 ≤ (J 8 1).toInt := tle kp60 rfl c2
      have hWr : WB g A s.heap H locs ((hv J [45] [(8, 1)] J), L, I, P, E, N) (sgX g ++ dy) := by
        rw [← ag_hvE (J := J) (R := [45]) (F := [(8, 1)]) ag_rf]
        exact hW
      exact end_v C hr hlocks J hWr trivial dX7_push_39
    · have c2 : (J 8 1).toInt < 60 := tnle kp60 rfl c2
      refine lv_aload_n hx hb dX7_push_19 rfl (lv_at hl 0 rfl) ?_
      refine rg_8_0 C hW (mx_ rfl) tw_325 dX7_push_20 ?_
      refine lv_aload_n hx hb dX7_push_23 rfl (lv_at hl 0 rfl) ?_
      refine rg_8_1 C hW (mx_ rfl) tw_326 dX7_push_24 ?_
      refine lv_iload_n hx hb dX7_push_27 rfl (lv_at hl 1 rfl) ?_
      have hin : vp_in (J 8 1) 60 := tin rfl (by omega)
      refine rs_45 C hW (mx_ rfl) hin dX7_push_28 (fun H locs hW => ?_)
      refine lv_aload_n hx hb dX7_push_29 rfl (lv_at hl 0 rfl) ?_
      refine lv_dup hx hb dX7_push_30 rfl ?_
      refine rg_8_1 C hW (mx_ rfl) tw_326 dX7_push_31 ?_
      refine lv_as (J 8 1) rfl ?_
      refine lv_iconst (v := 1) hx hb dX7_push_34 (by decide) ?_
      refine lv_iadd hx hb dX7_push_35 ?_
      refine lv_topi (fun x3 (e3 : x3 = (J 8 1) + 1) => ?_)
      try have t3 : x3.toInt = (J 8 1).toInt + 1 := tadd e3 rfl kp1 (by omega)
      refine rp_8_1 C hW (mx_ rfl) tw_326 dX7_push_36 (fun H locs hW => ?_)
      have hWr : WB g A s.heap H locs ((hv J [45] [(8, 1)] (up2 (up2 J 45 ((J 8 1).toNatClampNeg) a0) 8 1 x3)), L, I, P, E, N) (sgX g ++ dy) := by
        rw [← ag_hvE (J := J) (R := [45]) (F := [(8, 1)]) (ag_up (Or.inr rfl) (ag_up (Or.inl rfl) ag_rf))]
        exact hW
      exact end_v C hr hlocks (up2 (up2 J 45 ((J 8 1).toNatClampNeg) a0) 8 1 x3) hWr trivial dX7_push_39
