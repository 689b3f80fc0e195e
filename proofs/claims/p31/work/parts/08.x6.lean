theorem dX10_isLetter_0 : decode cX10_isLetter 0 = .ok (.iload_n 0, 1) := dk_iload_n_0 (by decide +kernel)
theorem dX10_isLetter_1 : decode cX10_isLetter 1 = .ok (.tableswitch 109 97 119 #[107, 109, 109, 109, 109, 109, 109, 107, 109, 109, 107, 109, 107, 107, 109, 109, 109, 109, 107, 109, 109, 107, 107], 107) := by decide +kernel
theorem dX10_isLetter_108 : decode cX10_isLetter 108 = .ok (.iconst 1, 1) := dk_iconst_1 (by decide +kernel)
theorem dX10_isLetter_109 : decode cX10_isLetter 109 = .ok (.ireturn, 1) := dk_ireturn (by decide +kernel)
theorem dX10_isLetter_110 : decode cX10_isLetter 110 = .ok (.iconst 0, 1) := dk_iconst_0 (by decide +kernel)
theorem dX10_isLetter_111 : decode cX10_isLetter 111 = .ok (.ireturn, 1) := dk_ireturn (by decide +kernel)
theorem dX10_isDigit_0 : decode cX10_isDigit 0 = .ok (.iload_n 0, 1) := dk_iload_n_0 (by decide +kernel)
theorem dX10_isDigit_1 : decode cX10_isDigit 1 = .ok (.bipush 48, 2) := dk_bipush (by decide +kernel)
theorem dX10_isDigit_3 : decode cX10_isDigit 3 = .ok (.if_icmp .lt 13, 3) := dk_if_icmp_lt (by decide +kernel)
theorem dX10_isDigit_6 : decode cX10_isDigit 6 = .ok (.iload_n 0, 1) := dk_iload_n_0 (by decide +kernel)
theorem dX10_isDigit_7 : decode cX10_isDigit 7 = .ok (.bipush 57, 2) := dk_bipush (by decide +kernel)
theorem dX10_isDigit_9 : decode cX10_isDigit 9 = .ok (.if_icmp .gt 7, 3) := dk_if_icmp_gt (by decide +kernel)
theorem dX10_isDigit_12 : decode cX10_isDigit 12 = .ok (.iconst 1, 1) := dk_iconst_1 (by decide +kernel)
theorem dX10_isDigit_13 : decode cX10_isDigit 13 = .ok (.goto 4, 3) := dk_goto (by decide +kernel)
theorem dX10_isDigit_16 : decode cX10_isDigit 16 = .ok (.iconst 0, 1) := dk_iconst_0 (by decide +kernel)
theorem dX10_isDigit_17 : decode cX10_isDigit 17 = .ok (.ireturn, 1) := dk_ireturn (by decide +kernel)
theorem dX7_letter_0 : decode cX7_letter 0 = .ok (.iload_n 1, 1) := dk_iload_n_1 (by decide +kernel)
theorem dX7_letter_1 : decode cX7_letter 1 = .ok (.tableswitch 142 97 119 #[137, 142, 142, 142, 142, 142, 142, 112, 142, 142, 107, 142, 127, 142, 142, 142, 142, 142, 122, 142, 142, 117, 132], 107) := by decide +kernel
theorem dX7_letter_108 : decode cX7_letter 108 = .ok (.aload_n 0, 1) := dk_aload_n_0 (by decide +kernel)
theorem dX7_letter_109 : decode cX7_letter 109 = .ok (.getfield 36, 3) := dk_getfield (by decide +kernel)
theorem dX7_letter_112 : decode cX7_letter 112 = .ok (.ireturn, 1) := dk_ireturn (by decide +kernel)
theorem dX7_letter_113 : decode cX7_letter 113 = .ok (.aload_n 0, 1) := dk_aload_n_0 (by decide +kernel)
theorem dX7_letter_114 : decode cX7_letter 114 = .ok (.getfield 39, 3) := dk_getfield (by decide +kernel)
theorem dX7_letter_117 : decode cX7_letter 117 = .ok (.ireturn, 1) := dk_ireturn (by decide +kernel)
theorem dX7_letter_118 : decode cX7_letter 118 = .ok (.aload_n 0, 1) := dk_aload_n_0 (by decide +kernel)
theorem dX7_letter_119 : decode cX7_letter 119 = .ok (.getfield 42, 3) := dk_getfield (by decide +kernel)
theorem dX7_letter_122 : decode cX7_letter 122 = .ok (.ireturn, 1) := dk_ireturn (by decide +kernel)
theorem dX7_letter_123 : decode cX7_letter 123 = .ok (.aload_n 0, 1) := dk_aload_n_0 (by decide +kernel)
theorem dX7_letter_124 : decode cX7_letter 124 = .ok (.getfield 45, 3) := dk_getfield (by decide +kernel)
theorem dX7_letter_127 : decode cX7_letter 127 = .ok (.ireturn, 1) := dk_ireturn (by decide +kernel)
theorem dX7_letter_128 : decode cX7_letter 128 = .ok (.aload_n 0, 1) := dk_aload_n_0 (by decide +kernel)
theorem dX7_letter_129 : decode cX7_letter 129 = .ok (.getfield 48, 3) := dk_getfield (by decide +kernel)
theorem dX7_letter_132 : decode cX7_letter 132 = .ok (.ireturn, 1) := dk_ireturn (by decide +kernel)
theorem dX7_letter_133 : decode cX7_letter 133 = .ok (.aload_n 0, 1) := dk_aload_n_0 (by decide +kernel)
theorem dX7_letter_134 : decode cX7_letter 134 = .ok (.getfield 51, 3) := dk_getfield (by decide +kernel)
theorem dX7_letter_137 : decode cX7_letter 137 = .ok (.ireturn, 1) := dk_ireturn (by decide +kernel)
theorem dX7_letter_138 : decode cX7_letter 138 = .ok (.aload_n 0, 1) := dk_aload_n_0 (by decide +kernel)
theorem dX7_letter_139 : decode cX7_letter 139 = .ok (.getfield 54, 3) := dk_getfield (by decide +kernel)
theorem dX7_letter_142 : decode cX7_letter 142 = .ok (.ireturn, 1) := dk_ireturn (by decide +kernel)
theorem dX7_letter_143 : decode cX7_letter 143 = .ok (.aload_n 0, 1) := dk_aload_n_0 (by decide +kernel)
theorem dX7_letter_144 : decode cX7_letter 144 = .ok (.getfield 57, 3) := dk_getfield (by decide +kernel)
theorem dX7_letter_147 : decode cX7_letter 147 = .ok (.ireturn, 1) := dk_ireturn (by decide +kernel)
theorem dX7_push_0 : decode cX7_push 0 = .ok (.aload_n 0, 1) := dk_aload_n_0 (by decide +kernel)
theorem dX7_push_1 : decode cX7_push 1 = .ok (.getfield 15, 3) := dk_getfield (by decide +kernel)
theorem dX7_push_4 : decode cX7_push 4 = .ok (.ifCond .lt 35, 3) := dk_ifCond_lt (by decide +kernel)
theorem dX7_push_7 : decode cX7_push 7 = .ok (.aload_n 0, 1) := dk_aload_n_0 (by decide +kernel)
theorem dX7_push_8 : decode cX7_push 8 = .ok (.getfield 15, 3) := dk_getfield (by decide +kernel)
theorem dX7_push_11 : decode cX7_push 11 = .ok (.aload_n 0, 1) := dk_aload_n_0 (by decide +kernel)
theorem dX7_push_12 : decode cX7_push 12 = .ok (.getfield 9, 3) := dk_getfield (by decide +kernel)
theorem dX7_push_15 : decode cX7_push 15 = .ok (.arraylength, 1) := dk_arraylength (by decide +kernel)
theorem dX7_push_16 : decode cX7_push 16 = .ok (.if_icmp .ge 23, 3) := dk_if_icmp_ge (by decide +kernel)
theorem dX7_push_19 : decode cX7_push 19 = .ok (.aload_n 0, 1) := dk_aload_n_0 (by decide +kernel)
theorem dX7_push_20 : decode cX7_push 20 = .ok (.getfield 9, 3) := dk_getfield (by decide +kernel)
theorem dX7_push_23 : decode cX7_push 23 = .ok (.aload_n 0, 1) := dk_aload_n_0 (by decide +kernel)
theorem dX7_push_24 : decode cX7_push 24 = .ok (.getfield 15, 3) := dk_getfield (by decide +kernel)
theorem dX7_push_27 : decode cX7_push 27 = .ok (.iload_n 1, 1) := dk_iload_n_1 (by decide +kernel)
theorem dX7_push_28 : decode cX7_push 28 = .ok (.iastore, 1) := dk_iastore (by decide +kernel)
theorem dX7_push_29 : decode cX7_push 29 = .ok (.aload_n 0, 1) := dk_aload_n_0 (by decide +kernel)
theorem dX7_push_30 : decode cX7_push 30 = .ok (.dup, 1) := dk_dup (by decide +kernel)
theorem dX7_push_31 : decode cX7_push 31 = .ok (.getfield 15, 3) := dk_getfield (by decide +kernel)
theorem dX7_push_34 : decode cX7_push 34 = .ok (.iconst 1, 1) := dk_iconst_1 (by decide +kernel)
theorem dX7_push_35 : decode cX7_push 35 = .ok (.iadd, 1) := dk_iadd (by decide +kernel)
theorem dX7_push_36 : decode cX7_push 36 = .ok (.putfield 15, 3) := dk_putfield (by decide +kernel)
theorem dX7_push_39 : decode cX7_push 39 = .ok (.return_, 1) := dk_return_ (by decide +kernel)
theorem dX3_fewestBoosts_0 : decode cX3_fewestBoosts 0 = .ok (.iconst 1, 1) := dk_iconst_1 (by decide +kernel)
theorem dX3_fewestBoosts_1 : decode cX3_fewestBoosts 1 = .ok (.aload_n 0, 1) := dk_aload_n_0 (by decide +kernel)
theorem dX3_fewestBoosts_2 : decode cX3_fewestBoosts 2 = .ok (.getfield 24, 3) := dk_getfield (by decide +kernel)
theorem dX3_fewestBoosts_5 : decode cX3_fewestBoosts 5 = .ok (.invokevirtual 44, 3) := dk_invokevirtual (by decide +kernel)
theorem dX3_fewestBoosts_8 : decode cX3_fewestBoosts 8 = .ok (.bipush 9, 2) := dk_bipush (by decide +kernel)
theorem dX3_fewestBoosts_10 : decode cX3_fewestBoosts 10 = .ok (.invokestatic 133, 3) := dk_invokestatic (by decide +kernel)
theorem dX3_fewestBoosts_13 : decode cX3_fewestBoosts 13 = .ok (.ishl, 1) := dk_ishl (by decide +kernel)
theorem dX3_fewestBoosts_14 : decode cX3_fewestBoosts 14 = .ok (.iconst 1, 1) := dk_iconst_1 (by decide +kernel)
theorem dX3_fewestBoosts_15 : decode cX3_fewestBoosts 15 = .ok (.isub, 1) := dk_isub (by decide +kernel)
theorem dX3_fewestBoosts_16 : decode cX3_fewestBoosts 16 = .ok (.istore_n 2, 1) := dk_istore_n_2 (by decide +kernel)
theorem dX3_fewestBoosts_17 : decode cX3_fewestBoosts 17 = .ok (.bipush 20, 2) := dk_bipush (by decide +kernel)
theorem dX3_fewestBoosts_19 : decode cX3_fewestBoosts 19 = .ok (.istore_n 3, 1) := dk_istore_n_3 (by decide +kernel)
theorem dX3_fewestBoosts_20 : decode cX3_fewestBoosts 20 = .ok (.bipush (-9), 2) := dk_bipush (by decide +kernel)
theorem dX3_fewestBoosts_22 : decode cX3_fewestBoosts 22 = .ok (.istore 4, 2) := dk_istore (by decide +kernel)
theorem dX3_fewestBoosts_24 : decode cX3_fewestBoosts 24 = .ok (.aload_n 0, 1) := dk_aload_n_0 (by decide +kernel)
theorem dX3_fewestBoosts_25 : decode cX3_fewestBoosts 25 = .ok (.iload_n 2, 1) := dk_iload_n_2 (by decide +kernel)
theorem dX3_fewestBoosts_26 : decode cX3_fewestBoosts 26 = .ok (.iload_n 1, 1) := dk_iload_n_1 (by decide +kernel)
theorem dX3_fewestBoosts_27 : decode cX3_fewestBoosts 27 = .ok (.invokevirtual 139, 3) := dk_invokevirtual (by decide +kernel)
theorem dX3_fewestBoosts_30 : decode cX3_fewestBoosts 30 = .ok (.ifCond .eq 48, 3) := dk_ifCond_eq (by decide +kernel)
theorem dX3_fewestBoosts_33 : decode cX3_fewestBoosts 33 = .ok (.iconst 0, 1) := dk_iconst_0 (by decide +kernel)
theorem dX3_fewestBoosts_34 : decode cX3_fewestBoosts 34 = .ok (.istore 5, 2) := dk_istore (by decide +kernel)
theorem dX3_fewestBoosts_36 : decode cX3_fewestBoosts 36 = .ok (.iload 5, 2) := dk_iload (by decide +kernel)
theorem dX3_fewestBoosts_38 : decode cX3_fewestBoosts 38 = .ok (.iload_n 2, 1) := dk_iload_n_2 (by decide +kernel)
theorem dX3_fewestBoosts_39 : decode cX3_fewestBoosts 39 = .ok (.if_icmp .gt 39, 3) := dk_if_icmp_gt (by decide +kernel)
theorem dX3_fewestBoosts_42 : decode cX3_fewestBoosts 42 = .ok (.iload 5, 2) := dk_iload (by decide +kernel)
theorem dX3_fewestBoosts_44 : decode cX3_fewestBoosts 44 = .ok (.invokestatic 119, 3) := dk_invokestatic (by decide +kernel)
theorem dX3_fewestBoosts_47 : decode cX3_fewestBoosts 47 = .ok (.istore 6, 2) := dk_istore (by decide +kernel)
theorem dX3_fewestBoosts_49 : decode cX3_fewestBoosts 49 = .ok (.iload 6, 2) := dk_iload (by decide +kernel)
theorem dX3_fewestBoosts_51 : decode cX3_fewestBoosts 51 = .ok (.iload_n 3, 1) := dk_iload_n_3 (by decide +kernel)
theorem dX3_fewestBoosts_52 : decode cX3_fewestBoosts 52 = .ok (.if_icmp .ge 20, 3) := dk_if_icmp_ge (by decide +kernel)
theorem dX3_fewestBoosts_55 : decode cX3_fewestBoosts 55 = .ok (.aload_n 0, 1) := dk_aload_n_0 (by decide +kernel)
theorem dX3_fewestBoosts_56 : decode cX3_fewestBoosts 56 = .ok (.iload 5, 2) := dk_iload (by decide +kernel)
theorem dX3_fewestBoosts_58 : decode cX3_fewestBoosts 58 = .ok (.iload_n 1, 1) := dk_iload_n_1 (by decide +kernel)
theorem dX3_fewestBoosts_59 : decode cX3_fewestBoosts 59 = .ok (.invokevirtual 139, 3) := dk_invokevirtual (by decide +kernel)
theorem dX3_fewestBoosts_62 : decode cX3_fewestBoosts 62 = .ok (.ifCond .eq 10, 3) := dk_ifCond_eq (by decide +kernel)
theorem dX3_fewestBoosts_65 : decode cX3_fewestBoosts 65 = .ok (.iload 6, 2) := dk_iload (by decide +kernel)
theorem dX3_fewestBoosts_67 : decode cX3_fewestBoosts 67 = .ok (.istore_n 3, 1) := dk_istore_n_3 (by decide +kernel)
theorem dX3_fewestBoosts_68 : decode cX3_fewestBoosts 68 = .ok (.iload 5, 2) := dk_iload (by decide +kernel)
theorem dX3_fewestBoosts_70 : decode cX3_fewestBoosts 70 = .ok (.istore 4, 2) := dk_istore (by decide +kernel)
theorem dX3_fewestBoosts_72 : decode cX3_fewestBoosts 72 = .ok (.iinc 5 1, 3) := dk_iinc (by decide +kernel)
theorem dX3_fewestBoosts_75 : decode cX3_fewestBoosts 75 = .ok (.goto (-39), 3) := dk_goto (by decide +kernel)
theorem dX3_fewestBoosts_78 : decode cX3_fewestBoosts 78 = .ok (.aload_n 0, 1) := dk_aload_n_0 (by decide +kernel)
theorem dX3_fewestBoosts_79 : decode cX3_fewestBoosts 79 = .ok (.iconst 0, 1) := dk_iconst_0 (by decide +kernel)
theorem dX3_fewestBoosts_80 : decode cX3_fewestBoosts 80 = .ok (.invokevirtual 143, 3) := dk_invokevirtual (by decide +kernel)
theorem dX3_fewestBoosts_83 : decode cX3_fewestBoosts 83 = .ok (.iload 4, 2) := dk_iload (by decide +kernel)
theorem dX3_fewestBoosts_85 : decode cX3_fewestBoosts 85 = .ok (.ireturn, 1) := dk_ireturn (by decide +kernel)
theorem dX11_minuteOf_0 : decode cX11_minuteOf 0 = .ok (.aload_n 0, 1) := dk_aload_n_0 (by decide +kernel)
theorem dX11_minuteOf_1 : decode cX11_minuteOf 1 = .ok (.getfield 19, 3) := dk_getfield (by decide +kernel)
theorem dX11_minuteOf_4 : decode cX11_minuteOf 4 = .ok (.iload_n 1, 1) := dk_iload_n_1 (by decide +kernel)
theorem dX11_minuteOf_5 : decode cX11_minuteOf 5 = .ok (.invokevirtual 192, 3) := dk_invokevirtual (by decide +kernel)
theorem dX11_minuteOf_8 : decode cX11_minuteOf 8 = .ok (.astore_n 3, 1) := dk_astore_n_3 (by decide +kernel)
theorem dX11_minuteOf_9 : decode cX11_minuteOf 9 = .ok (.aload_n 3, 1) := dk_aload_n_3 (by decide +kernel)
theorem dX11_minuteOf_10 : decode cX11_minuteOf 10 = .ok (.ifnonnull 9, 3) := dk_ifnonnull (by decide +kernel)
theorem dX11_minuteOf_13 : decode cX11_minuteOf 13 = .ok (.aload_n 0, 1) := dk_aload_n_0 (by decide +kernel)
theorem dX11_minuteOf_14 : decode cX11_minuteOf 14 = .ok (.iconst (-1), 1) := dk_iconst_m1 (by decide +kernel)
theorem dX11_minuteOf_15 : decode cX11_minuteOf 15 = .ok (.invokevirtual 67, 3) := dk_invokevirtual (by decide +kernel)
theorem dX11_minuteOf_18 : decode cX11_minuteOf 18 = .ok (.ireturn, 1) := dk_ireturn (by decide +kernel)
theorem dX11_minuteOf_19 : decode cX11_minuteOf 19 = .ok (.iload_n 2, 1) := dk_iload_n_2 (by decide +kernel)
theorem dX11_minuteOf_20 : decode cX11_minuteOf 20 = .ok (.tableswitch 103 0 6 #[44, 49, 54, 59, 64, 81, 98], 44) := by decide +kernel
theorem dX11_minuteOf_64 : decode cX11_minuteOf 64 = .ok (.aload_n 3, 1) := dk_aload_n_3 (by decide +kernel)
theorem dX11_minuteOf_65 : decode cX11_minuteOf 65 = .ok (.getfield 196, 3) := dk_getfield (by decide +kernel)
theorem dX11_minuteOf_68 : decode cX11_minuteOf 68 = .ok (.ireturn, 1) := dk_ireturn (by decide +kernel)
theorem dX11_minuteOf_69 : decode cX11_minuteOf 69 = .ok (.aload_n 3, 1) := dk_aload_n_3 (by decide +kernel)
theorem dX11_minuteOf_70 : decode cX11_minuteOf 70 = .ok (.getfield 173, 3) := dk_getfield (by decide +kernel)
theorem dX11_minuteOf_73 : decode cX11_minuteOf 73 = .ok (.ireturn, 1) := dk_ireturn (by decide +kernel)
theorem dX11_minuteOf_74 : decode cX11_minuteOf 74 = .ok (.aload_n 3, 1) := dk_aload_n_3 (by decide +kernel)
theorem dX11_minuteOf_75 : decode cX11_minuteOf 75 = .ok (.getfield 179, 3) := dk_getfield (by decide +kernel)
theorem dX11_minuteOf_78 : decode cX11_minuteOf 78 = .ok (.ireturn, 1) := dk_ireturn (by decide +kernel)
theorem dX11_minuteOf_79 : decode cX11_minuteOf 79 = .ok (.aload_n 3, 1) := dk_aload_n_3 (by decide +kernel)
theorem dX11_minuteOf_80 : decode cX11_minuteOf 80 = .ok (.getfield 183, 3) := dk_getfield (by decide +kernel)
theorem dX11_minuteOf_83 : decode cX11_minuteOf 83 = .ok (.ireturn, 1) := dk_ireturn (by decide +kernel)
theorem dX11_minuteOf_84 : decode cX11_minuteOf 84 = .ok (.aload_n 0, 1) := dk_aload_n_0 (by decide +kernel)
theorem dX11_minuteOf_85 : decode cX11_minuteOf 85 = .ok (.getfield 10, 3) := dk_getfield (by decide +kernel)
theorem dX11_minuteOf_88 : decode cX11_minuteOf 88 = .ok (.aload_n 3, 1) := dk_aload_n_3 (by decide +kernel)
theorem dX11_minuteOf_89 : decode cX11_minuteOf 89 = .ok (.iload_n 1, 1) := dk_iload_n_1 (by decide +kernel)
theorem dX11_minuteOf_90 : decode cX11_minuteOf 90 = .ok (.invokevirtual 199, 3) := dk_invokevirtual (by decide +kernel)
theorem dX11_minuteOf_93 : decode cX11_minuteOf 93 = .ok (.aload_n 0, 1) := dk_aload_n_0 (by decide +kernel)
theorem dX11_minuteOf_94 : decode cX11_minuteOf 94 = .ok (.getfield 10, 3) := dk_getfield (by decide +kernel)
theorem dX11_minuteOf_97 : decode cX11_minuteOf 97 = .ok (.getfield 203, 3) := dk_getfield (by decide +kernel)
theorem dX11_minuteOf_100 : decode cX11_minuteOf 100 = .ok (.ireturn, 1) := dk_ireturn (by decide +kernel)
theorem dX11_minuteOf_101 : decode cX11_minuteOf 101 = .ok (.aload_n 0, 1) := dk_aload_n_0 (by decide +kernel)
theorem dX11_minuteOf_102 : decode cX11_minuteOf 102 = .ok (.getfield 10, 3) := dk_getfield (by decide +kernel)
theorem dX11_minuteOf_105 : decode cX11_minuteOf 105 = .ok (.aload_n 3, 1) := dk_aload_n_3 (by decide +kernel)
theorem dX11_minuteOf_106 : decode cX11_minuteOf 106 = .ok (.iload_n 1, 1) := dk_iload_n_1 (by decide +kernel)
theorem dX11_minuteOf_107 : decode cX11_minuteOf 107 = .ok (.invokevirtual 199, 3) := dk_invokevirtual (by decide +kernel)
theorem dX11_minuteOf_110 : decode cX11_minuteOf 110 = .ok (.aload_n 0, 1) := dk_aload_n_0 (by decide +kernel)
theorem dX11_minuteOf_111 : decode cX11_minuteOf 111 = .ok (.getfield 10, 3) := dk_getfield (by decide +kernel)
theorem dX11_minuteOf_114 : decode cX11_minuteOf 114 = .ok (.getfield 206, 3) := dk_getfield (by decide +kernel)
theorem dX11_minuteOf_117 : decode cX11_minuteOf 117 = .ok (.ireturn, 1) := dk_ireturn (by decide +kernel)
theorem dX11_minuteOf_118 : decode cX11_minuteOf 118 = .ok (.aload_n 3, 1) := dk_aload_n_3 (by decide +kernel)
theorem dX11_minuteOf_119 : decode cX11_minuteOf 119 = .ok (.getfield 209, 3) := dk_getfield (by decide +kernel)
theorem dX11_minuteOf_122 : decode cX11_minuteOf 122 = .ok (.ireturn, 1) := dk_ireturn (by decide +kernel)
theorem dX11_minuteOf_123 : decode cX11_minuteOf 123 = .ok (.aload_n 0, 1) := dk_aload_n_0 (by decide +kernel)
theorem dX11_minuteOf_124 : decode cX11_minuteOf 124 = .ok (.bipush (-2), 2) := dk_bipush (by decide +kernel)
theorem dX11_minuteOf_126 : decode cX11_minuteOf 126 = .ok (.invokevirtual 67, 3) := dk_invokevirtual (by decide +kernel)
theorem dX11_minuteOf_129 : decode cX11_minuteOf 129 = .ok (.ireturn, 1) := dk_ireturn (by decide +kernel)
theorem dX11_heard_0 : decode cX11_heard 0 = .ok (.aload_n 0, 1) := dk_aload_n_0 (by decide +kernel)
theorem dX11_heard_1 : decode cX11_heard 1 = .ok (.getfield 19, 3) := dk_getfield (by decide +kernel)
theorem dX11_heard_4 : decode cX11_heard 4 = .ok (.iload_n 1, 1) := dk_iload_n_1 (by decide +kernel)
theorem dX11_heard_5 : decode cX11_heard 5 = .ok (.invokevirtual 192, 3) := dk_invokevirtual (by decide +kernel)
theorem dX11_heard_8 : decode cX11_heard 8 = .ok (.astore_n 3, 1) := dk_astore_n_3 (by decide +kernel)
theorem dX11_heard_9 : decode cX11_heard 9 = .ok (.aload_n 0, 1) := dk_aload_n_0 (by decide +kernel)
theorem dX11_heard_10 : decode cX11_heard 10 = .ok (.getfield 10, 3) := dk_getfield (by decide +kernel)
theorem dX11_heard_13 : decode cX11_heard 13 = .ok (.iload_n 2, 1) := dk_iload_n_2 (by decide +kernel)
theorem dX11_heard_14 : decode cX11_heard 14 = .ok (.invokevirtual 141, 3) := dk_invokevirtual (by decide +kernel)
theorem dX11_heard_17 : decode cX11_heard 17 = .ok (.astore 4, 2) := dk_astore (by decide +kernel)
theorem dX11_heard_19 : decode cX11_heard 19 = .ok (.aload_n 3, 1) := dk_aload_n_3 (by decide +kernel)
theorem dX11_heard_20 : decode cX11_heard 20 = .ok (.ifnull 8, 3) := dk_ifnull (by decide +kernel)
theorem dX11_heard_23 : decode cX11_heard 23 = .ok (.aload 4, 2) := dk_aload (by decide +kernel)
theorem dX11_heard_25 : decode cX11_heard 25 = .ok (.ifnonnull 9, 3) := dk_ifnonnull (by decide +kernel)
theorem dX11_heard_28 : decode cX11_heard 28 = .ok (.aload_n 0, 1) := dk_aload_n_0 (by decide +kernel)
theorem dX11_heard_29 : decode cX11_heard 29 = .ok (.iconst (-1), 1) := dk_iconst_m1 (by decide +kernel)
theorem dX11_heard_30 : decode cX11_heard 30 = .ok (.invokevirtual 67, 3) := dk_invokevirtual (by decide +kernel)
theorem dX11_heard_33 : decode cX11_heard 33 = .ok (.ireturn, 1) := dk_ireturn (by decide +kernel)
theorem dX11_heard_34 : decode cX11_heard 34 = .ok (.aload_n 0, 1) := dk_aload_n_0 (by decide +kernel)
theorem dX11_heard_35 : decode cX11_heard 35 = .ok (.getfield 10, 3) := dk_getfield (by decide +kernel)
theorem dX11_heard_38 : decode cX11_heard 38 = .ok (.aload_n 3, 1) := dk_aload_n_3 (by decide +kernel)
theorem dX11_heard_39 : decode cX11_heard 39 = .ok (.getfield 179, 3) := dk_getfield (by decide +kernel)
theorem dX11_heard_42 : decode cX11_heard 42 = .ok (.aload_n 3, 1) := dk_aload_n_3 (by decide +kernel)
theorem dX11_heard_43 : decode cX11_heard 43 = .ok (.getfield 209, 3) := dk_getfield (by decide +kernel)
theorem dX11_heard_46 : decode cX11_heard 46 = .ok (.iload_n 1, 1) := dk_iload_n_1 (by decide +kernel)
theorem dX11_heard_47 : decode cX11_heard 47 = .ok (.invokevirtual 122, 3) := dk_invokevirtual (by decide +kernel)
theorem dX11_heard_50 : decode cX11_heard 50 = .ok (.aload_n 0, 1) := dk_aload_n_0 (by decide +kernel)
theorem dX11_heard_51 : decode cX11_heard 51 = .ok (.getfield 10, 3) := dk_getfield (by decide +kernel)
theorem dX11_heard_54 : decode cX11_heard 54 = .ok (.aload 4, 2) := dk_aload (by decide +kernel)
theorem dX11_heard_56 : decode cX11_heard 56 = .ok (.aload_n 3, 1) := dk_aload_n_3 (by decide +kernel)
theorem dX11_heard_57 : decode cX11_heard 57 = .ok (.iload_n 1, 1) := dk_iload_n_1 (by decide +kernel)
theorem dX11_heard_58 : decode cX11_heard 58 = .ok (.invokevirtual 210, 3) := dk_invokevirtual (by decide +kernel)
theorem dX11_heard_61 : decode cX11_heard 61 = .ok (.ireturn, 1) := dk_ireturn (by decide +kernel)
theorem dX11_loud_0 : decode cX11_loud 0 = .ok (.aload_n 0, 1) := dk_aload_n_0 (by decide +kernel)
theorem dX11_loud_1 : decode cX11_loud 1 = .ok (.getfield 10, 3) := dk_getfield (by decide +kernel)
theorem dX11_loud_4 : decode cX11_loud 4 = .ok (.iload_n 1, 1) := dk_iload_n_1 (by decide +kernel)
theorem dX11_loud_5 : decode cX11_loud 5 = .ok (.invokevirtual 86, 3) := dk_invokevirtual (by decide +kernel)
theorem dX11_loud_8 : decode cX11_loud 8 = .ok (.astore_n 3, 1) := dk_astore_n_3 (by decide +kernel)
theorem dX11_loud_9 : decode cX11_loud 9 = .ok (.aload_n 3, 1) := dk_aload_n_3 (by decide +kernel)
theorem dX11_loud_10 : decode cX11_loud 10 = .ok (.ifnonnull 9, 3) := dk_ifnonnull (by decide +kernel)
theorem dX11_loud_13 : decode cX11_loud 13 = .ok (.aload_n 0, 1) := dk_aload_n_0 (by decide +kernel)
theorem dX11_loud_14 : decode cX11_loud 14 = .ok (.iconst (-1), 1) := dk_iconst_m1 (by decide +kernel)
theorem dX11_loud_15 : decode cX11_loud 15 = .ok (.invokevirtual 67, 3) := dk_invokevirtual (by decide +kernel)
theorem dX11_loud_18 : decode cX11_loud 18 = .ok (.ireturn, 1) := dk_ireturn (by decide +kernel)
theorem dX11_loud_19 : decode cX11_loud 19 = .ok (.iload_n 2, 1) := dk_iload_n_2 (by decide +kernel)
theorem dX11_loud_20 : decode cX11_loud 20 = .ok (.invokestatic 119, 3) := dk_invokestatic (by decide +kernel)
theorem dX11_loud_23 : decode cX11_loud 23 = .ok (.istore 4, 2) := dk_istore (by decide +kernel)
theorem dX11_loud_25 : decode cX11_loud 25 = .ok (.iload 4, 2) := dk_iload (by decide +kernel)
theorem dX11_loud_27 : decode cX11_loud 27 = .ok (.ifCond .eq 10, 3) := dk_ifCond_eq (by decide +kernel)
theorem dX11_loud_30 : decode cX11_loud 30 = .ok (.aload_n 0, 1) := dk_aload_n_0 (by decide +kernel)
theorem dX11_loud_31 : decode cX11_loud 31 = .ok (.iload 4, 2) := dk_iload (by decide +kernel)
theorem dX11_loud_33 : decode cX11_loud 33 = .ok (.invokevirtual 67, 3) := dk_invokevirtual (by decide +kernel)
theorem dX11_loud_36 : decode cX11_loud 36 = .ok (.ireturn, 1) := dk_ireturn (by decide +kernel)
theorem dX11_loud_37 : decode cX11_loud 37 = .ok (.aload_n 0, 1) := dk_aload_n_0 (by decide +kernel)
theorem dX11_loud_38 : decode cX11_loud 38 = .ok (.getfield 10, 3) := dk_getfield (by decide +kernel)
theorem dX11_loud_41 : decode cX11_loud 41 = .ok (.iload_n 2, 1) := dk_iload_n_2 (by decide +kernel)
theorem dX11_loud_42 : decode cX11_loud 42 = .ok (.aload_n 0, 1) := dk_aload_n_0 (by decide +kernel)
theorem dX11_loud_43 : decode cX11_loud 43 = .ok (.getfield 10, 3) := dk_getfield (by decide +kernel)
theorem dX11_loud_46 : decode cX11_loud 46 = .ok (.getfield 76, 3) := dk_getfield (by decide +kernel)
theorem dX11_loud_49 : decode cX11_loud 49 = .ok (.aload_n 0, 1) := dk_aload_n_0 (by decide +kernel)
theorem dX11_loud_50 : decode cX11_loud 50 = .ok (.getfield 19, 3) := dk_getfield (by decide +kernel)
theorem dX11_loud_53 : decode cX11_loud 53 = .ok (.getfield 71, 3) := dk_getfield (by decide +kernel)
theorem dX11_loud_56 : decode cX11_loud 56 = .ok (.invokevirtual 122, 3) := dk_invokevirtual (by decide +kernel)
theorem dX11_loud_59 : decode cX11_loud 59 = .ok (.aload_n 3, 1) := dk_aload_n_3 (by decide +kernel)
theorem dX11_loud_60 : decode cX11_loud 60 = .ok (.getfield 126, 3) := dk_getfield (by decide +kernel)
theorem dX11_loud_63 : decode cX11_loud 63 = .ok (.ireturn, 1) := dk_ireturn (by decide +kernel)
theorem dX11_boosts_0 : decode cX11_boosts 0 = .ok (.iload_n 1, 1) := dk_iload_n_1 (by decide +kernel)
theorem dX11_boosts_1 : decode cX11_boosts 1 = .ok (.invokestatic 119, 3) := dk_invokestatic (by decide +kernel)
theorem dX11_boosts_4 : decode cX11_boosts 4 = .ok (.istore_n 2, 1) := dk_istore_n_2 (by decide +kernel)
theorem dX11_boosts_5 : decode cX11_boosts 5 = .ok (.iload_n 2, 1) := dk_iload_n_2 (by decide +kernel)
theorem dX11_boosts_6 : decode cX11_boosts 6 = .ok (.ifCond .eq 9, 3) := dk_ifCond_eq (by decide +kernel)
theorem dX11_boosts_9 : decode cX11_boosts 9 = .ok (.aload_n 0, 1) := dk_aload_n_0 (by decide +kernel)
theorem dX11_boosts_10 : decode cX11_boosts 10 = .ok (.iload_n 2, 1) := dk_iload_n_2 (by decide +kernel)
theorem dX11_boosts_11 : decode cX11_boosts 11 = .ok (.invokevirtual 67, 3) := dk_invokevirtual (by decide +kernel)
theorem dX11_boosts_14 : decode cX11_boosts 14 = .ok (.ireturn, 1) := dk_ireturn (by decide +kernel)
theorem dX11_boosts_15 : decode cX11_boosts 15 = .ok (.aload_n 0, 1) := dk_aload_n_0 (by decide +kernel)
theorem dX11_boosts_16 : decode cX11_boosts 16 = .ok (.getfield 10, 3) := dk_getfield (by decide +kernel)
theorem dX11_boosts_19 : decode cX11_boosts 19 = .ok (.iload_n 1, 1) := dk_iload_n_1 (by decide +kernel)
theorem dX11_boosts_20 : decode cX11_boosts 20 = .ok (.invokevirtual 270, 3) := dk_invokevirtual (by decide +kernel)
theorem dX11_boosts_23 : decode cX11_boosts 23 = .ok (.ireturn, 1) := dk_ireturn (by decide +kernel)
theorem dX11_breaks_0 : decode cX11_breaks 0 = .ok (.iload_n 1, 1) := dk_iload_n_1 (by decide +kernel)
theorem dX11_breaks_1 : decode cX11_breaks 1 = .ok (.ifCond .lt 8, 3) := dk_ifCond_lt (by decide +kernel)
theorem dX11_breaks_4 : decode cX11_breaks 4 = .ok (.iload_n 1, 1) := dk_iload_n_1 (by decide +kernel)
theorem dX11_breaks_5 : decode cX11_breaks 5 = .ok (.iconst 2, 1) := dk_iconst_2 (by decide +kernel)
theorem dX11_breaks_6 : decode cX11_breaks 6 = .ok (.if_icmp .le 10, 3) := dk_if_icmp_le (by decide +kernel)
theorem dX11_breaks_9 : decode cX11_breaks 9 = .ok (.aload_n 0, 1) := dk_aload_n_0 (by decide +kernel)
theorem dX11_breaks_10 : decode cX11_breaks 10 = .ok (.bipush (-2), 2) := dk_bipush (by decide +kernel)
theorem dX11_breaks_12 : decode cX11_breaks 12 = .ok (.invokevirtual 67, 3) := dk_invokevirtual (by decide +kernel)
theorem dX11_breaks_15 : decode cX11_breaks 15 = .ok (.ireturn, 1) := dk_ireturn (by decide +kernel)
theorem dX11_breaks_16 : decode cX11_breaks 16 = .ok (.aload_n 0, 1) := dk_aload_n_0 (by decide +kernel)
theorem dX11_breaks_17 : decode cX11_breaks 17 = .ok (.getfield 10, 3) := dk_getfield (by decide +kernel)
theorem dX11_breaks_20 : decode cX11_breaks 20 = .ok (.iload_n 1, 1) := dk_iload_n_1 (by decide +kernel)
theorem dX11_breaks_21 : decode cX11_breaks 21 = .ok (.invokevirtual 261, 3) := dk_invokevirtual (by decide +kernel)
theorem dX11_breaks_24 : decode cX11_breaks 24 = .ok (.ireturn, 1) := dk_ireturn (by decide +kernel)
set_option maxHeartbeats 4000000 in
set_option maxRecDepth 100000 in
theorem c_X10_isLetter (l : Launch) (g : gG) (J : Nat → Nat → Int32) (L : Nat → Nat → Int64) (I : Nat → Nat → Nat → Int32) (P : Nat → Nat → Nat → Option Nat) (E : Nat → Option Nat) (N : Nat → Nat) (dy : List (Nat × Nat)) (sz : Nat) (a0 : Int32)  : Met l yX10_isLetter (WS yX10_isLetter cX10_isLetter 1 (some .boolean)) (RM (1) 0 0) (PC g [.int a0] ((J, L, I, P, E, N), sgX g ++ dy) sz) (va_Qi (fun (r : Int32) (u : Unit) => ((r.toInt = 1) ∨ (r.toInt = 0))) (fun u t => at_ g (FR g ((J, L, I, P, E, N), sgX g ++ dy) sz) ((J, L, I, P, E, N), sgX g ++ dy) t) (FR g ((J, L, I, P, E, N), sgX g ++ dy) sz)) 0 0 (FR g ((J, L, I, P, E, N), sgX g ++ dy) sz) := by
  refine ent (by decide +kernel) (Nat.le_of_ble_eq_true rfl) ?_
  intro p e s m below meth c ls hsz C hW hr hlocks hname hl
  generalize FR g ((J, L, I, P, E, N), sgX g ++ dy) sz = A at C hW ⊢
  have hx := C.1.1
  have hb := C.1.2.1
  have hts := C.1.2.2.2.2
  have hl : lv_has ls 1 [(0, .int a0)] := hl
  obtain ⟨H, hH⟩ : ∃ H : Heap, H = s.heap := ⟨_, rfl⟩
  obtain ⟨locs, hlocs⟩ : ∃ q : List Loc, q = [] := ⟨_, rfl⟩
  have hW : WB g A s.heap H locs (J, L, I, P, E, N) (sgX g ++ dy) := by rw [hH, hlocs]; exact hW
  refine start_ hH hlocs ?_
  refine lv_iload_n hx hb dX10_isLetter_0 rfl (lv_at hl 0 rfl) ?_
  rcases Int.lt_or_le a0.toInt 97 with c1 | c1
  · refine lv_tableOut (tgt := 110) hx hb dX10_isLetter_1 (Or.inl c1) (by decide) ?_
    refine lv_iconst (v := 0) hx hb dX10_isLetter_110 (by decide) ?_
    exact end_z C hr hlocks (by decide) () hW (by first | exact Or.inr ((by decide))) dX10_isLetter_111
  · rcases Int.lt_or_le 119 a0.toInt with c1b | c1b
    · refine lv_tableOut (tgt := 110) hx hb dX10_isLetter_1 (Or.inr c1b) (by decide) ?_
      refine lv_iconst (v := 0) hx hb dX10_isLetter_110 (by decide) ?_
      exact end_z C hr hlocks (by decide) () hW (by first | exact Or.inr ((by decide))) dX10_isLetter_111
    · rcases (show a0.toInt = 97 ∨ a0.toInt = 98 ∨ a0.toInt = 99 ∨ a0.toInt = 100 ∨ a0.toInt = 101 ∨ a0.toInt = 102 ∨ a0.toInt = 103 ∨ a0.toInt = 104 ∨ a0.toInt = 105 ∨ a0.toInt = 106 ∨ a0.toInt = 107 ∨ a0.toInt = 108 ∨ a0.toInt = 109 ∨ a0.toInt = 110 ∨ a0.toInt = 111 ∨ a0.toInt = 112 ∨ a0.toInt = 113 ∨ a0.toInt = 114 ∨ a0.toInt = 115 ∨ a0.toInt = 116 ∨ a0.toInt = 117 ∨ a0.toInt = 118 ∨ a0.toInt = 119 by omega) with c1k | c1k | c1k | c1k | c1k | c1k | c1k | c1k | c1k | c1k | c1k | c1k | c1k | c1k | c1k | c1k | c1k | c1k | c1k | c1k | c1k | c1k | c1k
      · refine lv_tableIn (off := 107) (tgt := 108) hx hb dX10_isLetter_1 (Int.not_lt.mpr c1) (Int.not_lt.mpr c1b) (by rw [c1k]; rfl) (by decide) ?_
        refine lv_iconst (v := 1) hx hb dX10_isLetter_108 (by decide) ?_
        exact end_z C hr hlocks (by decide) () hW (by first | exact Or.inl (by decide)) dX10_isLetter_109
      · refine lv_tableIn (off := 109) (tgt := 110) hx hb dX10_isLetter_1 (Int.not_lt.mpr c1) (Int.not_lt.mpr c1b) (by rw [c1k]; rfl) (by decide) ?_
        refine lv_iconst (v := 0) hx hb dX10_isLetter_110 (by decide) ?_
        exact end_z C hr hlocks (by decide) () hW (by first | exact Or.inr ((by decide))) dX10_isLetter_111
      · refine lv_tableIn (off := 109) (tgt := 110) hx hb dX10_isLetter_1 (Int.not_lt.mpr c1) (Int.not_lt.mpr c1b) (by rw [c1k]; rfl) (by decide) ?_
        refine lv_iconst (v := 0) hx hb dX10_isLetter_110 (by decide) ?_
        exact end_z C hr hlocks (by decide) () hW (by first | exact Or.inr ((by decide))) dX10_isLetter_111
      · refine lv_tableIn (off := 109) (tgt := 110) hx hb dX10_isLetter_1 (Int.not_lt.mpr c1) (Int.not_lt.mpr c1b) (by rw [c1k]; rfl) (by decide) ?_
        refine lv_iconst (v := 0) hx hb dX10_isLetter_110 (by decide) ?_
        exact end_z C hr hlocks (by decide) () hW (by first | exact Or.inr ((by decide))) dX10_isLetter_111
      · refine lv_tableIn (off := 109) (tgt := 110) hx hb dX10_isLetter_1 (Int.not_lt.mpr c1) (Int.not_lt.mpr c1b) (by rw [c1k]; rfl) (by decide) ?_
        refine lv_iconst (v := 0) hx hb dX10_isLetter_110 (by decide) ?_
        exact end_z C hr hlocks (by decide) () hW (by first | exact Or.inr ((by decide))) dX10_isLetter_111
      · refine lv_tableIn (off := 109) (tgt := 110) hx hb dX10_isLetter_1 (Int.not_lt.mpr c1) (Int.not_lt.mpr c1b) (by rw [c1k]; rfl) (by decide) ?_
        refine lv_iconst (v := 0) hx hb dX10_isLetter_110 (by decide) ?_
        exact end_z C hr hlocks (by decide) () hW (by first | exact Or.inr ((by decide))) dX10_isLetter_111
      · refine lv_tableIn (off := 109) (tgt := 110) hx hb dX10_isLetter_1 (Int.not_lt.mpr c1) (Int.not_lt.mpr c1b) (by rw [c1k]; rfl) (by decide) ?_
        refine lv_iconst (v := 0) hx hb dX10_isLetter_110 (by decide) ?_
        exact end_z C hr hlocks (by decide) () hW (by first | exact Or.inr ((by decide))) dX10_isLetter_111
      · refine lv_tableIn (off := 107) (tgt := 108) hx hb dX10_isLetter_1 (Int.not_lt.mpr c1) (Int.not_lt.mpr c1b) (by rw [c1k]; rfl) (by decide) ?_
        refine lv_iconst (v := 1) hx hb dX10_isLetter_108 (by decide) ?_
        exact end_z C hr hlocks (by decide) () hW (by first | exact Or.inl (by decide)) dX10_isLetter_109
      · refine lv_tableIn (off := 109) (tgt := 110) hx hb dX10_isLetter_1 (Int.not_lt.mpr c1) (Int.not_lt.mpr c1b) (by rw [c1k]; rfl) (by decide) ?_
        refine lv_iconst (v := 0) hx hb dX10_isLetter_110 (by decide) ?_
        exact end_z C hr hlocks (by decide) () hW (by first | exact Or.inr ((by decide))) dX10_isLetter_111
      · refine lv_tableIn (off := 109) (tgt := 110) hx hb dX10_isLetter_1 (Int.not_lt.mpr c1) (Int.not_lt.mpr c1b) (by rw [c1k]; rfl) (by decide) ?_
        refine lv_iconst (v := 0) hx hb dX10_isLetter_110 (by decide) ?_
        exact end_z C hr hlocks (by decide) () hW (by first | exact Or.inr ((by decide))) dX10_isLetter_111
      · refine lv_tableIn (off := 107) (tgt := 108) hx hb dX10_isLetter_1 (Int.not_lt.mpr c1) (Int.not_lt.mpr c1b) (by rw [c1k]; rfl) (by decide) ?_
        refine lv_iconst (v := 1) hx hb dX10_isLetter_108 (by decide) ?_
        exact end_z C hr hlocks (by decide) () hW (by first | exact Or.inl (by decide)) dX10_isLetter_109
      · refine lv_tableIn (off := 109) (tgt := 110) hx hb dX10_isLetter_1 (Int.not_lt.mpr c1) (Int.not_lt.mpr c1b) (by rw [c1k]; rfl) (by decide) ?_
        refine lv_iconst (v := 0) hx hb dX10_isLetter_110 (by decide) ?_
        exact end_z C hr hlocks (by decide) () hW (by first | exact Or.inr ((by decide))) dX10_isLetter_111
      · refine lv_tableIn (off := 107) (tgt := 108) hx hb dX10_isLetter_1 (Int.not_lt.mpr c1) (Int.not_lt.mpr c1b) (by rw [c1k]; rfl) (by decide) ?_
        refine lv_iconst (v := 1) hx hb dX10_isLetter_108 (by decide) ?_
        exact end_z C hr hlocks (by decide) () hW (by first | exact Or.inl (by decide)) dX10_isLetter_109
      · refine lv_tableIn (off := 107) (tgt := 108) hx hb dX10_isLetter_1 (Int.not_lt.mpr c1) (Int.not_lt.mpr c1b) (by rw [c1k]; rfl) (by decide) ?_
        refine lv_iconst (v := 1) hx hb dX10_isLetter_108 (by decide) ?_
        exact end_z C hr hlocks (by decide) () hW (by first | exact Or.inl (by decide)) dX10_isLetter_109
      · refine lv_tableIn (off := 109) (tgt := 110) hx hb dX10_isLetter_1 (Int.not_lt.mpr c1) (Int.not_lt.mpr c1b) (by rw [c1k]; rfl) (by decide) ?_
        refine lv_iconst (v := 0) hx hb dX10_isLetter_110 (by decide) ?_
        exact end_z C hr hlocks (by decide) () hW (by first | exact Or.inr ((by decide))) dX10_isLetter_111
      · refine lv_tableIn (off := 109) (tgt := 110) hx hb dX10_isLetter_1 (Int.not_lt.mpr c1) (Int.not_lt.mpr c1b) (by rw [c1k]; rfl) (by decide) ?_
        refine lv_iconst (v := 0) hx hb dX10_isLetter_110 (by decide) ?_
        exact end_z C hr hlocks (by decide) () hW (by first | exact Or.inr ((by decide))) dX10_isLetter_111
      · refine lv_tableIn (off := 109) (tgt := 110) hx hb dX10_isLetter_1 (Int.not_lt.mpr c1) (Int.not_lt.mpr c1b) (by rw [c1k]; rfl) (by decide) ?_
        refine lv_iconst (v := 0) hx hb dX10_isLetter_110 (by decide) ?_
        exact end_z C hr hlocks (by decide) () hW (by first | exact Or.inr ((by decide))) dX10_isLetter_111
      · refine lv_tableIn (off := 109) (tgt := 110) hx hb dX10_isLetter_1 (Int.not_lt.mpr c1) (Int.not_lt.mpr c1b) (by rw [c1k]; rfl) (by decide) ?_
        refine lv_iconst (v := 0) hx hb dX10_isLetter_110 (by decide) ?_
        exact end_z C hr hlocks (by decide) () hW (by first | exact Or.inr ((by decide))) dX10_isLetter_111
      · refine lv_tableIn (off := 107) (tgt := 108) hx hb dX10_isLetter_1 (Int.not_lt.mpr c1) (Int.not_lt.mpr c1b) (by rw [c1k]; rfl) (by decide) ?_
        refine lv_iconst (v := 1) hx hb dX10_isLetter_108 (by decide) ?_
        exact end_z C hr hlocks (by decide) () hW (by first | exact Or.inl (by decide)) dX10_isLetter_109
      · refine lv_tableIn (off := 109) (tgt := 110) hx hb dX10_isLetter_1 (Int.not_lt.mpr c1) (Int.not_lt.mpr c1b) (by rw [c1k]; rfl) (by decide) ?_
        refine lv_iconst (v := 0) hx hb dX10_isLetter_110 (by decide) ?_
        exact end_z C hr hlocks (by decide) () hW (by first | exact Or.inr ((by decide))) dX10_isLetter_111
      · refine lv_tableIn (off := 109) (tgt := 110) hx hb dX10_isLetter_1 (Int.not_lt.mpr c1) (Int.not_lt.mpr c1b) (by rw [c1k]; rfl) (by decide) ?_
        refine lv_iconst (v := 0) hx hb dX10_isLetter_110 (by decide) ?_
        exact end_z C hr hlocks (by decide) () hW (by first | exact Or.inr ((by decide))) dX10_isLetter_111
      · refine lv_tableIn (off := 107) (tgt := 108) hx hb dX10_isLetter_1 (Int.not_lt.mpr c1) (Int.not_lt.mpr c1b) (by rw [c1k]; rfl) (by decide) ?_
        refine lv_iconst (v := 1) hx hb dX10_isLetter_108 (by decide) ?_
        exact end_z C hr hlocks (by decide) () hW (by first | exact Or.inl (by decide)) dX10_isLetter_109
      · refine lv_tableIn (off := 107) (tgt := 108) hx hb dX10_isLetter_1 (Int.not_lt.mpr c1) (Int.not_lt.mpr c1b) (by rw [c1k]; rfl) (by decide) ?_
        refine lv_iconst (v := 1) hx hb dX10_isLetter_108 (by decide) ?_
        exact end_z C hr hlocks (by decide) () hW (by first | exact Or.inl (by decide)) dX10_isLetter_109

set_option maxHeartbeats 4000000 in
set_option maxRecDepth 100000 in
theorem c_X7_letter (l : Launch) (g : gG) (J : Nat → Nat → Int32) (L : Nat → Nat → Int64) (I : Nat → Nat → Nat → Int32) (P : Nat → Nat → Nat → Option Nat) (E : Nat → Option Nat) (N : Nat → Nat) (dy : List (Nat × Nat)) (sz : Nat) (a0 : Int32)  : Met l yX7_letter (WS yX7_letter cX7_letter 2 (some .int)) (RM (1) 0 0) (PC g [.ref (g.2.2.1 8), .int a0] ((J, L, I, P, E, N), sgX g ++ dy) sz) (va_Qi (fun (r : Int32) (u : Unit) => True) (fun u t => at_ g (FR g ((J, L, I, P, E, N), sgX g ++ dy) sz) ((J, L, I, P, E, N), sgX g ++ dy) t) (FR g ((J, L, I, P, E, N), sgX g ++ dy) sz)) 0 0 (FR g ((J, L, I, P, E, N), sgX g ++ dy) sz) := by
  refine ent (by decide +kernel) (Nat.le_of_ble_eq_true rfl) ?_
  intro p e s m below meth c ls hsz C hW hr hlocks hname hl
  generalize FR g ((J, L, I, P, E, N), sgX g ++ dy) sz = A at C hW ⊢
  have hx := C.1.1
  have hb := C.1.2.1
  have hts := C.1.2.2.2.2
  have hl : lv_has ls 2 [(0, .ref (g.2.2.1 8)), (1, .int a0)] := hl
  obtain ⟨H, hH⟩ : ∃ H : Heap, H = s.heap := ⟨_, rfl⟩
  obtain ⟨locs, hlocs⟩ : ∃ q : List Loc, q = [] := ⟨_, rfl⟩
  have hW : WB g A s.heap H locs (J, L, I, P, E, N) (sgX g ++ dy) := by rw [hH, hlocs]; exact hW
  refine start_ hH hlocs ?_
  refine lv_iload_n hx hb dX7_letter_0 rfl (lv_at hl 1 rfl) ?_
  rcases Int.lt_or_le a0.toInt 97 with c1 | c1
  · refine lv_tableOut (tgt := 143) hx hb dX7_letter_1 (Or.inl c1) (by decide) ?_
    refine lv_aload_n hx hb dX7_letter_143 rfl (lv_at hl 0 rfl) ?_
    refine rg_8_9 C hW (mx_ rfl) tw_341 dX7_letter_144 ?_
    exact end_i C hr hlocks () hW trivial dX7_letter_147
  · rcases Int.lt_or_le 119 a0.toInt with c1b | c1b
    · refine lv_tableOut (tgt := 143) hx hb dX7_letter_1 (Or.inr c1b) (by decide) ?_
      refine lv_aload_n hx hb dX7_letter_143 rfl (lv_at hl 0 rfl) ?_
      refine rg_8_9 C hW (mx_ rfl) tw_341 dX7_letter_144 ?_
      exact end_i C hr hlocks () hW trivial dX7_letter_147
    · rcases (show a0.toInt = 97 ∨ a0.toInt = 98 ∨ a0.toInt = 99 ∨ a0.toInt = 100 ∨ a0.toInt = 101 ∨ a0.toInt = 102 ∨ a0.toInt = 103 ∨ a0.toInt = 104 ∨ a0.toInt = 105 ∨ a0.toInt = 106 ∨ a0.toInt = 107 ∨ a0.toInt = 108 ∨ a0.toInt = 109 ∨ a0.toInt = 110 ∨ a0.toInt = 111 ∨ a0.toInt = 112 ∨ a0.toInt = 113 ∨ a0.toInt = 114 ∨ a0.toInt = 115 ∨ a0.toInt = 116 ∨ a0.toInt = 117 ∨ a0.toInt = 118 ∨ a0.toInt = 119 by omega) with c1k | c1k | c1k | c1k | c1k | c1k | c1k | c1k | c1k | c1k | c1k | c1k | c1k | c1k | c1k | c1k | c1k | c1k | c1k | c1k | c1k | c1k | c1k
      · refine lv_tableIn (off := 137) (tgt := 138) hx hb dX7_letter_1 (Int.not_lt.mpr c1) (Int.not_lt.mpr c1b) (by rw [c1k]; rfl) (by decide) ?_
        refine lv_aload_n hx hb dX7_letter_138 rfl (lv_at hl 0 rfl) ?_
        refine rg_8_8 C hW (mx_ rfl) tw_339 dX7_letter_139 ?_
        exact end_i C hr hlocks () hW trivial dX7_letter_142
      · refine lv_tableIn (off := 142) (tgt := 143) hx hb dX7_letter_1 (Int.not_lt.mpr c1) (Int.not_lt.mpr c1b) (by rw [c1k]; rfl) (by decide) ?_
        refine lv_aload_n hx hb dX7_letter_143 rfl (lv_at hl 0 rfl) ?_
        refine rg_8_9 C hW (mx_ rfl) tw_341 dX7_letter_144 ?_
        exact end_i C hr hlocks () hW trivial dX7_letter_147
      · refine lv_tableIn (off := 142) (tgt := 143) hx hb dX7_letter_1 (Int.not_lt.mpr c1) (Int.not_lt.mpr c1b) (by rw [c1k]; rfl) (by decide) ?_
        refine lv_aload_n hx hb dX7_letter_143 rfl (lv_at hl 0 rfl) ?_
        refine rg_8_9 C hW (mx_ rfl) tw_341 dX7_letter_144 ?_
        exact end_i C hr hlocks () hW trivial dX7_letter_147
      · refine lv_tableIn (off := 142) (tgt := 143) hx hb dX7_letter_1 (Int.not_lt.mpr c1) (Int.not_lt.mpr c1b) (by rw [c1k]; rfl) (by decide) ?_
        refine lv_aload_n hx hb dX7_letter_143 rfl (lv_at hl 0 rfl) ?_
        refine rg_8_9 C hW (mx_ rfl) tw_341 dX7_letter_144 ?_
        exact end_i C hr hlocks () hW trivial dX7_letter_147
      · refine lv_tableIn (off := 142) (tgt := 143) hx hb dX7_letter_1 (Int.not_lt.mpr c1) (Int.not_lt.mpr c1b) (by rw [c1k]; rfl) (by decide) ?_
        refine lv_aload_n hx hb dX7_letter_143 rfl (lv_at hl 0 rfl) ?_
        refine rg_8_9 C hW (mx_ rfl) tw_341 dX7_letter_144 ?_
        exact end_i C hr hlocks () hW trivial dX7_letter_147
      · refine lv_tableIn (off := 142) (tgt := 143) hx hb dX7_letter_1 (Int.not_lt.mpr c1) (Int.not_lt.mpr c1b) (by rw [c1k]; rfl) (by decide) ?_
        refine lv_aload_n hx hb dX7_letter_143 rfl (lv_at hl 0 rfl) ?_
        refine rg_8_9 C hW (mx_ rfl) tw_341 dX7_letter_144 ?_
        exact end_i C hr hlocks () hW trivial dX7_letter_147
      · refine lv_tableIn (off := 142) (tgt := 143) hx hb dX7_letter_1 (Int.not_lt.mpr c1) (Int.not_lt.mpr c1b) (by rw [c1k]; rfl) (by decide) ?_
        refine lv_aload_n hx hb dX7_letter_143 rfl (lv_at hl 0 rfl) ?_
        refine rg_8_9 C hW (mx_ rfl) tw_341 dX7_letter_144 ?_
        exact end_i C hr hlocks () hW trivial dX7_letter_147
      · refine lv_tableIn (off := 112) (tgt := 113) hx hb dX7_letter_1 (Int.not_lt.mpr c1) (Int.not_lt.mpr c1b) (by rw [c1k]; rfl) (by decide) ?_
        refine lv_aload_n hx hb dX7_letter_113 rfl (lv_at hl 0 rfl) ?_
        refine rg_8_3 C hW (mx_ rfl) tw_329 dX7_letter_114 ?_
        exact end_i C hr hlocks () hW trivial dX7_letter_117
      · refine lv_tableIn (off := 142) (tgt := 143) hx hb dX7_letter_1 (Int.not_lt.mpr c1) (Int.not_lt.mpr c1b) (by rw [c1k]; rfl) (by decide) ?_
        refine lv_aload_n hx hb dX7_letter_143 rfl (lv_at hl 0 rfl) ?_
        refine rg_8_9 C hW (mx_ rfl) tw_341 dX7_letter_144 ?_
        exact end_i C hr hlocks () hW trivial dX7_letter_147
      · refine lv_tableIn (off := 142) (tgt := 143) hx hb dX7_letter_1 (Int.not_lt.mpr c1) (Int.not_lt.mpr c1b) (by rw [c1k]; rfl) (by decide) ?_
        refine lv_aload_n hx hb dX7_letter_143 rfl (lv_at hl 0 rfl) ?_
        refine rg_8_9 C hW (mx_ rfl) tw_341 dX7_letter_144 ?_
        exact end_i C hr hlocks () hW trivial dX7_letter_147
      · refine lv_tableIn (off := 107) (tgt := 108) hx hb dX7_letter_1 (Int.not_lt.mpr c1) (Int.not_lt.mpr c1b) (by rw [c1k]; rfl) (by decide) ?_
        refine lv_aload_n hx hb dX7_letter_108 rfl (lv_at hl 0 rfl) ?_
        refine rg_8_2 C hW (mx_ rfl) tw_327 dX7_letter_109 ?_
        exact end_i C hr hlocks () hW trivial dX7_letter_112
      · refine lv_tableIn (off := 142) (tgt := 143) hx hb dX7_letter_1 (Int.not_lt.mpr c1) (Int.not_lt.mpr c1b) (by rw [c1k]; rfl) (by decide) ?_
        refine lv_aload_n hx hb dX7_letter_143 rfl (lv_at hl 0 rfl) ?_
        refine rg_8_9 C hW (mx_ rfl) tw_341 dX7_letter_144 ?_
        exact end_i C hr hlocks () hW trivial dX7_letter_147
      · refine lv_tableIn (off := 127) (tgt := 128) hx hb dX7_letter_1 (Int.not_lt.mpr c1) (Int.not_lt.mpr c1b) (by rw [c1k]; rfl) (by decide) ?_
        refine lv_aload_n hx hb dX7_letter_128 rfl (lv_at hl 0 rfl) ?_
        refine rg_8_6 C hW (mx_ rfl) tw_335 dX7_letter_129 ?_
        exact end_i C hr hlocks () hW trivial dX7_letter_132
      · refine lv_tableIn (off := 142) (tgt := 143) hx hb dX7_letter_1 (Int.not_lt.mpr c1) (Int.not_lt.mpr c1b) (by rw [c1k]; rfl) (by decide) ?_
        refine lv_aload_n hx hb dX7_letter_143 rfl (lv_at hl 0 rfl) ?_
        refine rg_8_9 C hW (mx_ rfl) tw_341 dX7_letter_144 ?_
        exact end_i C hr hlocks () hW trivial dX7_letter_147
      · refine lv_tableIn (off := 142) (tgt := 143) hx hb dX7_letter_1 (Int.not_lt.mpr c1) (Int.not_lt.mpr c1b) (by rw [c1k]; rfl) (by decide) ?_
        refine lv_aload_n hx hb dX7_letter_143 rfl (lv_at hl 0 rfl) ?_
        refine rg_8_9 C hW (mx_ rfl) tw_341 dX7_letter_144 ?_
        exact end_i C hr hlocks () hW trivial dX7_letter_147
      · refine lv_tableIn (off := 142) (tgt := 143) hx hb dX7_letter_1 (Int.not_lt.mpr c1) (Int.not_lt.mpr c1b) (by rw [c1k]; rfl) (by decide) ?_
        refine lv_aload_n hx hb dX7_letter_143 rfl (lv_at hl 0 rfl) ?_
        refine rg_8_9 C hW (mx_ rfl) tw_341 dX7_letter_144 ?_
        exact end_i C hr hlocks () hW trivial dX7_letter_147
      · refine lv_tableIn (off := 142) (tgt := 143) hx hb dX7_letter_1 (Int.not_lt.mpr c1) (Int.not_lt.mpr c1b) (by rw [c1k]; rfl) (by decide) ?_
        refine lv_aload_n hx hb dX7_letter_143 rfl (lv_at hl 0 rfl) ?_
        refine rg_8_9 C hW (mx_ rfl) tw_341 dX7_letter_144 ?_
        exact end_i C hr hlocks () hW trivial dX7_letter_147
      · refine lv_tableIn (off := 142) (tgt := 143) hx hb dX7_letter_1 (Int.not_lt.mpr c1) (Int.not_lt.mpr c1b) (by rw [c1k]; rfl) (by decide) ?_
        refine lv_aload_n hx hb dX7_letter_143 rfl (lv_at hl 0 rfl) ?_
        refine rg_8_9 C hW (mx_ rfl) tw_341 dX7_letter_144 ?_
        exact end_i C hr hlocks () hW trivial dX7_letter_147
      · refine lv_tableIn (off := 122) (tgt := 123) hx hb dX7_letter_1 (Int.not_lt.mpr c1) (Int.not_lt.mpr c1b) (by rw [c1k]; rfl) (by decide) ?_
        refine lv_aload_n hx hb dX7_letter_123 rfl (lv_at hl 0 rfl) ?_
        refine rg_8_5 C hW (mx_ rfl) tw_333 dX7_letter_124 ?_
        exact end_i C hr hlocks () hW trivial dX7_letter_127
      · refine lv_tableIn (off := 142) (tgt := 143) hx hb dX7_letter_1 (Int.not_lt.mpr c1) (Int.not_lt.mpr c1b) (by rw [c1k]; rfl) (by decide) ?_
        refine lv_aload_n hx hb dX7_letter_143 rfl (lv_at hl 0 rfl) ?_
        refine rg_8_9 C hW (mx_ rfl) tw_341 dX7_letter_144 ?_
        exact end_i C hr hlocks () hW trivial dX7_letter_147
      · refine lv_tableIn (off := 142) (tgt := 143) hx hb dX7_letter_1 (Int.not_lt.mpr c1) (Int.not_lt.mpr c1b) (by rw [c1k]; rfl) (by decide) ?_
        refine lv_aload_n hx hb dX7_letter_143 rfl (lv_at hl 0 rfl) ?_
        refine rg_8_9 C hW (mx_ rfl) tw_341 dX7_letter_144 ?_
        exact end_i C hr hlocks () hW trivial dX7_letter_147
      · refine lv_tableIn (off := 117) (tgt := 118) hx hb dX7_letter_1 (Int.not_lt.mpr c1) (Int.not_lt.mpr c1b) (by rw [c1k]; rfl) (by decide) ?_
        refine lv_aload_n hx hb dX7_letter_118 rfl (lv_at hl 0 rfl) ?_
        refine rg_8_4 C hW (mx_ rfl) tw_331 dX7_letter_119 ?_
        exact end_i C hr hlocks () hW trivial dX7_letter_122
      · refine lv_tableIn (off := 132) (tgt := 133) hx hb dX7_letter_1 (Int.not_lt.mpr c1) (Int.not_lt.mpr c1b) (by rw [c1k]; rfl) (by decide) ?_
        refine lv_aload_n hx hb dX7_letter_133 rfl (lv_at hl 0 rfl) ?_
        refine rg_8_7 C hW (mx_ rfl) tw_337 dX7_letter_134 ?_
        exact end_i C hr hlocks () hW trivial dX7_letter_137

set_option maxHeartbeats 4000000 in
set_option maxRecDepth 100000 in
theorem c_X7_push (l : Launch) (g : gG) (J : Nat → Nat → Int32) (L : Nat → Nat → Int64) (I : Nat → Nat → Nat → Int32) (P : Nat → Nat → Nat → Option Nat) (E : Nat → Option Nat) (N : Nat → Nat) (dy : List (Nat × Nat)) (sz : Nat) (a0 : Int32)  : Met l yX7_push (WS yX7_push cX7_push 2 none) (RM (1) 0 0) (PC g [.ref (g.2.2.1 8), .int a0] ((J, L, I, P, E, N), sgX g ++ dy) sz) (va_Qv (fun (u : (Nat → Nat → Int32)) => True) (fun u t => at_ g (FR g ((J, L, I, P, E, N), sgX g ++ dy) sz) (((hv J [45] [(8, 1)] u), L, I, P, E, N), sgX g ++ dy) t) (FR g ((J, L, I, P, E, N), sgX g ++ dy) sz)) 0 0 (FR g ((J, L, I, P, E, N), sgX g ++ dy) sz) := by
  refine ent (by decide +kernel) (Nat.le_of_ble_eq_true rfl) ?_
  intro p e s m below meth c ls hsz C hW hr hlocks hname hl
  generalize FR g ((J, L, I, P, E, N), sgX g ++ dy) sz = A at C hW ⊢
  have hx := C.1.1
  have hb := C.1.2.1
  have hts := C.1.2.2.2.2
  have hl : lv_has ls 2 [(0, .ref (g.2.2.1 8)), (1, .int a0)] := hl
  obtain ⟨H, hH⟩ : ∃ H : Heap, H = s.heap := ⟨_, rfl⟩
  obtain ⟨locs, hlocs⟩ : ∃ q : List Loc, q = [] := ⟨_, rfl⟩
  have hW : WB g A s.heap H locs (J, L, I, P, E, N) (sgX g ++ dy) := by rw [hH, hlocs]; exact hW
  refine start_ hH hlocs ?_
  refine lv_aload_n hx hb dX7_push_0 rfl (lv_at hl 0 rfl) ?_
  refine rg_8_1 C hW (mx_ rfl) tw_326 dX7_push_1 ?_
  refine lv_if_lt (tgt := 39) hx hb dX7_push_4 (by decide) (fun c1 => ?_) (fun c1 => ?_)
  · have c1 : (J 8 1).toInt < 0 := tlt rfl kp0 c1
    have hWr : WB g A s.heap H locs ((hv J [45] [(8, 1)] J), L, I, P, E, N) (sgX g ++ dy) := by
      rw [← ag_hvE (J := J) (R := [45]) (F := [(8, 1)]) ag_rf]
      exact hW
    exact end_v C hr hlocks J hWr trivial dX7_push_39
  · have c1 : 0 ≤ (J 8 1).toInt := tnlt rfl kp0 c1
    refine lv_aload_n hx hb dX7_push_7 rfl (lv_at hl 0 rfl) ?_
    refine rg_8_1 C hW (mx_ rfl) tw_326 dX7_push_8 ?_
    refine lv_aload_n hx hb dX7_push_11 rfl (lv_at hl 0 rfl) ?_
    refine rg_8_0 C hW (mx_ rfl) tw_325 dX7_push_12 ?_
    refine rl_45 C hW (mx_ rfl) dX7_push_15 ?_
    refine lv_icmp_ge (tgt := 39) hx hb dX7_push_16 (by decide) (fun c2 => ?_) (fun c2 => ?_)
    · have c2 : 60 ≤ (J 8 1).toInt := tle kp60 rfl c2
      have hWr : WB g A s.heap H locs ((hv J [45] [(8, 1)] J), L, I, P, E, N) (sgX g ++ dy) := by
        rw [← ag_hvE (J := J) (R := [45]) (F := [(8, 1)]) ag_rf]
        exact hW
      exact end_v C hr hlocks J hWr trivial dX7_push_39
    · have c2 : (J 8 1).toInt < 60 := tnle kp60 rfl c2
      refine lv_aload_n hx hb dX7_push_19 rfl (lv_at hl 0 rfl) ?_
      refine rg_8_0 C hW (mx_ rfl) tw_325 dX7_push_20 ?_
      refine lv_aload_n hx hb dX7_push_23 rfl (lv_at hl 0 rfl) ?_
      refine rg_8_1 C hW (mx_ rfl) tw_326 dX7_push_24 ?_
      refine lv_iload_n hx hb dX7_push_27 rfl (lv_at hl 1 rfl) ?_
      have hin : vp_in (J 8 1) 60 := tin rfl (by omega)
      refine rs_45 C hW (mx_ rfl) hin dX7_push_28 (fun H locs hW => ?_)
      refine lv_aload_n hx hb dX7_push_29 rfl (lv_at hl 0 rfl) ?_
      refine lv_dup hx hb dX7_push_30 rfl ?_
      refine rg_8_1 C hW (mx_ rfl) tw_326 dX7_push_31 ?_
      refine lv_as (J 8 1) rfl ?_
      refine lv_iconst (v := 1) hx hb dX7_push_34 (by decide) ?_
      refine lv_iadd hx hb dX7_push_35 ?_
      refine lv_topi (fun x3 (e3 : x3 = (J 8 1) + 1) => ?_)
      try have t3 : x3.toInt = (J 8 1).toInt + 1 := tadd e3 rfl kp1 (by omega)
      refine rp_8_1 C hW (mx_ rfl) tw_326 dX7_push_36 (fun H locs hW => ?_)
      have hWr : WB g A s.heap H locs ((hv J [45] [(8, 1)] (up2 (up2 J 45 ((J 8 1).toNatClampNeg) a0) 8 1 x3)), L, I, P, E, N) (sgX g ++ dy) := by
        rw [← ag_hvE (J := J) (R := [45]) (F := [(8, 1)]) (ag_up (Or.inr rfl) (ag_up (Or.inl rfl) ag_rf))]
        exact hW
      exact end_v C hr hlocks (up2 (up2 J 45 ((J 8 1).toNatClampNeg) a0) 8 1 x3) hWr trivial dX7_push_39

set_option maxHeartbeats 4000000 in
set_option maxRecDepth 100000 in
theorem c_X3_fewestBoosts (l : Launch) (g : gG) (J : Nat → Nat → Int32) (L : Nat → Nat → Int64) (I : Nat → Nat → Nat → Int32) (P : Nat → Nat → Nat → Option Nat) (E : Nat → Option Nat) (N : Nat → Nat) (dy : List (Nat × Nat)) (sz : Nat) (a0 : Int32) (hwf : WXF g J P E N dy) : Met l yX3_fewestBoosts (WS yX3_fewestBoosts cX3_fewestBoosts 7 (some .int)) (RM (7) 0 0) (PC g [.ref (g.2.2.1 4), .int a0] ((J, L, I, P, E, N), sgX g ++ dy) sz) (va_Qi (fun (r : Int32) (u : (Nat → Nat → Nat → Int32)) => True) (fun u t => at_ g (FR g ((J, L, I, P, E, N), sgX g ++ dy) sz) ((J, L, (hv I [] [(6, 5), (6, 6), (6, 7)] u), P, E, N), sgX g ++ dy) t) (FR g ((J, L, I, P, E, N), sgX g ++ dy) sz)) 0 0 (FR g ((J, L, I, P, E, N), sgX g ++ dy) sz) := by
  refine ent (by decide +kernel) (Nat.le_of_ble_eq_true rfl) ?_
  intro p e s m below meth c ls hsz C hW hr hlocks hname hl
  generalize FR g ((J, L, I, P, E, N), sgX g ++ dy) sz = A at C hW ⊢
  have hx := C.1.1
  have hb := C.1.2.1
  have hts := C.1.2.2.2.2
  have hl : lv_has ls 7 [(0, .ref (g.2.2.1 4)), (1, .int a0)] := hl
  obtain ⟨H, hH⟩ : ∃ H : Heap, H = s.heap := ⟨_, rfl⟩
  obtain ⟨locs, hlocs⟩ : ∃ q : List Loc, q = [] := ⟨_, rfl⟩
  have hW : WB g A s.heap H locs (J, L, I, P, E, N) (sgX g ++ dy) := by rw [hH, hlocs]; exact hW
  obtain ⟨h20a, h20b, -⟩ := hwf.1.1
  obtain ⟨h22a, h22b, -⟩ := hwf.1.2.2.1
  obtain ⟨h23a, h23b, -⟩ := hwf.1.2.2.2
  refine start_ hH hlocs ?_
  refine lv_iconst (v := 1) hx hb dX3_fewestBoosts_0 (by decide) ?_
  refine lv_aload_n hx hb dX3_fewestBoosts_1 rfl (lv_at hl 0 rfl) ?_
  refine rg_4_3 C hW (mx_ rfl) tw_238 dX3_fewestBoosts_2 ?_
  refine ci_ C hW (runV (x := (g.2.2.1 23)) (As := []) (rest := [.int 1]) (T := ((J, L, I, P, E, N), sgX g ++ dy)) C hW (c_Jx4a65c_size_8abf5 l g J L I P E N dy H.size 23 rfl ) mi_Jx4a65c_size_8abf5 tw_467 (recv_ (T := ((J, L, I, P, E, N), sgX g ++ dy)) C hW (mx_ rfl) (cel_list rfl) rfl) ⟨rfl, rfl, Nat.le_of_ble_eq_true rfl, Nat.le_of_ble_eq_true rfl⟩ rfl hl.1 rfl (Nat.le_of_ble_eq_true rfl) dX3_fewestBoosts_5 ⟨Nat.le_of_ble_eq_true rfl, Nat.le_of_ble_eq_true rfl⟩) (fun r1 u1 H locs hp1 hW => ?_)
  have hc1 : ((r1 = J 23 2)) := hp1
  clear hp1
  have hr1 : r1 = J 23 2 := hc1
  refine lv_as (J 23 2) hr1 ?_
  have hW : WB g A s.heap H locs (J, L, I, P, E, N) (sgX g ++ dy) := hW
  refine lv_bipush (v := 9) hx hb dX3_fewestBoosts_8 (by decide) ?_
  refine va_mmin hx hb (C.1.2.2.1.trans hl.1.symm) C.1.2.2.2.1 (hts _ tw_886) (hts _ tw_225) (hts _ tw_74) (hts _ tw_226) (Nat.le_of_ble_eq_true rfl) (Nat.le_of_ble_eq_true rfl) (Nat.le_of_ble_eq_true rfl) (Nat.le_of_ble_eq_true rfl) dX3_fewestBoosts_10 ?_
  refine lv_topi (fun x2 (e2 : x2 = if 9 < (J 23 2) then 9 else (J 23 2)) => ?_)
  have t2 : x2.toInt = min ((J 23 2).toInt) 9 := tmin e2 rfl kp9
  refine lv_ishl hx hb dX3_fewestBoosts_13 ?_
  refine lv_topi (fun x3 (e3 : x3 = 1 <<< (x2 &&& 31)) => ?_)
  have t3 := tshl20 e3 (by omega)
  refine lv_iconst (v := 1) hx hb dX3_fewestBoosts_14 (by decide) ?_
  refine lv_isub hx hb dX3_fewestBoosts_15 ?_
  refine lv_topi (fun x4 (e4 : x4 = x3 - 1) => ?_)
  try have t4 : x4.toInt = x3.toInt - 1 := tsub e4 rfl kp1 (by omega)
  refine lv_istore_n (lv' := [(2, .int x4), (0, .ref (g.2.2.1 4)), (1, .int a0)]) hx hb dX3_fewestBoosts_16 rfl hl (by decide) rfl (fun ls hl => ?_)
  refine lv_bipush (v := 20) hx hb dX3_fewestBoosts_17 (by decide) ?_
  refine lv_istore_n (lv' := [(3, .int 20), (2, .int x4), (0, .ref (g.2.2.1 4)), (1, .int a0)]) hx hb dX3_fewestBoosts_19 rfl hl (by decide) rfl (fun ls hl => ?_)
  refine lv_bipush (v := (-9)) hx hb dX3_fewestBoosts_20 (by decide) ?_
  refine lv_istore (lv' := [(4, .int (-9)), (3, .int 20), (2, .int x4), (0, .ref (g.2.2.1 4)), (1, .int a0)]) hx hb dX3_fewestBoosts_22 hl (by decide) rfl (fun ls hl => ?_)
  refine lv_aload_n hx hb dX3_fewestBoosts_24 rfl (lv_at hl 3 rfl) ?_
  refine lv_iload_n hx hb dX3_fewestBoosts_25 rfl (lv_at hl 2 rfl) ?_
  refine lv_iload_n hx hb dX3_fewestBoosts_26 rfl (lv_at hl 4 rfl) ?_
  refine ci_ C hW (runV (x := (g.2.2.1 4)) (As := [.int x4, .int a0]) (rest := []) (T := ((J, L, I, P, E, N), sgX g ++ dy)) C hW (c_X3_allReachedWith l g J L I P E N dy H.size x4 a0 hwf) mi_X3_allReachedWith tw_887 (recv_ (T := ((J, L, I, P, E, N), sgX g ++ dy)) C hW (mx_ rfl) rfl rfl) ⟨rfl, rfl, Nat.le_of_ble_eq_true rfl, Nat.le_of_ble_eq_true rfl⟩ rfl hl.1 rfl (Nat.le_of_ble_eq_true rfl) dX3_fewestBoosts_27 ⟨Nat.le_of_ble_eq_true rfl, Nat.le_of_ble_eq_true rfl⟩) (fun r5 u5 H locs hp5 hW => ?_)
  have hc5 : ((r5.toInt = 1) ∨ (r5.toInt = 0)) := hp5
  clear hp5
  have hW : WB g A s.heap H locs (J, L, (hv I [] [(6, 5), (6, 6), (6, 7)] u5), P, E, N) (sgX g ++ dy) := hW
  refine lv_if_eq (tgt := 78) hx hb dX3_fewestBoosts_30 (by decide) (fun c6 => ?_) (fun c6 => ?_)
  · have c6 : r5.toInt = 0 := teq rfl kp0 c6
    refine lv_aload_n hx hb dX3_fewestBoosts_78 rfl (lv_at hl 3 rfl) ?_
    refine lv_iconst (v := 0) hx hb dX3_fewestBoosts_79 (by decide) ?_
    refine cv_ C hW (runV (x := (g.2.2.1 4)) (As := [.int 0]) (rest := []) (T := ((J, L, (hv I [] [(6, 5), (6, 6), (6, 7)] u5), P, E, N), sgX g ++ dy)) C hW (c_X3_raise l g J L (hv I [] [(6, 5), (6, 6), (6, 7)] u5) P E N dy H.size 0 hwf) mi_X3_raise tw_891 (recv_ (T := ((J, L, (hv I [] [(6, 5), (6, 6), (6, 7)] u5), P, E, N), sgX g ++ dy)) C hW (mx_ rfl) rfl rfl) ⟨rfl, rfl, Nat.le_of_ble_eq_true rfl, Nat.le_of_ble_eq_true rfl⟩ rfl hl.1 rfl (Nat.le_of_ble_eq_true rfl) dX3_fewestBoosts_80 ⟨Nat.le_of_ble_eq_true rfl, Nat.le_of_ble_eq_true rfl⟩) (fun u7 H locs hp7 hW => ?_)
    have hW : WB g A s.heap H locs (J, L, (hv (hv I [] [(6, 5), (6, 6), (6, 7)] u5) [] [(6, 5)] u7), P, E, N) (sgX g ++ dy) := hW
    refine lv_iload hx hb dX3_fewestBoosts_83 (lv_at hl 0 rfl) ?_
    have hWr : WB g A s.heap H locs (J, L, (hv I [] [(6, 5), (6, 6), (6, 7)] (hv (hv I [] [(6, 5), (6, 6), (6, 7)] u5) [] [(6, 5)] u7)), P, E, N) (sgX g ++ dy) := by
      rw [← ag_hvE (J := I) (R := []) (F := [(6, 5), (6, 6), (6, 7)]) (ag_hv rfl rfl (ag_hv rfl rfl ag_rf))]
      exact hW
    exact end_i C hr hlocks (hv (hv I [] [(6, 5), (6, 6), (6, 7)] u5) [] [(6, 5)] u7) hWr trivial dX3_fewestBoosts_85
  · have c6 : ¬ r5.toInt = 0 := tne rfl kp0 c6
    refine lv_iconst (v := 0) hx hb dX3_fewestBoosts_33 (by decide) ?_
    refine lv_istore (lv' := [(5, .int 0), (4, .int (-9)), (3, .int 20), (2, .int x4), (0, .ref (g.2.2.1 4)), (1, .int a0)]) hx hb dX3_fewestBoosts_34 hl (by decide) rfl (fun ls hl => ?_)
    have loop36 : ∀ (n : Nat) (m3 : Int32) (m4 : Int32) (m5 : Int32) (Kl8 : Nat → Nat → Nat → Int32) (H : Heap) (locs : List Loc) (ls : Array Slot), (1048577 - m5.toInt).toNat < n → 0 ≤ m5.toInt → WB g A s.heap H locs (J, L, (hv (hv I [] [(6, 5), (6, 6), (6, 7)] u5) [] [(6, 5), (6, 6), (6, 7)] Kl8), P, E, N) (sgX g ++ dy) → lv_has ls 7 [(5, .int m5), (4, .int m4), (3, .int m3), (2, .int x4), (0, .ref (g.2.2.1 4)), (1, .int a0)] → W p l e (RM (7) 0 0) s m ([.ref (g.2.2.1 4), .int a0] : List Value).toArray below meth c H locs 0 0 (MQ below (va_Qi (fun (r : Int32) (u : (Nat → Nat → Nat → Int32)) => True) (fun u t => at_ g A ((J, L, (hv I [] [(6, 5), (6, 6), (6, 7)] u), P, E, N), sgX g ++ dy) t) A) ([.ref (g.2.2.1 4), .int a0] : List Value).toArray s 0 0 A) (F0 m 36 ls []) := by
      intro n
      induction n with
      | zero => intro m3 m4 m5 Kl8 H locs ls hmeas; exact absurd hmeas (Nat.not_lt_zero _)
      | succ n ih =>
        intro m3 m4 m5 Kl8 H locs ls hmeas hi hW hl
        refine lv_iload hx hb dX3_fewestBoosts_36 (lv_at hl 0 rfl) ?_
        refine lv_iload_n hx hb dX3_fewestBoosts_38 rfl (lv_at hl 3 rfl) ?_
        refine lv_icmp_gt (tgt := 78) hx hb dX3_fewestBoosts_39 (by decide) (fun c9 => ?_) (fun c9 => ?_)
        · have c9 : x4.toInt < m5.toInt := tlt rfl rfl c9
          refine lv_aload_n hx hb dX3_fewestBoosts_78 rfl (lv_at hl 4 rfl) ?_
          refine lv_iconst (v := 0) hx hb dX3_fewestBoosts_79 (by decide) ?_
          refine cv_ C hW (runV (x := (g.2.2.1 4)) (As := [.int 0]) (rest := []) (T := ((J, L, (hv (hv I [] [(6, 5), (6, 6), (6, 7)] u5) [] [(6, 5), (6, 6), (6, 7)] Kl8), P, E, N), sgX g ++ dy)) C hW (c_X3_raise l g J L (hv (hv I [] [(6, 5), (6, 6), (6, 7)] u5) [] [(6, 5), (6, 6), (6, 7)] Kl8) P E N dy H.size 0 hwf) mi_X3_raise tw_891 (recv_ (T := ((J, L, (hv (hv I [] [(6, 5), (6, 6), (6, 7)] u5) [] [(6, 5), (6, 6), (6, 7)] Kl8), P, E, N), sgX g ++ dy)) C hW (mx_ rfl) rfl rfl) ⟨rfl, rfl, Nat.le_of_ble_eq_true rfl, Nat.le_of_ble_eq_true rfl⟩ rfl hl.1 rfl (Nat.le_of_ble_eq_true rfl) dX3_fewestBoosts_80 ⟨Nat.le_of_ble_eq_true rfl, Nat.le_of_ble_eq_true rfl⟩) (fun u10 H locs hp10 hW => ?_)
          have hW : WB g A s.heap H locs (J, L, (hv (hv (hv I [] [(6, 5), (6, 6), (6, 7)] u5) [] [(6, 5), (6, 6), (6, 7)] Kl8) [] [(6, 5)] u10), P, E, N) (sgX g ++ dy) := hW
          refine lv_iload hx hb dX3_fewestBoosts_83 (lv_at hl 1 rfl) ?_
          have hWr : WB g A s.heap H locs (J, L, (hv I [] [(6, 5), (6, 6), (6, 7)] (hv (hv (hv I [] [(6, 5), (6, 6), (6, 7)] u5) [] [(6, 5), (6, 6), (6, 7)] Kl8) [] [(6, 5)] u10)), P, E, N) (sgX g ++ dy) := by
            rw [← ag_hvE (J := I) (R := []) (F := [(6, 5), (6, 6), (6, 7)]) (ag_hv rfl rfl (ag_hv rfl rfl (ag_hv rfl rfl ag_rf)))]
            exact hW
          exact end_i C hr hlocks (hv (hv (hv I [] [(6, 5), (6, 6), (6, 7)] u5) [] [(6, 5), (6, 6), (6, 7)] Kl8) [] [(6, 5)] u10) hWr trivial dX3_fewestBoosts_85
        · have c9 : m5.toInt ≤ x4.toInt := tnlt rfl rfl c9
          refine lv_iload hx hb dX3_fewestBoosts_42 (lv_at hl 0 rfl) ?_
          refine ci_ C hW (runS (As := [.int m5]) (rest := []) (T := ((J, L, (hv (hv I [] [(6, 5), (6, 6), (6, 7)] u5) [] [(6, 5), (6, 6), (6, 7)] Kl8), P, E, N), sgX g ++ dy)) C hW (c_J6_bitCount_0f7a4 l g J L (hv (hv I [] [(6, 5), (6, 6), (6, 7)] u5) [] [(6, 5), (6, 6), (6, 7)] Kl8) P E N dy H.size m5 ) mi_J6_bitCount_0f7a4 tw_864 ⟨rfl, rfl, Nat.le_of_ble_eq_true rfl, Nat.le_of_ble_eq_true rfl⟩ rfl hl.1 rfl (Nat.le_of_ble_eq_true rfl) dX3_fewestBoosts_44 ⟨Nat.le_of_ble_eq_true rfl, Nat.le_of_ble_eq_true rfl⟩) (fun r11 u11 H locs hp11 hW => ?_)
          have hW : WB g A s.heap H locs (J, L, (hv (hv I [] [(6, 5), (6, 6), (6, 7)] u5) [] [(6, 5), (6, 6), (6, 7)] Kl8), P, E, N) (sgX g ++ dy) := hW
          refine lv_istore (lv' := [(6, .int r11), (5, .int m5), (4, .int m4), (3, .int m3), (2, .int x4), (0, .ref (g.2.2.1 4)), (1, .int a0)]) hx hb dX3_fewestBoosts_47 hl (by decide) rfl (fun ls hl => ?_)
          refine lv_iload hx hb dX3_fewestBoosts_49 (lv_at hl 0 rfl) ?_
          refine lv_iload_n hx hb dX3_fewestBoosts_51 rfl (lv_at hl 3 rfl) ?_
          refine lv_icmp_ge (tgt := 72) hx hb dX3_fewestBoosts_52 (by decide) (fun c12 => ?_) (fun c12 => ?_)
          · have c12 : m3.toInt ≤ r11.toInt := tle rfl rfl c12
            obtain ⟨x13, e13⟩ : ∃ y : Int32, y = m5 + 1 := ⟨_, rfl⟩
            refine lv_iinc (v := x13) (lv' := [(5, .int x13), (6, .int r11), (4, .int m4), (3, .int m3), (2, .int x4), (0, .ref (g.2.2.1 4)), (1, .int a0)]) hx hb dX3_fewestBoosts_72 hl (k := 1) rfl (by rw [e13]; rfl) (by decide) rfl (fun ls hl => ?_)
            try have t13 : x13.toInt = m5.toInt + 1 := tadd e13 rfl kp1 (by omega)
            refine lv_goto (tgt := 36) hx hb dX3_fewestBoosts_75 (by decide) ?_
            have hWl : WB g A s.heap H locs (J, L, (hv (hv I [] [(6, 5), (6, 6), (6, 7)] u5) [] [(6, 5), (6, 6), (6, 7)] (hv (hv I [] [(6, 5), (6, 6), (6, 7)] u5) [] [(6, 5), (6, 6), (6, 7)] Kl8)), P, E, N) (sgX g ++ dy) := by
              rw [← ag_hvE (J := (hv I [] [(6, 5), (6, 6), (6, 7)] u5)) (R := []) (F := [(6, 5), (6, 6), (6, 7)]) (ag_hv rfl rfl ag_rf)]
              exact hW
            refine ih m3 m4 x13 (hv (hv I [] [(6, 5), (6, 6), (6, 7)] u5) [] [(6, 5), (6, 6), (6, 7)] Kl8) H locs ls ?_ ?_ hWl (lv_sub hl [0, 2, 3, 4, 5, 6] rfl)
            · show (1048577 - x13.toInt).toNat < n
              omega
            · show 0 ≤ x13.toInt
              first | omega | exact hi | assumption
          · have c12 : r11.toInt < m3.toInt := tnle rfl rfl c12
            refine lv_aload_n hx hb dX3_fewestBoosts_55 rfl (lv_at hl 5 rfl) ?_
            refine lv_iload hx hb dX3_fewestBoosts_56 (lv_at hl 1 rfl) ?_
            refine lv_iload_n hx hb dX3_fewestBoosts_58 rfl (lv_at hl 6 rfl) ?_
            refine ci_ C hW (runV (x := (g.2.2.1 4)) (As := [.int m5, .int a0]) (rest := []) (T := ((J, L, (hv (hv I [] [(6, 5), (6, 6), (6, 7)] u5) [] [(6, 5), (6, 6), (6, 7)] Kl8), P, E, N), sgX g ++ dy)) C hW (c_X3_allReachedWith l g J L (hv (hv I [] [(6, 5), (6, 6), (6, 7)] u5) [] [(6, 5), (6, 6), (6, 7)] Kl8) P E N dy H.size m5 a0 hwf) mi_X3_allReachedWith tw_887 (recv_ (T := ((J, L, (hv (hv I [] [(6, 5), (6, 6), (6, 7)] u5) [] [(6, 5), (6, 6), (6, 7)] Kl8), P, E, N), sgX g ++ dy)) C hW (mx_ rfl) rfl rfl) ⟨rfl, rfl, Nat.le_of_ble_eq_true rfl, Nat.le_of_ble_eq_true rfl⟩ rfl hl.1 rfl (Nat.le_of_ble_eq_true rfl) dX3_fewestBoosts_59 ⟨Nat.le_of_ble_eq_true rfl, Nat.le_of_ble_eq_true rfl⟩) (fun r14 u14 H locs hp14 hW => ?_)
            have hc14 : ((r14.toInt = 1) ∨ (r14.toInt = 0)) := hp14
            clear hp14
            have hW : WB g A s.heap H locs (J, L, (hv (hv (hv I [] [(6, 5), (6, 6), (6, 7)] u5) [] [(6, 5), (6, 6), (6, 7)] Kl8) [] [(6, 5), (6, 6), (6, 7)] u14), P, E, N) (sgX g ++ dy) := hW
            refine lv_if_eq (tgt := 72) hx hb dX3_fewestBoosts_62 (by decide) (fun c15 => ?_) (fun c15 => ?_)
            · have c15 : r14.toInt = 0 := teq rfl kp0 c15
              obtain ⟨x16, e16⟩ : ∃ y : Int32, y = m5 + 1 := ⟨_, rfl⟩
              refine lv_iinc (v := x16) (lv' := [(5, .int x16), (6, .int r11), (4, .int m4), (3, .int m3), (2, .int x4), (0, .ref (g.2.2.1 4)), (1, .int a0)]) hx hb dX3_fewestBoosts_72 hl (k := 1) rfl (by rw [e16]; rfl) (by decide) rfl (fun ls hl => ?_)
              try have t16 : x16.toInt = m5.toInt + 1 := tadd e16 rfl kp1 (by omega)
              refine lv_goto (tgt := 36) hx hb dX3_fewestBoosts_75 (by decide) ?_
              have hWl : WB g A s.heap H locs (J, L, (hv (hv I [] [(6, 5), (6, 6), (6, 7)] u5) [] [(6, 5), (6, 6), (6, 7)] (hv (hv (hv I [] [(6, 5), (6, 6), (6, 7)] u5) [] [(6, 5), (6, 6), (6, 7)] Kl8) [] [(6, 5), (6, 6), (6, 7)] u14)), P, E, N) (sgX g ++ dy) := by
                rw [← ag_hvE (J := (hv I [] [(6, 5), (6, 6), (6, 7)] u5)) (R := []) (F := [(6, 5), (6, 6), (6, 7)]) (ag_hv rfl rfl (ag_hv rfl rfl ag_rf))]
                exact hW
              refine ih m3 m4 x16 (hv (hv (hv I [] [(6, 5), (6, 6), (6, 7)] u5) [] [(6, 5), (6, 6), (6, 7)] Kl8) [] [(6, 5), (6, 6), (6, 7)] u14) H locs ls ?_ ?_ hWl (lv_sub hl [0, 2, 3, 4, 5, 6] rfl)
              · show (1048577 - x16.toInt).toNat < n
                omega
              · show 0 ≤ x16.toInt
                first | omega | exact hi | assumption
            · have c15 : ¬ r14.toInt = 0 := tne rfl kp0 c15
              refine lv_iload hx hb dX3_fewestBoosts_65 (lv_at hl 0 rfl) ?_
              refine lv_istore_n (lv' := [(3, .int r11), (6, .int r11), (5, .int m5), (4, .int m4), (2, .int x4), (0, .ref (g.2.2.1 4)), (1, .int a0)]) hx hb dX3_fewestBoosts_67 rfl hl (by decide) rfl (fun ls hl => ?_)
              refine lv_iload hx hb dX3_fewestBoosts_68 (lv_at hl 2 rfl) ?_
              refine lv_istore (lv' := [(4, .int m5), (3, .int r11), (6, .int r11), (5, .int m5), (2, .int x4), (0, .ref (g.2.2.1 4)), (1, .int a0)]) hx hb dX3_fewestBoosts_70 hl (by decide) rfl (fun ls hl => ?_)
              obtain ⟨x17, e17⟩ : ∃ y : Int32, y = m5 + 1 := ⟨_, rfl⟩
              refine lv_iinc (v := x17) (lv' := [(5, .int x17), (4, .int m5), (3, .int r11), (6, .int r11), (2, .int x4), (0, .ref (g.2.2.1 4)), (1, .int a0)]) hx hb dX3_fewestBoosts_72 hl (k := 3) rfl (by rw [e17]; rfl) (by decide) rfl (fun ls hl => ?_)
              try have t17 : x17.toInt = m5.toInt + 1 := tadd e17 rfl kp1 (by omega)
              refine lv_goto (tgt := 36) hx hb dX3_fewestBoosts_75 (by decide) ?_
              have hWl : WB g A s.heap H locs (J, L, (hv (hv I [] [(6, 5), (6, 6), (6, 7)] u5) [] [(6, 5), (6, 6), (6, 7)] (hv (hv (hv I [] [(6, 5), (6, 6), (6, 7)] u5) [] [(6, 5), (6, 6), (6, 7)] Kl8) [] [(6, 5), (6, 6), (6, 7)] u14)), P, E, N) (sgX g ++ dy) := by
                rw [← ag_hvE (J := (hv I [] [(6, 5), (6, 6), (6, 7)] u5)) (R := []) (F := [(6, 5), (6, 6), (6, 7)]) (ag_hv rfl rfl (ag_hv rfl rfl ag_rf))]
                exact hW
              refine ih r11 m5 x17 (hv (hv (hv I [] [(6, 5), (6, 6), (6, 7)] u5) [] [(6, 5), (6, 6), (6, 7)] Kl8) [] [(6, 5), (6, 6), (6, 7)] u14) H locs ls ?_ ?_ hWl (lv_sub hl [0, 1, 2, 4, 5, 6] rfl)
              · show (1048577 - x17.toInt).toNat < n
                omega
              · show 0 ≤ x17.toInt
                first | omega | exact hi | assumption
    -- into the loop
    have hWl : WB g A s.heap H locs (J, L, (hv (hv I [] [(6, 5), (6, 6), (6, 7)] u5) [] [(6, 5), (6, 6), (6, 7)] (hv I [] [(6, 5), (6, 6), (6, 7)] u5)), P, E, N) (sgX g ++ dy) := by
      rw [← ag_hvE (J := (hv I [] [(6, 5), (6, 6), (6, 7)] u5)) (R := []) (F := [(6, 5), (6, 6), (6, 7)]) ag_rf]
      exact hW
    refine loop36 ((1048577 - (0 : Int32).toInt).toNat + 1) 20 (-9) 0 (hv I [] [(6, 5), (6, 6), (6, 7)] u5) H locs ls ?_ ?_ hWl (lv_sub hl [0, 1, 2, 3, 4, 5] rfl)
    · exact Nat.lt_succ_self _
    · show 0 ≤ (0 : Int32).toInt
      try rw [kp20]
      try rw [kn9]
      try rw [kp0]
      first | omega | exact hi | assumption

set_option maxHeartbeats 4000000 in
set_option maxRecDepth 100000 in
theorem c_X11_minuteOf (l : Launch) (g : gG) (J : Nat → Nat → Int32) (L : Nat → Nat → Int64) (I : Nat → Nat → Nat → Int32) (P : Nat → Nat → Nat → Option Nat) (E : Nat → Option Nat) (N : Nat → Nat) (dy : List (Nat × Nat)) (sz : Nat) (a0 : Int32) (a1 : Int32) (hwf : WXF g J P E N dy) : Met l yX11_minuteOf (WS yX11_minuteOf cX11_minuteOf 4 (some .int)) (RM (6) 0 0) (PC g [.ref (g.2.2.1 12), .int a0, .int a1] ((J, L, I, P, E, N), sgX g ++ dy) sz) (va_Qi (fun (r : Int32) (u : (Nat → Nat → Int32) × (Nat → Nat → Nat → Int32)) => True) (fun u t => at_ g (FR g ((J, L, I, P, E, N), sgX g ++ dy) sz) (((hv J [42] [(4, 6), (4, 7)] u.1), L, (hv I [] [(6, 6), (6, 7)] u.2), P, E, N), sgX g ++ dy) t) (FR g ((J, L, I, P, E, N), sgX g ++ dy) sz)) 0 0 (FR g ((J, L, I, P, E, N), sgX g ++ dy) sz) := by
  refine ent (by decide +kernel) (Nat.le_of_ble_eq_true rfl) ?_
  intro p e s m below meth c ls hsz C hW hr hlocks hname hl
  generalize FR g ((J, L, I, P, E, N), sgX g ++ dy) sz = A at C hW ⊢
  have hx := C.1.1
  have hb := C.1.2.1
  have hts := C.1.2.2.2.2
  have hl : lv_has ls 4 [(0, .ref (g.2.2.1 12)), (1, .int a0), (2, .int a1)] := hl
  obtain ⟨H, hH⟩ : ∃ H : Heap, H = s.heap := ⟨_, rfl⟩
  obtain ⟨locs, hlocs⟩ : ∃ q : List Loc, q = [] := ⟨_, rfl⟩
  have hW : WB g A s.heap H locs (J, L, I, P, E, N) (sgX g ++ dy) := by rw [hH, hlocs]; exact hW
  refine start_ hH hlocs ?_
  refine lv_aload_n hx hb dX11_minuteOf_0 rfl (lv_at hl 0 rfl) ?_
  refine rg_12_1 C hW (mx_ rfl) tw_365 dX11_minuteOf_1 ?_
  refine lv_iload_n hx hb dX11_minuteOf_4 rfl (lv_at hl 1 rfl) ?_
  refine cq_ C hW (runV (x := (g.2.2.1 3)) (As := [.int a0]) (rest := []) (T := ((J, L, I, P, E, N), sgX g ++ dy)) C hW (c_X2_spanOf l g J L I P E N dy H.size a0 hwf) mi_X2_spanOf tw_639 (recv_ (T := ((J, L, I, P, E, N), sgX g ++ dy)) C hW (mx_ rfl) rfl rfl) ⟨rfl, rfl, Nat.le_of_ble_eq_true rfl, Nat.le_of_ble_eq_true rfl⟩ rfl hl.1 rfl (Nat.le_of_ble_eq_true rfl) dX11_minuteOf_5 ⟨Nat.le_of_ble_eq_true rfl, Nat.le_of_ble_eq_true rfl⟩) (fun q1 u1 H locs hp1 hW => ?_)
  have hq1 : (q1 = none ∨ (∃ o9 : Nat, q1 = some o9 ∧ (9, o9) ∈ dy)) := hp1
  clear hp1
  have hW : WB g A s.heap H locs (J, L, I, P, E, N) (sgX g ++ dy) := hW
  rcases hq1 with ho1 | ⟨o1, ho1, hm1⟩ <;> subst ho1
  · refine lv_asv (v' := .null) rfl ?_
    refine lv_astore_nN (lv' := [(3, .null), (0, .ref (g.2.2.1 12)), (1, .int a0), (2, .int a1)]) hx hb dX11_minuteOf_8 rfl hl (by decide) rfl (fun ls hl => ?_)
    refine lv_aload_nN hx hb dX11_minuteOf_9 rfl (lv_at hl 0 rfl) ?_
    refine lv_ifnonnullN hx hb dX11_minuteOf_10 ?_
    refine lv_aload_n hx hb dX11_minuteOf_13 rfl (lv_at hl 1 rfl) ?_
    refine lv_iconst (v := (-1)) hx hb dX11_minuteOf_14 (by decide) ?_
    refine ci_ C hW (runV (x := (g.2.2.1 12)) (As := [.int (-1)]) (rest := []) (T := ((J, L, I, P, E, N), sgX g ++ dy)) C hW (c_X11_refuse l g J L I P E N dy H.size (-1) hwf) mi_X11_refuse tw_411 (recv_ (T := ((J, L, I, P, E, N), sgX g ++ dy)) C hW (mx_ rfl) rfl rfl) ⟨rfl, rfl, Nat.le_of_ble_eq_true rfl, Nat.le_of_ble_eq_true rfl⟩ rfl hl.1 rfl (Nat.le_of_ble_eq_true rfl) dX11_minuteOf_15 ⟨Nat.le_of_ble_eq_true rfl, Nat.le_of_ble_eq_true rfl⟩) (fun r2 u2 H locs hp2 hW => ?_)
    have hc2 : ((r2 = (-1))) := hp2
    clear hp2
    have hr2 : r2.toInt = (-1) := by rw [hc2]; exact kn1
    have hW : WB g A s.heap H locs ((hv J [42] [] u2), L, I, P, E, N) (sgX g ++ dy) := hW
    have hWr : WB g A s.heap H locs ((hv J [42] [(4, 6), (4, 7)] (hv J [42] [] u2)), L, (hv I [] [(6, 6), (6, 7)] I), P, E, N) (sgX g ++ dy) := by
      rw [← ag_hvE (J := J) (R := [42]) (F := [(4, 6), (4, 7)]) (ag_hv rfl rfl ag_rf)]
      rw [← ag_hvE (J := I) (R := []) (F := [(6, 6), (6, 7)]) ag_rf]
      exact hW
    exact end_i C hr hlocks ((hv J [42] [] u2), I) hWr trivial dX11_minuteOf_18
  · refine lv_asv (v' := .ref o1) rfl ?_
    refine lv_astore_n (lv' := [(3, .ref o1), (0, .ref (g.2.2.1 12)), (1, .int a0), (2, .int a1)]) hx hb dX11_minuteOf_8 rfl hl (by decide) rfl (fun ls hl => ?_)
    refine lv_aload_n hx hb dX11_minuteOf_9 rfl (lv_at hl 0 rfl) ?_
    refine lv_ifnonnull (tgt := 19) hx hb dX11_minuteOf_10 (by decide) ?_
    refine lv_iload_n hx hb dX11_minuteOf_19 rfl (lv_at hl 3 rfl) ?_
    rcases Int.lt_or_le a1.toInt 0 with c3 | c3
    · refine lv_tableOut (tgt := 123) hx hb dX11_minuteOf_20 (Or.inl c3) (by decide) ?_
      refine lv_aload_n hx hb dX11_minuteOf_123 rfl (lv_at hl 1 rfl) ?_
      refine lv_bipush (v := (-2)) hx hb dX11_minuteOf_124 (by decide) ?_
      refine ci_ C hW (runV (x := (g.2.2.1 12)) (As := [.int (-2)]) (rest := []) (T := ((J, L, I, P, E, N), sgX g ++ dy)) C hW (c_X11_refuse l g J L I P E N dy H.size (-2) hwf) mi_X11_refuse tw_411 (recv_ (T := ((J, L, I, P, E, N), sgX g ++ dy)) C hW (mx_ rfl) rfl rfl) ⟨rfl, rfl, Nat.le_of_ble_eq_true rfl, Nat.le_of_ble_eq_true rfl⟩ rfl hl.1 rfl (Nat.le_of_ble_eq_true rfl) dX11_minuteOf_126 ⟨Nat.le_of_ble_eq_true rfl, Nat.le_of_ble_eq_true rfl⟩) (fun r4 u4 H locs hp4 hW => ?_)
      have hc4 : ((r4 = (-2))) := hp4
      clear hp4
      have hr4 : r4.toInt = (-2) := by rw [hc4]; exact kn2
      have hW : WB g A s.heap H locs ((hv J [42] [] u4), L, I, P, E, N) (sgX g ++ dy) := hW
      have hWr : WB g A s.heap H locs ((hv J [42] [(4, 6), (4, 7)] (hv J [42] [] u4)), L, (hv I [] [(6, 6), (6, 7)] I), P, E, N) (sgX g ++ dy) := by
        rw [← ag_hvE (J := J) (R := [42]) (F := [(4, 6), (4, 7)]) (ag_hv rfl rfl ag_rf)]
        rw [← ag_hvE (J := I) (R := []) (F := [(6, 6), (6, 7)]) ag_rf]
        exact hW
      exact end_i C hr hlocks ((hv J [42] [] u4), I) hWr trivial dX11_minuteOf_129
    · rcases Int.lt_or_le 6 a1.toInt with c3b | c3b
      · refine lv_tableOut (tgt := 123) hx hb dX11_minuteOf_20 (Or.inr c3b) (by decide) ?_
        refine lv_aload_n hx hb dX11_minuteOf_123 rfl (lv_at hl 1 rfl) ?_
        refine lv_bipush (v := (-2)) hx hb dX11_minuteOf_124 (by decide) ?_
        refine ci_ C hW (runV (x := (g.2.2.1 12)) (As := [.int (-2)]) (rest := []) (T := ((J, L, I, P, E, N), sgX g ++ dy)) C hW (c_X11_refuse l g J L I P E N dy H.size (-2) hwf) mi_X11_refuse tw_411 (recv_ (T := ((J, L, I, P, E, N), sgX g ++ dy)) C hW (mx_ rfl) rfl rfl) ⟨rfl, rfl, Nat.le_of_ble_eq_true rfl, Nat.le_of_ble_eq_true rfl⟩ rfl hl.1 rfl (Nat.le_of_ble_eq_true rfl) dX11_minuteOf_126 ⟨Nat.le_of_ble_eq_true rfl, Nat.le_of_ble_eq_true rfl⟩) (fun r5 u5 H locs hp5 hW => ?_)
        have hc5 : ((r5 = (-2))) := hp5
        clear hp5
        have hr5 : r5.toInt = (-2) := by rw [hc5]; exact kn2
        have hW : WB g A s.heap H locs ((hv J [42] [] u5), L, I, P, E, N) (sgX g ++ dy) := hW
        have hWr : WB g A s.heap H locs ((hv J [42] [(4, 6), (4, 7)] (hv J [42] [] u5)), L, (hv I [] [(6, 6), (6, 7)] I), P, E, N) (sgX g ++ dy) := by
          rw [← ag_hvE (J := J) (R := [42]) (F := [(4, 6), (4, 7)]) (ag_hv rfl rfl ag_rf)]
          rw [← ag_hvE (J := I) (R := []) (F := [(6, 6), (6, 7)]) ag_rf]
          exact hW
        exact end_i C hr hlocks ((hv J [42] [] u5), I) hWr trivial dX11_minuteOf_129
      · rcases (show a1.toInt = 0 ∨ a1.toInt = 1 ∨ a1.toInt = 2 ∨ a1.toInt = 3 ∨ a1.toInt = 4 ∨ a1.toInt = 5 ∨ a1.toInt = 6 by omega) with c3k | c3k | c3k | c3k | c3k | c3k | c3k
        · refine lv_tableIn (off := 44) (tgt := 64) hx hb dX11_minuteOf_20 (Int.not_lt.mpr c3) (Int.not_lt.mpr c3b) (by rw [c3k]; rfl) (by decide) ?_
          refine lv_aload_n hx hb dX11_minuteOf_64 rfl (lv_at hl 0 rfl) ?_
          refine rg_9_2 C hW (List.mem_append_right _ hm1) tw_429 dX11_minuteOf_65 ?_
          refine lv_topi (fun x6 (e6 : x6 = I 9 2 o1) => ?_)
          have t6 : x6.toInt = (I 9 2 o1).toInt := by rw [e6]
          have hWr : WB g A s.heap H locs ((hv J [42] [(4, 6), (4, 7)] J), L, (hv I [] [(6, 6), (6, 7)] I), P, E, N) (sgX g ++ dy) := by
            rw [← ag_hvE (J := J) (R := [42]) (F := [(4, 6), (4, 7)]) ag_rf]
            rw [← ag_hvE (J := I) (R := []) (F := [(6, 6), (6, 7)]) ag_rf]
            exact hW
          exact end_i C hr hlocks (J, I) hWr trivial dX11_minuteOf_68
        · refine lv_tableIn (off := 49) (tgt := 69) hx hb dX11_minuteOf_20 (Int.not_lt.mpr c3) (Int.not_lt.mpr c3b) (by rw [c3k]; rfl) (by decide) ?_
          refine lv_aload_n hx hb dX11_minuteOf_69 rfl (lv_at hl 0 rfl) ?_
          refine rg_9_4 C hW (List.mem_append_right _ hm1) tw_434 dX11_minuteOf_70 ?_
          refine lv_topi (fun x7 (e7 : x7 = I 9 4 o1) => ?_)
          have t7 : x7.toInt = (I 9 4 o1).toInt := by rw [e7]
          have hWr : WB g A s.heap H locs ((hv J [42] [(4, 6), (4, 7)] J), L, (hv I [] [(6, 6), (6, 7)] I), P, E, N) (sgX g ++ dy) := by
            rw [← ag_hvE (J := J) (R := [42]) (F := [(4, 6), (4, 7)]) ag_rf]
            rw [← ag_hvE (J := I) (R := []) (F := [(6, 6), (6, 7)]) ag_rf]
            exact hW
          exact end_i C hr hlocks (J, I) hWr trivial dX11_minuteOf_73
        · refine lv_tableIn (off := 54) (tgt := 74) hx hb dX11_minuteOf_20 (Int.not_lt.mpr c3) (Int.not_lt.mpr c3b) (by rw [c3k]; rfl) (by decide) ?_
          refine lv_aload_n hx hb dX11_minuteOf_74 rfl (lv_at hl 0 rfl) ?_
          refine rg_9_5 C hW (List.mem_append_right _ hm1) tw_436 dX11_minuteOf_75 ?_
          refine lv_topi (fun x8 (e8 : x8 = I 9 5 o1) => ?_)
          have t8 : x8.toInt = (I 9 5 o1).toInt := by rw [e8]
          have hWr : WB g A s.heap H locs ((hv J [42] [(4, 6), (4, 7)] J), L, (hv I [] [(6, 6), (6, 7)] I), P, E, N) (sgX g ++ dy) := by
            rw [← ag_hvE (J := J) (R := [42]) (F := [(4, 6), (4, 7)]) ag_rf]
            rw [← ag_hvE (J := I) (R := []) (F := [(6, 6), (6, 7)]) ag_rf]
            exact hW
          exact end_i C hr hlocks (J, I) hWr trivial dX11_minuteOf_78
        · refine lv_tableIn (off := 59) (tgt := 79) hx hb dX11_minuteOf_20 (Int.not_lt.mpr c3) (Int.not_lt.mpr c3b) (by rw [c3k]; rfl) (by decide) ?_
          refine lv_aload_n hx hb dX11_minuteOf_79 rfl (lv_at hl 0 rfl) ?_
          refine rg_9_6 C hW (List.mem_append_right _ hm1) tw_438 dX11_minuteOf_80 ?_
          refine lv_topi (fun x9 (e9 : x9 = I 9 6 o1) => ?_)
          have t9 : x9.toInt = (I 9 6 o1).toInt := by rw [e9]
          have hWr : WB g A s.heap H locs ((hv J [42] [(4, 6), (4, 7)] J), L, (hv I [] [(6, 6), (6, 7)] I), P, E, N) (sgX g ++ dy) := by
            rw [← ag_hvE (J := J) (R := [42]) (F := [(4, 6), (4, 7)]) ag_rf]
            rw [← ag_hvE (J := I) (R := []) (F := [(6, 6), (6, 7)]) ag_rf]
            exact hW
          exact end_i C hr hlocks (J, I) hWr trivial dX11_minuteOf_83
        · refine lv_tableIn (off := 64) (tgt := 84) hx hb dX11_minuteOf_20 (Int.not_lt.mpr c3) (Int.not_lt.mpr c3b) (by rw [c3k]; rfl) (by decide) ?_
          refine lv_aload_n hx hb dX11_minuteOf_84 rfl (lv_at hl 1 rfl) ?_
          refine rg_12_0 C hW (mx_ rfl) tw_364 dX11_minuteOf_85 ?_
          refine lv_aload_n hx hb dX11_minuteOf_88 rfl (lv_at hl 0 rfl) ?_
          refine lv_iload_n hx hb dX11_minuteOf_89 rfl (lv_at hl 2 rfl) ?_
          refine cv_ C hW (runV (x := (g.2.2.1 4)) (As := [.ref o1, .int a0]) (rest := []) (T := ((J, L, I, P, E, N), sgX g ++ dy)) C hW (c_X3_tally l g J L I P E N dy H.size o1 hm1 a0 hwf) mi_X3_tally tw_712 (recv_ (T := ((J, L, I, P, E, N), sgX g ++ dy)) C hW (mx_ rfl) rfl rfl) ⟨rfl, rfl, Nat.le_of_ble_eq_true rfl, Nat.le_of_ble_eq_true rfl⟩ rfl hl.1 rfl (Nat.le_of_ble_eq_true rfl) dX11_minuteOf_90 ⟨Nat.le_of_ble_eq_true rfl, Nat.le_of_ble_eq_true rfl⟩) (fun u10 H locs hp10 hW => ?_)
          have hW : WB g A s.heap H locs ((hv J [] [(4, 6), (4, 7)] u10.1), L, (hv I [] [(6, 6), (6, 7)] u10.2), P, E, N) (sgX g ++ dy) := hW
          refine lv_aload_n hx hb dX11_minuteOf_93 rfl (lv_at hl 1 rfl) ?_
          refine rg_12_0 C hW (mx_ rfl) tw_364 dX11_minuteOf_94 ?_
          refine rg_4_6 C hW (mx_ rfl) tw_245 dX11_minuteOf_97 ?_
          refine lv_topi (fun x11 (e11 : x11 = u10.1 4 6) => ?_)
          have t11 : x11.toInt = (u10.1 4 6).toInt := by rw [e11]
          have hWr : WB g A s.heap H locs ((hv J [42] [(4, 6), (4, 7)] (hv J [] [(4, 6), (4, 7)] u10.1)), L, (hv I [] [(6, 6), (6, 7)] (hv I [] [(6, 6), (6, 7)] u10.2)), P, E, N) (sgX g ++ dy) := by
            rw [← ag_hvE (J := J) (R := [42]) (F := [(4, 6), (4, 7)]) (ag_hv rfl rfl ag_rf)]
            rw [← ag_hvE (J := I) (R := []) (F := [(6, 6), (6, 7)]) (ag_hv rfl rfl ag_rf)]
            exact hW
          exact end_i C hr hlocks ((hv J [] [(4, 6), (4, 7)] u10.1), (hv I [] [(6, 6), (6, 7)] u10.2)) hWr trivial dX11_minuteOf_100
        · refine lv_tableIn (off := 81) (tgt := 101) hx hb dX11_minuteOf_20 (Int.not_lt.mpr c3) (Int.not_lt.mpr c3b) (by rw [c3k]; rfl) (by decide) ?_
          refine lv_aload_n hx hb dX11_minuteOf_101 rfl (lv_at hl 1 rfl) ?_
          refine rg_12_0 C hW (mx_ rfl) tw_364 dX11_minuteOf_102 ?_
          refine lv_aload_n hx hb dX11_minuteOf_105 rfl (lv_at hl 0 rfl) ?_
          refine lv_iload_n hx hb dX11_minuteOf_106 rfl (lv_at hl 2 rfl) ?_
          refine cv_ C hW (runV (x := (g.2.2.1 4)) (As := [.ref o1, .int a0]) (rest := []) (T := ((J, L, I, P, E, N), sgX g ++ dy)) C hW (c_X3_tally l g J L I P E N dy H.size o1 hm1 a0 hwf) mi_X3_tally tw_712 (recv_ (T := ((J, L, I, P, E, N), sgX g ++ dy)) C hW (mx_ rfl) rfl rfl) ⟨rfl, rfl, Nat.le_of_ble_eq_true rfl, Nat.le_of_ble_eq_true rfl⟩ rfl hl.1 rfl (Nat.le_of_ble_eq_true rfl) dX11_minuteOf_107 ⟨Nat.le_of_ble_eq_true rfl, Nat.le_of_ble_eq_true rfl⟩) (fun u12 H locs hp12 hW => ?_)
          have hW : WB g A s.heap H locs ((hv J [] [(4, 6), (4, 7)] u12.1), L, (hv I [] [(6, 6), (6, 7)] u12.2), P, E, N) (sgX g ++ dy) := hW
          refine lv_aload_n hx hb dX11_minuteOf_110 rfl (lv_at hl 1 rfl) ?_
          refine rg_12_0 C hW (mx_ rfl) tw_364 dX11_minuteOf_111 ?_
          refine rg_4_7 C hW (mx_ rfl) tw_247 dX11_minuteOf_114 ?_
          refine lv_topi (fun x13 (e13 : x13 = u12.1 4 7) => ?_)
          have t13 : x13.toInt = (u12.1 4 7).toInt := by rw [e13]
          have hWr : WB g A s.heap H locs ((hv J [42] [(4, 6), (4, 7)] (hv J [] [(4, 6), (4, 7)] u12.1)), L, (hv I [] [(6, 6), (6, 7)] (hv I [] [(6, 6), (6, 7)] u12.2)), P, E, N) (sgX g ++ dy) := by
            rw [← ag_hvE (J := J) (R := [42]) (F := [(4, 6), (4, 7)]) (ag_hv rfl rfl ag_rf)]
            rw [← ag_hvE (J := I) (R := []) (F := [(6, 6), (6, 7)]) (ag_hv rfl rfl ag_rf)]
            exact hW
          exact end_i C hr hlocks ((hv J [] [(4, 6), (4, 7)] u12.1), (hv I [] [(6, 6), (6, 7)] u12.2)) hWr trivial dX11_minuteOf_117
        · refine lv_tableIn (off := 98) (tgt := 118) hx hb dX11_minuteOf_20 (Int.not_lt.mpr c3) (Int.not_lt.mpr c3b) (by rw [c3k]; rfl) (by decide) ?_
          refine lv_aload_n hx hb dX11_minuteOf_118 rfl (lv_at hl 0 rfl) ?_
          refine rg_9_3 C hW (List.mem_append_right _ hm1) tw_432 dX11_minuteOf_119 ?_
          refine lv_topi (fun x14 (e14 : x14 = I 9 3 o1) => ?_)
          have t14 : x14.toInt = (I 9 3 o1).toInt := by rw [e14]
          have hWr : WB g A s.heap H locs ((hv J [42] [(4, 6), (4, 7)] J), L, (hv I [] [(6, 6), (6, 7)] I), P, E, N) (sgX g ++ dy) := by
            rw [← ag_hvE (J := J) (R := [42]) (F := [(4, 6), (4, 7)]) ag_rf]
            rw [← ag_hvE (J := I) (R := []) (F := [(6, 6), (6, 7)]) ag_rf]
            exact hW
          exact end_i C hr hlocks (J, I) hWr trivial dX11_minuteOf_122

set_option maxHeartbeats 4000000 in
set_option maxRecDepth 100000 in
theorem c_X11_heard (l : Launch) (g : gG) (J : Nat → Nat → Int32) (L : Nat → Nat → Int64) (I : Nat → Nat → Nat → Int32) (P : Nat → Nat → Nat → Option Nat) (E : Nat → Option Nat) (N : Nat → Nat) (dy : List (Nat × Nat)) (sz : Nat) (a0 : Int32) (a1 : Int32) (hwf : WXF g J P E N dy) : Met l yX11_heard (WS yX11_heard cX11_heard 5 (some .int)) (RM (5) 0 0) (PC g [.ref (g.2.2.1 12), .int a0, .int a1] ((J, L, I, P, E, N), sgX g ++ dy) sz) (va_Qi (fun (r : Int32) (u : (Nat → Nat → Int32) × (Nat → Nat → Nat → Int32)) => True) (fun u t => at_ g (FR g ((J, L, I, P, E, N), sgX g ++ dy) sz) (((hv J [42] [] u.1), L, (hv I [] [(6, 6), (6, 7)] u.2), P, E, N), sgX g ++ dy) t) (FR g ((J, L, I, P, E, N), sgX g ++ dy) sz)) 0 0 (FR g ((J, L, I, P, E, N), sgX g ++ dy) sz) := by
  refine ent (by decide +kernel) (Nat.le_of_ble_eq_true rfl) ?_
  intro p e s m below meth c ls hsz C hW hr hlocks hname hl
  generalize FR g ((J, L, I, P, E, N), sgX g ++ dy) sz = A at C hW ⊢
  have hx := C.1.1
  have hb := C.1.2.1
  have hts := C.1.2.2.2.2
  have hl : lv_has ls 5 [(0, .ref (g.2.2.1 12)), (1, .int a0), (2, .int a1)] := hl
  obtain ⟨H, hH⟩ : ∃ H : Heap, H = s.heap := ⟨_, rfl⟩
  obtain ⟨locs, hlocs⟩ : ∃ q : List Loc, q = [] := ⟨_, rfl⟩
  have hW : WB g A s.heap H locs (J, L, I, P, E, N) (sgX g ++ dy) := by rw [hH, hlocs]; exact hW
  refine start_ hH hlocs ?_
  refine lv_aload_n hx hb dX11_heard_0 rfl (lv_at hl 0 rfl) ?_
  refine rg_12_1 C hW (mx_ rfl) tw_365 dX11_heard_1 ?_
  refine lv_iload_n hx hb dX11_heard_4 rfl (lv_at hl 1 rfl) ?_
  refine cq_ C hW (runV (x := (g.2.2.1 3)) (As := [.int a0]) (rest := []) (T := ((J, L, I, P, E, N), sgX g ++ dy)) C hW (c_X2_spanOf l g J L I P E N dy H.size a0 hwf) mi_X2_spanOf tw_639 (recv_ (T := ((J, L, I, P, E, N), sgX g ++ dy)) C hW (mx_ rfl) rfl rfl) ⟨rfl, rfl, Nat.le_of_ble_eq_true rfl, Nat.le_of_ble_eq_true rfl⟩ rfl hl.1 rfl (Nat.le_of_ble_eq_true rfl) dX11_heard_5 ⟨Nat.le_of_ble_eq_true rfl, Nat.le_of_ble_eq_true rfl⟩) (fun q1 u1 H locs hp1 hW => ?_)
  have hq1 : (q1 = none ∨ (∃ o9 : Nat, q1 = some o9 ∧ (9, o9) ∈ dy)) := hp1
  clear hp1
  have hW : WB g A s.heap H locs (J, L, I, P, E, N) (sgX g ++ dy) := hW
  rcases hq1 with ho1 | ⟨o1, ho1, hm1⟩ <;> subst ho1
  · refine lv_asv (v' := .null) rfl ?_
    refine lv_astore_nN (lv' := [(3, .null), (0, .ref (g.2.2.1 12)), (1, .int a0), (2, .int a1)]) hx hb dX11_heard_8 rfl hl (by decide) rfl (fun ls hl => ?_)
    refine lv_aload_n hx hb dX11_heard_9 rfl (lv_at hl 1 rfl) ?_
    refine rg_12_0 C hW (mx_ rfl) tw_364 dX11_heard_10 ?_
    refine lv_iload_n hx hb dX11_heard_13 rfl (lv_at hl 3 rfl) ?_
    refine cq_ C hW (runV (x := (g.2.2.1 4)) (As := [.int a1]) (rest := []) (T := ((J, L, I, P, E, N), sgX g ++ dy)) C hW (c_X3_homeOf l g J L I P E N dy H.size a1 hwf) mi_X3_homeOf tw_576 (recv_ (T := ((J, L, I, P, E, N), sgX g ++ dy)) C hW (mx_ rfl) rfl rfl) ⟨rfl, rfl, Nat.le_of_ble_eq_true rfl, Nat.le_of_ble_eq_true rfl⟩ rfl hl.1 rfl (Nat.le_of_ble_eq_true rfl) dX11_heard_14 ⟨Nat.le_of_ble_eq_true rfl, Nat.le_of_ble_eq_true rfl⟩) (fun q2 u2 H locs hp2 hW => ?_)
    have hq2 : ((q2 = none ∧ (¬ (0 ≤ a1.toInt ∧ a1.toInt < (J 22 2).toInt))) ∨ (q2 = some (elt E P 22 a1.toNatClampNeg) ∧ (0 ≤ a1.toInt ∧ a1.toInt < (J 22 2).toInt))) := hp2
    clear hp2
    have hW : WB g A s.heap H locs (J, L, I, P, E, N) (sgX g ++ dy) := hW
    rcases hq2 with ⟨rfl, hn2⟩ | ⟨rfl, hs2⟩
    · refine lv_asv (v' := .null) rfl ?_
      refine lv_astoreN (lv' := [(4, .null), (3, .null), (0, .ref (g.2.2.1 12)), (1, .int a0), (2, .int a1)]) hx hb dX11_heard_17 hl (by decide) rfl (fun ls hl => ?_)
      refine lv_aload_nN hx hb dX11_heard_19 rfl (lv_at hl 1 rfl) ?_
      refine lv_ifnullN (tgt := 28) hx hb dX11_heard_20 (by decide) ?_
      refine lv_aload_n hx hb dX11_heard_28 rfl (lv_at hl 2 rfl) ?_
      refine lv_iconst (v := (-1)) hx hb dX11_heard_29 (by decide) ?_
      refine ci_ C hW (runV (x := (g.2.2.1 12)) (As := [.int (-1)]) (rest := []) (T := ((J, L, I, P, E, N), sgX g ++ dy)) C hW (c_X11_refuse l g J L I P E N dy H.size (-1) hwf) mi_X11_refuse tw_411 (recv_ (T := ((J, L, I, P, E, N), sgX g ++ dy)) C hW (mx_ rfl) rfl rfl) ⟨rfl, rfl, Nat.le_of_ble_eq_true rfl, Nat.le_of_ble_eq_true rfl⟩ rfl hl.1 rfl (Nat.le_of_ble_eq_true rfl) dX11_heard_30 ⟨Nat.le_of_ble_eq_true rfl, Nat.le_of_ble_eq_true rfl⟩) (fun r3 u3 H locs hp3 hW => ?_)
      have hc3 : ((r3 = (-1))) := hp3
      clear hp3
      have hr3 : r3.toInt = (-1) := by rw [hc3]; exact kn1
      have hW : WB g A s.heap H locs ((hv J [42] [] u3), L, I, P, E, N) (sgX g ++ dy) := hW
      have hWr : WB g A s.heap H locs ((hv J [42] [] (hv J [42] [] u3)), L, (hv I [] [(6, 6), (6, 7)] I), P, E, N) (sgX g ++ dy) := by
        rw [← ag_hvE (J := J) (R := [42]) (F := []) (ag_hv rfl rfl ag_rf)]
        rw [← ag_hvE (J := I) (R := []) (F := [(6, 6), (6, 7)]) ag_rf]
        exact hW
      exact end_i C hr hlocks ((hv J [42] [] u3), I) hWr trivial dX11_heard_33
    · skip
      obtain ⟨o2, ho2⟩ : ∃ z : Nat, z = elt E P 22 a1.toNatClampNeg := ⟨_, rfl⟩
      have hm2 : (2, o2) ∈ dy := by rw [ho2]; exact (lw_mem (er := 2) hwf.1.2.2.1 (show (a1.toNatClampNeg : Int) < (J 22 2).toInt from by have := tcl a1; omega))
      refine lv_asv (v' := .ref o2) (by rw [ho2]; rfl) ?_
      refine lv_astore (lv' := [(4, .ref o2), (3, .null), (0, .ref (g.2.2.1 12)), (1, .int a0), (2, .int a1)]) hx hb dX11_heard_17 hl (by decide) rfl (fun ls hl => ?_)
      refine lv_aload_nN hx hb dX11_heard_19 rfl (lv_at hl 1 rfl) ?_
      refine lv_ifnullN (tgt := 28) hx hb dX11_heard_20 (by decide) ?_
      refine lv_aload_n hx hb dX11_heard_28 rfl (lv_at hl 2 rfl) ?_
      refine lv_iconst (v := (-1)) hx hb dX11_heard_29 (by decide) ?_
      refine ci_ C hW (runV (x := (g.2.2.1 12)) (As := [.int (-1)]) (rest := []) (T := ((J, L, I, P, E, N), sgX g ++ dy)) C hW (c_X11_refuse l g J L I P E N dy H.size (-1) hwf) mi_X11_refuse tw_411 (recv_ (T := ((J, L, I, P, E, N), sgX g ++ dy)) C hW (mx_ rfl) rfl rfl) ⟨rfl, rfl, Nat.le_of_ble_eq_true rfl, Nat.le_of_ble_eq_true rfl⟩ rfl hl.1 rfl (Nat.le_of_ble_eq_true rfl) dX11_heard_30 ⟨Nat.le_of_ble_eq_true rfl, Nat.le_of_ble_eq_true rfl⟩) (fun r4 u4 H locs hp4 hW => ?_)
      have hc4 : ((r4 = (-1))) := hp4
      clear hp4
      have hr4 : r4.toInt = (-1) := by rw [hc4]; exact kn1
      have hW : WB g A s.heap H locs ((hv J [42] [] u4), L, I, P, E, N) (sgX g ++ dy) := hW
      have hWr : WB g A s.heap H locs ((hv J [42] [] (hv J [42] [] u4)), L, (hv I [] [(6, 6), (6, 7)] I), P, E, N) (sgX g ++ dy) := by
        rw [← ag_hvE (J := J) (R := [42]) (F := []) (ag_hv rfl rfl ag_rf)]
        rw [← ag_hvE (J := I) (R := []) (F := [(6, 6), (6, 7)]) ag_rf]
        exact hW
      exact end_i C hr hlocks ((hv J [42] [] u4), I) hWr trivial dX11_heard_33
  · refine lv_asv (v' := .ref o1) rfl ?_
    refine lv_astore_n (lv' := [(3, .ref o1), (0, .ref (g.2.2.1 12)), (1, .int a0), (2, .int a1)]) hx hb dX11_heard_8 rfl hl (by decide) rfl (fun ls hl => ?_)
    refine lv_aload_n hx hb dX11_heard_9 rfl (lv_at hl 1 rfl) ?_
    refine rg_12_0 C hW (mx_ rfl) tw_364 dX11_heard_10 ?_
    refine lv_iload_n hx hb dX11_heard_13 rfl (lv_at hl 3 rfl) ?_
    refine cq_ C hW (runV (x := (g.2.2.1 4)) (As := [.int a1]) (rest := []) (T := ((J, L, I, P, E, N), sgX g ++ dy)) C hW (c_X3_homeOf l g J L I P E N dy H.size a1 hwf) mi_X3_homeOf tw_576 (recv_ (T := ((J, L, I, P, E, N), sgX g ++ dy)) C hW (mx_ rfl) rfl rfl) ⟨rfl, rfl, Nat.le_of_ble_eq_true rfl, Nat.le_of_ble_eq_true rfl⟩ rfl hl.1 rfl (Nat.le_of_ble_eq_true rfl) dX11_heard_14 ⟨Nat.le_of_ble_eq_true rfl, Nat.le_of_ble_eq_true rfl⟩) (fun q5 u5 H locs hp5 hW => ?_)
    have hq5 : ((q5 = none ∧ (¬ (0 ≤ a1.toInt ∧ a1.toInt < (J 22 2).toInt))) ∨ (q5 = some (elt E P 22 a1.toNatClampNeg) ∧ (0 ≤ a1.toInt ∧ a1.toInt < (J 22 2).toInt))) := hp5
    clear hp5
    have hW : WB g A s.heap H locs (J, L, I, P, E, N) (sgX g ++ dy) := hW
    rcases hq5 with ⟨rfl, hn5⟩ | ⟨rfl, hs5⟩
    · refine lv_asv (v' := .null) rfl ?_
      refine lv_astoreN (lv' := [(4, .null), (3, .ref o1), (0, .ref (g.2.2.1 12)), (1, .int a0), (2, .int a1)]) hx hb dX11_heard_17 hl (by decide) rfl (fun ls hl => ?_)
      refine lv_aload_n hx hb dX11_heard_19 rfl (lv_at hl 1 rfl) ?_
      refine lv_ifnull hx hb dX11_heard_20 ?_
      refine lv_aloadN hx hb dX11_heard_23 (lv_at hl 0 rfl) ?_
      refine lv_ifnonnullN hx hb dX11_heard_25 ?_
      refine lv_aload_n hx hb dX11_heard_28 rfl (lv_at hl 2 rfl) ?_
      refine lv_iconst (v := (-1)) hx hb dX11_heard_29 (by decide) ?_
      refine ci_ C hW (runV (x := (g.2.2.1 12)) (As := [.int (-1)]) (rest := []) (T := ((J, L, I, P, E, N), sgX g ++ dy)) C hW (c_X11_refuse l g J L I P E N dy H.size (-1) hwf) mi_X11_refuse tw_411 (recv_ (T := ((J, L, I, P, E, N), sgX g ++ dy)) C hW (mx_ rfl) rfl rfl) ⟨rfl, rfl, Nat.le_of_ble_eq_true rfl, Nat.le_of_ble_eq_true rfl⟩ rfl hl.1 rfl (Nat.le_of_ble_eq_true rfl) dX11_heard_30 ⟨Nat.le_of_ble_eq_true rfl, Nat.le_of_ble_eq_true rfl⟩) (fun r6 u6 H locs hp6 hW => ?_)
      have hc6 : ((r6 = (-1))) := hp6
      clear hp6
      have hr6 : r6.toInt = (-1) := by rw [hc6]; exact kn1
      have hW : WB g A s.heap H locs ((hv J [42] [] u6), L, I, P, E, N) (sgX g ++ dy) := hW
      have hWr : WB g A s.heap H locs ((hv J [42] [] (hv J [42] [] u6)), L, (hv I [] [(6, 6), (6, 7)] I), P, E, N) (sgX g ++ dy) := by
        rw [← ag_hvE (J := J) (R := [42]) (F := []) (ag_hv rfl rfl ag_rf)]
        rw [← ag_hvE (J := I) (R := []) (F := [(6, 6), (6, 7)]) ag_rf]
        exact hW
      exact end_i C hr hlocks ((hv J [42] [] u6), I) hWr trivial dX11_heard_33
    · skip
      obtain ⟨o5, ho5⟩ : ∃ z : Nat, z = elt E P 22 a1.toNatClampNeg := ⟨_, rfl⟩
      have hm5 : (2, o5) ∈ dy := by rw [ho5]; exact (lw_mem (er := 2) hwf.1.2.2.1 (show (a1.toNatClampNeg : Int) < (J 22 2).toInt from by have := tcl a1; omega))
      refine lv_asv (v' := .ref o5) (by rw [ho5]; rfl) ?_
      refine lv_astore (lv' := [(4, .ref o5), (3, .ref o1), (0, .ref (g.2.2.1 12)), (1, .int a0), (2, .int a1)]) hx hb dX11_heard_17 hl (by decide) rfl (fun ls hl => ?_)
      refine lv_aload_n hx hb dX11_heard_19 rfl (lv_at hl 1 rfl) ?_
      refine lv_ifnull hx hb dX11_heard_20 ?_
      refine lv_aload hx hb dX11_heard_23 (lv_at hl 0 rfl) ?_
      refine lv_ifnonnull (tgt := 34) hx hb dX11_heard_25 (by decide) ?_
      refine lv_aload_n hx hb dX11_heard_34 rfl (lv_at hl 2 rfl) ?_
      refine rg_12_0 C hW (mx_ rfl) tw_364 dX11_heard_35 ?_
      refine lv_aload_n hx hb dX11_heard_38 rfl (lv_at hl 1 rfl) ?_
      refine rg_9_5 C hW (List.mem_append_right _ hm1) tw_436 dX11_heard_39 ?_
      refine lv_topi (fun x7 (e7 : x7 = I 9 5 o1) => ?_)
      have t7 : x7.toInt = (I 9 5 o1).toInt := by rw [e7]
      refine lv_aload_n hx hb dX11_heard_42 rfl (lv_at hl 1 rfl) ?_
      refine rg_9_3 C hW (List.mem_append_right _ hm1) tw_432 dX11_heard_43 ?_
      refine lv_topi (fun x8 (e8 : x8 = I 9 3 o1) => ?_)
      have t8 : x8.toInt = (I 9 3 o1).toInt := by rw [e8]
      refine lv_iload_n hx hb dX11_heard_46 rfl (lv_at hl 3 rfl) ?_
      refine cv_ C hW (runV (x := (g.2.2.1 4)) (As := [.int x7, .int x8, .int a0]) (rest := []) (T := ((J, L, I, P, E, N), sgX g ++ dy)) C hW (c_X3_carry l g J L I P E N dy H.size x7 x8 a0 hwf) mi_X3_carry tw_527 (recv_ (T := ((J, L, I, P, E, N), sgX g ++ dy)) C hW (mx_ rfl) rfl rfl) ⟨rfl, rfl, Nat.le_of_ble_eq_true rfl, Nat.le_of_ble_eq_true rfl⟩ rfl hl.1 rfl (Nat.le_of_ble_eq_true rfl) dX11_heard_47 ⟨Nat.le_of_ble_eq_true rfl, Nat.le_of_ble_eq_true rfl⟩) (fun u9 H locs hp9 hW => ?_)
      have hW : WB g A s.heap H locs (J, L, (hv I [] [(6, 6), (6, 7)] u9), P, E, N) (sgX g ++ dy) := hW
      refine lv_aload_n hx hb dX11_heard_50 rfl (lv_at hl 2 rfl) ?_
      refine rg_12_0 C hW (mx_ rfl) tw_364 dX11_heard_51 ?_
      refine lv_aload hx hb dX11_heard_54 (lv_at hl 0 rfl) ?_
      refine lv_aload_n hx hb dX11_heard_56 rfl (lv_at hl 1 rfl) ?_
      refine lv_iload_n hx hb dX11_heard_57 rfl (lv_at hl 3 rfl) ?_
      refine ci_ C hW (runV (x := (g.2.2.1 4)) (As := [.ref o5, .ref o1, .int a0]) (rest := []) (T := ((J, L, (hv I [] [(6, 6), (6, 7)] u9), P, E, N), sgX g ++ dy)) C hW (c_X3_howHeard l g J L (hv I [] [(6, 6), (6, 7)] u9) P E N dy H.size o5 hm5 o1 hm1 a0 hwf) mi_X3_howHeard tw_727 (recv_ (T := ((J, L, (hv I [] [(6, 6), (6, 7)] u9), P, E, N), sgX g ++ dy)) C hW (mx_ rfl) rfl rfl) ⟨rfl, rfl, Nat.le_of_ble_eq_true rfl, Nat.le_of_ble_eq_true rfl⟩ rfl hl.1 rfl (Nat.le_of_ble_eq_true rfl) dX11_heard_58 ⟨Nat.le_of_ble_eq_true rfl, Nat.le_of_ble_eq_true rfl⟩) (fun r10 u10 H locs hp10 hW => ?_)
      have hW : WB g A s.heap H locs (J, L, (hv I [] [(6, 6), (6, 7)] u9), P, E, N) (sgX g ++ dy) := hW
      have hWr : WB g A s.heap H locs ((hv J [42] [] J), L, (hv I [] [(6, 6), (6, 7)] (hv I [] [(6, 6), (6, 7)] u9)), P, E, N) (sgX g ++ dy) := by
        rw [← ag_hvE (J := J) (R := [42]) (F := []) ag_rf]
        rw [← ag_hvE (J := I) (R := []) (F := [(6, 6), (6, 7)]) (ag_hv rfl rfl ag_rf)]
        exact hW
      exact end_i C hr hlocks (J, (hv I [] [(6, 6), (6, 7)] u9)) hWr trivial dX11_heard_61

set_option maxHeartbeats 4000000 in
set_option maxRecDepth 100000 in
theorem c_X11_loud (l : Launch) (g : gG) (J : Nat → Nat → Int32) (L : Nat → Nat → Int64) (I : Nat → Nat → Nat → Int32) (P : Nat → Nat → Nat → Option Nat) (E : Nat → Option Nat) (N : Nat → Nat) (dy : List (Nat × Nat)) (sz : Nat) (a0 : Int32) (a1 : Int32) (hwf : WXF g J P E N dy) : Met l yX11_loud (WS yX11_loud cX11_loud 5 (some .int)) (RM (5) 0 0) (PC g [.ref (g.2.2.1 12), .int a0, .int a1] ((J, L, I, P, E, N), sgX g ++ dy) sz) (va_Qi (fun (r : Int32) (u : (Nat → Nat → Int32) × (Nat → Nat → Nat → Int32)) => True) (fun u t => at_ g (FR g ((J, L, I, P, E, N), sgX g ++ dy) sz) (((hv J [42] [] u.1), L, (hv I [] [(6, 6), (6, 7)] u.2), P, E, N), sgX g ++ dy) t) (FR g ((J, L, I, P, E, N), sgX g ++ dy) sz)) 0 0 (FR g ((J, L, I, P, E, N), sgX g ++ dy) sz) := by
  refine ent (by decide +kernel) (Nat.le_of_ble_eq_true rfl) ?_
  intro p e s m below meth c ls hsz C hW hr hlocks hname hl
  generalize FR g ((J, L, I, P, E, N), sgX g ++ dy) sz = A at C hW ⊢
  have hx := C.1.1
  have hb := C.1.2.1
  have hts := C.1.2.2.2.2
  have hl : lv_has ls 5 [(0, .ref (g.2.2.1 12)), (1, .int a0), (2, .int a1)] := hl
  obtain ⟨H, hH⟩ : ∃ H : Heap, H = s.heap := ⟨_, rfl⟩
  obtain ⟨locs, hlocs⟩ : ∃ q : List Loc, q = [] := ⟨_, rfl⟩
  have hW : WB g A s.heap H locs (J, L, I, P, E, N) (sgX g ++ dy) := by rw [hH, hlocs]; exact hW
  refine start_ hH hlocs ?_
  refine lv_aload_n hx hb dX11_loud_0 rfl (lv_at hl 0 rfl) ?_
  refine rg_12_0 C hW (mx_ rfl) tw_364 dX11_loud_1 ?_
  refine lv_iload_n hx hb dX11_loud_4 rfl (lv_at hl 1 rfl) ?_
  refine cq_ C hW (runV (x := (g.2.2.1 4)) (As := [.int a0]) (rest := []) (T := ((J, L, I, P, E, N), sgX g ++ dy)) C hW (c_X3_nodeOf l g J L I P E N dy H.size a0 hwf) mi_X3_nodeOf tw_463 (recv_ (T := ((J, L, I, P, E, N), sgX g ++ dy)) C hW (mx_ rfl) rfl rfl) ⟨rfl, rfl, Nat.le_of_ble_eq_true rfl, Nat.le_of_ble_eq_true rfl⟩ rfl hl.1 rfl (Nat.le_of_ble_eq_true rfl) dX11_loud_5 ⟨Nat.le_of_ble_eq_true rfl, Nat.le_of_ble_eq_true rfl⟩) (fun q1 u1 H locs hp1 hW => ?_)
  have hq1 : ((q1 = none ∧ (¬ (0 ≤ a0.toInt ∧ a0.toInt < (J 20 2).toInt))) ∨ (q1 = some (elt E P 20 a0.toNatClampNeg) ∧ (0 ≤ a0.toInt ∧ a0.toInt < (J 20 2).toInt))) := hp1
  clear hp1
  have hW : WB g A s.heap H locs (J, L, I, P, E, N) (sgX g ++ dy) := hW
  rcases hq1 with ⟨rfl, hn1⟩ | ⟨rfl, hs1⟩
  · refine lv_asv (v' := .null) rfl ?_
    refine lv_astore_nN (lv' := [(3, .null), (0, .ref (g.2.2.1 12)), (1, .int a0), (2, .int a1)]) hx hb dX11_loud_8 rfl hl (by decide) rfl (fun ls hl => ?_)
    refine lv_aload_nN hx hb dX11_loud_9 rfl (lv_at hl 0 rfl) ?_
    refine lv_ifnonnullN hx hb dX11_loud_10 ?_
    refine lv_aload_n hx hb dX11_loud_13 rfl (lv_at hl 1 rfl) ?_
    refine lv_iconst (v := (-1)) hx hb dX11_loud_14 (by decide) ?_
    refine ci_ C hW (runV (x := (g.2.2.1 12)) (As := [.int (-1)]) (rest := []) (T := ((J, L, I, P, E, N), sgX g ++ dy)) C hW (c_X11_refuse l g J L I P E N dy H.size (-1) hwf) mi_X11_refuse tw_411 (recv_ (T := ((J, L, I, P, E, N), sgX g ++ dy)) C hW (mx_ rfl) rfl rfl) ⟨rfl, rfl, Nat.le_of_ble_eq_true rfl, Nat.le_of_ble_eq_true rfl⟩ rfl hl.1 rfl (Nat.le_of_ble_eq_true rfl) dX11_loud_15 ⟨Nat.le_of_ble_eq_true rfl, Nat.le_of_ble_eq_true rfl⟩) (fun r2 u2 H locs hp2 hW => ?_)
    have hc2 : ((r2 = (-1))) := hp2
    clear hp2
    have hr2 : r2.toInt = (-1) := by rw [hc2]; exact kn1
    have hW : WB g A s.heap H locs ((hv J [42] [] u2), L, I, P, E, N) (sgX g ++ dy) := hW
    have hWr : WB g A s.heap H locs ((hv J [42] [] (hv J [42] [] u2)), L, (hv I [] [(6, 6), (6, 7)] I), P, E, N) (sgX g ++ dy) := by
      rw [← ag_hvE (J := J) (R := [42]) (F := []) (ag_hv rfl rfl ag_rf)]
      rw [← ag_hvE (J := I) (R := []) (F := [(6, 6), (6, 7)]) ag_rf]
      exact hW
    exact end_i C hr hlocks ((hv J [42] [] u2), I) hWr trivial dX11_loud_18
  · skip
    obtain ⟨o1, ho1⟩ : ∃ z : Nat, z = elt E P 20 a0.toNatClampNeg := ⟨_, rfl⟩
    have hm1 : (6, o1) ∈ dy := by rw [ho1]; exact (lw_mem (er := 6) hwf.1.1 (show (a0.toNatClampNeg : Int) < (J 20 2).toInt from by have := tcl a0; omega))
    refine lv_asv (v' := .ref o1) (by rw [ho1]; rfl) ?_
    refine lv_astore_n (lv' := [(3, .ref o1), (0, .ref (g.2.2.1 12)), (1, .int a0), (2, .int a1)]) hx hb dX11_loud_8 rfl hl (by decide) rfl (fun ls hl => ?_)
    refine lv_aload_n hx hb dX11_loud_9 rfl (lv_at hl 0 rfl) ?_
    refine lv_ifnonnull (tgt := 19) hx hb dX11_loud_10 (by decide) ?_
    refine lv_iload_n hx hb dX11_loud_19 rfl (lv_at hl 3 rfl) ?_
    refine ci_ C hW (runS (As := [.int a1]) (rest := []) (T := ((J, L, I, P, E, N), sgX g ++ dy)) C hW (c_X11_voiceRefusal l g J L I P E N dy H.size a1 ) mi_X11_voiceRefusal tw_524 ⟨rfl, rfl, Nat.le_of_ble_eq_true rfl, Nat.le_of_ble_eq_true rfl⟩ rfl hl.1 rfl (Nat.le_of_ble_eq_true rfl) dX11_loud_20 ⟨Nat.le_of_ble_eq_true rfl, Nat.le_of_ble_eq_true rfl⟩) (fun r3 u3 H locs hp3 hW => ?_)
    have hc3 : ((r3.toInt = (-4) ∧ (a1.toInt < 1)) ∨ (r3.toInt = (-6) ∧ (999 < a1.toInt)) ∨ (r3.toInt = 0 ∧ (1 ≤ a1.toInt ∧ a1.toInt ≤ 999))) := hp3
    clear hp3
    have hW : WB g A s.heap H locs (J, L, I, P, E, N) (sgX g ++ dy) := hW
    refine lv_istore (lv' := [(4, .int r3), (3, .ref o1), (0, .ref (g.2.2.1 12)), (1, .int a0), (2, .int a1)]) hx hb dX11_loud_23 hl (by decide) rfl (fun ls hl => ?_)
    refine lv_iload hx hb dX11_loud_25 (lv_at hl 0 rfl) ?_
    refine lv_if_eq (tgt := 37) hx hb dX11_loud_27 (by decide) (fun c4 => ?_) (fun c4 => ?_)
    · have c4 : r3.toInt = 0 := teq rfl kp0 c4
      refine lv_aload_n hx hb dX11_loud_37 rfl (lv_at hl 2 rfl) ?_
      refine rg_12_0 C hW (mx_ rfl) tw_364 dX11_loud_38 ?_
      refine lv_iload_n hx hb dX11_loud_41 rfl (lv_at hl 4 rfl) ?_
      refine lv_aload_n hx hb dX11_loud_42 rfl (lv_at hl 2 rfl) ?_
      refine rg_12_0 C hW (mx_ rfl) tw_364 dX11_loud_43 ?_
      refine rg_4_4 C hW (mx_ rfl) tw_240 dX11_loud_46 ?_
      refine lv_aload_n hx hb dX11_loud_49 rfl (lv_at hl 2 rfl) ?_
      refine rg_12_1 C hW (mx_ rfl) tw_365 dX11_loud_50 ?_
      refine rg_3_1 C hW (mx_ rfl) tw_278 dX11_loud_53 ?_
      refine cv_ C hW (runV (x := (g.2.2.1 4)) (As := [.int a1, .int (J 4 4), .int (J 3 1)]) (rest := []) (T := ((J, L, I, P, E, N), sgX g ++ dy)) C hW (c_X3_carry l g J L I P E N dy H.size a1 (J 4 4) (J 3 1) hwf) mi_X3_carry tw_527 (recv_ (T := ((J, L, I, P, E, N), sgX g ++ dy)) C hW (mx_ rfl) rfl rfl) ⟨rfl, rfl, Nat.le_of_ble_eq_true rfl, Nat.le_of_ble_eq_true rfl⟩ rfl hl.1 rfl (Nat.le_of_ble_eq_true rfl) dX11_loud_56 ⟨Nat.le_of_ble_eq_true rfl, Nat.le_of_ble_eq_true rfl⟩) (fun u5 H locs hp5 hW => ?_)
      have hW : WB g A s.heap H locs (J, L, (hv I [] [(6, 6), (6, 7)] u5), P, E, N) (sgX g ++ dy) := hW
      refine lv_aload_n hx hb dX11_loud_59 rfl (lv_at hl 1 rfl) ?_
      refine rg_6_7 C hW (List.mem_append_right _ hm1) tw_152 dX11_loud_60 ?_
      refine lv_topi (fun x6 (e6 : x6 = u5 6 7 o1) => ?_)
      have t6 : x6.toInt = (u5 6 7 o1).toInt := by rw [e6]
      have hWr : WB g A s.heap H locs ((hv J [42] [] J), L, (hv I [] [(6, 6), (6, 7)] (hv I [] [(6, 6), (6, 7)] u5)), P, E, N) (sgX g ++ dy) := by
        rw [← ag_hvE (J := J) (R := [42]) (F := []) ag_rf]
        rw [← ag_hvE (J := I) (R := []) (F := [(6, 6), (6, 7)]) (ag_hv rfl rfl ag_rf)]
        exact hW
      exact end_i C hr hlocks (J, (hv I [] [(6, 6), (6, 7)] u5)) hWr trivial dX11_loud_63
    · have c4 : ¬ r3.toInt = 0 := tne rfl kp0 c4
      refine lv_aload_n hx hb dX11_loud_30 rfl (lv_at hl 2 rfl) ?_
      refine lv_iload hx hb dX11_loud_31 (lv_at hl 0 rfl) ?_
      refine ci_ C hW (runV (x := (g.2.2.1 12)) (As := [.int r3]) (rest := []) (T := ((J, L, I, P, E, N), sgX g ++ dy)) C hW (c_X11_refuse l g J L I P E N dy H.size r3 hwf) mi_X11_refuse tw_411 (recv_ (T := ((J, L, I, P, E, N), sgX g ++ dy)) C hW (mx_ rfl) rfl rfl) ⟨rfl, rfl, Nat.le_of_ble_eq_true rfl, Nat.le_of_ble_eq_true rfl⟩ rfl hl.1 rfl (Nat.le_of_ble_eq_true rfl) dX11_loud_33 ⟨Nat.le_of_ble_eq_true rfl, Nat.le_of_ble_eq_true rfl⟩) (fun r7 u7 H locs hp7 hW => ?_)
      have hc7 : ((r7 = r3)) := hp7
      clear hp7
      have hr7 : r7.toInt = (r3).toInt := by rw [hc7]
      have hW : WB g A s.heap H locs ((hv J [42] [] u7), L, I, P, E, N) (sgX g ++ dy) := hW
      have hWr : WB g A s.heap H locs ((hv J [42] [] (hv J [42] [] u7)), L, (hv I [] [(6, 6), (6, 7)] I), P, E, N) (sgX g ++ dy) := by
        rw [← ag_hvE (J := J) (R := [42]) (F := []) (ag_hv rfl rfl ag_rf)]
        rw [← ag_hvE (J := I) (R := []) (F := [(6, 6), (6, 7)]) ag_rf]
        exact hW
      exact end_i C hr hlocks ((hv J [42] [] u7), I) hWr trivial dX11_loud_36

set_option maxHeartbeats 4000000 in
set_option maxRecDepth 100000 in
theorem c_X11_boosts (l : Launch) (g : gG) (J : Nat → Nat → Int32) (L : Nat → Nat → Int64) (I : Nat → Nat → Nat → Int32) (P : Nat → Nat → Nat → Option Nat) (E : Nat → Option Nat) (N : Nat → Nat) (dy : List (Nat × Nat)) (sz : Nat) (a0 : Int32) (hwf : WXF g J P E N dy) : Met l yX11_boosts (WS yX11_boosts cX11_boosts 3 (some .int)) (RM (8) 0 0) (PC g [.ref (g.2.2.1 12), .int a0] ((J, L, I, P, E, N), sgX g ++ dy) sz) (va_Qi (fun (r : Int32) (u : (Nat → Nat → Int32) × (Nat → Nat → Nat → Int32)) => True) (fun u t => at_ g (FR g ((J, L, I, P, E, N), sgX g ++ dy) sz) (((hv J [42] [] u.1), L, (hv I [] [(6, 5), (6, 6), (6, 7)] u.2), P, E, N), sgX g ++ dy) t) (FR g ((J, L, I, P, E, N), sgX g ++ dy) sz)) 0 0 (FR g ((J, L, I, P, E, N), sgX g ++ dy) sz) := by
  refine ent (by decide +kernel) (Nat.le_of_ble_eq_true rfl) ?_
  intro p e s m below meth c ls hsz C hW hr hlocks hname hl
  generalize FR g ((J, L, I, P, E, N), sgX g ++ dy) sz = A at C hW ⊢
  have hx := C.1.1
  have hb := C.1.2.1
  have hts := C.1.2.2.2.2
  have hl : lv_has ls 3 [(0, .ref (g.2.2.1 12)), (1, .int a0)] := hl
  obtain ⟨H, hH⟩ : ∃ H : Heap, H = s.heap := ⟨_, rfl⟩
  obtain ⟨locs, hlocs⟩ : ∃ q : List Loc, q = [] := ⟨_, rfl⟩
  have hW : WB g A s.heap H locs (J, L, I, P, E, N) (sgX g ++ dy) := by rw [hH, hlocs]; exact hW
  refine start_ hH hlocs ?_
  refine lv_iload_n hx hb dX11_boosts_0 rfl (lv_at hl 1 rfl) ?_
  refine ci_ C hW (runS (As := [.int a0]) (rest := []) (T := ((J, L, I, P, E, N), sgX g ++ dy)) C hW (c_X11_voiceRefusal l g J L I P E N dy H.size a0 ) mi_X11_voiceRefusal tw_524 ⟨rfl, rfl, Nat.le_of_ble_eq_true rfl, Nat.le_of_ble_eq_true rfl⟩ rfl hl.1 rfl (Nat.le_of_ble_eq_true rfl) dX11_boosts_1 ⟨Nat.le_of_ble_eq_true rfl, Nat.le_of_ble_eq_true rfl⟩) (fun r1 u1 H locs hp1 hW => ?_)
  have hc1 : ((r1.toInt = (-4) ∧ (a0.toInt < 1)) ∨ (r1.toInt = (-6) ∧ (999 < a0.toInt)) ∨ (r1.toInt = 0 ∧ (1 ≤ a0.toInt ∧ a0.toInt ≤ 999))) := hp1
  clear hp1
  have hW : WB g A s.heap H locs (J, L, I, P, E, N) (sgX g ++ dy) := hW
  refine lv_istore_n (lv' := [(2, .int r1), (0, .ref (g.2.2.1 12)), (1, .int a0)]) hx hb dX11_boosts_4 rfl hl (by decide) rfl (fun ls hl => ?_)
  refine lv_iload_n hx hb dX11_boosts_5 rfl (lv_at hl 0 rfl) ?_
  refine lv_if_eq (tgt := 15) hx hb dX11_boosts_6 (by decide) (fun c2 => ?_) (fun c2 => ?_)
  · have c2 : r1.toInt = 0 := teq rfl kp0 c2
    refine lv_aload_n hx hb dX11_boosts_15 rfl (lv_at hl 1 rfl) ?_
    refine rg_12_0 C hW (mx_ rfl) tw_364 dX11_boosts_16 ?_
    refine lv_iload_n hx hb dX11_boosts_19 rfl (lv_at hl 2 rfl) ?_
    refine ci_ C hW (runV (x := (g.2.2.1 4)) (As := [.int a0]) (rest := []) (T := ((J, L, I, P, E, N), sgX g ++ dy)) C hW (c_X3_fewestBoosts l g J L I P E N dy H.size a0 hwf) mi_X3_fewestBoosts tw_882 (recv_ (T := ((J, L, I, P, E, N), sgX g ++ dy)) C hW (mx_ rfl) rfl rfl) ⟨rfl, rfl, Nat.le_of_ble_eq_true rfl, Nat.le_of_ble_eq_true rfl⟩ rfl hl.1 rfl (Nat.le_of_ble_eq_true rfl) dX11_boosts_20 ⟨Nat.le_of_ble_eq_true rfl, Nat.le_of_ble_eq_true rfl⟩) (fun r3 u3 H locs hp3 hW => ?_)
    have hW : WB g A s.heap H locs (J, L, (hv I [] [(6, 5), (6, 6), (6, 7)] u3), P, E, N) (sgX g ++ dy) := hW
    have hWr : WB g A s.heap H locs ((hv J [42] [] J), L, (hv I [] [(6, 5), (6, 6), (6, 7)] (hv I [] [(6, 5), (6, 6), (6, 7)] u3)), P, E, N) (sgX g ++ dy) := by
      rw [← ag_hvE (J := J) (R := [42]) (F := []) ag_rf]
      rw [← ag_hvE (J := I) (R := []) (F := [(6, 5), (6, 6), (6, 7)]) (ag_hv rfl rfl ag_rf)]
      exact hW
    exact end_i C hr hlocks (J, (hv I [] [(6, 5), (6, 6), (6, 7)] u3)) hWr trivial dX11_boosts_23
  · have c2 : ¬ r1.toInt = 0 := tne rfl kp0 c2
    refine lv_aload_n hx hb dX11_boosts_9 rfl (lv_at hl 1 rfl) ?_
    refine lv_iload_n hx hb dX11_boosts_10 rfl (lv_at hl 0 rfl) ?_
    refine ci_ C hW (runV (x := (g.2.2.1 12)) (As := [.int r1]) (rest := []) (T := ((J, L, I, P, E, N), sgX g ++ dy)) C hW (c_X11_refuse l g J L I P E N dy H.size r1 hwf) mi_X11_refuse tw_411 (recv_ (T := ((J, L, I, P, E, N), sgX g ++ dy)) C hW (mx_ rfl) rfl rfl) ⟨rfl, rfl, Nat.le_of_ble_eq_true rfl, Nat.le_of_ble_eq_true rfl⟩ rfl hl.1 rfl (Nat.le_of_ble_eq_true rfl) dX11_boosts_11 ⟨Nat.le_of_ble_eq_true rfl, Nat.le_of_ble_eq_true rfl⟩) (fun r4 u4 H locs hp4 hW => ?_)
    have hc4 : ((r4 = r1)) := hp4
    clear hp4
    have hr4 : r4.toInt = (r1).toInt := by rw [hc4]
    have hW : WB g A s.heap H locs ((hv J [42] [] u4), L, I, P, E, N) (sgX g ++ dy) := hW
    have hWr : WB g A s.heap H locs ((hv J [42] [] (hv J [42] [] u4)), L, (hv I [] [(6, 5), (6, 6), (6, 7)] I), P, E, N) (sgX g ++ dy) := by
      rw [← ag_hvE (J := J) (R := [42]) (F := []) (ag_hv rfl rfl ag_rf)]
      rw [← ag_hvE (J := I) (R := []) (F := [(6, 5), (6, 6), (6, 7)]) ag_rf]
      exact hW
    exact end_i C hr hlocks ((hv J [42] [] u4), I) hWr trivial dX11_boosts_14

set_option maxHeartbeats 4000000 in
set_option maxRecDepth 100000 in
theorem c_X11_breaks (l : Launch) (g : gG) (J : Nat → Nat → Int32) (L : Nat → Nat → Int64) (I : Nat → Nat → Nat → Int32) (P : Nat → Nat → Nat → Option Nat) (E : Nat → Option Nat) (N : Nat → Nat) (dy : List (Nat × Nat)) (sz : Nat) (a0 : Int32) (hwf : WXF g J P E N dy) : Met l yX11_breaks (WS yX11_breaks cX11_breaks 2 (some .int)) (RM (7) 0 0) (PC g [.ref (g.2.2.1 12), .int a0] ((J, L, I, P, E, N), sgX g ++ dy) sz) (va_Qi (fun (r : Int32) (u : (Nat → Nat → Int32)) => True) (fun u t => at_ g (FR g ((J, L, I, P, E, N), sgX g ++ dy) sz) (((hv J [42] [] u), L, I, P, E, N), sgX g ++ dy) t) (FR g ((J, L, I, P, E, N), sgX g ++ dy) sz)) 0 0 (FR g ((J, L, I, P, E, N), sgX g ++ dy) sz) := by
  refine ent (by decide +kernel) (Nat.le_of_ble_eq_true rfl) ?_
  intro p e s m below meth c ls hsz C hW hr hlocks hname hl
  generalize FR g ((J, L, I, P, E, N), sgX g ++ dy) sz = A at C hW ⊢
  have hx := C.1.1
  have hb := C.1.2.1
  have hts := C.1.2.2.2.2
  have hl : lv_has ls 2 [(0, .ref (g.2.2.1 12)), (1, .int a0)] := hl
  obtain ⟨H, hH⟩ : ∃ H : Heap, H = s.heap := ⟨_, rfl⟩
  obtain ⟨locs, hlocs⟩ : ∃ q : List Loc, q = [] := ⟨_, rfl⟩
  have hW : WB g A s.heap H locs (J, L, I, P, E, N) (sgX g ++ dy) := by rw [hH, hlocs]; exact hW
  refine start_ hH hlocs ?_
  refine lv_iload_n hx hb dX11_breaks_0 rfl (lv_at hl 1 rfl) ?_
  refine lv_if_lt (tgt := 9) hx hb dX11_breaks_1 (by decide) (fun c1 => ?_) (fun c1 => ?_)
  · have c1 : a0.toInt < 0 := tlt rfl kp0 c1
    refine lv_aload_n hx hb dX11_breaks_9 rfl (lv_at hl 0 rfl) ?_
    refine lv_bipush (v := (-2)) hx hb dX11_breaks_10 (by decide) ?_
    refine ci_ C hW (runV (x := (g.2.2.1 12)) (As := [.int (-2)]) (rest := []) (T := ((J, L, I, P, E, N), sgX g ++ dy)) C hW (c_X11_refuse l g J L I P E N dy H.size (-2) hwf) mi_X11_refuse tw_411 (recv_ (T := ((J, L, I, P, E, N), sgX g ++ dy)) C hW (mx_ rfl) rfl rfl) ⟨rfl, rfl, Nat.le_of_ble_eq_true rfl, Nat.le_of_ble_eq_true rfl⟩ rfl hl.1 rfl (Nat.le_of_ble_eq_true rfl) dX11_breaks_12 ⟨Nat.le_of_ble_eq_true rfl, Nat.le_of_ble_eq_true rfl⟩) (fun r2 u2 H locs hp2 hW => ?_)
    have hc2 : ((r2 = (-2))) := hp2
    clear hp2
    have hr2 : r2.toInt = (-2) := by rw [hc2]; exact kn2
    have hW : WB g A s.heap H locs ((hv J [42] [] u2), L, I, P, E, N) (sgX g ++ dy) := hW
    have hWr : WB g A s.heap H locs ((hv J [42] [] (hv J [42] [] u2)), L, I, P, E, N) (sgX g ++ dy) := by
      rw [← ag_hvE (J := J) (R := [42]) (F := []) (ag_hv rfl rfl ag_rf)]
      exact hW
    exact end_i C hr hlocks (hv J [42] [] u2) hWr trivial dX11_breaks_15
  · have c1 : 0 ≤ a0.toInt := tnlt rfl kp0 c1
    refine lv_iload_n hx hb dX11_breaks_4 rfl (lv_at hl 1 rfl) ?_
    refine lv_iconst (v := 2) hx hb dX11_breaks_5 (by decide) ?_
    refine lv_icmp_le (tgt := 16) hx hb dX11_breaks_6 (by decide) (fun c3 => ?_) (fun c3 => ?_)
    · have c3 : a0.toInt ≤ 2 := tle rfl kp2 c3
      refine lv_aload_n hx hb dX11_breaks_16 rfl (lv_at hl 0 rfl) ?_
      refine rg_12_0 C hW (mx_ rfl) tw_364 dX11_breaks_17 ?_
      refine lv_iload_n hx hb dX11_breaks_20 rfl (lv_at hl 1 rfl) ?_
      refine ci_ C hW (runV (x := (g.2.2.1 4)) (As := [.int a0]) (rest := []) (T := ((J, L, I, P, E, N), sgX g ++ dy)) C hW (c_X3_explain l g J L I P E N dy H.size a0 hwf) mi_X3_explain tw_856 (recv_ (T := ((J, L, I, P, E, N), sgX g ++ dy)) C hW (mx_ rfl) rfl rfl) ⟨rfl, rfl, Nat.le_of_ble_eq_true rfl, Nat.le_of_ble_eq_true rfl⟩ rfl hl.1 rfl (Nat.le_of_ble_eq_true rfl) dX11_breaks_21 ⟨Nat.le_of_ble_eq_true rfl, Nat.le_of_ble_eq_true rfl⟩) (fun r4 u4 H locs hp4 hW => ?_)
      have hW : WB g A s.heap H locs (J, L, I, P, E, N) (sgX g ++ dy) := hW
      have hWr : WB g A s.heap H locs ((hv J [42] [] J), L, I, P, E, N) (sgX g ++ dy) := by
        rw [← ag_hvE (J := J) (R := [42]) (F := []) ag_rf]
        exact hW
      exact end_i C hr hlocks J hWr trivial dX11_breaks_24
    · have c3 : 2 < a0.toInt := tnle rfl kp2 c3
      refine lv_aload_n hx hb dX11_breaks_9 rfl (lv_at hl 0 rfl) ?_
      refine lv_bipush (v := (-2)) hx hb dX11_breaks_10 (by decide) ?_
      refine ci_ C hW (runV (x := (g.2.2.1 12)) (As := [.int (-2)]) (rest := []) (T := ((J, L, I, P, E, N), sgX g ++ dy)) C hW (c_X11_refuse l g J L I P E N dy H.size (-2) hwf) mi_X11_refuse tw_411 (recv_ (T := ((J, L, I, P, E, N), sgX g ++ dy)) C hW (mx_ rfl) rfl rfl) ⟨rfl, rfl, Nat.le_of_ble_eq_true rfl, Nat.le_of_ble_eq_true rfl⟩ rfl hl.1 rfl (Nat.le_of_ble_eq_true rfl) dX11_breaks_12 ⟨Nat.le_of_ble_eq_true rfl, Nat.le_of_ble_eq_true rfl⟩) (fun r5 u5 H locs hp5 hW => ?_)
      have hc5 : ((r5 = (-2))) := hp5
      clear hp5
      have hr5 : r5.toInt = (-2) := by rw [hc5]; exact kn2
      have hW : WB g A s.heap H locs ((hv J [42] [] u5), L, I, P, E, N) (sgX g ++ dy) := hW
      have hWr : WB g A s.heap H locs ((hv J [42] [] (hv J [42] [] u5)), L, I, P, E, N) (sgX g ++ dy) := by
        rw [← ag_hvE (J := J) (R := [42]) (F := []) (ag_hv rfl rfl ag_rf)]
        exact hW
      exact end_i C hr hlocks (hv J [42] [] u5) hWr trivial dX11_breaks_15
