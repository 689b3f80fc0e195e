theorem dX11_correctionRefusal_0 : decode cX11_correctionRefusal 0 = .ok (.aload_n 0, 1) := dk_aload_n_0 (by decide +kernel)
theorem dX11_correctionRefusal_1 : decode cX11_correctionRefusal 1 = .ok (.ifnonnull 5, 3) := dk_ifnonnull (by decide +kernel)
theorem dX11_correctionRefusal_6 : decode cX11_correctionRefusal 6 = .ok (.iload_n 1, 1) := dk_iload_n_1 (by decide +kernel)
theorem dX11_correctionRefusal_7 : decode cX11_correctionRefusal 7 = .ok (.ifCond .lt 8, 3) := dk_ifCond_lt (by decide +kernel)
theorem dX11_correctionRefusal_10 : decode cX11_correctionRefusal 10 = .ok (.iload_n 2, 1) := dk_iload_n_2 (by decide +kernel)
theorem dX11_correctionRefusal_11 : decode cX11_correctionRefusal 11 = .ok (.iconst 1, 1) := dk_iconst_1 (by decide +kernel)
theorem dX11_correctionRefusal_12 : decode cX11_correctionRefusal 12 = .ok (.if_icmp .ge 6, 3) := dk_if_icmp_ge (by decide +kernel)
theorem dX11_correctionRefusal_15 : decode cX11_correctionRefusal 15 = .ok (.bipush (-4), 2) := dk_bipush (by decide +kernel)
theorem dX11_correctionRefusal_17 : decode cX11_correctionRefusal 17 = .ok (.ireturn, 1) := dk_ireturn (by decide +kernel)
theorem dX11_correctionRefusal_18 : decode cX11_correctionRefusal 18 = .ok (.iload_n 1, 1) := dk_iload_n_1 (by decide +kernel)
theorem dX11_correctionRefusal_19 : decode cX11_correctionRefusal 19 = .ok (.ldc 132, 2) := dk_ldc (by decide +kernel)
theorem dX11_correctionRefusal_21 : decode cX11_correctionRefusal 21 = .ok (.if_icmp .gt 10, 3) := dk_if_icmp_gt (by decide +kernel)
theorem dX11_correctionRefusal_24 : decode cX11_correctionRefusal 24 = .ok (.iload_n 2, 1) := dk_iload_n_2 (by decide +kernel)
theorem dX11_correctionRefusal_25 : decode cX11_correctionRefusal 25 = .ok (.sipush 999, 3) := dk_sipush (by decide +kernel)
theorem dX11_correctionRefusal_28 : decode cX11_correctionRefusal 28 = .ok (.if_icmp .le 8, 3) := dk_if_icmp_le (by decide +kernel)
theorem dX11_correctionRefusal_31 : decode cX11_correctionRefusal 31 = .ok (.bipush (-6), 2) := dk_bipush (by decide +kernel)
theorem dX11_correctionRefusal_33 : decode cX11_correctionRefusal 33 = .ok (.goto 4, 3) := dk_goto (by decide +kernel)
theorem dX11_correctionRefusal_36 : decode cX11_correctionRefusal 36 = .ok (.iconst 0, 1) := dk_iconst_0 (by decide +kernel)
theorem dX11_correctionRefusal_37 : decode cX11_correctionRefusal 37 = .ok (.ireturn, 1) := dk_ireturn (by decide +kernel)
theorem dX11_correctionRefusal_4 : decode cX11_correctionRefusal 4 = .ok (.iconst (-1), 1) := dk_iconst_m1 (by decide +kernel)
theorem dX11_correctionRefusal_5 : decode cX11_correctionRefusal 5 = .ok (.ireturn, 1) := dk_ireturn (by decide +kernel)
theorem dX10_take_0 : decode cX10_take 0 = .ok (.aload_n 0, 1) := dk_aload_n_0 (by decide +kernel)
theorem dX10_take_1 : decode cX10_take 1 = .ok (.getfield 18, 3) := dk_getfield (by decide +kernel)
theorem dX10_take_4 : decode cX10_take 4 = .ok (.ifCond .lt 35, 3) := dk_ifCond_lt (by decide +kernel)
theorem dX10_take_7 : decode cX10_take 7 = .ok (.aload_n 0, 1) := dk_aload_n_0 (by decide +kernel)
theorem dX10_take_8 : decode cX10_take 8 = .ok (.getfield 18, 3) := dk_getfield (by decide +kernel)
theorem dX10_take_11 : decode cX10_take 11 = .ok (.aload_n 0, 1) := dk_aload_n_0 (by decide +kernel)
theorem dX10_take_12 : decode cX10_take 12 = .ok (.getfield 9, 3) := dk_getfield (by decide +kernel)
theorem dX10_take_15 : decode cX10_take 15 = .ok (.arraylength, 1) := dk_arraylength (by decide +kernel)
theorem dX10_take_16 : decode cX10_take 16 = .ok (.if_icmp .ge 23, 3) := dk_if_icmp_ge (by decide +kernel)
theorem dX10_take_19 : decode cX10_take 19 = .ok (.aload_n 0, 1) := dk_aload_n_0 (by decide +kernel)
theorem dX10_take_20 : decode cX10_take 20 = .ok (.getfield 9, 3) := dk_getfield (by decide +kernel)
theorem dX10_take_23 : decode cX10_take 23 = .ok (.aload_n 0, 1) := dk_aload_n_0 (by decide +kernel)
theorem dX10_take_24 : decode cX10_take 24 = .ok (.getfield 18, 3) := dk_getfield (by decide +kernel)
theorem dX10_take_27 : decode cX10_take 27 = .ok (.iload_n 1, 1) := dk_iload_n_1 (by decide +kernel)
theorem dX10_take_28 : decode cX10_take 28 = .ok (.iastore, 1) := dk_iastore (by decide +kernel)
theorem dX10_take_29 : decode cX10_take 29 = .ok (.aload_n 0, 1) := dk_aload_n_0 (by decide +kernel)
theorem dX10_take_30 : decode cX10_take 30 = .ok (.dup, 1) := dk_dup (by decide +kernel)
theorem dX10_take_31 : decode cX10_take 31 = .ok (.getfield 18, 3) := dk_getfield (by decide +kernel)
theorem dX10_take_34 : decode cX10_take 34 = .ok (.iconst 1, 1) := dk_iconst_1 (by decide +kernel)
theorem dX10_take_35 : decode cX10_take 35 = .ok (.iadd, 1) := dk_iadd (by decide +kernel)
theorem dX10_take_36 : decode cX10_take 36 = .ok (.putfield 18, 3) := dk_putfield (by decide +kernel)
theorem dX10_take_39 : decode cX10_take 39 = .ok (.return_, 1) := dk_return_ (by decide +kernel)
theorem dX10_emit_0 : decode cX10_emit 0 = .ok (.aload_n 0, 1) := dk_aload_n_0 (by decide +kernel)
theorem dX10_emit_1 : decode cX10_emit 1 = .ok (.getfield 25, 3) := dk_getfield (by decide +kernel)
theorem dX10_emit_4 : decode cX10_emit 4 = .ok (.ifCond .lt 35, 3) := dk_ifCond_lt (by decide +kernel)
theorem dX10_emit_7 : decode cX10_emit 7 = .ok (.aload_n 0, 1) := dk_aload_n_0 (by decide +kernel)
theorem dX10_emit_8 : decode cX10_emit 8 = .ok (.getfield 25, 3) := dk_getfield (by decide +kernel)
theorem dX10_emit_11 : decode cX10_emit 11 = .ok (.aload_n 0, 1) := dk_aload_n_0 (by decide +kernel)
theorem dX10_emit_12 : decode cX10_emit 12 = .ok (.getfield 15, 3) := dk_getfield (by decide +kernel)
theorem dX10_emit_15 : decode cX10_emit 15 = .ok (.arraylength, 1) := dk_arraylength (by decide +kernel)
theorem dX10_emit_16 : decode cX10_emit 16 = .ok (.if_icmp .ge 23, 3) := dk_if_icmp_ge (by decide +kernel)
theorem dX10_emit_19 : decode cX10_emit 19 = .ok (.aload_n 0, 1) := dk_aload_n_0 (by decide +kernel)
theorem dX10_emit_20 : decode cX10_emit 20 = .ok (.getfield 15, 3) := dk_getfield (by decide +kernel)
theorem dX10_emit_23 : decode cX10_emit 23 = .ok (.aload_n 0, 1) := dk_aload_n_0 (by decide +kernel)
theorem dX10_emit_24 : decode cX10_emit 24 = .ok (.getfield 25, 3) := dk_getfield (by decide +kernel)
theorem dX10_emit_27 : decode cX10_emit 27 = .ok (.iload_n 1, 1) := dk_iload_n_1 (by decide +kernel)
theorem dX10_emit_28 : decode cX10_emit 28 = .ok (.iastore, 1) := dk_iastore (by decide +kernel)
theorem dX10_emit_29 : decode cX10_emit 29 = .ok (.aload_n 0, 1) := dk_aload_n_0 (by decide +kernel)
theorem dX10_emit_30 : decode cX10_emit 30 = .ok (.dup, 1) := dk_dup (by decide +kernel)
theorem dX10_emit_31 : decode cX10_emit 31 = .ok (.getfield 25, 3) := dk_getfield (by decide +kernel)
theorem dX10_emit_34 : decode cX10_emit 34 = .ok (.iconst 1, 1) := dk_iconst_1 (by decide +kernel)
theorem dX10_emit_35 : decode cX10_emit 35 = .ok (.iadd, 1) := dk_iadd (by decide +kernel)
theorem dX10_emit_36 : decode cX10_emit 36 = .ok (.putfield 25, 3) := dk_putfield (by decide +kernel)
theorem dX10_emit_39 : decode cX10_emit 39 = .ok (.return_, 1) := dk_return_ (by decide +kernel)
theorem dX10_next_0 : decode cX10_next 0 = .ok (.aload_n 0, 1) := dk_aload_n_0 (by decide +kernel)
theorem dX10_next_1 : decode cX10_next 1 = .ok (.getfield 22, 3) := dk_getfield (by decide +kernel)
theorem dX10_next_4 : decode cX10_next 4 = .ok (.ifCond .lt 38, 3) := dk_ifCond_lt (by decide +kernel)
theorem dX10_next_7 : decode cX10_next 7 = .ok (.aload_n 0, 1) := dk_aload_n_0 (by decide +kernel)
theorem dX10_next_8 : decode cX10_next 8 = .ok (.getfield 22, 3) := dk_getfield (by decide +kernel)
theorem dX10_next_11 : decode cX10_next 11 = .ok (.aload_n 0, 1) := dk_aload_n_0 (by decide +kernel)
theorem dX10_next_12 : decode cX10_next 12 = .ok (.getfield 18, 3) := dk_getfield (by decide +kernel)
theorem dX10_next_15 : decode cX10_next 15 = .ok (.if_icmp .ge 27, 3) := dk_if_icmp_ge (by decide +kernel)
theorem dX10_next_18 : decode cX10_next 18 = .ok (.aload_n 0, 1) := dk_aload_n_0 (by decide +kernel)
theorem dX10_next_19 : decode cX10_next 19 = .ok (.getfield 22, 3) := dk_getfield (by decide +kernel)
theorem dX10_next_22 : decode cX10_next 22 = .ok (.aload_n 0, 1) := dk_aload_n_0 (by decide +kernel)
theorem dX10_next_23 : decode cX10_next 23 = .ok (.getfield 9, 3) := dk_getfield (by decide +kernel)
theorem dX10_next_26 : decode cX10_next 26 = .ok (.arraylength, 1) := dk_arraylength (by decide +kernel)
theorem dX10_next_27 : decode cX10_next 27 = .ok (.if_icmp .ge 15, 3) := dk_if_icmp_ge (by decide +kernel)
theorem dX10_next_30 : decode cX10_next 30 = .ok (.aload_n 0, 1) := dk_aload_n_0 (by decide +kernel)
theorem dX10_next_31 : decode cX10_next 31 = .ok (.getfield 9, 3) := dk_getfield (by decide +kernel)
theorem dX10_next_34 : decode cX10_next 34 = .ok (.aload_n 0, 1) := dk_aload_n_0 (by decide +kernel)
theorem dX10_next_35 : decode cX10_next 35 = .ok (.getfield 22, 3) := dk_getfield (by decide +kernel)
theorem dX10_next_38 : decode cX10_next 38 = .ok (.iaload, 1) := dk_iaload (by decide +kernel)
theorem dX10_next_39 : decode cX10_next 39 = .ok (.goto 4, 3) := dk_goto (by decide +kernel)
theorem dX10_next_42 : decode cX10_next 42 = .ok (.iconst (-1), 1) := dk_iconst_m1 (by decide +kernel)
theorem dX10_next_43 : decode cX10_next 43 = .ok (.ireturn, 1) := dk_ireturn (by decide +kernel)
theorem dX11_count_0 : decode cX11_count 0 = .ok (.iload_n 1, 1) := dk_iload_n_1 (by decide +kernel)
theorem dX11_count_1 : decode cX11_count 1 = .ok (.tableswitch 198 0 18 #[91, 99, 110, 121, 129, 140, 148, 156, 161, 169, 177, 198, 198, 198, 198, 198, 198, 182, 190], 91) := by decide +kernel
theorem dX11_count_92 : decode cX11_count 92 = .ok (.aload_n 0, 1) := dk_aload_n_0 (by decide +kernel)
theorem dX11_count_93 : decode cX11_count 93 = .ok (.getfield 19, 3) := dk_getfield (by decide +kernel)
theorem dX11_count_96 : decode cX11_count 96 = .ok (.getfield 71, 3) := dk_getfield (by decide +kernel)
theorem dX11_count_99 : decode cX11_count 99 = .ok (.ireturn, 1) := dk_ireturn (by decide +kernel)
theorem dX11_count_100 : decode cX11_count 100 = .ok (.aload_n 0, 1) := dk_aload_n_0 (by decide +kernel)
theorem dX11_count_101 : decode cX11_count 101 = .ok (.getfield 10, 3) := dk_getfield (by decide +kernel)
theorem dX11_count_104 : decode cX11_count 104 = .ok (.getfield 90, 3) := dk_getfield (by decide +kernel)
theorem dX11_count_107 : decode cX11_count 107 = .ok (.invokevirtual 93, 3) := dk_invokevirtual (by decide +kernel)
theorem dX11_count_110 : decode cX11_count 110 = .ok (.ireturn, 1) := dk_ireturn (by decide +kernel)
theorem dX11_count_111 : decode cX11_count 111 = .ok (.aload_n 0, 1) := dk_aload_n_0 (by decide +kernel)
theorem dX11_count_112 : decode cX11_count 112 = .ok (.getfield 10, 3) := dk_getfield (by decide +kernel)
theorem dX11_count_115 : decode cX11_count 115 = .ok (.getfield 129, 3) := dk_getfield (by decide +kernel)
theorem dX11_count_118 : decode cX11_count 118 = .ok (.invokevirtual 93, 3) := dk_invokevirtual (by decide +kernel)
theorem dX11_count_121 : decode cX11_count 121 = .ok (.ireturn, 1) := dk_ireturn (by decide +kernel)
theorem dX11_count_122 : decode cX11_count 122 = .ok (.aload_n 0, 1) := dk_aload_n_0 (by decide +kernel)
theorem dX11_count_123 : decode cX11_count 123 = .ok (.getfield 26, 3) := dk_getfield (by decide +kernel)
theorem dX11_count_126 : decode cX11_count 126 = .ok (.invokevirtual 93, 3) := dk_invokevirtual (by decide +kernel)
theorem dX11_count_129 : decode cX11_count 129 = .ok (.ireturn, 1) := dk_ireturn (by decide +kernel)
theorem dX11_count_130 : decode cX11_count 130 = .ok (.aload_n 0, 1) := dk_aload_n_0 (by decide +kernel)
theorem dX11_count_131 : decode cX11_count 131 = .ok (.getfield 10, 3) := dk_getfield (by decide +kernel)
theorem dX11_count_134 : decode cX11_count 134 = .ok (.getfield 113, 3) := dk_getfield (by decide +kernel)
theorem dX11_count_137 : decode cX11_count 137 = .ok (.invokevirtual 93, 3) := dk_invokevirtual (by decide +kernel)
theorem dX11_count_140 : decode cX11_count 140 = .ok (.ireturn, 1) := dk_ireturn (by decide +kernel)
theorem dX11_count_141 : decode cX11_count 141 = .ok (.aload_n 0, 1) := dk_aload_n_0 (by decide +kernel)
theorem dX11_count_142 : decode cX11_count 142 = .ok (.getfield 30, 3) := dk_getfield (by decide +kernel)
theorem dX11_count_145 : decode cX11_count 145 = .ok (.invokevirtual 93, 3) := dk_invokevirtual (by decide +kernel)
theorem dX11_count_148 : decode cX11_count 148 = .ok (.ireturn, 1) := dk_ireturn (by decide +kernel)
theorem dX11_count_149 : decode cX11_count 149 = .ok (.aload_n 0, 1) := dk_aload_n_0 (by decide +kernel)
theorem dX11_count_150 : decode cX11_count 150 = .ok (.getfield 33, 3) := dk_getfield (by decide +kernel)
theorem dX11_count_153 : decode cX11_count 153 = .ok (.invokevirtual 93, 3) := dk_invokevirtual (by decide +kernel)
theorem dX11_count_156 : decode cX11_count 156 = .ok (.ireturn, 1) := dk_ireturn (by decide +kernel)
theorem dX11_count_157 : decode cX11_count 157 = .ok (.aload_n 0, 1) := dk_aload_n_0 (by decide +kernel)
theorem dX11_count_158 : decode cX11_count 158 = .ok (.getfield 312, 3) := dk_getfield (by decide +kernel)
theorem dX11_count_161 : decode cX11_count 161 = .ok (.ireturn, 1) := dk_ireturn (by decide +kernel)
theorem dX11_count_162 : decode cX11_count 162 = .ok (.aload_n 0, 1) := dk_aload_n_0 (by decide +kernel)
theorem dX11_count_163 : decode cX11_count 163 = .ok (.getfield 19, 3) := dk_getfield (by decide +kernel)
theorem dX11_count_166 : decode cX11_count 166 = .ok (.getfield 322, 3) := dk_getfield (by decide +kernel)
theorem dX11_count_169 : decode cX11_count 169 = .ok (.ireturn, 1) := dk_ireturn (by decide +kernel)
theorem dX11_count_170 : decode cX11_count 170 = .ok (.aload_n 0, 1) := dk_aload_n_0 (by decide +kernel)
theorem dX11_count_171 : decode cX11_count 171 = .ok (.getfield 39, 3) := dk_getfield (by decide +kernel)
theorem dX11_count_174 : decode cX11_count 174 = .ok (.getfield 214, 3) := dk_getfield (by decide +kernel)
theorem dX11_count_177 : decode cX11_count 177 = .ok (.ireturn, 1) := dk_ireturn (by decide +kernel)
theorem dX11_count_178 : decode cX11_count 178 = .ok (.aload_n 0, 1) := dk_aload_n_0 (by decide +kernel)
theorem dX11_count_179 : decode cX11_count 179 = .ok (.getfield 315, 3) := dk_getfield (by decide +kernel)
theorem dX11_count_182 : decode cX11_count 182 = .ok (.ireturn, 1) := dk_ireturn (by decide +kernel)
theorem dX11_count_183 : decode cX11_count 183 = .ok (.aload_n 0, 1) := dk_aload_n_0 (by decide +kernel)
theorem dX11_count_184 : decode cX11_count 184 = .ok (.getfield 10, 3) := dk_getfield (by decide +kernel)
theorem dX11_count_187 : decode cX11_count 187 = .ok (.invokevirtual 325, 3) := dk_invokevirtual (by decide +kernel)
theorem dX11_count_190 : decode cX11_count 190 = .ok (.ireturn, 1) := dk_ireturn (by decide +kernel)
theorem dX11_count_191 : decode cX11_count 191 = .ok (.aload_n 0, 1) := dk_aload_n_0 (by decide +kernel)
theorem dX11_count_192 : decode cX11_count 192 = .ok (.getfield 19, 3) := dk_getfield (by decide +kernel)
theorem dX11_count_195 : decode cX11_count 195 = .ok (.getfield 328, 3) := dk_getfield (by decide +kernel)
theorem dX11_count_198 : decode cX11_count 198 = .ok (.ireturn, 1) := dk_ireturn (by decide +kernel)
theorem dX11_count_199 : decode cX11_count 199 = .ok (.aload_n 0, 1) := dk_aload_n_0 (by decide +kernel)
theorem dX11_count_200 : decode cX11_count 200 = .ok (.iload_n 1, 1) := dk_iload_n_1 (by decide +kernel)
theorem dX11_count_201 : decode cX11_count 201 = .ok (.invokevirtual 331, 3) := dk_invokevirtual (by decide +kernel)
theorem dX11_count_204 : decode cX11_count 204 = .ok (.ireturn, 1) := dk_ireturn (by decide +kernel)
theorem dX11_put_0 : decode cX11_put 0 = .ok (.iload_n 1, 1) := dk_iload_n_1 (by decide +kernel)
theorem dX11_put_1 : decode cX11_put 1 = .ok (.sipush (-32768), 3) := dk_sipush (by decide +kernel)
theorem dX11_put_4 : decode cX11_put 4 = .ok (.if_icmp .ge 10, 3) := dk_if_icmp_ge (by decide +kernel)
theorem dX11_put_7 : decode cX11_put 7 = .ok (.aload_n 0, 1) := dk_aload_n_0 (by decide +kernel)
theorem dX11_put_8 : decode cX11_put 8 = .ok (.bipush (-4), 2) := dk_bipush (by decide +kernel)
theorem dX11_put_10 : decode cX11_put 10 = .ok (.invokevirtual 67, 3) := dk_invokevirtual (by decide +kernel)
theorem dX11_put_13 : decode cX11_put 13 = .ok (.ireturn, 1) := dk_ireturn (by decide +kernel)
theorem dX11_put_14 : decode cX11_put 14 = .ok (.iload_n 1, 1) := dk_iload_n_1 (by decide +kernel)
theorem dX11_put_15 : decode cX11_put 15 = .ok (.sipush 32767, 3) := dk_sipush (by decide +kernel)
theorem dX11_put_18 : decode cX11_put 18 = .ok (.if_icmp .gt 15, 3) := dk_if_icmp_gt (by decide +kernel)
theorem dX11_put_21 : decode cX11_put 21 = .ok (.aload_n 0, 1) := dk_aload_n_0 (by decide +kernel)
theorem dX11_put_22 : decode cX11_put 22 = .ok (.getfield 315, 3) := dk_getfield (by decide +kernel)
theorem dX11_put_25 : decode cX11_put 25 = .ok (.aload_n 0, 1) := dk_aload_n_0 (by decide +kernel)
theorem dX11_put_26 : decode cX11_put 26 = .ok (.getfield 54, 3) := dk_getfield (by decide +kernel)
theorem dX11_put_29 : decode cX11_put 29 = .ok (.arraylength, 1) := dk_arraylength (by decide +kernel)
theorem dX11_put_30 : decode cX11_put 30 = .ok (.if_icmp .lt 10, 3) := dk_if_icmp_lt (by decide +kernel)
theorem dX11_put_33 : decode cX11_put 33 = .ok (.aload_n 0, 1) := dk_aload_n_0 (by decide +kernel)
theorem dX11_put_34 : decode cX11_put 34 = .ok (.bipush (-6), 2) := dk_bipush (by decide +kernel)
theorem dX11_put_36 : decode cX11_put 36 = .ok (.invokevirtual 67, 3) := dk_invokevirtual (by decide +kernel)
theorem dX11_put_39 : decode cX11_put 39 = .ok (.ireturn, 1) := dk_ireturn (by decide +kernel)
theorem dX11_put_40 : decode cX11_put 40 = .ok (.aload_n 0, 1) := dk_aload_n_0 (by decide +kernel)
theorem dX11_put_41 : decode cX11_put 41 = .ok (.getfield 54, 3) := dk_getfield (by decide +kernel)
theorem dX11_put_44 : decode cX11_put 44 = .ok (.aload_n 0, 1) := dk_aload_n_0 (by decide +kernel)
theorem dX11_put_45 : decode cX11_put 45 = .ok (.getfield 315, 3) := dk_getfield (by decide +kernel)
theorem dX11_put_48 : decode cX11_put 48 = .ok (.iload_n 1, 1) := dk_iload_n_1 (by decide +kernel)
theorem dX11_put_49 : decode cX11_put 49 = .ok (.iastore, 1) := dk_iastore (by decide +kernel)
theorem dX11_put_50 : decode cX11_put 50 = .ok (.aload_n 0, 1) := dk_aload_n_0 (by decide +kernel)
theorem dX11_put_51 : decode cX11_put 51 = .ok (.dup, 1) := dk_dup (by decide +kernel)
theorem dX11_put_52 : decode cX11_put 52 = .ok (.getfield 315, 3) := dk_getfield (by decide +kernel)
theorem dX11_put_55 : decode cX11_put 55 = .ok (.iconst 1, 1) := dk_iconst_1 (by decide +kernel)
theorem dX11_put_56 : decode cX11_put 56 = .ok (.iadd, 1) := dk_iadd (by decide +kernel)
theorem dX11_put_57 : decode cX11_put 57 = .ok (.putfield 315, 3) := dk_putfield (by decide +kernel)
theorem dX11_put_60 : decode cX11_put 60 = .ok (.aload_n 0, 1) := dk_aload_n_0 (by decide +kernel)
theorem dX11_put_61 : decode cX11_put 61 = .ok (.getfield 315, 3) := dk_getfield (by decide +kernel)
theorem dX11_put_64 : decode cX11_put 64 = .ok (.ireturn, 1) := dk_ireturn (by decide +kernel)
theorem dX11_judge_0 : decode cX11_judge 0 = .ok (.aload_n 0, 1) := dk_aload_n_0 (by decide +kernel)
theorem dX11_judge_1 : decode cX11_judge 1 = .ok (.getfield 315, 3) := dk_getfield (by decide +kernel)
theorem dX11_judge_4 : decode cX11_judge 4 = .ok (.istore_n 1, 1) := dk_istore_n_1 (by decide +kernel)
theorem dX11_judge_5 : decode cX11_judge 5 = .ok (.aload_n 0, 1) := dk_aload_n_0 (by decide +kernel)
theorem dX11_judge_6 : decode cX11_judge 6 = .ok (.iconst 0, 1) := dk_iconst_0 (by decide +kernel)
theorem dX11_judge_7 : decode cX11_judge 7 = .ok (.putfield 315, 3) := dk_putfield (by decide +kernel)
theorem dX11_judge_10 : decode cX11_judge 10 = .ok (.iconst 0, 1) := dk_iconst_0 (by decide +kernel)
theorem dX11_judge_11 : decode cX11_judge 11 = .ok (.istore_n 2, 1) := dk_istore_n_2 (by decide +kernel)
theorem dX11_judge_12 : decode cX11_judge 12 = .ok (.iload_n 2, 1) := dk_iload_n_2 (by decide +kernel)
theorem dX11_judge_13 : decode cX11_judge 13 = .ok (.iconst 5, 1) := dk_iconst_5 (by decide +kernel)
theorem dX11_judge_14 : decode cX11_judge 14 = .ok (.if_icmp .ge 60, 3) := dk_if_icmp_ge (by decide +kernel)
theorem dX11_judge_17 : decode cX11_judge 17 = .ok (.iload_n 2, 1) := dk_iload_n_2 (by decide +kernel)
theorem dX11_judge_18 : decode cX11_judge 18 = .ok (.iload_n 1, 1) := dk_iload_n_1 (by decide +kernel)
theorem dX11_judge_19 : decode cX11_judge 19 = .ok (.if_icmp .ge 12, 3) := dk_if_icmp_ge (by decide +kernel)
theorem dX11_judge_22 : decode cX11_judge 22 = .ok (.iload_n 2, 1) := dk_iload_n_2 (by decide +kernel)
theorem dX11_judge_23 : decode cX11_judge 23 = .ok (.aload_n 0, 1) := dk_aload_n_0 (by decide +kernel)
theorem dX11_judge_24 : decode cX11_judge 24 = .ok (.getfield 54, 3) := dk_getfield (by decide +kernel)
theorem dX11_judge_27 : decode cX11_judge 27 = .ok (.arraylength, 1) := dk_arraylength (by decide +kernel)
theorem dX11_judge_28 : decode cX11_judge 28 = .ok (.if_icmp .lt 5, 3) := dk_if_icmp_lt (by decide +kernel)
theorem dX11_judge_31 : decode cX11_judge 31 = .ok (.iload_n 2, 1) := dk_iload_n_2 (by decide +kernel)
theorem dX11_judge_32 : decode cX11_judge 32 = .ok (.ireturn, 1) := dk_ireturn (by decide +kernel)
theorem dX11_judge_33 : decode cX11_judge 33 = .ok (.aload_n 0, 1) := dk_aload_n_0 (by decide +kernel)
theorem dX11_judge_34 : decode cX11_judge 34 = .ok (.getfield 54, 3) := dk_getfield (by decide +kernel)
theorem dX11_judge_37 : decode cX11_judge 37 = .ok (.iload_n 2, 1) := dk_iload_n_2 (by decide +kernel)
theorem dX11_judge_38 : decode cX11_judge 38 = .ok (.iaload, 1) := dk_iaload (by decide +kernel)
theorem dX11_judge_39 : decode cX11_judge 39 = .ok (.istore_n 3, 1) := dk_istore_n_3 (by decide +kernel)
theorem dX11_judge_40 : decode cX11_judge 40 = .ok (.iload_n 3, 1) := dk_iload_n_3 (by decide +kernel)
theorem dX11_judge_41 : decode cX11_judge 41 = .ok (.ifCond .lt 25, 3) := dk_ifCond_lt (by decide +kernel)
theorem dX11_judge_44 : decode cX11_judge 44 = .ok (.iload_n 3, 1) := dk_iload_n_3 (by decide +kernel)
theorem dX11_judge_45 : decode cX11_judge 45 = .ok (.bipush 9, 2) := dk_bipush (by decide +kernel)
theorem dX11_judge_47 : decode cX11_judge 47 = .ok (.if_icmp .gt 19, 3) := dk_if_icmp_gt (by decide +kernel)
theorem dX11_judge_50 : decode cX11_judge 50 = .ok (.iload_n 2, 1) := dk_iload_n_2 (by decide +kernel)
theorem dX11_judge_51 : decode cX11_judge 51 = .ok (.ifCond .le 17, 3) := dk_ifCond_le (by decide +kernel)
theorem dX11_judge_54 : decode cX11_judge 54 = .ok (.aload_n 0, 1) := dk_aload_n_0 (by decide +kernel)
theorem dX11_judge_55 : decode cX11_judge 55 = .ok (.getfield 54, 3) := dk_getfield (by decide +kernel)
theorem dX11_judge_58 : decode cX11_judge 58 = .ok (.iload_n 2, 1) := dk_iload_n_2 (by decide +kernel)
theorem dX11_judge_59 : decode cX11_judge 59 = .ok (.iconst 1, 1) := dk_iconst_1 (by decide +kernel)
theorem dX11_judge_60 : decode cX11_judge 60 = .ok (.isub, 1) := dk_isub (by decide +kernel)
theorem dX11_judge_61 : decode cX11_judge 61 = .ok (.iaload, 1) := dk_iaload (by decide +kernel)
theorem dX11_judge_62 : decode cX11_judge 62 = .ok (.iload_n 3, 1) := dk_iload_n_3 (by decide +kernel)
theorem dX11_judge_63 : decode cX11_judge 63 = .ok (.if_icmp .ne 5, 3) := dk_if_icmp_ne (by decide +kernel)
theorem dX11_judge_66 : decode cX11_judge 66 = .ok (.iload_n 2, 1) := dk_iload_n_2 (by decide +kernel)
theorem dX11_judge_67 : decode cX11_judge 67 = .ok (.ireturn, 1) := dk_ireturn (by decide +kernel)
theorem dX11_judge_68 : decode cX11_judge 68 = .ok (.iinc 2 1, 3) := dk_iinc (by decide +kernel)
theorem dX11_judge_71 : decode cX11_judge 71 = .ok (.goto (-59), 3) := dk_goto (by decide +kernel)
theorem dX11_judge_74 : decode cX11_judge 74 = .ok (.iload_n 1, 1) := dk_iload_n_1 (by decide +kernel)
theorem dX11_judge_75 : decode cX11_judge 75 = .ok (.iconst 5, 1) := dk_iconst_5 (by decide +kernel)
theorem dX11_judge_76 : decode cX11_judge 76 = .ok (.if_icmp .le 7, 3) := dk_if_icmp_le (by decide +kernel)
theorem dX11_judge_79 : decode cX11_judge 79 = .ok (.iconst 5, 1) := dk_iconst_5 (by decide +kernel)
theorem dX11_judge_80 : decode cX11_judge 80 = .ok (.goto 5, 3) := dk_goto (by decide +kernel)
theorem dX11_judge_83 : decode cX11_judge 83 = .ok (.bipush (-9), 2) := dk_bipush (by decide +kernel)
theorem dX11_judge_85 : decode cX11_judge 85 = .ok (.ireturn, 1) := dk_ireturn (by decide +kernel)
theorem dX11_evenUntil_0 : decode cX11_evenUntil 0 = .ok (.aload_n 1, 1) := dk_aload_n_1 (by decide +kernel)
theorem dX11_evenUntil_1 : decode cX11_evenUntil 1 = .ok (.getfield 381, 3) := dk_getfield (by decide +kernel)
theorem dX11_evenUntil_4 : decode cX11_evenUntil 4 = .ok (.iload_n 2, 1) := dk_iload_n_2 (by decide +kernel)
theorem dX11_evenUntil_5 : decode cX11_evenUntil 5 = .ok (.bipush 60, 2) := dk_bipush (by decide +kernel)
theorem dX11_evenUntil_7 : decode cX11_evenUntil 7 = .ok (.idiv, 1) := dk_idiv (by decide +kernel)
theorem dX11_evenUntil_8 : decode cX11_evenUntil 8 = .ok (.bipush 60, 2) := dk_bipush (by decide +kernel)
theorem dX11_evenUntil_10 : decode cX11_evenUntil 10 = .ok (.imul, 1) := dk_imul (by decide +kernel)
theorem dX11_evenUntil_11 : decode cX11_evenUntil 11 = .ok (.bipush 60, 2) := dk_bipush (by decide +kernel)
theorem dX11_evenUntil_13 : decode cX11_evenUntil 13 = .ok (.iadd, 1) := dk_iadd (by decide +kernel)
theorem dX11_evenUntil_14 : decode cX11_evenUntil 14 = .ok (.iconst 1, 1) := dk_iconst_1 (by decide +kernel)
theorem dX11_evenUntil_15 : decode cX11_evenUntil 15 = .ok (.isub, 1) := dk_isub (by decide +kernel)
theorem dX11_evenUntil_16 : decode cX11_evenUntil 16 = .ok (.invokestatic 247, 3) := dk_invokestatic (by decide +kernel)
theorem dX11_evenUntil_19 : decode cX11_evenUntil 19 = .ok (.istore_n 3, 1) := dk_istore_n_3 (by decide +kernel)
theorem dX11_evenUntil_20 : decode cX11_evenUntil 20 = .ok (.iconst 0, 1) := dk_iconst_0 (by decide +kernel)
theorem dX11_evenUntil_21 : decode cX11_evenUntil 21 = .ok (.istore 4, 2) := dk_istore (by decide +kernel)
theorem dX11_evenUntil_23 : decode cX11_evenUntil 23 = .ok (.iload 4, 2) := dk_iload (by decide +kernel)
theorem dX11_evenUntil_25 : decode cX11_evenUntil 25 = .ok (.aload_n 0, 1) := dk_aload_n_0 (by decide +kernel)
theorem dX11_evenUntil_26 : decode cX11_evenUntil 26 = .ok (.getfield 30, 3) := dk_getfield (by decide +kernel)
theorem dX11_evenUntil_29 : decode cX11_evenUntil 29 = .ok (.invokevirtual 93, 3) := dk_invokevirtual (by decide +kernel)
theorem dX11_evenUntil_32 : decode cX11_evenUntil 32 = .ok (.if_icmp .ge 43, 3) := dk_if_icmp_ge (by decide +kernel)
theorem dX11_evenUntil_35 : decode cX11_evenUntil 35 = .ok (.aload_n 0, 1) := dk_aload_n_0 (by decide +kernel)
theorem dX11_evenUntil_36 : decode cX11_evenUntil 36 = .ok (.getfield 30, 3) := dk_getfield (by decide +kernel)
theorem dX11_evenUntil_39 : decode cX11_evenUntil 39 = .ok (.iload 4, 2) := dk_iload (by decide +kernel)
theorem dX11_evenUntil_41 : decode cX11_evenUntil 41 = .ok (.invokevirtual 334, 3) := dk_invokevirtual (by decide +kernel)
theorem dX11_evenUntil_44 : decode cX11_evenUntil 44 = .ok (.checkcast 227, 3) := dk_checkcast (by decide +kernel)
theorem dX11_evenUntil_47 : decode cX11_evenUntil 47 = .ok (.getfield 344, 3) := dk_getfield (by decide +kernel)
theorem dX11_evenUntil_50 : decode cX11_evenUntil 50 = .ok (.istore 5, 2) := dk_istore (by decide +kernel)
theorem dX11_evenUntil_52 : decode cX11_evenUntil 52 = .ok (.iload 5, 2) := dk_iload (by decide +kernel)
theorem dX11_evenUntil_54 : decode cX11_evenUntil 54 = .ok (.iload_n 2, 1) := dk_iload_n_2 (by decide +kernel)
theorem dX11_evenUntil_55 : decode cX11_evenUntil 55 = .ok (.if_icmp .le 14, 3) := dk_if_icmp_le (by decide +kernel)
theorem dX11_evenUntil_58 : decode cX11_evenUntil 58 = .ok (.iload 5, 2) := dk_iload (by decide +kernel)
theorem dX11_evenUntil_60 : decode cX11_evenUntil 60 = .ok (.iload_n 3, 1) := dk_iload_n_3 (by decide +kernel)
theorem dX11_evenUntil_61 : decode cX11_evenUntil 61 = .ok (.if_icmp .gt 8, 3) := dk_if_icmp_gt (by decide +kernel)
theorem dX11_evenUntil_64 : decode cX11_evenUntil 64 = .ok (.iload 5, 2) := dk_iload (by decide +kernel)
theorem dX11_evenUntil_66 : decode cX11_evenUntil 66 = .ok (.iconst 1, 1) := dk_iconst_1 (by decide +kernel)
theorem dX11_evenUntil_67 : decode cX11_evenUntil 67 = .ok (.isub, 1) := dk_isub (by decide +kernel)
theorem dX11_evenUntil_68 : decode cX11_evenUntil 68 = .ok (.istore_n 3, 1) := dk_istore_n_3 (by decide +kernel)
theorem dX11_evenUntil_69 : decode cX11_evenUntil 69 = .ok (.iinc 4 1, 3) := dk_iinc (by decide +kernel)
theorem dX11_evenUntil_72 : decode cX11_evenUntil 72 = .ok (.goto (-49), 3) := dk_goto (by decide +kernel)
theorem dX11_evenUntil_75 : decode cX11_evenUntil 75 = .ok (.iload_n 3, 1) := dk_iload_n_3 (by decide +kernel)
theorem dX11_evenUntil_76 : decode cX11_evenUntil 76 = .ok (.ireturn, 1) := dk_ireturn (by decide +kernel)
theorem dX11_fairOrder_0 : decode cX11_fairOrder 0 = .ok (.iload_n 0, 1) := dk_iload_n_0 (by decide +kernel)
theorem dX11_fairOrder_1 : decode cX11_fairOrder 1 = .ok (.istore 4, 2) := dk_istore (by decide +kernel)
theorem dX11_fairOrder_3 : decode cX11_fairOrder 3 = .ok (.bipush (-9), 2) := dk_bipush (by decide +kernel)
theorem dX11_fairOrder_5 : decode cX11_fairOrder 5 = .ok (.istore 5, 2) := dk_istore (by decide +kernel)
theorem dX11_fairOrder_7 : decode cX11_fairOrder 7 = .ok (.iconst 0, 1) := dk_iconst_0 (by decide +kernel)
theorem dX11_fairOrder_8 : decode cX11_fairOrder 8 = .ok (.istore 6, 2) := dk_istore (by decide +kernel)
theorem dX11_fairOrder_10 : decode cX11_fairOrder 10 = .ok (.iconst 1, 1) := dk_iconst_1 (by decide +kernel)
theorem dX11_fairOrder_11 : decode cX11_fairOrder 11 = .ok (.istore 7, 2) := dk_istore (by decide +kernel)
theorem dX11_fairOrder_13 : decode cX11_fairOrder 13 = .ok (.iconst 0, 1) := dk_iconst_0 (by decide +kernel)
theorem dX11_fairOrder_14 : decode cX11_fairOrder 14 = .ok (.istore 8, 2) := dk_istore (by decide +kernel)
theorem dX11_fairOrder_16 : decode cX11_fairOrder 16 = .ok (.iconst 0, 1) := dk_iconst_0 (by decide +kernel)
theorem dX11_fairOrder_17 : decode cX11_fairOrder 17 = .ok (.istore 9, 2) := dk_istore (by decide +kernel)
theorem dX11_fairOrder_19 : decode cX11_fairOrder 19 = .ok (.iload 9, 2) := dk_iload (by decide +kernel)
theorem dX11_fairOrder_21 : decode cX11_fairOrder 21 = .ok (.iconst 5, 1) := dk_iconst_5 (by decide +kernel)
theorem dX11_fairOrder_22 : decode cX11_fairOrder 22 = .ok (.if_icmp .ge 104, 3) := dk_if_icmp_ge (by decide +kernel)
theorem dX11_fairOrder_25 : decode cX11_fairOrder 25 = .ok (.iload 4, 2) := dk_iload (by decide +kernel)
theorem dX11_fairOrder_27 : decode cX11_fairOrder 27 = .ok (.iconst 3, 1) := dk_iconst_3 (by decide +kernel)
theorem dX11_fairOrder_28 : decode cX11_fairOrder 28 = .ok (.irem, 1) := dk_irem (by decide +kernel)
theorem dX11_fairOrder_29 : decode cX11_fairOrder 29 = .ok (.istore 10, 2) := dk_istore (by decide +kernel)
theorem dX11_fairOrder_31 : decode cX11_fairOrder 31 = .ok (.iload 10, 2) := dk_iload (by decide +kernel)
theorem dX11_fairOrder_33 : decode cX11_fairOrder 33 = .ok (.iload 5, 2) := dk_iload (by decide +kernel)
theorem dX11_fairOrder_35 : decode cX11_fairOrder 35 = .ok (.if_icmp .ne 6, 3) := dk_if_icmp_ne (by decide +kernel)
theorem dX11_fairOrder_38 : decode cX11_fairOrder 38 = .ok (.bipush (-9), 2) := dk_bipush (by decide +kernel)
theorem dX11_fairOrder_40 : decode cX11_fairOrder 40 = .ok (.ireturn, 1) := dk_ireturn (by decide +kernel)
theorem dX11_fairOrder_41 : decode cX11_fairOrder 41 = .ok (.iload 10, 2) := dk_iload (by decide +kernel)
theorem dX11_fairOrder_43 : decode cX11_fairOrder 43 = .ok (.ifCond .ne 7, 3) := dk_ifCond_ne (by decide +kernel)
theorem dX11_fairOrder_46 : decode cX11_fairOrder 46 = .ok (.iload_n 1, 1) := dk_iload_n_1 (by decide +kernel)
theorem dX11_fairOrder_47 : decode cX11_fairOrder 47 = .ok (.goto 14, 3) := dk_goto (by decide +kernel)
theorem dX11_fairOrder_50 : decode cX11_fairOrder 50 = .ok (.iload 10, 2) := dk_iload (by decide +kernel)
theorem dX11_fairOrder_52 : decode cX11_fairOrder 52 = .ok (.iconst 1, 1) := dk_iconst_1 (by decide +kernel)
theorem dX11_fairOrder_53 : decode cX11_fairOrder 53 = .ok (.if_icmp .ne 7, 3) := dk_if_icmp_ne (by decide +kernel)
theorem dX11_fairOrder_56 : decode cX11_fairOrder 56 = .ok (.iload_n 2, 1) := dk_iload_n_2 (by decide +kernel)
theorem dX11_fairOrder_57 : decode cX11_fairOrder 57 = .ok (.goto 4, 3) := dk_goto (by decide +kernel)
theorem dX11_fairOrder_60 : decode cX11_fairOrder 60 = .ok (.iload_n 3, 1) := dk_iload_n_3 (by decide +kernel)
theorem dX11_fairOrder_61 : decode cX11_fairOrder 61 = .ok (.istore 11, 2) := dk_istore (by decide +kernel)
theorem dX11_fairOrder_63 : decode cX11_fairOrder 63 = .ok (.iload 6, 2) := dk_iload (by decide +kernel)
theorem dX11_fairOrder_65 : decode cX11_fairOrder 65 = .ok (.iload 11, 2) := dk_iload (by decide +kernel)
theorem dX11_fairOrder_67 : decode cX11_fairOrder 67 = .ok (.bipush 10, 2) := dk_bipush (by decide +kernel)
theorem dX11_fairOrder_69 : decode cX11_fairOrder 69 = .ok (.idiv, 1) := dk_idiv (by decide +kernel)
theorem dX11_fairOrder_70 : decode cX11_fairOrder 70 = .ok (.iload 7, 2) := dk_iload (by decide +kernel)
theorem dX11_fairOrder_72 : decode cX11_fairOrder 72 = .ok (.imul, 1) := dk_imul (by decide +kernel)
theorem dX11_fairOrder_73 : decode cX11_fairOrder 73 = .ok (.iadd, 1) := dk_iadd (by decide +kernel)
theorem dX11_fairOrder_74 : decode cX11_fairOrder 74 = .ok (.istore 6, 2) := dk_istore (by decide +kernel)
theorem dX11_fairOrder_76 : decode cX11_fairOrder 76 = .ok (.iload 8, 2) := dk_iload (by decide +kernel)
theorem dX11_fairOrder_78 : decode cX11_fairOrder 78 = .ok (.iload 10, 2) := dk_iload (by decide +kernel)
theorem dX11_fairOrder_80 : decode cX11_fairOrder 80 = .ok (.ifCond .ne 7, 3) := dk_ifCond_ne (by decide +kernel)
theorem dX11_fairOrder_83 : decode cX11_fairOrder 83 = .ok (.iconst 1, 1) := dk_iconst_1 (by decide +kernel)
theorem dX11_fairOrder_84 : decode cX11_fairOrder 84 = .ok (.goto 16, 3) := dk_goto (by decide +kernel)
theorem dX11_fairOrder_87 : decode cX11_fairOrder 87 = .ok (.iload 10, 2) := dk_iload (by decide +kernel)
theorem dX11_fairOrder_89 : decode cX11_fairOrder 89 = .ok (.iconst 1, 1) := dk_iconst_1 (by decide +kernel)
theorem dX11_fairOrder_90 : decode cX11_fairOrder 90 = .ok (.if_icmp .ne 8, 3) := dk_if_icmp_ne (by decide +kernel)
theorem dX11_fairOrder_93 : decode cX11_fairOrder 93 = .ok (.bipush 10, 2) := dk_bipush (by decide +kernel)
theorem dX11_fairOrder_95 : decode cX11_fairOrder 95 = .ok (.goto 5, 3) := dk_goto (by decide +kernel)
theorem dX11_fairOrder_98 : decode cX11_fairOrder 98 = .ok (.bipush 100, 2) := dk_bipush (by decide +kernel)
theorem dX11_fairOrder_100 : decode cX11_fairOrder 100 = .ok (.iadd, 1) := dk_iadd (by decide +kernel)
theorem dX11_fairOrder_101 : decode cX11_fairOrder 101 = .ok (.istore 8, 2) := dk_istore (by decide +kernel)
theorem dX11_fairOrder_103 : decode cX11_fairOrder 103 = .ok (.iload 10, 2) := dk_iload (by decide +kernel)
theorem dX11_fairOrder_105 : decode cX11_fairOrder 105 = .ok (.istore 5, 2) := dk_istore (by decide +kernel)
theorem dX11_fairOrder_107 : decode cX11_fairOrder 107 = .ok (.iload 4, 2) := dk_iload (by decide +kernel)
theorem dX11_fairOrder_109 : decode cX11_fairOrder 109 = .ok (.iconst 3, 1) := dk_iconst_3 (by decide +kernel)
theorem dX11_fairOrder_110 : decode cX11_fairOrder 110 = .ok (.idiv, 1) := dk_idiv (by decide +kernel)
theorem dX11_fairOrder_111 : decode cX11_fairOrder 111 = .ok (.istore 4, 2) := dk_istore (by decide +kernel)
theorem dX11_fairOrder_113 : decode cX11_fairOrder 113 = .ok (.iload 7, 2) := dk_iload (by decide +kernel)
theorem dX11_fairOrder_115 : decode cX11_fairOrder 115 = .ok (.bipush 10, 2) := dk_bipush (by decide +kernel)
theorem dX11_fairOrder_117 : decode cX11_fairOrder 117 = .ok (.imul, 1) := dk_imul (by decide +kernel)
theorem dX11_fairOrder_118 : decode cX11_fairOrder 118 = .ok (.istore 7, 2) := dk_istore (by decide +kernel)
theorem dX11_fairOrder_120 : decode cX11_fairOrder 120 = .ok (.iinc 9 1, 3) := dk_iinc (by decide +kernel)
theorem dX11_fairOrder_123 : decode cX11_fairOrder 123 = .ok (.goto (-104), 3) := dk_goto (by decide +kernel)
theorem dX11_fairOrder_126 : decode cX11_fairOrder 126 = .ok (.iload 8, 2) := dk_iload (by decide +kernel)
theorem dX11_fairOrder_128 : decode cX11_fairOrder 128 = .ok (.iload_n 1, 1) := dk_iload_n_1 (by decide +kernel)
theorem dX11_fairOrder_129 : decode cX11_fairOrder 129 = .ok (.bipush 10, 2) := dk_bipush (by decide +kernel)
theorem dX11_fairOrder_131 : decode cX11_fairOrder 131 = .ok (.irem, 1) := dk_irem (by decide +kernel)
theorem dX11_fairOrder_132 : decode cX11_fairOrder 132 = .ok (.bipush 10, 2) := dk_bipush (by decide +kernel)
theorem dX11_fairOrder_134 : decode cX11_fairOrder 134 = .ok (.iload_n 2, 1) := dk_iload_n_2 (by decide +kernel)
theorem dX11_fairOrder_135 : decode cX11_fairOrder 135 = .ok (.bipush 10, 2) := dk_bipush (by decide +kernel)
theorem dX11_fairOrder_137 : decode cX11_fairOrder 137 = .ok (.irem, 1) := dk_irem (by decide +kernel)
theorem dX11_fairOrder_138 : decode cX11_fairOrder 138 = .ok (.imul, 1) := dk_imul (by decide +kernel)
theorem dX11_fairOrder_139 : decode cX11_fairOrder 139 = .ok (.iadd, 1) := dk_iadd (by decide +kernel)
theorem dX11_fairOrder_140 : decode cX11_fairOrder 140 = .ok (.bipush 100, 2) := dk_bipush (by decide +kernel)
theorem dX11_fairOrder_142 : decode cX11_fairOrder 142 = .ok (.iload_n 3, 1) := dk_iload_n_3 (by decide +kernel)
theorem dX11_fairOrder_143 : decode cX11_fairOrder 143 = .ok (.bipush 10, 2) := dk_bipush (by decide +kernel)
theorem dX11_fairOrder_145 : decode cX11_fairOrder 145 = .ok (.irem, 1) := dk_irem (by decide +kernel)
theorem dX11_fairOrder_146 : decode cX11_fairOrder 146 = .ok (.imul, 1) := dk_imul (by decide +kernel)
theorem dX11_fairOrder_147 : decode cX11_fairOrder 147 = .ok (.iadd, 1) := dk_iadd (by decide +kernel)
theorem dX11_fairOrder_148 : decode cX11_fairOrder 148 = .ok (.if_icmp .ne 8, 3) := dk_if_icmp_ne (by decide +kernel)
theorem dX11_fairOrder_151 : decode cX11_fairOrder 151 = .ok (.iload 6, 2) := dk_iload (by decide +kernel)
theorem dX11_fairOrder_153 : decode cX11_fairOrder 153 = .ok (.goto 5, 3) := dk_goto (by decide +kernel)
theorem dX11_fairOrder_156 : decode cX11_fairOrder 156 = .ok (.bipush (-9), 2) := dk_bipush (by decide +kernel)
theorem dX11_fairOrder_158 : decode cX11_fairOrder 158 = .ok (.ireturn, 1) := dk_ireturn (by decide +kernel)
theorem dX11_firstFair_0 : decode cX11_firstFair 0 = .ok (.iload_n 0, 1) := dk_iload_n_0 (by decide +kernel)
theorem dX11_firstFair_1 : decode cX11_firstFair 1 = .ok (.iload_n 1, 1) := dk_iload_n_1 (by decide +kernel)
theorem dX11_firstFair_2 : decode cX11_firstFair 2 = .ok (.iload_n 2, 1) := dk_iload_n_2 (by decide +kernel)
theorem dX11_firstFair_3 : decode cX11_firstFair 3 = .ok (.invokestatic 247, 3) := dk_invokestatic (by decide +kernel)
theorem dX11_firstFair_6 : decode cX11_firstFair 6 = .ok (.invokestatic 247, 3) := dk_invokestatic (by decide +kernel)
theorem dX11_firstFair_9 : decode cX11_firstFair 9 = .ok (.istore_n 3, 1) := dk_istore_n_3 (by decide +kernel)
theorem dX11_firstFair_10 : decode cX11_firstFair 10 = .ok (.iload_n 0, 1) := dk_iload_n_0 (by decide +kernel)
theorem dX11_firstFair_11 : decode cX11_firstFair 11 = .ok (.iload_n 1, 1) := dk_iload_n_1 (by decide +kernel)
theorem dX11_firstFair_12 : decode cX11_firstFair 12 = .ok (.iload_n 2, 1) := dk_iload_n_2 (by decide +kernel)
theorem dX11_firstFair_13 : decode cX11_firstFair 13 = .ok (.invokestatic 387, 3) := dk_invokestatic (by decide +kernel)
theorem dX11_firstFair_16 : decode cX11_firstFair 16 = .ok (.invokestatic 387, 3) := dk_invokestatic (by decide +kernel)
theorem dX11_firstFair_19 : decode cX11_firstFair 19 = .ok (.istore 4, 2) := dk_istore (by decide +kernel)
theorem dX11_firstFair_21 : decode cX11_firstFair 21 = .ok (.iload_n 0, 1) := dk_iload_n_0 (by decide +kernel)
theorem dX11_firstFair_22 : decode cX11_firstFair 22 = .ok (.iload_n 1, 1) := dk_iload_n_1 (by decide +kernel)
theorem dX11_firstFair_23 : decode cX11_firstFair 23 = .ok (.iadd, 1) := dk_iadd (by decide +kernel)
theorem dX11_firstFair_24 : decode cX11_firstFair 24 = .ok (.iload_n 2, 1) := dk_iload_n_2 (by decide +kernel)
theorem dX11_firstFair_25 : decode cX11_firstFair 25 = .ok (.iadd, 1) := dk_iadd (by decide +kernel)
theorem dX11_firstFair_26 : decode cX11_firstFair 26 = .ok (.iload_n 3, 1) := dk_iload_n_3 (by decide +kernel)
theorem dX11_firstFair_27 : decode cX11_firstFair 27 = .ok (.isub, 1) := dk_isub (by decide +kernel)
theorem dX11_firstFair_28 : decode cX11_firstFair 28 = .ok (.iload 4, 2) := dk_iload (by decide +kernel)
theorem dX11_firstFair_30 : decode cX11_firstFair 30 = .ok (.isub, 1) := dk_isub (by decide +kernel)
theorem dX11_firstFair_31 : decode cX11_firstFair 31 = .ok (.istore 5, 2) := dk_istore (by decide +kernel)
theorem dX11_firstFair_33 : decode cX11_firstFair 33 = .ok (.iconst 0, 1) := dk_iconst_0 (by decide +kernel)
theorem dX11_firstFair_34 : decode cX11_firstFair 34 = .ok (.istore 6, 2) := dk_istore (by decide +kernel)
theorem dX11_firstFair_36 : decode cX11_firstFair 36 = .ok (.iload 6, 2) := dk_iload (by decide +kernel)
theorem dX11_firstFair_38 : decode cX11_firstFair 38 = .ok (.sipush 243, 3) := dk_sipush (by decide +kernel)
theorem dX11_firstFair_41 : decode cX11_firstFair 41 = .ok (.if_icmp .ge 31, 3) := dk_if_icmp_ge (by decide +kernel)
theorem dX11_firstFair_44 : decode cX11_firstFair 44 = .ok (.iload 6, 2) := dk_iload (by decide +kernel)
theorem dX11_firstFair_46 : decode cX11_firstFair 46 = .ok (.iload_n 3, 1) := dk_iload_n_3 (by decide +kernel)
theorem dX11_firstFair_47 : decode cX11_firstFair 47 = .ok (.iload 5, 2) := dk_iload (by decide +kernel)
theorem dX11_firstFair_49 : decode cX11_firstFair 49 = .ok (.iload 4, 2) := dk_iload (by decide +kernel)
theorem dX11_firstFair_51 : decode cX11_firstFair 51 = .ok (.invokestatic 390, 3) := dk_invokestatic (by decide +kernel)
theorem dX11_firstFair_54 : decode cX11_firstFair 54 = .ok (.istore 7, 2) := dk_istore (by decide +kernel)
theorem dX11_firstFair_56 : decode cX11_firstFair 56 = .ok (.iload 7, 2) := dk_iload (by decide +kernel)
theorem dX11_firstFair_58 : decode cX11_firstFair 58 = .ok (.bipush (-9), 2) := dk_bipush (by decide +kernel)
theorem dX11_firstFair_60 : decode cX11_firstFair 60 = .ok (.if_icmp .eq 6, 3) := dk_if_icmp_eq (by decide +kernel)
theorem dX11_firstFair_63 : decode cX11_firstFair 63 = .ok (.iload 7, 2) := dk_iload (by decide +kernel)
theorem dX11_firstFair_65 : decode cX11_firstFair 65 = .ok (.ireturn, 1) := dk_ireturn (by decide +kernel)
theorem dX11_firstFair_66 : decode cX11_firstFair 66 = .ok (.iinc 6 1, 3) := dk_iinc (by decide +kernel)
theorem dX11_firstFair_69 : decode cX11_firstFair 69 = .ok (.goto (-33), 3) := dk_goto (by decide +kernel)
theorem dX11_firstFair_72 : decode cX11_firstFair 72 = .ok (.bipush (-9), 2) := dk_bipush (by decide +kernel)
theorem dX11_firstFair_74 : decode cX11_firstFair 74 = .ok (.ireturn, 1) := dk_ireturn (by decide +kernel)
set_option maxHeartbeats 4000000 in
set_option maxRecDepth 100000 in
theorem c_X11_count (l : Launch) (g : gG) (J : Nat → Nat → Int32) (L : Nat → Nat → Int64) (I : Nat → Nat → Nat → Int32) (P : Nat → Nat → Nat → Option Nat) (E : Nat → Option Nat) (N : Nat → Nat) (dy : List (Nat × Nat)) (sz : Nat) (a0 : Int32) (hwf : WXF g J P E N dy) : Met l yX11_count (WS yX11_count cX11_count 2 (some .int)) (RM (5) 0 0) (PC g [.ref (g.2.2.1 12), .int a0] ((J, L, I, P, E, N), sgX g ++ dy) sz) (va_Qi (fun (r : Int32) (u : Unit) => True) (fun u t => at_ g (FR g ((J, L, I, P, E, N), sgX g ++ dy) sz) ((J, L, I, P, E, N), sgX g ++ dy) t) (FR g ((J, L, I, P, E, N), sgX g ++ dy) sz)) 0 0 (FR g ((J, L, I, P, E, N), sgX g ++ dy) sz) := by
  refine ent (by decide +kernel) (Nat.le_of_ble_eq_true rfl) ?_
  intro p e s m below meth c ls hsz C hW hr hlocks hname hl
  generalize FR g ((J, L, I, P, E, N), sgX g ++ dy) sz = A at C hW ⊢
  have hx := C.1.1
  have hb := C.1.2.1
  have hts := C.1.2.2.2.2
  have hl : lv_has ls 2 [(0, .ref (g.2.2.1 12)), (1, .int a0)] := hl
  obtain ⟨H, hH⟩ : ∃ H : Heap, H = s.heap := ⟨_, rfl⟩
  obtain ⟨locs, hlocs⟩ : ∃ q : List Loc, q = [] := ⟨_, rfl⟩
  have hW : WB g A s.heap H locs (J, L, I, P, E, N) (sgX g ++ dy) := by rw [hH, hlocs]; exact hW
  refine start_ hH hlocs ?_
  refine lv_iload_n hx hb dX11_count_0 rfl (lv_at hl 1 rfl) ?_
  rcases Int.lt_or_le a0.toInt 0 with c1 | c1
  · refine lv_tableOut (tgt := 199) hx hb dX11_count_1 (Or.inl c1) (by decide) ?_
    refine lv_aload_n hx hb dX11_count_199 rfl (lv_at hl 0 rfl) ?_
    refine lv_iload_n hx hb dX11_count_200 rfl (lv_at hl 1 rfl) ?_
    refine ci_ C hW (runV (x := (g.2.2.1 12)) (As := [.int a0]) (rest := []) (T := ((J, L, I, P, E, N), sgX g ++ dy)) C hW (c_X11_refusedSoFar l g J L I P E N dy H.size a0 hwf) mi_X11_refusedSoFar tw_1013 (recv_ (T := ((J, L, I, P, E, N), sgX g ++ dy)) C hW (mx_ rfl) rfl rfl) ⟨rfl, rfl, Nat.le_of_ble_eq_true rfl, Nat.le_of_ble_eq_true rfl⟩ rfl hl.1 rfl (Nat.le_of_ble_eq_true rfl) dX11_count_201 ⟨Nat.le_of_ble_eq_true rfl, Nat.le_of_ble_eq_true rfl⟩) (fun r2 u2 H locs hp2 hW => ?_)
    have hW : WB g A s.heap H locs (J, L, I, P, E, N) (sgX g ++ dy) := hW
    exact end_i C hr hlocks () hW trivial dX11_count_204
  · rcases Int.lt_or_le 18 a0.toInt with c1b | c1b
    · refine lv_tableOut (tgt := 199) hx hb dX11_count_1 (Or.inr c1b) (by decide) ?_
      refine lv_aload_n hx hb dX11_count_199 rfl (lv_at hl 0 rfl) ?_
      refine lv_iload_n hx hb dX11_count_200 rfl (lv_at hl 1 rfl) ?_
      refine ci_ C hW (runV (x := (g.2.2.1 12)) (As := [.int a0]) (rest := []) (T := ((J, L, I, P, E, N), sgX g ++ dy)) C hW (c_X11_refusedSoFar l g J L I P E N dy H.size a0 hwf) mi_X11_refusedSoFar tw_1013 (recv_ (T := ((J, L, I, P, E, N), sgX g ++ dy)) C hW (mx_ rfl) rfl rfl) ⟨rfl, rfl, Nat.le_of_ble_eq_true rfl, Nat.le_of_ble_eq_true rfl⟩ rfl hl.1 rfl (Nat.le_of_ble_eq_true rfl) dX11_count_201 ⟨Nat.le_of_ble_eq_true rfl, Nat.le_of_ble_eq_true rfl⟩) (fun r3 u3 H locs hp3 hW => ?_)
      have hW : WB g A s.heap H locs (J, L, I, P, E, N) (sgX g ++ dy) := hW
      exact end_i C hr hlocks () hW trivial dX11_count_204
    · rcases (show a0.toInt = 0 ∨ a0.toInt = 1 ∨ a0.toInt = 2 ∨ a0.toInt = 3 ∨ a0.toInt = 4 ∨ a0.toInt = 5 ∨ a0.toInt = 6 ∨ a0.toInt = 7 ∨ a0.toInt = 8 ∨ a0.toInt = 9 ∨ a0.toInt = 10 ∨ a0.toInt = 11 ∨ a0.toInt = 12 ∨ a0.toInt = 13 ∨ a0.toInt = 14 ∨ a0.toInt = 15 ∨ a0.toInt = 16 ∨ a0.toInt = 17 ∨ a0.toInt = 18 by omega) with c1k | c1k | c1k | c1k | c1k | c1k | c1k | c1k | c1k | c1k | c1k | c1k | c1k | c1k | c1k | c1k | c1k | c1k | c1k
      · refine lv_tableIn (off := 91) (tgt := 92) hx hb dX11_count_1 (Int.not_lt.mpr c1) (Int.not_lt.mpr c1b) (by rw [c1k]; rfl) (by decide) ?_
        refine lv_aload_n hx hb dX11_count_92 rfl (lv_at hl 0 rfl) ?_
        refine rg_12_1 C hW (mx_ rfl) tw_365 dX11_count_93 ?_
        refine rg_3_1 C hW (mx_ rfl) tw_278 dX11_count_96 ?_
        exact end_i C hr hlocks () hW trivial dX11_count_99
      · refine lv_tableIn (off := 99) (tgt := 100) hx hb dX11_count_1 (Int.not_lt.mpr c1) (Int.not_lt.mpr c1b) (by rw [c1k]; rfl) (by decide) ?_
        refine lv_aload_n hx hb dX11_count_100 rfl (lv_at hl 0 rfl) ?_
        refine rg_12_0 C hW (mx_ rfl) tw_364 dX11_count_101 ?_
        refine rg_4_0 C hW (mx_ rfl) tw_233 dX11_count_104 ?_
        refine ci_ C hW (runV (x := (g.2.2.1 20)) (As := []) (rest := []) (T := ((J, L, I, P, E, N), sgX g ++ dy)) C hW (c_Jx4a65c_size_8abf5 l g J L I P E N dy H.size 20 rfl ) mi_Jx4a65c_size_8abf5 tw_485 (recv_ (T := ((J, L, I, P, E, N), sgX g ++ dy)) C hW (mx_ rfl) (cel_list rfl) rfl) ⟨rfl, rfl, Nat.le_of_ble_eq_true rfl, Nat.le_of_ble_eq_true rfl⟩ rfl hl.1 rfl (Nat.le_of_ble_eq_true rfl) dX11_count_107 ⟨Nat.le_of_ble_eq_true rfl, Nat.le_of_ble_eq_true rfl⟩) (fun r4 u4 H locs hp4 hW => ?_)
        have hc4 : ((r4 = J 20 2)) := hp4
        clear hp4
        have hr4 : r4 = J 20 2 := hc4
        refine lv_as (J 20 2) hr4 ?_
        have hW : WB g A s.heap H locs (J, L, I, P, E, N) (sgX g ++ dy) := hW
        exact end_i C hr hlocks () hW trivial dX11_count_110
      · refine lv_tableIn (off := 110) (tgt := 111) hx hb dX11_count_1 (Int.not_lt.mpr c1) (Int.not_lt.mpr c1b) (by rw [c1k]; rfl) (by decide) ?_
        refine lv_aload_n hx hb dX11_count_111 rfl (lv_at hl 0 rfl) ?_
        refine rg_12_0 C hW (mx_ rfl) tw_364 dX11_count_112 ?_
        refine rg_4_2 C hW (mx_ rfl) tw_237 dX11_count_115 ?_
        refine ci_ C hW (runV (x := (g.2.2.1 22)) (As := []) (rest := []) (T := ((J, L, I, P, E, N), sgX g ++ dy)) C hW (c_Jx4a65c_size_8abf5 l g J L I P E N dy H.size 22 rfl ) mi_Jx4a65c_size_8abf5 tw_485 (recv_ (T := ((J, L, I, P, E, N), sgX g ++ dy)) C hW (mx_ rfl) (cel_list rfl) rfl) ⟨rfl, rfl, Nat.le_of_ble_eq_true rfl, Nat.le_of_ble_eq_true rfl⟩ rfl hl.1 rfl (Nat.le_of_ble_eq_true rfl) dX11_count_118 ⟨Nat.le_of_ble_eq_true rfl, Nat.le_of_ble_eq_true rfl⟩) (fun r5 u5 H locs hp5 hW => ?_)
        have hc5 : ((r5 = J 22 2)) := hp5
        clear hp5
        have hr5 : r5 = J 22 2 := hc5
        refine lv_as (J 22 2) hr5 ?_
        have hW : WB g A s.heap H locs (J, L, I, P, E, N) (sgX g ++ dy) := hW
        exact end_i C hr hlocks () hW trivial dX11_count_121
      · refine lv_tableIn (off := 121) (tgt := 122) hx hb dX11_count_1 (Int.not_lt.mpr c1) (Int.not_lt.mpr c1b) (by rw [c1k]; rfl) (by decide) ?_
        refine lv_aload_n hx hb dX11_count_122 rfl (lv_at hl 0 rfl) ?_
        refine rg_12_2 C hW (mx_ rfl) tw_366 dX11_count_123 ?_
        refine ci_ C hW (runV (x := (g.2.2.1 24)) (As := []) (rest := []) (T := ((J, L, I, P, E, N), sgX g ++ dy)) C hW (c_Jx4a65c_size_8abf5 l g J L I P E N dy H.size 24 rfl ) mi_Jx4a65c_size_8abf5 tw_485 (recv_ (T := ((J, L, I, P, E, N), sgX g ++ dy)) C hW (mx_ rfl) (cel_list rfl) rfl) ⟨rfl, rfl, Nat.le_of_ble_eq_true rfl, Nat.le_of_ble_eq_true rfl⟩ rfl hl.1 rfl (Nat.le_of_ble_eq_true rfl) dX11_count_126 ⟨Nat.le_of_ble_eq_true rfl, Nat.le_of_ble_eq_true rfl⟩) (fun r6 u6 H locs hp6 hW => ?_)
        have hc6 : ((r6 = J 24 2)) := hp6
        clear hp6
        have hr6 : r6 = J 24 2 := hc6
        refine lv_as (J 24 2) hr6 ?_
        have hW : WB g A s.heap H locs (J, L, I, P, E, N) (sgX g ++ dy) := hW
        exact end_i C hr hlocks () hW trivial dX11_count_129
      · refine lv_tableIn (off := 129) (tgt := 130) hx hb dX11_count_1 (Int.not_lt.mpr c1) (Int.not_lt.mpr c1b) (by rw [c1k]; rfl) (by decide) ?_
        refine lv_aload_n hx hb dX11_count_130 rfl (lv_at hl 0 rfl) ?_
        refine rg_12_0 C hW (mx_ rfl) tw_364 dX11_count_131 ?_
        refine rg_4_1 C hW (mx_ rfl) tw_235 dX11_count_134 ?_
        refine ci_ C hW (runV (x := (g.2.2.1 21)) (As := []) (rest := []) (T := ((J, L, I, P, E, N), sgX g ++ dy)) C hW (c_Jx4a65c_size_8abf5 l g J L I P E N dy H.size 21 rfl ) mi_Jx4a65c_size_8abf5 tw_485 (recv_ (T := ((J, L, I, P, E, N), sgX g ++ dy)) C hW (mx_ rfl) (cel_list rfl) rfl) ⟨rfl, rfl, Nat.le_of_ble_eq_true rfl, Nat.le_of_ble_eq_true rfl⟩ rfl hl.1 rfl (Nat.le_of_ble_eq_true rfl) dX11_count_137 ⟨Nat.le_of_ble_eq_true rfl, Nat.le_of_ble_eq_true rfl⟩) (fun r7 u7 H locs hp7 hW => ?_)
        have hc7 : ((r7 = J 21 2)) := hp7
        clear hp7
        have hr7 : r7 = J 21 2 := hc7
        refine lv_as (J 21 2) hr7 ?_
        have hW : WB g A s.heap H locs (J, L, I, P, E, N) (sgX g ++ dy) := hW
        exact end_i C hr hlocks () hW trivial dX11_count_140
      · refine lv_tableIn (off := 140) (tgt := 141) hx hb dX11_count_1 (Int.not_lt.mpr c1) (Int.not_lt.mpr c1b) (by rw [c1k]; rfl) (by decide) ?_
        refine lv_aload_n hx hb dX11_count_141 rfl (lv_at hl 0 rfl) ?_
        refine rg_12_3 C hW (mx_ rfl) tw_367 dX11_count_142 ?_
        refine ci_ C hW (runV (x := (g.2.2.1 25)) (As := []) (rest := []) (T := ((J, L, I, P, E, N), sgX g ++ dy)) C hW (c_Jx4a65c_size_8abf5 l g J L I P E N dy H.size 25 rfl ) mi_Jx4a65c_size_8abf5 tw_485 (recv_ (T := ((J, L, I, P, E, N), sgX g ++ dy)) C hW (mx_ rfl) (cel_list rfl) rfl) ⟨rfl, rfl, Nat.le_of_ble_eq_true rfl, Nat.le_of_ble_eq_true rfl⟩ rfl hl.1 rfl (Nat.le_of_ble_eq_true rfl) dX11_count_145 ⟨Nat.le_of_ble_eq_true rfl, Nat.le_of_ble_eq_true rfl⟩) (fun r8 u8 H locs hp8 hW => ?_)
        have hc8 : ((r8 = J 25 2)) := hp8
        clear hp8
        have hr8 : r8 = J 25 2 := hc8
        refine lv_as (J 25 2) hr8 ?_
        have hW : WB g A s.heap H locs (J, L, I, P, E, N) (sgX g ++ dy) := hW
        exact end_i C hr hlocks () hW trivial dX11_count_148
      · refine lv_tableIn (off := 148) (tgt := 149) hx hb dX11_count_1 (Int.not_lt.mpr c1) (Int.not_lt.mpr c1b) (by rw [c1k]; rfl) (by decide) ?_
        refine lv_aload_n hx hb dX11_count_149 rfl (lv_at hl 0 rfl) ?_
        refine rg_12_4 C hW (mx_ rfl) tw_368 dX11_count_150 ?_
        refine ci_ C hW (runV (x := (g.2.2.1 26)) (As := []) (rest := []) (T := ((J, L, I, P, E, N), sgX g ++ dy)) C hW (c_Jx4a65c_size_8abf5 l g J L I P E N dy H.size 26 rfl ) mi_Jx4a65c_size_8abf5 tw_485 (recv_ (T := ((J, L, I, P, E, N), sgX g ++ dy)) C hW (mx_ rfl) (cel_list rfl) rfl) ⟨rfl, rfl, Nat.le_of_ble_eq_true rfl, Nat.le_of_ble_eq_true rfl⟩ rfl hl.1 rfl (Nat.le_of_ble_eq_true rfl) dX11_count_153 ⟨Nat.le_of_ble_eq_true rfl, Nat.le_of_ble_eq_true rfl⟩) (fun r9 u9 H locs hp9 hW => ?_)
        have hc9 : ((r9 = J 26 2)) := hp9
        clear hp9
        have hr9 : r9 = J 26 2 := hc9
        refine lv_as (J 26 2) hr9 ?_
        have hW : WB g A s.heap H locs (J, L, I, P, E, N) (sgX g ++ dy) := hW
        exact end_i C hr hlocks () hW trivial dX11_count_156
      · refine lv_tableIn (off := 156) (tgt := 157) hx hb dX11_count_1 (Int.not_lt.mpr c1) (Int.not_lt.mpr c1b) (by rw [c1k]; rfl) (by decide) ?_
        refine lv_aload_n hx hb dX11_count_157 rfl (lv_at hl 0 rfl) ?_
        refine rg_12_10 C hW (mx_ rfl) tw_374 dX11_count_158 ?_
        exact end_i C hr hlocks () hW trivial dX11_count_161
      · refine lv_tableIn (off := 161) (tgt := 162) hx hb dX11_count_1 (Int.not_lt.mpr c1) (Int.not_lt.mpr c1b) (by rw [c1k]; rfl) (by decide) ?_
        refine lv_aload_n hx hb dX11_count_162 rfl (lv_at hl 0 rfl) ?_
        refine rg_12_1 C hW (mx_ rfl) tw_365 dX11_count_163 ?_
        refine rg_3_2 C hW (mx_ rfl) tw_280 dX11_count_166 ?_
        exact end_i C hr hlocks () hW trivial dX11_count_169
      · refine lv_tableIn (off := 169) (tgt := 170) hx hb dX11_count_1 (Int.not_lt.mpr c1) (Int.not_lt.mpr c1b) (by rw [c1k]; rfl) (by decide) ?_
        refine lv_aload_n hx hb dX11_count_170 rfl (lv_at hl 0 rfl) ?_
        refine rg_12_5 C hW (mx_ rfl) tw_369 dX11_count_171 ?_
        refine rg_11_2 C hW (mx_ rfl) tw_303 dX11_count_174 ?_
        exact end_i C hr hlocks () hW trivial dX11_count_177
      · refine lv_tableIn (off := 177) (tgt := 178) hx hb dX11_count_1 (Int.not_lt.mpr c1) (Int.not_lt.mpr c1b) (by rw [c1k]; rfl) (by decide) ?_
        refine lv_aload_n hx hb dX11_count_178 rfl (lv_at hl 0 rfl) ?_
        refine rg_12_11 C hW (mx_ rfl) tw_375 dX11_count_179 ?_
        exact end_i C hr hlocks () hW trivial dX11_count_182
      · refine lv_tableIn (off := 198) (tgt := 199) hx hb dX11_count_1 (Int.not_lt.mpr c1) (Int.not_lt.mpr c1b) (by rw [c1k]; rfl) (by decide) ?_
        refine lv_aload_n hx hb dX11_count_199 rfl (lv_at hl 0 rfl) ?_
        refine lv_iload_n hx hb dX11_count_200 rfl (lv_at hl 1 rfl) ?_
        refine ci_ C hW (runV (x := (g.2.2.1 12)) (As := [.int a0]) (rest := []) (T := ((J, L, I, P, E, N), sgX g ++ dy)) C hW (c_X11_refusedSoFar l g J L I P E N dy H.size a0 hwf) mi_X11_refusedSoFar tw_1013 (recv_ (T := ((J, L, I, P, E, N), sgX g ++ dy)) C hW (mx_ rfl) rfl rfl) ⟨rfl, rfl, Nat.le_of_ble_eq_true rfl, Nat.le_of_ble_eq_true rfl⟩ rfl hl.1 rfl (Nat.le_of_ble_eq_true rfl) dX11_count_201 ⟨Nat.le_of_ble_eq_true rfl, Nat.le_of_ble_eq_true rfl⟩) (fun r10 u10 H locs hp10 hW => ?_)
        have hW : WB g A s.heap H locs (J, L, I, P, E, N) (sgX g ++ dy) := hW
        exact end_i C hr hlocks () hW trivial dX11_count_204
      · refine lv_tableIn (off := 198) (tgt := 199) hx hb dX11_count_1 (Int.not_lt.mpr c1) (Int.not_lt.mpr c1b) (by rw [c1k]; rfl) (by decide) ?_
        refine lv_aload_n hx hb dX11_count_199 rfl (lv_at hl 0 rfl) ?_
        refine lv_iload_n hx hb dX11_count_200 rfl (lv_at hl 1 rfl) ?_
        refine ci_ C hW (runV (x := (g.2.2.1 12)) (As := [.int a0]) (rest := []) (T := ((J, L, I, P, E, N), sgX g ++ dy)) C hW (c_X11_refusedSoFar l g J L I P E N dy H.size a0 hwf) mi_X11_refusedSoFar tw_1013 (recv_ (T := ((J, L, I, P, E, N), sgX g ++ dy)) C hW (mx_ rfl) rfl rfl) ⟨rfl, rfl, Nat.le_of_ble_eq_true rfl, Nat.le_of_ble_eq_true rfl⟩ rfl hl.1 rfl (Nat.le_of_ble_eq_true rfl) dX11_count_201 ⟨Nat.le_of_ble_eq_true rfl, Nat.le_of_ble_eq_true rfl⟩) (fun r11 u11 H locs hp11 hW => ?_)
        have hW : WB g A s.heap H locs (J, L, I, P, E, N) (sgX g ++ dy) := hW
        exact end_i C hr hlocks () hW trivial dX11_count_204
      · refine lv_tableIn (off := 198) (tgt := 199) hx hb dX11_count_1 (Int.not_lt.mpr c1) (Int.not_lt.mpr c1b) (by rw [c1k]; rfl) (by decide) ?_
        refine lv_aload_n hx hb dX11_count_199 rfl (lv_at hl 0 rfl) ?_
        refine lv_iload_n hx hb dX11_count_200 rfl (lv_at hl 1 rfl) ?_
        refine ci_ C hW (runV (x := (g.2.2.1 12)) (As := [.int a0]) (rest := []) (T := ((J, L, I, P, E, N), sgX g ++ dy)) C hW (c_X11_refusedSoFar l g J L I P E N dy H.size a0 hwf) mi_X11_refusedSoFar tw_1013 (recv_ (T := ((J, L, I, P, E, N), sgX g ++ dy)) C hW (mx_ rfl) rfl rfl) ⟨rfl, rfl, Nat.le_of_ble_eq_true rfl, Nat.le_of_ble_eq_true rfl⟩ rfl hl.1 rfl (Nat.le_of_ble_eq_true rfl) dX11_count_201 ⟨Nat.le_of_ble_eq_true rfl, Nat.le_of_ble_eq_true rfl⟩) (fun r12 u12 H locs hp12 hW => ?_)
        have hW : WB g A s.heap H locs (J, L, I, P, E, N) (sgX g ++ dy) := hW
        exact end_i C hr hlocks () hW trivial dX11_count_204
      · refine lv_tableIn (off := 198) (tgt := 199) hx hb dX11_count_1 (Int.not_lt.mpr c1) (Int.not_lt.mpr c1b) (by rw [c1k]; rfl) (by decide) ?_
        refine lv_aload_n hx hb dX11_count_199 rfl (lv_at hl 0 rfl) ?_
        refine lv_iload_n hx hb dX11_count_200 rfl (lv_at hl 1 rfl) ?_
        refine ci_ C hW (runV (x := (g.2.2.1 12)) (As := [.int a0]) (rest := []) (T := ((J, L, I, P, E, N), sgX g ++ dy)) C hW (c_X11_refusedSoFar l g J L I P E N dy H.size a0 hwf) mi_X11_refusedSoFar tw_1013 (recv_ (T := ((J, L, I, P, E, N), sgX g ++ dy)) C hW (mx_ rfl) rfl rfl) ⟨rfl, rfl, Nat.le_of_ble_eq_true rfl, Nat.le_of_ble_eq_true rfl⟩ rfl hl.1 rfl (Nat.le_of_ble_eq_true rfl) dX11_count_201 ⟨Nat.le_of_ble_eq_true rfl, Nat.le_of_ble_eq_true rfl⟩) (fun r13 u13 H locs hp13 hW => ?_)
        have hW : WB g A s.heap H locs (J, L, I, P, E, N) (sgX g ++ dy) := hW
        exact end_i C hr hlocks () hW trivial dX11_count_204
      · refine lv_tableIn (off := 198) (tgt := 199) hx hb dX11_count_1 (Int.not_lt.mpr c1) (Int.not_lt.mpr c1b) (by rw [c1k]; rfl) (by decide) ?_
        refine lv_aload_n hx hb dX11_count_199 rfl (lv_at hl 0 rfl) ?_
        refine lv_iload_n hx hb dX11_count_200 rfl (lv_at hl 1 rfl) ?_
        refine ci_ C hW (runV (x := (g.2.2.1 12)) (As := [.int a0]) (rest := []) (T := ((J, L, I, P, E, N), sgX g ++ dy)) C hW (c_X11_refusedSoFar l g J L I P E N dy H.size a0 hwf) mi_X11_refusedSoFar tw_1013 (recv_ (T := ((J, L, I, P, E, N), sgX g ++ dy)) C hW (mx_ rfl) rfl rfl) ⟨rfl, rfl, Nat.le_of_ble_eq_true rfl, Nat.le_of_ble_eq_true rfl⟩ rfl hl.1 rfl (Nat.le_of_ble_eq_true rfl) dX11_count_201 ⟨Nat.le_of_ble_eq_true rfl, Nat.le_of_ble_eq_true rfl⟩) (fun r14 u14 H locs hp14 hW => ?_)
        have hW : WB g A s.heap H locs (J, L, I, P, E, N) (sgX g ++ dy) := hW
        exact end_i C hr hlocks () hW trivial dX11_count_204
      · refine lv_tableIn (off := 198) (tgt := 199) hx hb dX11_count_1 (Int.not_lt.mpr c1) (Int.not_lt.mpr c1b) (by rw [c1k]; rfl) (by decide) ?_
        refine lv_aload_n hx hb dX11_count_199 rfl (lv_at hl 0 rfl) ?_
        refine lv_iload_n hx hb dX11_count_200 rfl (lv_at hl 1 rfl) ?_
        refine ci_ C hW (runV (x := (g.2.2.1 12)) (As := [.int a0]) (rest := []) (T := ((J, L, I, P, E, N), sgX g ++ dy)) C hW (c_X11_refusedSoFar l g J L I P E N dy H.size a0 hwf) mi_X11_refusedSoFar tw_1013 (recv_ (T := ((J, L, I, P, E, N), sgX g ++ dy)) C hW (mx_ rfl) rfl rfl) ⟨rfl, rfl, Nat.le_of_ble_eq_true rfl, Nat.le_of_ble_eq_true rfl⟩ rfl hl.1 rfl (Nat.le_of_ble_eq_true rfl) dX11_count_201 ⟨Nat.le_of_ble_eq_true rfl, Nat.le_of_ble_eq_true rfl⟩) (fun r15 u15 H locs hp15 hW => ?_)
        have hW : WB g A s.heap H locs (J, L, I, P, E, N) (sgX g ++ dy) := hW
        exact end_i C hr hlocks () hW trivial dX11_count_204
      · refine lv_tableIn (off := 182) (tgt := 183) hx hb dX11_count_1 (Int.not_lt.mpr c1) (Int.not_lt.mpr c1b) (by rw [c1k]; rfl) (by decide) ?_
        refine lv_aload_n hx hb dX11_count_183 rfl (lv_at hl 0 rfl) ?_
        refine rg_12_0 C hW (mx_ rfl) tw_364 dX11_count_184 ?_
        refine ci_ C hW (runV (x := (g.2.2.1 4)) (As := []) (rest := []) (T := ((J, L, I, P, E, N), sgX g ++ dy)) C hW (c_X3_complaints l g J L I P E N dy H.size  hwf) mi_X3_complaints tw_1009 (recv_ (T := ((J, L, I, P, E, N), sgX g ++ dy)) C hW (mx_ rfl) rfl rfl) ⟨rfl, rfl, Nat.le_of_ble_eq_true rfl, Nat.le_of_ble_eq_true rfl⟩ rfl hl.1 rfl (Nat.le_of_ble_eq_true rfl) dX11_count_187 ⟨Nat.le_of_ble_eq_true rfl, Nat.le_of_ble_eq_true rfl⟩) (fun r16 u16 H locs hp16 hW => ?_)
        have hW : WB g A s.heap H locs (J, L, I, P, E, N) (sgX g ++ dy) := hW
        exact end_i C hr hlocks () hW trivial dX11_count_190
      · refine lv_tableIn (off := 190) (tgt := 191) hx hb dX11_count_1 (Int.not_lt.mpr c1) (Int.not_lt.mpr c1b) (by rw [c1k]; rfl) (by decide) ?_
        refine lv_aload_n hx hb dX11_count_191 rfl (lv_at hl 0 rfl) ?_
        refine rg_12_1 C hW (mx_ rfl) tw_365 dX11_count_192 ?_
        refine rg_3_3 C hW (mx_ rfl) tw_282 dX11_count_195 ?_
        exact end_i C hr hlocks () hW trivial dX11_count_198

set_option maxHeartbeats 4000000 in
set_option maxRecDepth 100000 in
theorem c_X11_evenUntil (l : Launch) (g : gG) (J : Nat → Nat → Int32) (L : Nat → Nat → Int64) (I : Nat → Nat → Nat → Int32) (P : Nat → Nat → Nat → Option Nat) (E : Nat → Option Nat) (N : Nat → Nat) (dy : List (Nat × Nat)) (sz : Nat) (a0 : Nat) (hm0 : (9, a0) ∈ dy) (a1 : Int32) (hwf : WXF g J P E N dy) : Met l yX11_evenUntil (WS yX11_evenUntil cX11_evenUntil 6 (some .int)) (RM (4) 0 0) (PC g [.ref (g.2.2.1 12), .ref a0, .int a1] ((J, L, I, P, E, N), sgX g ++ dy) sz) (va_Qi (fun (r : Int32) (u : Unit) => True) (fun u t => at_ g (FR g ((J, L, I, P, E, N), sgX g ++ dy) sz) ((J, L, I, P, E, N), sgX g ++ dy) t) (FR g ((J, L, I, P, E, N), sgX g ++ dy) sz)) 0 0 (FR g ((J, L, I, P, E, N), sgX g ++ dy) sz) := by
  refine ent (by decide +kernel) (Nat.le_of_ble_eq_true rfl) ?_
  intro p e s m below meth c ls hsz C hW hr hlocks hname hl
  generalize FR g ((J, L, I, P, E, N), sgX g ++ dy) sz = A at C hW ⊢
  have hx := C.1.1
  have hb := C.1.2.1
  have hts := C.1.2.2.2.2
  have hl : lv_has ls 6 [(0, .ref (g.2.2.1 12)), (1, .ref a0), (2, .int a1)] := hl
  obtain ⟨H, hH⟩ : ∃ H : Heap, H = s.heap := ⟨_, rfl⟩
  obtain ⟨locs, hlocs⟩ : ∃ q : List Loc, q = [] := ⟨_, rfl⟩
  have hW : WB g A s.heap H locs (J, L, I, P, E, N) (sgX g ++ dy) := by rw [hH, hlocs]; exact hW
  obtain ⟨h25a, h25b, -⟩ := hwf.2.1.2.1
  refine start_ hH hlocs ?_
  refine lv_aload_n hx hb dX11_evenUntil_0 rfl (lv_at hl 1 rfl) ?_
  refine rg_9_1 C hW (List.mem_append_right _ hm0) tw_425 dX11_evenUntil_1 ?_
  refine lv_topi (fun x1 (e1 : x1 = I 9 1 a0) => ?_)
  have t1 : x1.toInt = (I 9 1 a0).toInt := by rw [e1]
  refine lv_iload_n hx hb dX11_evenUntil_4 rfl (lv_at hl 2 rfl) ?_
  refine lv_bipush (v := 60) hx hb dX11_evenUntil_5 (by decide) ?_
  refine lv_idiv hx hb dX11_evenUntil_7 (by decide) ?_
  refine lv_topi (fun x2 (e2 : x2 = a1 / 60) => ?_)
  have t2 : x2.toInt = a1.toInt.tdiv 60 := tdiv e2 rfl kp60 (by decide)
  refine lv_bipush (v := 60) hx hb dX11_evenUntil_8 (by decide) ?_
  refine lv_imul hx hb dX11_evenUntil_10 ?_
  refine lv_topi (fun x3 (e3 : x3 = x2 * 60) => ?_)
  refine lv_bipush (v := 60) hx hb dX11_evenUntil_11 (by decide) ?_
  refine lv_iadd hx hb dX11_evenUntil_13 ?_
  refine lv_topi (fun x4 (e4 : x4 = x3 + 60) => ?_)
  refine lv_iconst (v := 1) hx hb dX11_evenUntil_14 (by decide) ?_
  refine lv_isub hx hb dX11_evenUntil_15 ?_
  refine lv_topi (fun x5 (e5 : x5 = x4 - 1) => ?_)
  refine va_mmin hx hb (C.1.2.2.1.trans hl.1.symm) C.1.2.2.2.1 (hts _ tw_843) (hts _ tw_225) (hts _ tw_74) (hts _ tw_226) (Nat.le_of_ble_eq_true rfl) (Nat.le_of_ble_eq_true rfl) (Nat.le_of_ble_eq_true rfl) (Nat.le_of_ble_eq_true rfl) dX11_evenUntil_16 ?_
  refine lv_topi (fun x6 (e6 : x6 = if x5 < x1 then x5 else x1) => ?_)
  have t6 : x6.toInt = min x1.toInt x5.toInt := tmin e6 rfl rfl
  refine lv_istore_n (lv' := [(3, .int x6), (0, .ref (g.2.2.1 12)), (1, .ref a0), (2, .int a1)]) hx hb dX11_evenUntil_19 rfl hl (by decide) rfl (fun ls hl => ?_)
  refine lv_iconst (v := 0) hx hb dX11_evenUntil_20 (by decide) ?_
  refine lv_istore (lv' := [(4, .int 0), (3, .int x6), (0, .ref (g.2.2.1 12)), (1, .ref a0), (2, .int a1)]) hx hb dX11_evenUntil_21 hl (by decide) rfl (fun ls hl => ?_)
  have loop23 : ∀ (n : Nat) (m3 : Int32) (m4 : Int32) (H : Heap) (locs : List Loc) (ls : Array Slot), ((J 25 2).toInt - m4.toInt).toNat < n → 0 ≤ m4.toInt → WB g A s.heap H locs (J, L, I, P, E, N) (sgX g ++ dy) → lv_has ls 6 [(4, .int m4), (3, .int m3), (0, .ref (g.2.2.1 12)), (1, .ref a0), (2, .int a1)] → W p l e (RM (4) 0 0) s m ([.ref (g.2.2.1 12), .ref a0, .int a1] : List Value).toArray below meth c H locs 0 0 (MQ below (va_Qi (fun (r : Int32) (u : Unit) => True) (fun u t => at_ g A ((J, L, I, P, E, N), sgX g ++ dy) t) A) ([.ref (g.2.2.1 12), .ref a0, .int a1] : List Value).toArray s 0 0 A) (F0 m 23 ls []) := by
    intro n
    induction n with
    | zero => intro m3 m4 H locs ls hmeas; exact absurd hmeas (Nat.not_lt_zero _)
    | succ n ih =>
      intro m3 m4 H locs ls hmeas hi hW hl
      refine lv_iload hx hb dX11_evenUntil_23 (lv_at hl 0 rfl) ?_
      refine lv_aload_n hx hb dX11_evenUntil_25 rfl (lv_at hl 2 rfl) ?_
      refine rg_12_3 C hW (mx_ rfl) tw_367 dX11_evenUntil_26 ?_
      refine ci_ C hW (runV (x := (g.2.2.1 25)) (As := []) (rest := [.int m4]) (T := ((J, L, I, P, E, N), sgX g ++ dy)) C hW (c_Jx4a65c_size_8abf5 l g J L I P E N dy H.size 25 rfl ) mi_Jx4a65c_size_8abf5 tw_485 (recv_ (T := ((J, L, I, P, E, N), sgX g ++ dy)) C hW (mx_ rfl) (cel_list rfl) rfl) ⟨rfl, rfl, Nat.le_of_ble_eq_true rfl, Nat.le_of_ble_eq_true rfl⟩ rfl hl.1 rfl (Nat.le_of_ble_eq_true rfl) dX11_evenUntil_29 ⟨Nat.le_of_ble_eq_true rfl, Nat.le_of_ble_eq_true rfl⟩) (fun r7 u7 H locs hp7 hW => ?_)
      have hc7 : ((r7 = J 25 2)) := hp7
      clear hp7
      have hr7 : r7 = J 25 2 := hc7
      refine lv_as (J 25 2) hr7 ?_
      have hW : WB g A s.heap H locs (J, L, I, P, E, N) (sgX g ++ dy) := hW
      refine lv_icmp_ge (tgt := 75) hx hb dX11_evenUntil_32 (by decide) (fun c8 => ?_) (fun c8 => ?_)
      · have c8 : (J 25 2).toInt ≤ m4.toInt := tle rfl rfl c8
        refine lv_iload_n hx hb dX11_evenUntil_75 rfl (lv_at hl 1 rfl) ?_
        exact end_i C hr hlocks () hW trivial dX11_evenUntil_76
      · have c8 : m4.toInt < (J 25 2).toInt := tnle rfl rfl c8
        refine lv_aload_n hx hb dX11_evenUntil_35 rfl (lv_at hl 2 rfl) ?_
        refine rg_12_3 C hW (mx_ rfl) tw_367 dX11_evenUntil_36 ?_
        refine lv_iload hx hb dX11_evenUntil_39 (lv_at hl 0 rfl) ?_
        refine cq_ C hW (runV (x := (g.2.2.1 25)) (As := [.int m4]) (rest := []) (T := ((J, L, I, P, E, N), sgX g ++ dy)) C hW ((c_Jx4a65c_get_915e3 10) l g J L I P E N dy H.size 25 rfl m4 (show LWF g J P E N dy 25 10 from hwf.2.1.2.1) (show 0 ≤ m4.toInt ∧ m4.toInt < (J 25 2).toInt from by omega)) mi_Jx4a65c_get_915e3 tw_618 (recv_ (T := ((J, L, I, P, E, N), sgX g ++ dy)) C hW (mx_ rfl) (cel_list rfl) rfl) ⟨rfl, rfl, Nat.le_of_ble_eq_true rfl, Nat.le_of_ble_eq_true rfl⟩ rfl hl.1 rfl (Nat.le_of_ble_eq_true rfl) dX11_evenUntil_41 ⟨Nat.le_of_ble_eq_true rfl, Nat.le_of_ble_eq_true rfl⟩) (fun q9 u9 H locs hp9 hW => ?_)
        have hq9 : (q9 = some (elt E P 25 m4.toNatClampNeg)) := hp9
        clear hp9
        have hW : WB g A s.heap H locs (J, L, I, P, E, N) (sgX g ++ dy) := hW
        subst hq9
        obtain ⟨o9, ho9⟩ : ∃ z : Nat, z = elt E P 25 m4.toNatClampNeg := ⟨_, rfl⟩
        have hm9 : (10, o9) ∈ dy := by rw [ho9]; exact (lw_mem (er := 10) hwf.2.1.2.1 (show (m4.toNatClampNeg : Int) < (J 25 2).toInt from by have := tcl m4; omega))
        refine lv_asv (v' := .ref o9) (by rw [ho9]; rfl) ?_
        refine g_cast C hW (List.mem_append_right _ hm9) rfl rfl tw_662 dX11_evenUntil_44 ?_
        refine rg_10_1 C hW (List.mem_append_right _ hm9) tw_803 dX11_evenUntil_47 ?_
        refine lv_topi (fun x10 (e10 : x10 = I 10 1 o9) => ?_)
        have t10 : x10.toInt = (I 10 1 o9).toInt := by rw [e10]
        refine lv_istore (lv' := [(5, .int x10), (4, .int m4), (3, .int m3), (0, .ref (g.2.2.1 12)), (1, .ref a0), (2, .int a1)]) hx hb dX11_evenUntil_50 hl (by decide) rfl (fun ls hl => ?_)
        refine lv_iload hx hb dX11_evenUntil_52 (lv_at hl 0 rfl) ?_
        refine lv_iload_n hx hb dX11_evenUntil_54 rfl (lv_at hl 5 rfl) ?_
        refine lv_icmp_le (tgt := 69) hx hb dX11_evenUntil_55 (by decide) (fun c11 => ?_) (fun c11 => ?_)
        · have c11 : x10.toInt ≤ a1.toInt := tle rfl rfl c11
          obtain ⟨x12, e12⟩ : ∃ y : Int32, y = m4 + 1 := ⟨_, rfl⟩
          refine lv_iinc (v := x12) (lv' := [(4, .int x12), (5, .int x10), (3, .int m3), (0, .ref (g.2.2.1 12)), (1, .ref a0), (2, .int a1)]) hx hb dX11_evenUntil_69 hl (k := 1) rfl (by rw [e12]; rfl) (by decide) rfl (fun ls hl => ?_)
          try have t12 : x12.toInt = m4.toInt + 1 := tadd e12 rfl kp1 (by omega)
          refine lv_goto (tgt := 23) hx hb dX11_evenUntil_72 (by decide) ?_
          refine ih m3 x12 H locs ls ?_ ?_ hW (lv_sub hl [0, 2, 3, 4, 5] rfl)
          · show ((J 25 2).toInt - x12.toInt).toNat < n
            omega
          · show 0 ≤ x12.toInt
            first | omega | exact hi | assumption
        · have c11 : a1.toInt < x10.toInt := tnle rfl rfl c11
          refine lv_iload hx hb dX11_evenUntil_58 (lv_at hl 0 rfl) ?_
          refine lv_iload_n hx hb dX11_evenUntil_60 rfl (lv_at hl 2 rfl) ?_
          refine lv_icmp_gt (tgt := 69) hx hb dX11_evenUntil_61 (by decide) (fun c13 => ?_) (fun c13 => ?_)
          · have c13 : m3.toInt < x10.toInt := tlt rfl rfl c13
            obtain ⟨x14, e14⟩ : ∃ y : Int32, y = m4 + 1 := ⟨_, rfl⟩
            refine lv_iinc (v := x14) (lv' := [(4, .int x14), (5, .int x10), (3, .int m3), (0, .ref (g.2.2.1 12)), (1, .ref a0), (2, .int a1)]) hx hb dX11_evenUntil_69 hl (k := 1) rfl (by rw [e14]; rfl) (by decide) rfl (fun ls hl => ?_)
            try have t14 : x14.toInt = m4.toInt + 1 := tadd e14 rfl kp1 (by omega)
            refine lv_goto (tgt := 23) hx hb dX11_evenUntil_72 (by decide) ?_
            refine ih m3 x14 H locs ls ?_ ?_ hW (lv_sub hl [0, 2, 3, 4, 5] rfl)
            · show ((J 25 2).toInt - x14.toInt).toNat < n
              omega
            · show 0 ≤ x14.toInt
              first | omega | exact hi | assumption
          · have c13 : x10.toInt ≤ m3.toInt := tnlt rfl rfl c13
            refine lv_iload hx hb dX11_evenUntil_64 (lv_at hl 0 rfl) ?_
            refine lv_iconst (v := 1) hx hb dX11_evenUntil_66 (by decide) ?_
            refine lv_isub hx hb dX11_evenUntil_67 ?_
            refine lv_topi (fun x15 (e15 : x15 = x10 - 1) => ?_)
            refine lv_istore_n (lv' := [(3, .int x15), (5, .int x10), (4, .int m4), (0, .ref (g.2.2.1 12)), (1, .ref a0), (2, .int a1)]) hx hb dX11_evenUntil_68 rfl hl (by decide) rfl (fun ls hl => ?_)
            obtain ⟨x16, e16⟩ : ∃ y : Int32, y = m4 + 1 := ⟨_, rfl⟩
            refine lv_iinc (v := x16) (lv' := [(4, .int x16), (3, .int x15), (5, .int x10), (0, .ref (g.2.2.1 12)), (1, .ref a0), (2, .int a1)]) hx hb dX11_evenUntil_69 hl (k := 2) rfl (by rw [e16]; rfl) (by decide) rfl (fun ls hl => ?_)
            try have t16 : x16.toInt = m4.toInt + 1 := tadd e16 rfl kp1 (by omega)
            refine lv_goto (tgt := 23) hx hb dX11_evenUntil_72 (by decide) ?_
            refine ih x15 x16 H locs ls ?_ ?_ hW (lv_sub hl [0, 1, 3, 4, 5] rfl)
            · show ((J 25 2).toInt - x16.toInt).toNat < n
              omega
            · show 0 ≤ x16.toInt
              first | omega | exact hi | assumption
  -- into the loop
  refine loop23 (((J 25 2).toInt - (0 : Int32).toInt).toNat + 1) x6 0 H locs ls ?_ ?_ hW (lv_sub hl [0, 1, 2, 3, 4] rfl)
  · exact Nat.lt_succ_self _
  · show 0 ≤ (0 : Int32).toInt
    try rw [kp0]
    first | omega | exact hi | assumption

set_option maxHeartbeats 4000000 in
set_option maxRecDepth 100000 in
theorem c_X11_fairOrder (l : Launch) (g : gG) (J : Nat → Nat → Int32) (L : Nat → Nat → Int64) (I : Nat → Nat → Nat → Int32) (P : Nat → Nat → Nat → Option Nat) (E : Nat → Option Nat) (N : Nat → Nat) (dy : List (Nat × Nat)) (sz : Nat) (a0 : Int32) (a1 : Int32) (a2 : Int32) (a3 : Int32)  : Met l yX11_fairOrder (WS yX11_fairOrder cX11_fairOrder 12 (some .int)) (RM (1) 0 0) (PC g [.int a0, .int a1, .int a2, .int a3] ((J, L, I, P, E, N), sgX g ++ dy) sz) (va_Qi (fun (r : Int32) (u : Unit) => True) (fun u t => at_ g (FR g ((J, L, I, P, E, N), sgX g ++ dy) sz) ((J, L, I, P, E, N), sgX g ++ dy) t) (FR g ((J, L, I, P, E, N), sgX g ++ dy) sz)) 0 0 (FR g ((J, L, I, P, E, N), sgX g ++ dy) sz) := by
  refine ent (by decide +kernel) (Nat.le_of_ble_eq_true rfl) ?_
  intro p e s m below meth c ls hsz C hW hr hlocks hname hl
  generalize FR g ((J, L, I, P, E, N), sgX g ++ dy) sz = A at C hW ⊢
  have hx := C.1.1
  have hb := C.1.2.1
  have hts := C.1.2.2.2.2
  have hl : lv_has ls 12 [(0, .int a0), (1, .int a1), (2, .int a2), (3, .int a3)] := hl
  obtain ⟨H, hH⟩ : ∃ H : Heap, H = s.heap := ⟨_, rfl⟩
  obtain ⟨locs, hlocs⟩ : ∃ q : List Loc, q = [] := ⟨_, rfl⟩
  have hW : WB g A s.heap H locs (J, L, I, P, E, N) (sgX g ++ dy) := by rw [hH, hlocs]; exact hW
  refine start_ hH hlocs ?_
  refine lv_iload_n hx hb dX11_fairOrder_0 rfl (lv_at hl 0 rfl) ?_
  refine lv_istore (lv' := [(4, .int a0), (0, .int a0), (1, .int a1), (2, .int a2), (3, .int a3)]) hx hb dX11_fairOrder_1 hl (by decide) rfl (fun ls hl => ?_)
  refine lv_bipush (v := (-9)) hx hb dX11_fairOrder_3 (by decide) ?_
  refine lv_istore (lv' := [(5, .int (-9)), (4, .int a0), (0, .int a0), (1, .int a1), (2, .int a2), (3, .int a3)]) hx hb dX11_fairOrder_5 hl (by decide) rfl (fun ls hl => ?_)
  refine lv_iconst (v := 0) hx hb dX11_fairOrder_7 (by decide) ?_
  refine lv_istore (lv' := [(6, .int 0), (5, .int (-9)), (4, .int a0), (0, .int a0), (1, .int a1), (2, .int a2), (3, .int a3)]) hx hb dX11_fairOrder_8 hl (by decide) rfl (fun ls hl => ?_)
  refine lv_iconst (v := 1) hx hb dX11_fairOrder_10 (by decide) ?_
  refine lv_istore (lv' := [(7, .int 1), (6, .int 0), (5, .int (-9)), (4, .int a0), (0, .int a0), (1, .int a1), (2, .int a2), (3, .int a3)]) hx hb dX11_fairOrder_11 hl (by decide) rfl (fun ls hl => ?_)
  refine lv_iconst (v := 0) hx hb dX11_fairOrder_13 (by decide) ?_
  refine lv_istore (lv' := [(8, .int 0), (7, .int 1), (6, .int 0), (5, .int (-9)), (4, .int a0), (0, .int a0), (1, .int a1), (2, .int a2), (3, .int a3)]) hx hb dX11_fairOrder_14 hl (by decide) rfl (fun ls hl => ?_)
  refine lv_iconst (v := 0) hx hb dX11_fairOrder_16 (by decide) ?_
  refine lv_istore (lv' := [(9, .int 0), (8, .int 0), (7, .int 1), (6, .int 0), (5, .int (-9)), (4, .int a0), (0, .int a0), (1, .int a1), (2, .int a2), (3, .int a3)]) hx hb dX11_fairOrder_17 hl (by decide) rfl (fun ls hl => ?_)
  have loop19 : ∀ (n : Nat) (m4 : Int32) (m5 : Int32) (m6 : Int32) (m7 : Int32) (m8 : Int32) (m9 : Int32) (H : Heap) (locs : List Loc) (ls : Array Slot), (5 - m9.toInt).toNat < n → 0 ≤ m9.toInt → WB g A s.heap H locs (J, L, I, P, E, N) (sgX g ++ dy) → lv_has ls 12 [(9, .int m9), (8, .int m8), (7, .int m7), (6, .int m6), (5, .int m5), (4, .int m4), (0, .int a0), (1, .int a1), (2, .int a2), (3, .int a3)] → W p l e (RM (1) 0 0) s m ([.int a0, .int a1, .int a2, .int a3] : List Value).toArray below meth c H locs 0 0 (MQ below (va_Qi (fun (r : Int32) (u : Unit) => True) (fun u t => at_ g A ((J, L, I, P, E, N), sgX g ++ dy) t) A) ([.int a0, .int a1, .int a2, .int a3] : List Value).toArray s 0 0 A) (F0 m 19 ls []) := by
    intro n
    induction n with
    | zero => intro m4 m5 m6 m7 m8 m9 H locs ls hmeas; exact absurd hmeas (Nat.not_lt_zero _)
    | succ n ih =>
      intro m4 m5 m6 m7 m8 m9 H locs ls hmeas hi hW hl
      refine lv_iload hx hb dX11_fairOrder_19 (lv_at hl 0 rfl) ?_
      refine lv_iconst (v := 5) hx hb dX11_fairOrder_21 (by decide) ?_
      refine lv_icmp_ge (tgt := 126) hx hb dX11_fairOrder_22 (by decide) (fun c1 => ?_) (fun c1 => ?_)
      · have c1 : 5 ≤ m9.toInt := tle kp5 rfl c1
        refine lv_iload hx hb dX11_fairOrder_126 (lv_at hl 1 rfl) ?_
        refine lv_iload_n hx hb dX11_fairOrder_128 rfl (lv_at hl 7 rfl) ?_
        refine lv_bipush (v := 10) hx hb dX11_fairOrder_129 (by decide) ?_
        refine lv_irem hx hb dX11_fairOrder_131 (by decide) ?_
        refine lv_topi (fun x2 (e2 : x2 = a1 - a1 / 10 * 10) => ?_)
        have t2 : x2.toInt = a1.toInt.tmod 10 := tmod e2 rfl kp10 (by decide) (by decide)
        refine lv_bipush (v := 10) hx hb dX11_fairOrder_132 (by decide) ?_
        refine lv_iload_n hx hb dX11_fairOrder_134 rfl (lv_at hl 8 rfl) ?_
        refine lv_bipush (v := 10) hx hb dX11_fairOrder_135 (by decide) ?_
        refine lv_irem hx hb dX11_fairOrder_137 (by decide) ?_
        refine lv_topi (fun x3 (e3 : x3 = a2 - a2 / 10 * 10) => ?_)
        have t3 : x3.toInt = a2.toInt.tmod 10 := tmod e3 rfl kp10 (by decide) (by decide)
        refine lv_imul hx hb dX11_fairOrder_138 ?_
        refine lv_topi (fun x4 (e4 : x4 = 10 * x3) => ?_)
        refine lv_iadd hx hb dX11_fairOrder_139 ?_
        refine lv_topi (fun x5 (e5 : x5 = x2 + x4) => ?_)
        refine lv_bipush (v := 100) hx hb dX11_fairOrder_140 (by decide) ?_
        refine lv_iload_n hx hb dX11_fairOrder_142 rfl (lv_at hl 9 rfl) ?_
        refine lv_bipush (v := 10) hx hb dX11_fairOrder_143 (by decide) ?_
        refine lv_irem hx hb dX11_fairOrder_145 (by decide) ?_
        refine lv_topi (fun x6 (e6 : x6 = a3 - a3 / 10 * 10) => ?_)
        have t6 : x6.toInt = a3.toInt.tmod 10 := tmod e6 rfl kp10 (by decide) (by decide)
        refine lv_imul hx hb dX11_fairOrder_146 ?_
        refine lv_topi (fun x7 (e7 : x7 = 100 * x6) => ?_)
        refine lv_iadd hx hb dX11_fairOrder_147 ?_
        refine lv_topi (fun x8 (e8 : x8 = x5 + x7) => ?_)
        refine lv_icmp_ne (tgt := 156) hx hb dX11_fairOrder_148 (by decide) (fun c9 => ?_) (fun c9 => ?_)
        · have c9 : ¬ m8.toInt = x8.toInt := tne rfl rfl c9
          refine lv_bipush (v := (-9)) hx hb dX11_fairOrder_156 (by decide) ?_
          exact end_i C hr hlocks () hW trivial dX11_fairOrder_158
        · have c9 : m8.toInt = x8.toInt := teq rfl rfl c9
          refine lv_iload hx hb dX11_fairOrder_151 (lv_at hl 3 rfl) ?_
          refine lv_goto (tgt := 158) hx hb dX11_fairOrder_153 (by decide) ?_
          exact end_i C hr hlocks () hW trivial dX11_fairOrder_158
      · have c1 : m9.toInt < 5 := tnle kp5 rfl c1
        refine lv_iload hx hb dX11_fairOrder_25 (lv_at hl 5 rfl) ?_
        refine lv_iconst (v := 3) hx hb dX11_fairOrder_27 (by decide) ?_
        refine lv_irem hx hb dX11_fairOrder_28 (by decide) ?_
        refine lv_topi (fun x10 (e10 : x10 = m4 - m4 / 3 * 3) => ?_)
        have t10 : x10.toInt = m4.toInt.tmod 3 := tmod e10 rfl kp3 (by decide) (by decide)
        refine lv_istore (lv' := [(10, .int x10), (9, .int m9), (8, .int m8), (7, .int m7), (6, .int m6), (5, .int m5), (4, .int m4), (0, .int a0), (1, .int a1), (2, .int a2), (3, .int a3)]) hx hb dX11_fairOrder_29 hl (by decide) rfl (fun ls hl => ?_)
        refine lv_iload hx hb dX11_fairOrder_31 (lv_at hl 0 rfl) ?_
        refine lv_iload hx hb dX11_fairOrder_33 (lv_at hl 5 rfl) ?_
        refine lv_icmp_ne (tgt := 41) hx hb dX11_fairOrder_35 (by decide) (fun c11 => ?_) (fun c11 => ?_)
        · have c11 : ¬ x10.toInt = m5.toInt := tne rfl rfl c11
          refine lv_iload hx hb dX11_fairOrder_41 (lv_at hl 0 rfl) ?_
          refine lv_if_ne (tgt := 50) hx hb dX11_fairOrder_43 (by decide) (fun c12 => ?_) (fun c12 => ?_)
          · have c12 : ¬ x10.toInt = 0 := tne rfl kp0 c12
            refine lv_iload hx hb dX11_fairOrder_50 (lv_at hl 0 rfl) ?_
            refine lv_iconst (v := 1) hx hb dX11_fairOrder_52 (by decide) ?_
            refine lv_icmp_ne (tgt := 60) hx hb dX11_fairOrder_53 (by decide) (fun c13 => ?_) (fun c13 => ?_)
            · have c13 : ¬ x10.toInt = 1 := tne rfl kp1 c13
              refine lv_iload_n hx hb dX11_fairOrder_60 rfl (lv_at hl 10 rfl) ?_
              refine lv_istore (lv' := [(11, .int a3), (10, .int x10), (9, .int m9), (8, .int m8), (7, .int m7), (6, .int m6), (5, .int m5), (4, .int m4), (0, .int a0), (1, .int a1), (2, .int a2), (3, .int a3)]) hx hb dX11_fairOrder_61 hl (by decide) rfl (fun ls hl => ?_)
              refine lv_iload hx hb dX11_fairOrder_63 (lv_at hl 5 rfl) ?_
              refine lv_iload hx hb dX11_fairOrder_65 (lv_at hl 0 rfl) ?_
              refine lv_bipush (v := 10) hx hb dX11_fairOrder_67 (by decide) ?_
              refine lv_idiv hx hb dX11_fairOrder_69 (by decide) ?_
              refine lv_topi (fun x14 (e14 : x14 = a3 / 10) => ?_)
              have t14 : x14.toInt = a3.toInt.tdiv 10 := tdiv e14 rfl kp10 (by decide)
              refine lv_iload hx hb dX11_fairOrder_70 (lv_at hl 4 rfl) ?_
              refine lv_imul hx hb dX11_fairOrder_72 ?_
              refine lv_topi (fun x15 (e15 : x15 = x14 * m7) => ?_)
              refine lv_iadd hx hb dX11_fairOrder_73 ?_
              refine lv_topi (fun x16 (e16 : x16 = m6 + x15) => ?_)
              refine lv_istore (lv' := [(6, .int x16), (11, .int a3), (10, .int x10), (9, .int m9), (8, .int m8), (7, .int m7), (5, .int m5), (4, .int m4), (0, .int a0), (1, .int a1), (2, .int a2), (3, .int a3)]) hx hb dX11_fairOrder_74 hl (by decide) rfl (fun ls hl => ?_)
              refine lv_iload hx hb dX11_fairOrder_76 (lv_at hl 4 rfl) ?_
              refine lv_iload hx hb dX11_fairOrder_78 (lv_at hl 2 rfl) ?_
              refine lv_if_ne (tgt := 87) hx hb dX11_fairOrder_80 (by decide) (fun c17 => ?_) (fun c17 => ?_)
              · have c17 : ¬ x10.toInt = 0 := tne rfl kp0 c17
                refine lv_iload hx hb dX11_fairOrder_87 (lv_at hl 2 rfl) ?_
                refine lv_iconst (v := 1) hx hb dX11_fairOrder_89 (by decide) ?_
                refine lv_icmp_ne (tgt := 98) hx hb dX11_fairOrder_90 (by decide) (fun c18 => ?_) (fun c18 => ?_)
                · have c18 : ¬ x10.toInt = 1 := tne rfl kp1 c18
                  refine lv_bipush (v := 100) hx hb dX11_fairOrder_98 (by decide) ?_
                  refine lv_iadd hx hb dX11_fairOrder_100 ?_
                  refine lv_topi (fun x19 (e19 : x19 = m8 + 100) => ?_)
                  refine lv_istore (lv' := [(8, .int x19), (6, .int x16), (11, .int a3), (10, .int x10), (9, .int m9), (7, .int m7), (5, .int m5), (4, .int m4), (0, .int a0), (1, .int a1), (2, .int a2), (3, .int a3)]) hx hb dX11_fairOrder_101 hl (by decide) rfl (fun ls hl => ?_)
                  refine lv_iload hx hb dX11_fairOrder_103 (lv_at hl 3 rfl) ?_
                  refine lv_istore (lv' := [(5, .int x10), (8, .int x19), (6, .int x16), (11, .int a3), (10, .int x10), (9, .int m9), (7, .int m7), (4, .int m4), (0, .int a0), (1, .int a1), (2, .int a2), (3, .int a3)]) hx hb dX11_fairOrder_105 hl (by decide) rfl (fun ls hl => ?_)
                  refine lv_iload hx hb dX11_fairOrder_107 (lv_at hl 7 rfl) ?_
                  refine lv_iconst (v := 3) hx hb dX11_fairOrder_109 (by decide) ?_
                  refine lv_idiv hx hb dX11_fairOrder_110 (by decide) ?_
                  refine lv_topi (fun x20 (e20 : x20 = m4 / 3) => ?_)
                  have t20 : x20.toInt = m4.toInt.tdiv 3 := tdiv e20 rfl kp3 (by decide)
                  refine lv_istore (lv' := [(4, .int x20), (5, .int x10), (8, .int x19), (6, .int x16), (11, .int a3), (10, .int x10), (9, .int m9), (7, .int m7), (0, .int a0), (1, .int a1), (2, .int a2), (3, .int a3)]) hx hb dX11_fairOrder_111 hl (by decide) rfl (fun ls hl => ?_)
                  refine lv_iload hx hb dX11_fairOrder_113 (lv_at hl 7 rfl) ?_
                  refine lv_bipush (v := 10) hx hb dX11_fairOrder_115 (by decide) ?_
                  refine lv_imul hx hb dX11_fairOrder_117 ?_
                  refine lv_topi (fun x21 (e21 : x21 = m7 * 10) => ?_)
                  refine lv_istore (lv' := [(7, .int x21), (4, .int x20), (5, .int x10), (8, .int x19), (6, .int x16), (11, .int a3), (10, .int x10), (9, .int m9), (0, .int a0), (1, .int a1), (2, .int a2), (3, .int a3)]) hx hb dX11_fairOrder_118 hl (by decide) rfl (fun ls hl => ?_)
                  obtain ⟨x22, e22⟩ : ∃ y : Int32, y = m9 + 1 := ⟨_, rfl⟩
                  refine lv_iinc (v := x22) (lv' := [(9, .int x22), (7, .int x21), (4, .int x20), (5, .int x10), (8, .int x19), (6, .int x16), (11, .int a3), (10, .int x10), (0, .int a0), (1, .int a1), (2, .int a2), (3, .int a3)]) hx hb dX11_fairOrder_120 hl (k := 7) rfl (by rw [e22]; rfl) (by decide) rfl (fun ls hl => ?_)
                  try have t22 : x22.toInt = m9.toInt + 1 := tadd e22 rfl kp1 (by omega)
                  refine lv_goto (tgt := 19) hx hb dX11_fairOrder_123 (by decide) ?_
                  refine ih x20 x10 x16 x21 x19 x22 H locs ls ?_ ?_ hW (lv_sub hl [0, 4, 1, 5, 3, 2, 8, 9, 10, 11] rfl)
                  · show (5 - x22.toInt).toNat < n
                    omega
                  · show 0 ≤ x22.toInt
                    first | omega | exact hi | assumption
                · have c18 : x10.toInt = 1 := teq rfl kp1 c18
                  exfalso; omega
              · have c17 : x10.toInt = 0 := teq rfl kp0 c17
                exfalso; omega
            · have c13 : x10.toInt = 1 := teq rfl kp1 c13
              refine lv_iload_n hx hb dX11_fairOrder_56 rfl (lv_at hl 9 rfl) ?_
              refine lv_goto (tgt := 61) hx hb dX11_fairOrder_57 (by decide) ?_
              refine lv_istore (lv' := [(11, .int a2), (10, .int x10), (9, .int m9), (8, .int m8), (7, .int m7), (6, .int m6), (5, .int m5), (4, .int m4), (0, .int a0), (1, .int a1), (2, .int a2), (3, .int a3)]) hx hb dX11_fairOrder_61 hl (by decide) rfl (fun ls hl => ?_)
              refine lv_iload hx hb dX11_fairOrder_63 (lv_at hl 5 rfl) ?_
              refine lv_iload hx hb dX11_fairOrder_65 (lv_at hl 0 rfl) ?_
              refine lv_bipush (v := 10) hx hb dX11_fairOrder_67 (by decide) ?_
              refine lv_idiv hx hb dX11_fairOrder_69 (by decide) ?_
              refine lv_topi (fun x23 (e23 : x23 = a2 / 10) => ?_)
              have t23 : x23.toInt = a2.toInt.tdiv 10 := tdiv e23 rfl kp10 (by decide)
              refine lv_iload hx hb dX11_fairOrder_70 (lv_at hl 4 rfl) ?_
              refine lv_imul hx hb dX11_fairOrder_72 ?_
              refine lv_topi (fun x24 (e24 : x24 = x23 * m7) => ?_)
              refine lv_iadd hx hb dX11_fairOrder_73 ?_
              refine lv_topi (fun x25 (e25 : x25 = m6 + x24) => ?_)
              refine lv_istore (lv' := [(6, .int x25), (11, .int a2), (10, .int x10), (9, .int m9), (8, .int m8), (7, .int m7), (5, .int m5), (4, .int m4), (0, .int a0), (1, .int a1), (2, .int a2), (3, .int a3)]) hx hb dX11_fairOrder_74 hl (by decide) rfl (fun ls hl => ?_)
              refine lv_iload hx hb dX11_fairOrder_76 (lv_at hl 4 rfl) ?_
              refine lv_iload hx hb dX11_fairOrder_78 (lv_at hl 2 rfl) ?_
              refine lv_if_ne (tgt := 87) hx hb dX11_fairOrder_80 (by decide) (fun c26 => ?_) (fun c26 => ?_)
              · have c26 : ¬ x10.toInt = 0 := tne rfl kp0 c26
                refine lv_iload hx hb dX11_fairOrder_87 (lv_at hl 2 rfl) ?_
                refine lv_iconst (v := 1) hx hb dX11_fairOrder_89 (by decide) ?_
                refine lv_icmp_ne (tgt := 98) hx hb dX11_fairOrder_90 (by decide) (fun c27 => ?_) (fun c27 => ?_)
                · have c27 : ¬ x10.toInt = 1 := tne rfl kp1 c27
                  exfalso; omega
                · have c27 : x10.toInt = 1 := teq rfl kp1 c27
                  refine lv_bipush (v := 10) hx hb dX11_fairOrder_93 (by decide) ?_
                  refine lv_goto (tgt := 100) hx hb dX11_fairOrder_95 (by decide) ?_
                  refine lv_iadd hx hb dX11_fairOrder_100 ?_
                  refine lv_topi (fun x28 (e28 : x28 = m8 + 10) => ?_)
                  refine lv_istore (lv' := [(8, .int x28), (6, .int x25), (11, .int a2), (10, .int x10), (9, .int m9), (7, .int m7), (5, .int m5), (4, .int m4), (0, .int a0), (1, .int a1), (2, .int a2), (3, .int a3)]) hx hb dX11_fairOrder_101 hl (by decide) rfl (fun ls hl => ?_)
                  refine lv_iload hx hb dX11_fairOrder_103 (lv_at hl 3 rfl) ?_
                  refine lv_istore (lv' := [(5, .int x10), (8, .int x28), (6, .int x25), (11, .int a2), (10, .int x10), (9, .int m9), (7, .int m7), (4, .int m4), (0, .int a0), (1, .int a1), (2, .int a2), (3, .int a3)]) hx hb dX11_fairOrder_105 hl (by decide) rfl (fun ls hl => ?_)
                  refine lv_iload hx hb dX11_fairOrder_107 (lv_at hl 7 rfl) ?_
                  refine lv_iconst (v := 3) hx hb dX11_fairOrder_109 (by decide) ?_
                  refine lv_idiv hx hb dX11_fairOrder_110 (by decide) ?_
                  refine lv_topi (fun x29 (e29 : x29 = m4 / 3) => ?_)
                  have t29 : x29.toInt = m4.toInt.tdiv 3 := tdiv e29 rfl kp3 (by decide)
                  refine lv_istore (lv' := [(4, .int x29), (5, .int x10), (8, .int x28), (6, .int x25), (11, .int a2), (10, .int x10), (9, .int m9), (7, .int m7), (0, .int a0), (1, .int a1), (2, .int a2), (3, .int a3)]) hx hb dX11_fairOrder_111 hl (by decide) rfl (fun ls hl => ?_)
                  refine lv_iload hx hb dX11_fairOrder_113 (lv_at hl 7 rfl) ?_
                  refine lv_bipush (v := 10) hx hb dX11_fairOrder_115 (by decide) ?_
                  refine lv_imul hx hb dX11_fairOrder_117 ?_
                  refine lv_topi (fun x30 (e30 : x30 = m7 * 10) => ?_)
                  refine lv_istore (lv' := [(7, .int x30), (4, .int x29), (5, .int x10), (8, .int x28), (6, .int x25), (11, .int a2), (10, .int x10), (9, .int m9), (0, .int a0), (1, .int a1), (2, .int a2), (3, .int a3)]) hx hb dX11_fairOrder_118 hl (by decide) rfl (fun ls hl => ?_)
                  obtain ⟨x31, e31⟩ : ∃ y : Int32, y = m9 + 1 := ⟨_, rfl⟩
                  refine lv_iinc (v := x31) (lv' := [(9, .int x31), (7, .int x30), (4, .int x29), (5, .int x10), (8, .int x28), (6, .int x25), (11, .int a2), (10, .int x10), (0, .int a0), (1, .int a1), (2, .int a2), (3, .int a3)]) hx hb dX11_fairOrder_120 hl (k := 7) rfl (by rw [e31]; rfl) (by decide) rfl (fun ls hl => ?_)
                  try have t31 : x31.toInt = m9.toInt + 1 := tadd e31 rfl kp1 (by omega)
                  refine lv_goto (tgt := 19) hx hb dX11_fairOrder_123 (by decide) ?_
                  refine ih x29 x10 x25 x30 x28 x31 H locs ls ?_ ?_ hW (lv_sub hl [0, 4, 1, 5, 3, 2, 8, 9, 10, 11] rfl)
                  · show (5 - x31.toInt).toNat < n
                    omega
                  · show 0 ≤ x31.toInt
                    first | omega | exact hi | assumption
              · have c26 : x10.toInt = 0 := teq rfl kp0 c26
                exfalso; omega
          · have c12 : x10.toInt = 0 := teq rfl kp0 c12
            refine lv_iload_n hx hb dX11_fairOrder_46 rfl (lv_at hl 8 rfl) ?_
            refine lv_goto (tgt := 61) hx hb dX11_fairOrder_47 (by decide) ?_
            refine lv_istore (lv' := [(11, .int a1), (10, .int x10), (9, .int m9), (8, .int m8), (7, .int m7), (6, .int m6), (5, .int m5), (4, .int m4), (0, .int a0), (1, .int a1), (2, .int a2), (3, .int a3)]) hx hb dX11_fairOrder_61 hl (by decide) rfl (fun ls hl => ?_)
            refine lv_iload hx hb dX11_fairOrder_63 (lv_at hl 5 rfl) ?_
            refine lv_iload hx hb dX11_fairOrder_65 (lv_at hl 0 rfl) ?_
            refine lv_bipush (v := 10) hx hb dX11_fairOrder_67 (by decide) ?_
            refine lv_idiv hx hb dX11_fairOrder_69 (by decide) ?_
            refine lv_topi (fun x32 (e32 : x32 = a1 / 10) => ?_)
            have t32 : x32.toInt = a1.toInt.tdiv 10 := tdiv e32 rfl kp10 (by decide)
            refine lv_iload hx hb dX11_fairOrder_70 (lv_at hl 4 rfl) ?_
            refine lv_imul hx hb dX11_fairOrder_72 ?_
            refine lv_topi (fun x33 (e33 : x33 = x32 * m7) => ?_)
            refine lv_iadd hx hb dX11_fairOrder_73 ?_
            refine lv_topi (fun x34 (e34 : x34 = m6 + x33) => ?_)
            refine lv_istore (lv' := [(6, .int x34), (11, .int a1), (10, .int x10), (9, .int m9), (8, .int m8), (7, .int m7), (5, .int m5), (4, .int m4), (0, .int a0), (1, .int a1), (2, .int a2), (3, .int a3)]) hx hb dX11_fairOrder_74 hl (by decide) rfl (fun ls hl => ?_)
            refine lv_iload hx hb dX11_fairOrder_76 (lv_at hl 4 rfl) ?_
            refine lv_iload hx hb dX11_fairOrder_78 (lv_at hl 2 rfl) ?_
            refine lv_if_ne (tgt := 87) hx hb dX11_fairOrder_80 (by decide) (fun c35 => ?_) (fun c35 => ?_)
            · have c35 : ¬ x10.toInt = 0 := tne rfl kp0 c35
              exfalso; omega
            · have c35 : x10.toInt = 0 := teq rfl kp0 c35
              refine lv_iconst (v := 1) hx hb dX11_fairOrder_83 (by decide) ?_
              refine lv_goto (tgt := 100) hx hb dX11_fairOrder_84 (by decide) ?_
              refine lv_iadd hx hb dX11_fairOrder_100 ?_
              refine lv_topi (fun x36 (e36 : x36 = m8 + 1) => ?_)
              refine lv_istore (lv' := [(8, .int x36), (6, .int x34), (11, .int a1), (10, .int x10), (9, .int m9), (7, .int m7), (5, .int m5), (4, .int m4), (0, .int a0), (1, .int a1), (2, .int a2), (3, .int a3)]) hx hb dX11_fairOrder_101 hl (by decide) rfl (fun ls hl => ?_)
              refine lv_iload hx hb dX11_fairOrder_103 (lv_at hl 3 rfl) ?_
              refine lv_istore (lv' := [(5, .int x10), (8, .int x36), (6, .int x34), (11, .int a1), (10, .int x10), (9, .int m9), (7, .int m7), (4, .int m4), (0, .int a0), (1, .int a1), (2, .int a2), (3, .int a3)]) hx hb dX11_fairOrder_105 hl (by decide) rfl (fun ls hl => ?_)
              refine lv_iload hx hb dX11_fairOrder_107 (lv_at hl 7 rfl) ?_
              refine lv_iconst (v := 3) hx hb dX11_fairOrder_109 (by decide) ?_
              refine lv_idiv hx hb dX11_fairOrder_110 (by decide) ?_
              refine lv_topi (fun x37 (e37 : x37 = m4 / 3) => ?_)
              have t37 : x37.toInt = m4.toInt.tdiv 3 := tdiv e37 rfl kp3 (by decide)
              refine lv_istore (lv' := [(4, .int x37), (5, .int x10), (8, .int x36), (6, .int x34), (11, .int a1), (10, .int x10), (9, .int m9), (7, .int m7), (0, .int a0), (1, .int a1), (2, .int a2), (3, .int a3)]) hx hb dX11_fairOrder_111 hl (by decide) rfl (fun ls hl => ?_)
              refine lv_iload hx hb dX11_fairOrder_113 (lv_at hl 7 rfl) ?_
              refine lv_bipush (v := 10) hx hb dX11_fairOrder_115 (by decide) ?_
              refine lv_imul hx hb dX11_fairOrder_117 ?_
              refine lv_topi (fun x38 (e38 : x38 = m7 * 10) => ?_)
              refine lv_istore (lv' := [(7, .int x38), (4, .int x37), (5, .int x10), (8, .int x36), (6, .int x34), (11, .int a1), (10, .int x10), (9, .int m9), (0, .int a0), (1, .int a1), (2, .int a2), (3, .int a3)]) hx hb dX11_fairOrder_118 hl (by decide) rfl (fun ls hl => ?_)
              obtain ⟨x39, e39⟩ : ∃ y : Int32, y = m9 + 1 := ⟨_, rfl⟩
              refine lv_iinc (v := x39) (lv' := [(9, .int x39), (7, .int x38), (4, .int x37), (5, .int x10), (8, .int x36), (6, .int x34), (11, .int a1), (10, .int x10), (0, .int a0), (1, .int a1), (2, .int a2), (3, .int a3)]) hx hb dX11_fairOrder_120 hl (k := 7) rfl (by rw [e39]; rfl) (by decide) rfl (fun ls hl => ?_)
              try have t39 : x39.toInt = m9.toInt + 1 := tadd e39 rfl kp1 (by omega)
              refine lv_goto (tgt := 19) hx hb dX11_fairOrder_123 (by decide) ?_
              refine ih x37 x10 x34 x38 x36 x39 H locs ls ?_ ?_ hW (lv_sub hl [0, 4, 1, 5, 3, 2, 8, 9, 10, 11] rfl)
              · show (5 - x39.toInt).toNat < n
                omega
              · show 0 ≤ x39.toInt
                first | omega | exact hi | assumption
        · have c11 : x10.toInt = m5.toInt := teq rfl rfl c11
          refine lv_bipush (v := (-9)) hx hb dX11_fairOrder_38 (by decide) ?_
          exact end_i C hr hlocks () hW trivial dX11_fairOrder_40
  -- into the loop
  refine loop19 ((5 - (0 : Int32).toInt).toNat + 1) a0 (-9) 0 1 0 0 H locs ls ?_ ?_ hW (lv_sub hl [0, 1, 2, 3, 4, 5, 6, 7, 8, 9] rfl)
  · exact Nat.lt_succ_self _
  · show 0 ≤ (0 : Int32).toInt
    try rw [kn9]
    try rw [kp0]
    try rw [kp1]
    try rw [kp0]
    try rw [kp0]
    first | omega | exact hi | assumption

set_option maxHeartbeats 4000000 in
set_option maxRecDepth 100000 in
theorem c_X11_firstFair (l : Launch) (g : gG) (J : Nat → Nat → Int32) (L : Nat → Nat → Int64) (I : Nat → Nat → Nat → Int32) (P : Nat → Nat → Nat → Option Nat) (E : Nat → Option Nat) (N : Nat → Nat) (dy : List (Nat × Nat)) (sz : Nat) (a0 : Int32) (a1 : Int32) (a2 : Int32)  : Met l yX11_firstFair (WS yX11_firstFair cX11_firstFair 8 (some .int)) (RM (2) 0 0) (PC g [.int a0, .int a1, .int a2] ((J, L, I, P, E, N), sgX g ++ dy) sz) (va_Qi (fun (r : Int32) (u : Unit) => True) (fun u t => at_ g (FR g ((J, L, I, P, E, N), sgX g ++ dy) sz) ((J, L, I, P, E, N), sgX g ++ dy) t) (FR g ((J, L, I, P, E, N), sgX g ++ dy) sz)) 0 0 (FR g ((J, L, I, P, E, N), sgX g ++ dy) sz) := by
  refine ent (by decide +kernel) (Nat.le_of_ble_eq_true rfl) ?_
  intro p e s m below meth c ls hsz C hW hr hlocks hname hl
  generalize FR g ((J, L, I, P, E, N), sgX g ++ dy) sz = A at C hW ⊢
  have hx := C.1.1
  have hb := C.1.2.1
  have hts := C.1.2.2.2.2
  have hl : lv_has ls 8 [(0, .int a0), (1, .int a1), (2, .int a2)] := hl
  obtain ⟨H, hH⟩ : ∃ H : Heap, H = s.heap := ⟨_, rfl⟩
  obtain ⟨locs, hlocs⟩ : ∃ q : List Loc, q = [] := ⟨_, rfl⟩
  have hW : WB g A s.heap H locs (J, L, I, P, E, N) (sgX g ++ dy) := by rw [hH, hlocs]; exact hW
  refine start_ hH hlocs ?_
  refine lv_iload_n hx hb dX11_firstFair_0 rfl (lv_at hl 0 rfl) ?_
  refine lv_iload_n hx hb dX11_firstFair_1 rfl (lv_at hl 1 rfl) ?_
  refine lv_iload_n hx hb dX11_firstFair_2 rfl (lv_at hl 2 rfl) ?_
  refine va_mmin hx hb (C.1.2.2.1.trans hl.1.symm) C.1.2.2.2.1 (hts _ tw_843) (hts _ tw_225) (hts _ tw_74) (hts _ tw_226) (Nat.le_of_ble_eq_true rfl) (Nat.le_of_ble_eq_true rfl) (Nat.le_of_ble_eq_true rfl) (Nat.le_of_ble_eq_true rfl) dX11_firstFair_3 ?_
  refine lv_topi (fun x1 (e1 : x1 = if a2 < a1 then a2 else a1) => ?_)
  have t1 : x1.toInt = min a1.toInt a2.toInt := tmin e1 rfl rfl
  refine va_mmin hx hb (C.1.2.2.1.trans hl.1.symm) C.1.2.2.2.1 (hts _ tw_843) (hts _ tw_225) (hts _ tw_74) (hts _ tw_226) (Nat.le_of_ble_eq_true rfl) (Nat.le_of_ble_eq_true rfl) (Nat.le_of_ble_eq_true rfl) (Nat.le_of_ble_eq_true rfl) dX11_firstFair_6 ?_
  refine lv_topi (fun x2 (e2 : x2 = if x1 < a0 then x1 else a0) => ?_)
  have t2 : x2.toInt = min a0.toInt x1.toInt := tmin e2 rfl rfl
  refine lv_istore_n (lv' := [(3, .int x2), (0, .int a0), (1, .int a1), (2, .int a2)]) hx hb dX11_firstFair_9 rfl hl (by decide) rfl (fun ls hl => ?_)
  refine lv_iload_n hx hb dX11_firstFair_10 rfl (lv_at hl 1 rfl) ?_
  refine lv_iload_n hx hb dX11_firstFair_11 rfl (lv_at hl 2 rfl) ?_
  refine lv_iload_n hx hb dX11_firstFair_12 rfl (lv_at hl 3 rfl) ?_
  refine va_mmax hx hb (C.1.2.2.1.trans hl.1.symm) C.1.2.2.2.1 (hts _ tw_997) (hts _ tw_191) (hts _ tw_74) (hts _ tw_192) (Nat.le_of_ble_eq_true rfl) (Nat.le_of_ble_eq_true rfl) (Nat.le_of_ble_eq_true rfl) (Nat.le_of_ble_eq_true rfl) dX11_firstFair_13 ?_
  refine lv_topi (fun x3 (e3 : x3 = if a1 < a2 then a2 else a1) => ?_)
  have t3 : x3.toInt = max a1.toInt a2.toInt := tmax e3 rfl rfl
  refine va_mmax hx hb (C.1.2.2.1.trans hl.1.symm) C.1.2.2.2.1 (hts _ tw_997) (hts _ tw_191) (hts _ tw_74) (hts _ tw_192) (Nat.le_of_ble_eq_true rfl) (Nat.le_of_ble_eq_true rfl) (Nat.le_of_ble_eq_true rfl) (Nat.le_of_ble_eq_true rfl) dX11_firstFair_16 ?_
  refine lv_topi (fun x4 (e4 : x4 = if a0 < x3 then x3 else a0) => ?_)
  have t4 : x4.toInt = max a0.toInt x3.toInt := tmax e4 rfl rfl
  refine lv_istore (lv' := [(4, .int x4), (3, .int x2), (0, .int a0), (1, .int a1), (2, .int a2)]) hx hb dX11_firstFair_19 hl (by decide) rfl (fun ls hl => ?_)
  refine lv_iload_n hx hb dX11_firstFair_21 rfl (lv_at hl 2 rfl) ?_
  refine lv_iload_n hx hb dX11_firstFair_22 rfl (lv_at hl 3 rfl) ?_
  refine lv_iadd hx hb dX11_firstFair_23 ?_
  refine lv_topi (fun x5 (e5 : x5 = a0 + a1) => ?_)
  refine lv_iload_n hx hb dX11_firstFair_24 rfl (lv_at hl 4 rfl) ?_
  refine lv_iadd hx hb dX11_firstFair_25 ?_
  refine lv_topi (fun x6 (e6 : x6 = x5 + a2) => ?_)
  refine lv_iload_n hx hb dX11_firstFair_26 rfl (lv_at hl 1 rfl) ?_
  refine lv_isub hx hb dX11_firstFair_27 ?_
  refine lv_topi (fun x7 (e7 : x7 = x6 - x2) => ?_)
  refine lv_iload hx hb dX11_firstFair_28 (lv_at hl 0 rfl) ?_
  refine lv_isub hx hb dX11_firstFair_30 ?_
  refine lv_topi (fun x8 (e8 : x8 = x7 - x4) => ?_)
  refine lv_istore (lv' := [(5, .int x8), (4, .int x4), (3, .int x2), (0, .int a0), (1, .int a1), (2, .int a2)]) hx hb dX11_firstFair_31 hl (by decide) rfl (fun ls hl => ?_)
  refine lv_iconst (v := 0) hx hb dX11_firstFair_33 (by decide) ?_
  refine lv_istore (lv' := [(6, .int 0), (5, .int x8), (4, .int x4), (3, .int x2), (0, .int a0), (1, .int a1), (2, .int a2)]) hx hb dX11_firstFair_34 hl (by decide) rfl (fun ls hl => ?_)
  have loop36 : ∀ (n : Nat) (m6 : Int32) (H : Heap) (locs : List Loc) (ls : Array Slot), (243 - m6.toInt).toNat < n → 0 ≤ m6.toInt → WB g A s.heap H locs (J, L, I, P, E, N) (sgX g ++ dy) → lv_has ls 8 [(6, .int m6), (5, .int x8), (4, .int x4), (3, .int x2), (0, .int a0), (1, .int a1), (2, .int a2)] → W p l e (RM (2) 0 0) s m ([.int a0, .int a1, .int a2] : List Value).toArray below meth c H locs 0 0 (MQ below (va_Qi (fun (r : Int32) (u : Unit) => True) (fun u t => at_ g A ((J, L, I, P, E, N), sgX g ++ dy) t) A) ([.int a0, .int a1, .int a2] : List Value).toArray s 0 0 A) (F0 m 36 ls []) := by
    intro n
    induction n with
    | zero => intro m6 H locs ls hmeas; exact absurd hmeas (Nat.not_lt_zero _)
    | succ n ih =>
      intro m6 H locs ls hmeas hi hW hl
      refine lv_iload hx hb dX11_firstFair_36 (lv_at hl 0 rfl) ?_
      refine lv_sipush (v := 243) hx hb dX11_firstFair_38 (by decide) ?_
      refine lv_icmp_ge (tgt := 72) hx hb dX11_firstFair_41 (by decide) (fun c9 => ?_) (fun c9 => ?_)
      · have c9 : 243 ≤ m6.toInt := tle kp243 rfl c9
        refine lv_bipush (v := (-9)) hx hb dX11_firstFair_72 (by decide) ?_
        exact end_i C hr hlocks () hW trivial dX11_firstFair_74
      · have c9 : m6.toInt < 243 := tnle kp243 rfl c9
        refine lv_iload hx hb dX11_firstFair_44 (lv_at hl 0 rfl) ?_
        refine lv_iload_n hx hb dX11_firstFair_46 rfl (lv_at hl 3 rfl) ?_
        refine lv_iload hx hb dX11_firstFair_47 (lv_at hl 1 rfl) ?_
        refine lv_iload hx hb dX11_firstFair_49 (lv_at hl 2 rfl) ?_
        refine ci_ C hW (runS (As := [.int m6, .int x2, .int x8, .int x4]) (rest := []) (T := ((J, L, I, P, E, N), sgX g ++ dy)) C hW (c_X11_fairOrder l g J L I P E N dy H.size m6 x2 x8 x4 ) mi_X11_fairOrder tw_998 ⟨rfl, rfl, Nat.le_of_ble_eq_true rfl, Nat.le_of_ble_eq_true rfl⟩ rfl hl.1 rfl (Nat.le_of_ble_eq_true rfl) dX11_firstFair_51 ⟨Nat.le_of_ble_eq_true rfl, Nat.le_of_ble_eq_true rfl⟩) (fun r10 u10 H locs hp10 hW => ?_)
        have hW : WB g A s.heap H locs (J, L, I, P, E, N) (sgX g ++ dy) := hW
        refine lv_istore (lv' := [(7, .int r10), (6, .int m6), (5, .int x8), (4, .int x4), (3, .int x2), (0, .int a0), (1, .int a1), (2, .int a2)]) hx hb dX11_firstFair_54 hl (by decide) rfl (fun ls hl => ?_)
        refine lv_iload hx hb dX11_firstFair_56 (lv_at hl 0 rfl) ?_
        refine lv_bipush (v := (-9)) hx hb dX11_firstFair_58 (by decide) ?_
        refine lv_icmp_eq (tgt := 66) hx hb dX11_firstFair_60 (by decide) (fun c11 => ?_) (fun c11 => ?_)
        · have c11 : r10.toInt = (-9) := teq rfl kn9 c11
          obtain ⟨x12, e12⟩ : ∃ y : Int32, y = m6 + 1 := ⟨_, rfl⟩
          refine lv_iinc (v := x12) (lv' := [(6, .int x12), (7, .int r10), (5, .int x8), (4, .int x4), (3, .int x2), (0, .int a0), (1, .int a1), (2, .int a2)]) hx hb dX11_firstFair_66 hl (k := 1) rfl (by rw [e12]; rfl) (by decide) rfl (fun ls hl => ?_)
          try have t12 : x12.toInt = m6.toInt + 1 := tadd e12 rfl kp1 (by omega)
          refine lv_goto (tgt := 36) hx hb dX11_firstFair_69 (by decide) ?_
          refine ih x12 H locs ls ?_ ?_ hW (lv_sub hl [0, 2, 3, 4, 5, 6, 7] rfl)
          · show (243 - x12.toInt).toNat < n
            omega
          · show 0 ≤ x12.toInt
            first | omega | exact hi | assumption
        · have c11 : ¬ r10.toInt = (-9) := tne rfl kn9 c11
          refine lv_iload hx hb dX11_firstFair_63 (lv_at hl 0 rfl) ?_
          exact end_i C hr hlocks () hW trivial dX11_firstFair_65
  -- into the loop
  refine loop36 ((243 - (0 : Int32).toInt).toNat + 1) 0 H locs ls ?_ ?_ hW (lv_sub hl [0, 1, 2, 3, 4, 5, 6] rfl)
  · exact Nat.lt_succ_self _
  · show 0 ≤ (0 : Int32).toInt
    try rw [kp0]
    first | omega | exact hi | assumption
