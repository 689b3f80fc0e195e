theorem dX12_unit_0 : decode cX12_unit 0 = .ok (.aload_n 0, 1) := dk_aload_n_0 (by decide +kernel)
theorem dX12_unit_1 : decode cX12_unit 1 = .ok (.getfield 270, 3) := dk_getfield (by decide +kernel)
theorem dX12_unit_4 : decode cX12_unit 4 = .ok (.ifCond .ne 5, 3) := dk_ifCond_ne (by decide +kernel)
theorem dX12_unit_7 : decode cX12_unit 7 = .ok (.iconst 0, 1) := dk_iconst_0 (by decide +kernel)
theorem dX12_unit_8 : decode cX12_unit 8 = .ok (.ireturn, 1) := dk_ireturn (by decide +kernel)
theorem dX12_unit_9 : decode cX12_unit 9 = .ok (.aload_n 0, 1) := dk_aload_n_0 (by decide +kernel)
theorem dX12_unit_10 : decode cX12_unit 10 = .ok (.invokevirtual 274, 3) := dk_invokevirtual (by decide +kernel)
theorem dX12_unit_13 : decode cX12_unit 13 = .ok (.istore_n 1, 1) := dk_istore_n_1 (by decide +kernel)
theorem dX12_unit_14 : decode cX12_unit 14 = .ok (.iload_n 1, 1) := dk_iload_n_1 (by decide +kernel)
theorem dX12_unit_15 : decode cX12_unit 15 = .ok (.invokestatic 288, 3) := dk_invokestatic (by decide +kernel)
theorem dX12_unit_18 : decode cX12_unit 18 = .ok (.ifCond .eq 20, 3) := dk_ifCond_eq (by decide +kernel)
theorem dX12_unit_21 : decode cX12_unit 21 = .ok (.aload_n 0, 1) := dk_aload_n_0 (by decide +kernel)
theorem dX12_unit_22 : decode cX12_unit 22 = .ok (.dup, 1) := dk_dup (by decide +kernel)
theorem dX12_unit_23 : decode cX12_unit 23 = .ok (.getfield 257, 3) := dk_getfield (by decide +kernel)
theorem dX12_unit_26 : decode cX12_unit 26 = .ok (.iconst 1, 1) := dk_iconst_1 (by decide +kernel)
theorem dX12_unit_27 : decode cX12_unit 27 = .ok (.iadd, 1) := dk_iadd (by decide +kernel)
theorem dX12_unit_28 : decode cX12_unit 28 = .ok (.putfield 257, 3) := dk_putfield (by decide +kernel)
theorem dX12_unit_31 : decode cX12_unit 31 = .ok (.aload_n 0, 1) := dk_aload_n_0 (by decide +kernel)
theorem dX12_unit_32 : decode cX12_unit 32 = .ok (.getfield 135, 3) := dk_getfield (by decide +kernel)
theorem dX12_unit_35 : decode cX12_unit 35 = .ok (.iload_n 1, 1) := dk_iload_n_1 (by decide +kernel)
theorem dX12_unit_36 : decode cX12_unit 36 = .ok (.iaload, 1) := dk_iaload (by decide +kernel)
theorem dX12_unit_37 : decode cX12_unit 37 = .ok (.ireturn, 1) := dk_ireturn (by decide +kernel)
theorem dX12_unit_38 : decode cX12_unit 38 = .ok (.iload_n 1, 1) := dk_iload_n_1 (by decide +kernel)
theorem dX12_unit_39 : decode cX12_unit 39 = .ok (.bipush 40, 2) := dk_bipush (by decide +kernel)
theorem dX12_unit_41 : decode cX12_unit 41 = .ok (.if_icmp .ne 165, 3) := dk_if_icmp_ne (by decide +kernel)
theorem dX12_unit_44 : decode cX12_unit 44 = .ok (.aload_n 0, 1) := dk_aload_n_0 (by decide +kernel)
theorem dX12_unit_45 : decode cX12_unit 45 = .ok (.getfield 291, 3) := dk_getfield (by decide +kernel)
theorem dX12_unit_48 : decode cX12_unit 48 = .ok (.iconst 5, 1) := dk_iconst_5 (by decide +kernel)
theorem dX12_unit_49 : decode cX12_unit 49 = .ok (.if_icmp .ne 8, 3) := dk_if_icmp_ne (by decide +kernel)
theorem dX12_unit_52 : decode cX12_unit 52 = .ok (.aload_n 0, 1) := dk_aload_n_0 (by decide +kernel)
theorem dX12_unit_53 : decode cX12_unit 53 = .ok (.invokevirtual 294, 3) := dk_invokevirtual (by decide +kernel)
theorem dX12_unit_56 : decode cX12_unit 56 = .ok (.ireturn, 1) := dk_ireturn (by decide +kernel)
theorem dX12_unit_57 : decode cX12_unit 57 = .ok (.aload_n 0, 1) := dk_aload_n_0 (by decide +kernel)
theorem dX12_unit_58 : decode cX12_unit 58 = .ok (.dup, 1) := dk_dup (by decide +kernel)
theorem dX12_unit_59 : decode cX12_unit 59 = .ok (.getfield 257, 3) := dk_getfield (by decide +kernel)
theorem dX12_unit_62 : decode cX12_unit 62 = .ok (.iconst 1, 1) := dk_iconst_1 (by decide +kernel)
theorem dX12_unit_63 : decode cX12_unit 63 = .ok (.iadd, 1) := dk_iadd (by decide +kernel)
theorem dX12_unit_64 : decode cX12_unit 64 = .ok (.putfield 257, 3) := dk_putfield (by decide +kernel)
theorem dX12_unit_67 : decode cX12_unit 67 = .ok (.aload_n 0, 1) := dk_aload_n_0 (by decide +kernel)
theorem dX12_unit_68 : decode cX12_unit 68 = .ok (.dup, 1) := dk_dup (by decide +kernel)
theorem dX12_unit_69 : decode cX12_unit 69 = .ok (.getfield 291, 3) := dk_getfield (by decide +kernel)
theorem dX12_unit_72 : decode cX12_unit 72 = .ok (.iconst 1, 1) := dk_iconst_1 (by decide +kernel)
theorem dX12_unit_73 : decode cX12_unit 73 = .ok (.iadd, 1) := dk_iadd (by decide +kernel)
theorem dX12_unit_74 : decode cX12_unit 74 = .ok (.putfield 291, 3) := dk_putfield (by decide +kernel)
theorem dX12_unit_77 : decode cX12_unit 77 = .ok (.aload_n 0, 1) := dk_aload_n_0 (by decide +kernel)
theorem dX12_unit_78 : decode cX12_unit 78 = .ok (.invokevirtual 297, 3) := dk_invokevirtual (by decide +kernel)
theorem dX12_unit_81 : decode cX12_unit 81 = .ok (.istore_n 2, 1) := dk_istore_n_2 (by decide +kernel)
theorem dX12_unit_82 : decode cX12_unit 82 = .ok (.aload_n 0, 1) := dk_aload_n_0 (by decide +kernel)
theorem dX12_unit_83 : decode cX12_unit 83 = .ok (.invokevirtual 274, 3) := dk_invokevirtual (by decide +kernel)
theorem dX12_unit_86 : decode cX12_unit 86 = .ok (.istore_n 3, 1) := dk_istore_n_3 (by decide +kernel)
theorem dX12_unit_87 : decode cX12_unit 87 = .ok (.aload_n 0, 1) := dk_aload_n_0 (by decide +kernel)
theorem dX12_unit_88 : decode cX12_unit 88 = .ok (.getfield 270, 3) := dk_getfield (by decide +kernel)
theorem dX12_unit_91 : decode cX12_unit 91 = .ok (.ifCond .eq 89, 3) := dk_ifCond_eq (by decide +kernel)
theorem dX12_unit_94 : decode cX12_unit 94 = .ok (.iload_n 3, 1) := dk_iload_n_3 (by decide +kernel)
theorem dX12_unit_95 : decode cX12_unit 95 = .ok (.bipush 60, 2) := dk_bipush (by decide +kernel)
theorem dX12_unit_97 : decode cX12_unit 97 = .ok (.if_icmp .eq 15, 3) := dk_if_icmp_eq (by decide +kernel)
theorem dX12_unit_100 : decode cX12_unit 100 = .ok (.iload_n 3, 1) := dk_iload_n_3 (by decide +kernel)
theorem dX12_unit_101 : decode cX12_unit 101 = .ok (.bipush 61, 2) := dk_bipush (by decide +kernel)
theorem dX12_unit_103 : decode cX12_unit 103 = .ok (.if_icmp .eq 9, 3) := dk_if_icmp_eq (by decide +kernel)
theorem dX12_unit_106 : decode cX12_unit 106 = .ok (.iload_n 3, 1) := dk_iload_n_3 (by decide +kernel)
theorem dX12_unit_107 : decode cX12_unit 107 = .ok (.bipush 62, 2) := dk_bipush (by decide +kernel)
theorem dX12_unit_109 : decode cX12_unit 109 = .ok (.if_icmp .ne 71, 3) := dk_if_icmp_ne (by decide +kernel)
theorem dX12_unit_112 : decode cX12_unit 112 = .ok (.aload_n 0, 1) := dk_aload_n_0 (by decide +kernel)
theorem dX12_unit_113 : decode cX12_unit 113 = .ok (.dup, 1) := dk_dup (by decide +kernel)
theorem dX12_unit_114 : decode cX12_unit 114 = .ok (.getfield 257, 3) := dk_getfield (by decide +kernel)
theorem dX12_unit_117 : decode cX12_unit 117 = .ok (.iconst 1, 1) := dk_iconst_1 (by decide +kernel)
theorem dX12_unit_118 : decode cX12_unit 118 = .ok (.iadd, 1) := dk_iadd (by decide +kernel)
theorem dX12_unit_119 : decode cX12_unit 119 = .ok (.putfield 257, 3) := dk_putfield (by decide +kernel)
theorem dX12_unit_122 : decode cX12_unit 122 = .ok (.aload_n 0, 1) := dk_aload_n_0 (by decide +kernel)
theorem dX12_unit_123 : decode cX12_unit 123 = .ok (.invokevirtual 297, 3) := dk_invokevirtual (by decide +kernel)
theorem dX12_unit_126 : decode cX12_unit 126 = .ok (.istore 4, 2) := dk_istore (by decide +kernel)
theorem dX12_unit_128 : decode cX12_unit 128 = .ok (.iload_n 3, 1) := dk_iload_n_3 (by decide +kernel)
theorem dX12_unit_129 : decode cX12_unit 129 = .ok (.bipush 60, 2) := dk_bipush (by decide +kernel)
theorem dX12_unit_131 : decode cX12_unit 131 = .ok (.if_icmp .ne 17, 3) := dk_if_icmp_ne (by decide +kernel)
theorem dX12_unit_134 : decode cX12_unit 134 = .ok (.iload_n 2, 1) := dk_iload_n_2 (by decide +kernel)
theorem dX12_unit_135 : decode cX12_unit 135 = .ok (.iload 4, 2) := dk_iload (by decide +kernel)
theorem dX12_unit_137 : decode cX12_unit 137 = .ok (.if_icmp .ge 7, 3) := dk_if_icmp_ge (by decide +kernel)
theorem dX12_unit_140 : decode cX12_unit 140 = .ok (.iconst 1, 1) := dk_iconst_1 (by decide +kernel)
theorem dX12_unit_141 : decode cX12_unit 141 = .ok (.goto 38, 3) := dk_goto (by decide +kernel)
theorem dX12_unit_144 : decode cX12_unit 144 = .ok (.iconst 0, 1) := dk_iconst_0 (by decide +kernel)
theorem dX12_unit_145 : decode cX12_unit 145 = .ok (.goto 34, 3) := dk_goto (by decide +kernel)
theorem dX12_unit_148 : decode cX12_unit 148 = .ok (.iload_n 3, 1) := dk_iload_n_3 (by decide +kernel)
theorem dX12_unit_149 : decode cX12_unit 149 = .ok (.bipush 61, 2) := dk_bipush (by decide +kernel)
theorem dX12_unit_151 : decode cX12_unit 151 = .ok (.if_icmp .ne 17, 3) := dk_if_icmp_ne (by decide +kernel)
theorem dX12_unit_154 : decode cX12_unit 154 = .ok (.iload_n 2, 1) := dk_iload_n_2 (by decide +kernel)
theorem dX12_unit_155 : decode cX12_unit 155 = .ok (.iload 4, 2) := dk_iload (by decide +kernel)
theorem dX12_unit_157 : decode cX12_unit 157 = .ok (.if_icmp .ne 7, 3) := dk_if_icmp_ne (by decide +kernel)
theorem dX12_unit_160 : decode cX12_unit 160 = .ok (.iconst 1, 1) := dk_iconst_1 (by decide +kernel)
theorem dX12_unit_161 : decode cX12_unit 161 = .ok (.goto 18, 3) := dk_goto (by decide +kernel)
theorem dX12_unit_164 : decode cX12_unit 164 = .ok (.iconst 0, 1) := dk_iconst_0 (by decide +kernel)
theorem dX12_unit_165 : decode cX12_unit 165 = .ok (.goto 14, 3) := dk_goto (by decide +kernel)
theorem dX12_unit_168 : decode cX12_unit 168 = .ok (.iload_n 2, 1) := dk_iload_n_2 (by decide +kernel)
theorem dX12_unit_169 : decode cX12_unit 169 = .ok (.iload 4, 2) := dk_iload (by decide +kernel)
theorem dX12_unit_171 : decode cX12_unit 171 = .ok (.if_icmp .le 7, 3) := dk_if_icmp_le (by decide +kernel)
theorem dX12_unit_174 : decode cX12_unit 174 = .ok (.iconst 1, 1) := dk_iconst_1 (by decide +kernel)
theorem dX12_unit_175 : decode cX12_unit 175 = .ok (.goto 4, 3) := dk_goto (by decide +kernel)
theorem dX12_unit_178 : decode cX12_unit 178 = .ok (.iconst 0, 1) := dk_iconst_0 (by decide +kernel)
theorem dX12_unit_179 : decode cX12_unit 179 = .ok (.istore_n 2, 1) := dk_istore_n_2 (by decide +kernel)
theorem dX12_unit_180 : decode cX12_unit 180 = .ok (.aload_n 0, 1) := dk_aload_n_0 (by decide +kernel)
theorem dX12_unit_181 : decode cX12_unit 181 = .ok (.bipush 41, 2) := dk_bipush (by decide +kernel)
theorem dX12_unit_183 : decode cX12_unit 183 = .ok (.invokevirtual 300, 3) := dk_invokevirtual (by decide +kernel)
theorem dX12_unit_186 : decode cX12_unit 186 = .ok (.ifCond .ne 8, 3) := dk_ifCond_ne (by decide +kernel)
theorem dX12_unit_189 : decode cX12_unit 189 = .ok (.aload_n 0, 1) := dk_aload_n_0 (by decide +kernel)
theorem dX12_unit_190 : decode cX12_unit 190 = .ok (.invokevirtual 294, 3) := dk_invokevirtual (by decide +kernel)
theorem dX12_unit_193 : decode cX12_unit 193 = .ok (.ireturn, 1) := dk_ireturn (by decide +kernel)
theorem dX12_unit_194 : decode cX12_unit 194 = .ok (.aload_n 0, 1) := dk_aload_n_0 (by decide +kernel)
theorem dX12_unit_195 : decode cX12_unit 195 = .ok (.dup, 1) := dk_dup (by decide +kernel)
theorem dX12_unit_196 : decode cX12_unit 196 = .ok (.getfield 291, 3) := dk_getfield (by decide +kernel)
theorem dX12_unit_199 : decode cX12_unit 199 = .ok (.iconst 1, 1) := dk_iconst_1 (by decide +kernel)
theorem dX12_unit_200 : decode cX12_unit 200 = .ok (.isub, 1) := dk_isub (by decide +kernel)
theorem dX12_unit_201 : decode cX12_unit 201 = .ok (.putfield 291, 3) := dk_putfield (by decide +kernel)
theorem dX12_unit_204 : decode cX12_unit 204 = .ok (.iload_n 2, 1) := dk_iload_n_2 (by decide +kernel)
theorem dX12_unit_205 : decode cX12_unit 205 = .ok (.ireturn, 1) := dk_ireturn (by decide +kernel)
theorem dX12_unit_206 : decode cX12_unit 206 = .ok (.iconst 0, 1) := dk_iconst_0 (by decide +kernel)
theorem dX12_unit_207 : decode cX12_unit 207 = .ok (.istore_n 2, 1) := dk_istore_n_2 (by decide +kernel)
theorem dX12_unit_208 : decode cX12_unit 208 = .ok (.iconst 0, 1) := dk_iconst_0 (by decide +kernel)
theorem dX12_unit_209 : decode cX12_unit 209 = .ok (.istore_n 3, 1) := dk_istore_n_3 (by decide +kernel)
theorem dX12_unit_210 : decode cX12_unit 210 = .ok (.iload_n 3, 1) := dk_iload_n_3 (by decide +kernel)
theorem dX12_unit_211 : decode cX12_unit 211 = .ok (.iconst 5, 1) := dk_iconst_5 (by decide +kernel)
theorem dX12_unit_212 : decode cX12_unit 212 = .ok (.if_icmp .ge 50, 3) := dk_if_icmp_ge (by decide +kernel)
theorem dX12_unit_215 : decode cX12_unit 215 = .ok (.aload_n 0, 1) := dk_aload_n_0 (by decide +kernel)
theorem dX12_unit_216 : decode cX12_unit 216 = .ok (.invokevirtual 274, 3) := dk_invokevirtual (by decide +kernel)
theorem dX12_unit_219 : decode cX12_unit 219 = .ok (.bipush 48, 2) := dk_bipush (by decide +kernel)
theorem dX12_unit_221 : decode cX12_unit 221 = .ok (.if_icmp .lt 41, 3) := dk_if_icmp_lt (by decide +kernel)
theorem dX12_unit_224 : decode cX12_unit 224 = .ok (.aload_n 0, 1) := dk_aload_n_0 (by decide +kernel)
theorem dX12_unit_225 : decode cX12_unit 225 = .ok (.invokevirtual 274, 3) := dk_invokevirtual (by decide +kernel)
theorem dX12_unit_228 : decode cX12_unit 228 = .ok (.bipush 57, 2) := dk_bipush (by decide +kernel)
theorem dX12_unit_230 : decode cX12_unit 230 = .ok (.if_icmp .gt 32, 3) := dk_if_icmp_gt (by decide +kernel)
theorem dX12_unit_233 : decode cX12_unit 233 = .ok (.bipush 10, 2) := dk_bipush (by decide +kernel)
theorem dX12_unit_235 : decode cX12_unit 235 = .ok (.iload_n 2, 1) := dk_iload_n_2 (by decide +kernel)
theorem dX12_unit_236 : decode cX12_unit 236 = .ok (.imul, 1) := dk_imul (by decide +kernel)
theorem dX12_unit_237 : decode cX12_unit 237 = .ok (.aload_n 0, 1) := dk_aload_n_0 (by decide +kernel)
theorem dX12_unit_238 : decode cX12_unit 238 = .ok (.invokevirtual 274, 3) := dk_invokevirtual (by decide +kernel)
theorem dX12_unit_241 : decode cX12_unit 241 = .ok (.iadd, 1) := dk_iadd (by decide +kernel)
theorem dX12_unit_242 : decode cX12_unit 242 = .ok (.bipush 48, 2) := dk_bipush (by decide +kernel)
theorem dX12_unit_244 : decode cX12_unit 244 = .ok (.isub, 1) := dk_isub (by decide +kernel)
theorem dX12_unit_245 : decode cX12_unit 245 = .ok (.istore_n 2, 1) := dk_istore_n_2 (by decide +kernel)
theorem dX12_unit_246 : decode cX12_unit 246 = .ok (.aload_n 0, 1) := dk_aload_n_0 (by decide +kernel)
theorem dX12_unit_247 : decode cX12_unit 247 = .ok (.dup, 1) := dk_dup (by decide +kernel)
theorem dX12_unit_248 : decode cX12_unit 248 = .ok (.getfield 257, 3) := dk_getfield (by decide +kernel)
theorem dX12_unit_251 : decode cX12_unit 251 = .ok (.iconst 1, 1) := dk_iconst_1 (by decide +kernel)
theorem dX12_unit_252 : decode cX12_unit 252 = .ok (.iadd, 1) := dk_iadd (by decide +kernel)
theorem dX12_unit_253 : decode cX12_unit 253 = .ok (.putfield 257, 3) := dk_putfield (by decide +kernel)
theorem dX12_unit_256 : decode cX12_unit 256 = .ok (.iinc 3 1, 3) := dk_iinc (by decide +kernel)
theorem dX12_unit_259 : decode cX12_unit 259 = .ok (.goto (-49), 3) := dk_goto (by decide +kernel)
theorem dX12_unit_262 : decode cX12_unit 262 = .ok (.iload_n 3, 1) := dk_iload_n_3 (by decide +kernel)
theorem dX12_unit_263 : decode cX12_unit 263 = .ok (.ifCond .ne 10, 3) := dk_ifCond_ne (by decide +kernel)
theorem dX12_unit_266 : decode cX12_unit 266 = .ok (.aload_n 0, 1) := dk_aload_n_0 (by decide +kernel)
theorem dX12_unit_267 : decode cX12_unit 267 = .ok (.invokevirtual 294, 3) := dk_invokevirtual (by decide +kernel)
theorem dX12_unit_270 : decode cX12_unit 270 = .ok (.goto 4, 3) := dk_goto (by decide +kernel)
theorem dX12_unit_273 : decode cX12_unit 273 = .ok (.iload_n 2, 1) := dk_iload_n_2 (by decide +kernel)
theorem dX12_unit_274 : decode cX12_unit 274 = .ok (.ireturn, 1) := dk_ireturn (by decide +kernel)
theorem dX12_term_0 : decode cX12_term 0 = .ok (.aload_n 0, 1) := dk_aload_n_0 (by decide +kernel)
theorem dX12_term_1 : decode cX12_term 1 = .ok (.invokevirtual 285, 3) := dk_invokevirtual (by decide +kernel)
theorem dX12_term_4 : decode cX12_term 4 = .ok (.istore_n 1, 1) := dk_istore_n_1 (by decide +kernel)
theorem dX12_term_5 : decode cX12_term 5 = .ok (.aload_n 0, 1) := dk_aload_n_0 (by decide +kernel)
theorem dX12_term_6 : decode cX12_term 6 = .ok (.getfield 270, 3) := dk_getfield (by decide +kernel)
theorem dX12_term_9 : decode cX12_term 9 = .ok (.ifCond .eq 78, 3) := dk_ifCond_eq (by decide +kernel)
theorem dX12_term_12 : decode cX12_term 12 = .ok (.aload_n 0, 1) := dk_aload_n_0 (by decide +kernel)
theorem dX12_term_13 : decode cX12_term 13 = .ok (.invokevirtual 274, 3) := dk_invokevirtual (by decide +kernel)
theorem dX12_term_16 : decode cX12_term 16 = .ok (.bipush 42, 2) := dk_bipush (by decide +kernel)
theorem dX12_term_18 : decode cX12_term 18 = .ok (.if_icmp .eq 12, 3) := dk_if_icmp_eq (by decide +kernel)
theorem dX12_term_21 : decode cX12_term 21 = .ok (.aload_n 0, 1) := dk_aload_n_0 (by decide +kernel)
theorem dX12_term_22 : decode cX12_term 22 = .ok (.invokevirtual 274, 3) := dk_invokevirtual (by decide +kernel)
theorem dX12_term_25 : decode cX12_term 25 = .ok (.bipush 47, 2) := dk_bipush (by decide +kernel)
theorem dX12_term_27 : decode cX12_term 27 = .ok (.if_icmp .ne 60, 3) := dk_if_icmp_ne (by decide +kernel)
theorem dX12_term_30 : decode cX12_term 30 = .ok (.aload_n 0, 1) := dk_aload_n_0 (by decide +kernel)
theorem dX12_term_31 : decode cX12_term 31 = .ok (.invokevirtual 274, 3) := dk_invokevirtual (by decide +kernel)
theorem dX12_term_34 : decode cX12_term 34 = .ok (.istore_n 2, 1) := dk_istore_n_2 (by decide +kernel)
theorem dX12_term_35 : decode cX12_term 35 = .ok (.aload_n 0, 1) := dk_aload_n_0 (by decide +kernel)
theorem dX12_term_36 : decode cX12_term 36 = .ok (.dup, 1) := dk_dup (by decide +kernel)
theorem dX12_term_37 : decode cX12_term 37 = .ok (.getfield 257, 3) := dk_getfield (by decide +kernel)
theorem dX12_term_40 : decode cX12_term 40 = .ok (.iconst 1, 1) := dk_iconst_1 (by decide +kernel)
theorem dX12_term_41 : decode cX12_term 41 = .ok (.iadd, 1) := dk_iadd (by decide +kernel)
theorem dX12_term_42 : decode cX12_term 42 = .ok (.putfield 257, 3) := dk_putfield (by decide +kernel)
theorem dX12_term_45 : decode cX12_term 45 = .ok (.aload_n 0, 1) := dk_aload_n_0 (by decide +kernel)
theorem dX12_term_46 : decode cX12_term 46 = .ok (.invokevirtual 285, 3) := dk_invokevirtual (by decide +kernel)
theorem dX12_term_49 : decode cX12_term 49 = .ok (.istore_n 3, 1) := dk_istore_n_3 (by decide +kernel)
theorem dX12_term_50 : decode cX12_term 50 = .ok (.iload_n 2, 1) := dk_iload_n_2 (by decide +kernel)
theorem dX12_term_51 : decode cX12_term 51 = .ok (.bipush 42, 2) := dk_bipush (by decide +kernel)
theorem dX12_term_53 : decode cX12_term 53 = .ok (.if_icmp .ne 14, 3) := dk_if_icmp_ne (by decide +kernel)
theorem dX12_term_56 : decode cX12_term 56 = .ok (.iload_n 1, 1) := dk_iload_n_1 (by decide +kernel)
theorem dX12_term_57 : decode cX12_term 57 = .ok (.i2l, 1) := dk_i2l (by decide +kernel)
theorem dX12_term_58 : decode cX12_term 58 = .ok (.iload_n 3, 1) := dk_iload_n_3 (by decide +kernel)
theorem dX12_term_59 : decode cX12_term 59 = .ok (.i2l, 1) := dk_i2l (by decide +kernel)
theorem dX12_term_60 : decode cX12_term 60 = .ok (.lmul, 1) := dk_lmul (by decide +kernel)
theorem dX12_term_61 : decode cX12_term 61 = .ok (.invokestatic 281, 3) := dk_invokestatic (by decide +kernel)
theorem dX12_term_64 : decode cX12_term 64 = .ok (.goto 19, 3) := dk_goto (by decide +kernel)
theorem dX12_term_67 : decode cX12_term 67 = .ok (.iload_n 3, 1) := dk_iload_n_3 (by decide +kernel)
theorem dX12_term_68 : decode cX12_term 68 = .ok (.ifCond .ne 7, 3) := dk_ifCond_ne (by decide +kernel)
theorem dX12_term_71 : decode cX12_term 71 = .ok (.iconst 0, 1) := dk_iconst_0 (by decide +kernel)
theorem dX12_term_72 : decode cX12_term 72 = .ok (.goto 11, 3) := dk_goto (by decide +kernel)
theorem dX12_term_75 : decode cX12_term 75 = .ok (.iload_n 1, 1) := dk_iload_n_1 (by decide +kernel)
theorem dX12_term_76 : decode cX12_term 76 = .ok (.i2l, 1) := dk_i2l (by decide +kernel)
theorem dX12_term_77 : decode cX12_term 77 = .ok (.iload_n 3, 1) := dk_iload_n_3 (by decide +kernel)
theorem dX12_term_78 : decode cX12_term 78 = .ok (.i2l, 1) := dk_i2l (by decide +kernel)
theorem dX12_term_79 : decode cX12_term 79 = .ok (.ldiv, 1) := dk_ldiv (by decide +kernel)
theorem dX12_term_80 : decode cX12_term 80 = .ok (.invokestatic 281, 3) := dk_invokestatic (by decide +kernel)
theorem dX12_term_83 : decode cX12_term 83 = .ok (.istore_n 1, 1) := dk_istore_n_1 (by decide +kernel)
theorem dX12_term_84 : decode cX12_term 84 = .ok (.goto (-79), 3) := dk_goto (by decide +kernel)
theorem dX12_term_87 : decode cX12_term 87 = .ok (.iload_n 1, 1) := dk_iload_n_1 (by decide +kernel)
theorem dX12_term_88 : decode cX12_term 88 = .ok (.ireturn, 1) := dk_ireturn (by decide +kernel)
theorem dX12_sum_0 : decode cX12_sum 0 = .ok (.aload_n 0, 1) := dk_aload_n_0 (by decide +kernel)
theorem dX12_sum_1 : decode cX12_sum 1 = .ok (.invokevirtual 278, 3) := dk_invokevirtual (by decide +kernel)
theorem dX12_sum_4 : decode cX12_sum 4 = .ok (.istore_n 1, 1) := dk_istore_n_1 (by decide +kernel)
theorem dX12_sum_5 : decode cX12_sum 5 = .ok (.aload_n 0, 1) := dk_aload_n_0 (by decide +kernel)
theorem dX12_sum_6 : decode cX12_sum 6 = .ok (.getfield 270, 3) := dk_getfield (by decide +kernel)
theorem dX12_sum_9 : decode cX12_sum 9 = .ok (.ifCond .eq 67, 3) := dk_ifCond_eq (by decide +kernel)
theorem dX12_sum_12 : decode cX12_sum 12 = .ok (.aload_n 0, 1) := dk_aload_n_0 (by decide +kernel)
theorem dX12_sum_13 : decode cX12_sum 13 = .ok (.invokevirtual 274, 3) := dk_invokevirtual (by decide +kernel)
theorem dX12_sum_16 : decode cX12_sum 16 = .ok (.bipush 43, 2) := dk_bipush (by decide +kernel)
theorem dX12_sum_18 : decode cX12_sum 18 = .ok (.if_icmp .eq 12, 3) := dk_if_icmp_eq (by decide +kernel)
theorem dX12_sum_21 : decode cX12_sum 21 = .ok (.aload_n 0, 1) := dk_aload_n_0 (by decide +kernel)
theorem dX12_sum_22 : decode cX12_sum 22 = .ok (.invokevirtual 274, 3) := dk_invokevirtual (by decide +kernel)
theorem dX12_sum_25 : decode cX12_sum 25 = .ok (.bipush 45, 2) := dk_bipush (by decide +kernel)
theorem dX12_sum_27 : decode cX12_sum 27 = .ok (.if_icmp .ne 49, 3) := dk_if_icmp_ne (by decide +kernel)
theorem dX12_sum_30 : decode cX12_sum 30 = .ok (.aload_n 0, 1) := dk_aload_n_0 (by decide +kernel)
theorem dX12_sum_31 : decode cX12_sum 31 = .ok (.invokevirtual 274, 3) := dk_invokevirtual (by decide +kernel)
theorem dX12_sum_34 : decode cX12_sum 34 = .ok (.istore_n 2, 1) := dk_istore_n_2 (by decide +kernel)
theorem dX12_sum_35 : decode cX12_sum 35 = .ok (.aload_n 0, 1) := dk_aload_n_0 (by decide +kernel)
theorem dX12_sum_36 : decode cX12_sum 36 = .ok (.dup, 1) := dk_dup (by decide +kernel)
theorem dX12_sum_37 : decode cX12_sum 37 = .ok (.getfield 257, 3) := dk_getfield (by decide +kernel)
theorem dX12_sum_40 : decode cX12_sum 40 = .ok (.iconst 1, 1) := dk_iconst_1 (by decide +kernel)
theorem dX12_sum_41 : decode cX12_sum 41 = .ok (.iadd, 1) := dk_iadd (by decide +kernel)
theorem dX12_sum_42 : decode cX12_sum 42 = .ok (.putfield 257, 3) := dk_putfield (by decide +kernel)
theorem dX12_sum_45 : decode cX12_sum 45 = .ok (.aload_n 0, 1) := dk_aload_n_0 (by decide +kernel)
theorem dX12_sum_46 : decode cX12_sum 46 = .ok (.invokevirtual 278, 3) := dk_invokevirtual (by decide +kernel)
theorem dX12_sum_49 : decode cX12_sum 49 = .ok (.istore_n 3, 1) := dk_istore_n_3 (by decide +kernel)
theorem dX12_sum_50 : decode cX12_sum 50 = .ok (.iload_n 2, 1) := dk_iload_n_2 (by decide +kernel)
theorem dX12_sum_51 : decode cX12_sum 51 = .ok (.bipush 43, 2) := dk_bipush (by decide +kernel)
theorem dX12_sum_53 : decode cX12_sum 53 = .ok (.if_icmp .ne 11, 3) := dk_if_icmp_ne (by decide +kernel)
theorem dX12_sum_56 : decode cX12_sum 56 = .ok (.iload_n 1, 1) := dk_iload_n_1 (by decide +kernel)
theorem dX12_sum_57 : decode cX12_sum 57 = .ok (.i2l, 1) := dk_i2l (by decide +kernel)
theorem dX12_sum_58 : decode cX12_sum 58 = .ok (.iload_n 3, 1) := dk_iload_n_3 (by decide +kernel)
theorem dX12_sum_59 : decode cX12_sum 59 = .ok (.i2l, 1) := dk_i2l (by decide +kernel)
theorem dX12_sum_60 : decode cX12_sum 60 = .ok (.ladd, 1) := dk_ladd (by decide +kernel)
theorem dX12_sum_61 : decode cX12_sum 61 = .ok (.goto 8, 3) := dk_goto (by decide +kernel)
theorem dX12_sum_64 : decode cX12_sum 64 = .ok (.iload_n 1, 1) := dk_iload_n_1 (by decide +kernel)
theorem dX12_sum_65 : decode cX12_sum 65 = .ok (.i2l, 1) := dk_i2l (by decide +kernel)
theorem dX12_sum_66 : decode cX12_sum 66 = .ok (.iload_n 3, 1) := dk_iload_n_3 (by decide +kernel)
theorem dX12_sum_67 : decode cX12_sum 67 = .ok (.i2l, 1) := dk_i2l (by decide +kernel)
theorem dX12_sum_68 : decode cX12_sum 68 = .ok (.lsub, 1) := dk_lsub (by decide +kernel)
theorem dX12_sum_69 : decode cX12_sum 69 = .ok (.invokestatic 281, 3) := dk_invokestatic (by decide +kernel)
theorem dX12_sum_72 : decode cX12_sum 72 = .ok (.istore_n 1, 1) := dk_istore_n_1 (by decide +kernel)
theorem dX12_sum_73 : decode cX12_sum 73 = .ok (.goto (-68), 3) := dk_goto (by decide +kernel)
theorem dX12_sum_76 : decode cX12_sum 76 = .ok (.iload_n 1, 1) := dk_iload_n_1 (by decide +kernel)
theorem dX12_sum_77 : decode cX12_sum 77 = .ok (.ireturn, 1) := dk_ireturn (by decide +kernel)
abbrev SUMC (d : Nat) : Prop := ∀ (l : Launch) (g : gG) (J : Nat → Nat → Int32) (L : Nat → Nat → Int64) (I : Nat → Nat → Nat → Int32) (P : Nat → Nat → Nat → Option Nat) (E : Nat → Option Nat) (N : Nat → Nat) (sz : Nat)  (hwm : WM J) (hat : 0 ≤ (J 13 56).toInt) (hps : ((J 13 58).toInt < 0 ∧ (J 13 59).toInt ≤ 60) ∨ (0 ≤ (J 13 58).toInt ∧ (J 13 58).toInt + (J 13 59).toInt ≤ 1800)) (hd : ¬ (J 13 60).toInt = 0 → (J 13 57).toInt = 5 - (d : Int)) (hd5 : (d : Int) ≤ 5), Met l yX12_sum (WS yX12_sum cX12_sum 4 (some .int)) (RM (4 * d + 8) 0 0) (PC g [.ref (g.2.2.1 13)] ((J, L, I, P, E, N), sgM g) sz) (va_Qi (fun (r : Int32) (u : (Nat → Nat → Int32)) => ((J 13 56).toInt ≤ (u 13 56).toInt) ∧ (¬ (u 13 60).toInt = 0 → (u 13 57).toInt = 5 - (d : Int))) (fun u t => at_ g (FR g ((J, L, I, P, E, N), sgM g) sz) ((hv J [] [(13, 56), (13, 57), (13, 60)] u, L, I, P, E, N), sgM g) t) (FR g ((J, L, I, P, E, N), sgM g) sz)) 0 0 (FR g ((J, L, I, P, E, N), sgM g) sz)
abbrev TERMC (d : Nat) : Prop := ∀ (l : Launch) (g : gG) (J : Nat → Nat → Int32) (L : Nat → Nat → Int64) (I : Nat → Nat → Nat → Int32) (P : Nat → Nat → Nat → Option Nat) (E : Nat → Option Nat) (N : Nat → Nat) (sz : Nat)  (hwm : WM J) (hat : 0 ≤ (J 13 56).toInt) (hps : ((J 13 58).toInt < 0 ∧ (J 13 59).toInt ≤ 60) ∨ (0 ≤ (J 13 58).toInt ∧ (J 13 58).toInt + (J 13 59).toInt ≤ 1800)) (hd : ¬ (J 13 60).toInt = 0 → (J 13 57).toInt = 5 - (d : Int)) (hd5 : (d : Int) ≤ 5), Met l yX12_term (WS yX12_term cX12_term 4 (some .int)) (RM (4 * d + 7) 0 0) (PC g [.ref (g.2.2.1 13)] ((J, L, I, P, E, N), sgM g) sz) (va_Qi (fun (r : Int32) (u : (Nat → Nat → Int32)) => ((J 13 56).toInt ≤ (u 13 56).toInt) ∧ (¬ (u 13 60).toInt = 0 → (u 13 57).toInt = 5 - (d : Int))) (fun u t => at_ g (FR g ((J, L, I, P, E, N), sgM g) sz) ((hv J [] [(13, 56), (13, 57), (13, 60)] u, L, I, P, E, N), sgM g) t) (FR g ((J, L, I, P, E, N), sgM g) sz)) 0 0 (FR g ((J, L, I, P, E, N), sgM g) sz)
abbrev UNITC (d : Nat) : Prop := ∀ (l : Launch) (g : gG) (J : Nat → Nat → Int32) (L : Nat → Nat → Int64) (I : Nat → Nat → Nat → Int32) (P : Nat → Nat → Nat → Option Nat) (E : Nat → Option Nat) (N : Nat → Nat) (sz : Nat)  (hwm : WM J) (hat : 0 ≤ (J 13 56).toInt) (hps : ((J 13 58).toInt < 0 ∧ (J 13 59).toInt ≤ 60) ∨ (0 ≤ (J 13 58).toInt ∧ (J 13 58).toInt + (J 13 59).toInt ≤ 1800)) (hd : ¬ (J 13 60).toInt = 0 → (J 13 57).toInt = 5 - (d : Int)) (hd5 : (d : Int) ≤ 5), Met l yX12_unit (WS yX12_unit cX12_unit 5 (some .int)) (RM (4 * d + 6) 0 0) (PC g [.ref (g.2.2.1 13)] ((J, L, I, P, E, N), sgM g) sz) (va_Qi (fun (r : Int32) (u : (Nat → Nat → Int32)) => ((J 13 56).toInt ≤ (u 13 56).toInt) ∧ (¬ (u 13 60).toInt = 0 → (u 13 57).toInt = 5 - (d : Int))) (fun u t => at_ g (FR g ((J, L, I, P, E, N), sgM g) sz) ((hv J [] [(13, 56), (13, 57), (13, 60)] u, L, I, P, E, N), sgM g) t) (FR g ((J, L, I, P, E, N), sgM g) sz)) 0 0 (FR g ((J, L, I, P, E, N), sgM g) sz)
set_option maxHeartbeats 4000000 in
set_option maxRecDepth 100000 in
theorem c_X12_unit (d : Nat) (hs : ∀ k : Nat, d = k + 1 → SUMC k) (l : Launch) (g : gG) (J : Nat → Nat → Int32) (L : Nat → Nat → Int64) (I : Nat → Nat → Nat → Int32) (P : Nat → Nat → Nat → Option Nat) (E : Nat → Option Nat) (N : Nat → Nat) (sz : Nat)  (hwm : WM J) (hat : 0 ≤ (J 13 56).toInt) (hps : ((J 13 58).toInt < 0 ∧ (J 13 59).toInt ≤ 60) ∨ (0 ≤ (J 13 58).toInt ∧ (J 13 58).toInt + (J 13 59).toInt ≤ 1800)) (hd : ¬ (J 13 60).toInt = 0 → (J 13 57).toInt = 5 - (d : Int)) (hd5 : (d : Int) ≤ 5) : Met l yX12_unit (WS yX12_unit cX12_unit 5 (some .int)) (RM (4 * d + 6) 0 0) (PC g [.ref (g.2.2.1 13)] ((J, L, I, P, E, N), sgM g) sz) (va_Qi (fun (r : Int32) (u : (Nat → Nat → Int32)) => ((J 13 56).toInt ≤ (u 13 56).toInt) ∧ (¬ (u 13 60).toInt = 0 → (u 13 57).toInt = 5 - (d : Int))) (fun u t => at_ g (FR g ((J, L, I, P, E, N), sgM g) sz) ((hv J [] [(13, 56), (13, 57), (13, 60)] u, L, I, P, E, N), sgM g) t) (FR g ((J, L, I, P, E, N), sgM g) sz)) 0 0 (FR g ((J, L, I, P, E, N), sgM g) sz) := by
  refine ent (by decide +kernel) (Nat.le_of_ble_eq_true rfl) ?_
  intro p e s m below meth c ls hsz C hW hr hlocks hname hl
  generalize FR g ((J, L, I, P, E, N), sgM g) sz = A at C hW ⊢
  have hx := C.1.1
  have hb := C.1.2.1
  have hts := C.1.2.2.2.2
  have hW : WB g A s.heap s.heap [] (J, L, I, P, E, N) (sgM g) := hW
  have hl : lv_has ls 5 [(0, .ref (g.2.2.1 13))] := hl
  obtain ⟨H, hH⟩ : ∃ H : Heap, H = s.heap := ⟨_, rfl⟩
  obtain ⟨locs, hlocs⟩ : ∃ q : List Loc, q = [] := ⟨_, rfl⟩
  have hW : WB g A s.heap H locs (J, L, I, P, E, N) (sgM g) := by rw [hH, hlocs]; exact hW
  obtain ⟨⟨hnd1, hnd2, hon, hhm1, hhm2, hhN, hcu1, hcu2, hco1, hco2, hcN⟩, ⟨hrd1, hrd2⟩, ⟨hnw1, hnw2, hns1, hns2, hof⟩, ⟨htm1, htm2, hts_⟩, ⟨had1, had2, hrw1, hrw2, htp1, htp2⟩⟩ := id hwm
  refine start_ hH hlocs ?_
  refine lv_aload_n hx hb dX12_unit_0 rfl (lv_at hl 0 rfl) ?_
  refine rg_13_60 C hW (mm_ rfl) tw_1083 dX12_unit_1 ?_
  refine lv_if_ne (tgt := 9) hx hb dX12_unit_4 (by decide) (fun c1 => ?_) (fun c1 => ?_)
  · have c1 : ¬ (J 13 60).toInt = 0 := tne rfl kp0 c1
    refine lv_aload_n hx hb dX12_unit_9 rfl (lv_at hl 0 rfl) ?_
    refine ci_ C hW (runV (x := (g.2.2.1 13)) (As := []) (rest := []) (T := ((J, L, I, P, E, N), sgM g)) C hW (c_X12_sign l g J L I P E N H.size  hwm (show 0 ≤ (J 13 56).toInt from by omega) (show ((J 13 58).toInt < 0 ∧ (J 13 59).toInt ≤ 60) ∨ (0 ≤ (J 13 58).toInt ∧ (J 13 58).toInt + (J 13 59).toInt ≤ 1800) from by omega)) mi_X12_sign tw_1358 (recv_ (T := ((J, L, I, P, E, N), sgM g)) C hW (mm_ rfl) rfl rfl) ⟨rfl, rfl, by (simp only [RM]; omega), by (simp only [RM]; omega)⟩ rfl hl.1 rfl (Nat.le_of_ble_eq_true rfl) dX12_unit_10 ⟨Nat.le_of_ble_eq_true rfl, Nat.le_of_ble_eq_true rfl⟩) (fun r2 u2 H locs hp2 hW => ?_)
    have hf2_0 : ((r2.toInt = -1 ∧ (J 13 59).toInt ≤ (J 13 56).toInt) ∨ (J 13 56).toInt < (J 13 59).toInt) := hp2
    clear hp2
    have hW : WB g A s.heap H locs (J, L, I, P, E, N) (sgM g) := hW
    refine lv_istore_n (lv' := [(1, .int r2), (0, .ref (g.2.2.1 13))]) hx hb dX12_unit_13 rfl hl (by decide) rfl (fun ls hl => ?_)
    refine lv_iload_n hx hb dX12_unit_14 rfl (lv_at hl 0 rfl) ?_
    refine ci_ C hW (runS (As := [.int r2]) (rest := []) (T := ((J, L, I, P, E, N), sgM g)) C hW (c_X12_isLetter l g J L I P E N H.size r2 ) mi_X12_isLetter tw_1362 ⟨rfl, rfl, by (simp only [RM]; omega), by (simp only [RM]; omega)⟩ rfl hl.1 rfl (Nat.le_of_ble_eq_true rfl) dX12_unit_15 ⟨Nat.le_of_ble_eq_true rfl, Nat.le_of_ble_eq_true rfl⟩) (fun r3 u3 H locs hp3 hW => ?_)
    have hc3 : ((r3.toInt = 1 ∧ (0 ≤ r2.toInt ∧ r2.toInt < 128)) ∨ (r3.toInt = 0)) := hp3
    clear hp3
    have hW : WB g A s.heap H locs (J, L, I, P, E, N) (sgM g) := hW
    refine lv_if_eq (tgt := 38) hx hb dX12_unit_18 (by decide) (fun c4 => ?_) (fun c4 => ?_)
    · have c4 : r3.toInt = 0 := teq rfl kp0 c4
      refine lv_iload_n hx hb dX12_unit_38 rfl (lv_at hl 0 rfl) ?_
      refine lv_bipush (v := 40) hx hb dX12_unit_39 (by decide) ?_
      refine lv_icmp_ne (tgt := 206) hx hb dX12_unit_41 (by decide) (fun c5 => ?_) (fun c5 => ?_)
      · have c5 : ¬ r2.toInt = 40 := tne rfl kp40 c5
        refine lv_iconst (v := 0) hx hb dX12_unit_206 (by decide) ?_
        refine lv_istore_n (lv' := [(2, .int 0), (1, .int r2), (0, .ref (g.2.2.1 13))]) hx hb dX12_unit_207 rfl hl (by decide) rfl (fun ls hl => ?_)
        refine lv_iconst (v := 0) hx hb dX12_unit_208 (by decide) ?_
        refine lv_istore_n (lv' := [(3, .int 0), (2, .int 0), (1, .int r2), (0, .ref (g.2.2.1 13))]) hx hb dX12_unit_209 rfl hl (by decide) rfl (fun ls hl => ?_)
        have loop210 : ∀ (n : Nat) (m2 : Int32) (m3 : Int32) (Gl6 : Nat → Nat → Int32) (H : Heap) (locs : List Loc) (ls : Array Slot), (5 - m3.toInt).toNat < n → 0 ≤ m3.toInt ∧ 0 ≤ (Gl6 13 56).toInt ∧ (J 13 56).toInt ≤ (Gl6 13 56).toInt → WB g A s.heap H locs ((hv J [] [(13, 56)] Gl6), L, I, P, E, N) (sgM g) → lv_has ls 5 [(3, .int m3), (2, .int m2), (1, .int r2), (0, .ref (g.2.2.1 13))] → W p l e (RM (4 * d + 6) 0 0) s m ([.ref (g.2.2.1 13)] : List Value).toArray below meth c H locs 0 0 (MQ below (va_Qi (fun (r : Int32) (u : (Nat → Nat → Int32)) => ((J 13 56).toInt ≤ (u 13 56).toInt) ∧ (¬ (u 13 60).toInt = 0 → (u 13 57).toInt = 5 - (d : Int))) (fun u t => at_ g A ((hv J [] [(13, 56), (13, 57), (13, 60)] u, L, I, P, E, N), sgM g) t) A) ([.ref (g.2.2.1 13)] : List Value).toArray s 0 0 A) (F0 m 210 ls []) := by
          intro n
          induction n with
          | zero => intro m2 m3 Gl6 H locs ls hmeas; exact absurd hmeas (Nat.not_lt_zero _)
          | succ n ih =>
            intro m2 m3 Gl6 H locs ls hmeas hi hW hl
            refine lv_iload_n hx hb dX12_unit_210 rfl (lv_at hl 0 rfl) ?_
            refine lv_iconst (v := 5) hx hb dX12_unit_211 (by decide) ?_
            refine lv_icmp_ge (tgt := 262) hx hb dX12_unit_212 (by decide) (fun c7 => ?_) (fun c7 => ?_)
            · have c7 : 5 ≤ m3.toInt := tle kp5 rfl c7
              refine lv_iload_n hx hb dX12_unit_262 rfl (lv_at hl 0 rfl) ?_
              refine lv_if_ne (tgt := 273) hx hb dX12_unit_263 (by decide) (fun c8 => ?_) (fun c8 => ?_)
              · have c8 : ¬ m3.toInt = 0 := tne rfl kp0 c8
                refine lv_iload_n hx hb dX12_unit_273 rfl (lv_at hl 1 rfl) ?_
                have hWr : WB g A s.heap H locs (hv J [] [(13, 56), (13, 57), (13, 60)] (hv J [] [(13, 56)] Gl6), L, I, P, E, N) (sgM g) := by
                  rw [← ag_hvE (J := J) (R := []) (F := [(13, 56), (13, 57), (13, 60)]) (ag_hv rfl rfl ag_rf)]
                  exact hW
                exact end_i C hr hlocks (hv J [] [(13, 56)] Gl6) hWr ⟨show (J 13 56).toInt ≤ (Gl6 13 56).toInt from by omega, show ¬ (J 13 60).toInt = 0 → (J 13 57).toInt = 5 - (d : Int) from by omega⟩ dX12_unit_274
              · have c8 : m3.toInt = 0 := teq rfl kp0 c8
                exfalso; omega
            · have c7 : m3.toInt < 5 := tnle kp5 rfl c7
              refine lv_aload_n hx hb dX12_unit_215 rfl (lv_at hl 3 rfl) ?_
              refine ci_ C hW (runV (x := (g.2.2.1 13)) (As := []) (rest := []) (T := (((hv J [] [(13, 56)] Gl6), L, I, P, E, N), sgM g)) C hW (c_X12_sign l g (hv J [] [(13, 56)] Gl6) L I P E N H.size  hwm (show 0 ≤ (Gl6 13 56).toInt from by omega) (show ((J 13 58).toInt < 0 ∧ (J 13 59).toInt ≤ 60) ∨ (0 ≤ (J 13 58).toInt ∧ (J 13 58).toInt + (J 13 59).toInt ≤ 1800) from by omega)) mi_X12_sign tw_1358 (recv_ (T := (((hv J [] [(13, 56)] Gl6), L, I, P, E, N), sgM g)) C hW (mm_ rfl) rfl rfl) ⟨rfl, rfl, by (simp only [RM]; omega), by (simp only [RM]; omega)⟩ rfl hl.1 rfl (Nat.le_of_ble_eq_true rfl) dX12_unit_216 ⟨Nat.le_of_ble_eq_true rfl, Nat.le_of_ble_eq_true rfl⟩) (fun r9 u9 H locs hp9 hW => ?_)
              have hf9_0 : ((r9.toInt = -1 ∧ (J 13 59).toInt ≤ (Gl6 13 56).toInt) ∨ (Gl6 13 56).toInt < (J 13 59).toInt) := hp9
              clear hp9
              have hW : WB g A s.heap H locs ((hv J [] [(13, 56)] Gl6), L, I, P, E, N) (sgM g) := hW
              refine lv_bipush (v := 48) hx hb dX12_unit_219 (by decide) ?_
              refine lv_icmp_lt (tgt := 262) hx hb dX12_unit_221 (by decide) (fun c10 => ?_) (fun c10 => ?_)
              · have c10 : r9.toInt < 48 := tlt rfl kp48 c10
                refine lv_iload_n hx hb dX12_unit_262 rfl (lv_at hl 0 rfl) ?_
                refine lv_if_ne (tgt := 273) hx hb dX12_unit_263 (by decide) (fun c11 => ?_) (fun c11 => ?_)
                · have c11 : ¬ m3.toInt = 0 := tne rfl kp0 c11
                  refine lv_iload_n hx hb dX12_unit_273 rfl (lv_at hl 1 rfl) ?_
                  have hWr : WB g A s.heap H locs (hv J [] [(13, 56), (13, 57), (13, 60)] (hv J [] [(13, 56)] Gl6), L, I, P, E, N) (sgM g) := by
                    rw [← ag_hvE (J := J) (R := []) (F := [(13, 56), (13, 57), (13, 60)]) (ag_hv rfl rfl ag_rf)]
                    exact hW
                  exact end_i C hr hlocks (hv J [] [(13, 56)] Gl6) hWr ⟨show (J 13 56).toInt ≤ (Gl6 13 56).toInt from by omega, show ¬ (J 13 60).toInt = 0 → (J 13 57).toInt = 5 - (d : Int) from by omega⟩ dX12_unit_274
                · have c11 : m3.toInt = 0 := teq rfl kp0 c11
                  refine lv_aload_n hx hb dX12_unit_266 rfl (lv_at hl 3 rfl) ?_
                  refine ci_ C hW (runV (x := (g.2.2.1 13)) (As := []) (rest := []) (T := (((hv J [] [(13, 56)] Gl6), L, I, P, E, N), sgM g)) C hW (c_X12_breaksOff l g (hv J [] [(13, 56)] Gl6) L I P E N H.size  hwm) mi_X12_breaksOff tw_1365 (recv_ (T := (((hv J [] [(13, 56)] Gl6), L, I, P, E, N), sgM g)) C hW (mm_ rfl) rfl rfl) ⟨rfl, rfl, by (simp only [RM]; omega), by (simp only [RM]; omega)⟩ rfl hl.1 rfl (Nat.le_of_ble_eq_true rfl) dX12_unit_267 ⟨Nat.le_of_ble_eq_true rfl, Nat.le_of_ble_eq_true rfl⟩) (fun r12 u12 H locs hp12 hW => ?_)
                  obtain ⟨hc12, hf12_0⟩ : ((r12.toInt = 0)) ∧ ((u12 13 60).toInt = 0) := hp12
                  have hW : WB g A s.heap H locs ((hv (hv J [] [(13, 56)] Gl6) [] [(13, 60)] u12), L, I, P, E, N) (sgM g) := hW
                  refine lv_goto (tgt := 274) hx hb dX12_unit_270 (by decide) ?_
                  have hWr : WB g A s.heap H locs (hv J [] [(13, 56), (13, 57), (13, 60)] (hv (hv J [] [(13, 56)] Gl6) [] [(13, 60)] u12), L, I, P, E, N) (sgM g) := by
                    rw [← ag_hvE (J := J) (R := []) (F := [(13, 56), (13, 57), (13, 60)]) (ag_hv rfl rfl (ag_hv rfl rfl ag_rf))]
                    exact hW
                  exact end_i C hr hlocks (hv (hv J [] [(13, 56)] Gl6) [] [(13, 60)] u12) hWr ⟨show (J 13 56).toInt ≤ (Gl6 13 56).toInt from by omega, show ¬ (u12 13 60).toInt = 0 → (J 13 57).toInt = 5 - (d : Int) from by omega⟩ dX12_unit_274
              · have c10 : 48 ≤ r9.toInt := tnlt rfl kp48 c10
                refine lv_aload_n hx hb dX12_unit_224 rfl (lv_at hl 3 rfl) ?_
                refine ci_ C hW (runV (x := (g.2.2.1 13)) (As := []) (rest := []) (T := (((hv J [] [(13, 56)] Gl6), L, I, P, E, N), sgM g)) C hW (c_X12_sign l g (hv J [] [(13, 56)] Gl6) L I P E N H.size  hwm (show 0 ≤ (Gl6 13 56).toInt from by omega) (show ((J 13 58).toInt < 0 ∧ (J 13 59).toInt ≤ 60) ∨ (0 ≤ (J 13 58).toInt ∧ (J 13 58).toInt + (J 13 59).toInt ≤ 1800) from by omega)) mi_X12_sign tw_1358 (recv_ (T := (((hv J [] [(13, 56)] Gl6), L, I, P, E, N), sgM g)) C hW (mm_ rfl) rfl rfl) ⟨rfl, rfl, by (simp only [RM]; omega), by (simp only [RM]; omega)⟩ rfl hl.1 rfl (Nat.le_of_ble_eq_true rfl) dX12_unit_225 ⟨Nat.le_of_ble_eq_true rfl, Nat.le_of_ble_eq_true rfl⟩) (fun r13 u13 H locs hp13 hW => ?_)
                have hf13_0 : ((r13.toInt = -1 ∧ (J 13 59).toInt ≤ (Gl6 13 56).toInt) ∨ (Gl6 13 56).toInt < (J 13 59).toInt) := hp13
                clear hp13
                have hW : WB g A s.heap H locs ((hv J [] [(13, 56)] Gl6), L, I, P, E, N) (sgM g) := hW
                refine lv_bipush (v := 57) hx hb dX12_unit_228 (by decide) ?_
                refine lv_icmp_gt (tgt := 262) hx hb dX12_unit_230 (by decide) (fun c14 => ?_) (fun c14 => ?_)
                · have c14 : 57 < r13.toInt := tlt kp57 rfl c14
                  refine lv_iload_n hx hb dX12_unit_262 rfl (lv_at hl 0 rfl) ?_
                  refine lv_if_ne (tgt := 273) hx hb dX12_unit_263 (by decide) (fun c15 => ?_) (fun c15 => ?_)
                  · have c15 : ¬ m3.toInt = 0 := tne rfl kp0 c15
                    refine lv_iload_n hx hb dX12_unit_273 rfl (lv_at hl 1 rfl) ?_
                    have hWr : WB g A s.heap H locs (hv J [] [(13, 56), (13, 57), (13, 60)] (hv J [] [(13, 56)] Gl6), L, I, P, E, N) (sgM g) := by
                      rw [← ag_hvE (J := J) (R := []) (F := [(13, 56), (13, 57), (13, 60)]) (ag_hv rfl rfl ag_rf)]
                      exact hW
                    exact end_i C hr hlocks (hv J [] [(13, 56)] Gl6) hWr ⟨show (J 13 56).toInt ≤ (Gl6 13 56).toInt from by omega, show ¬ (J 13 60).toInt = 0 → (J 13 57).toInt = 5 - (d : Int) from by omega⟩ dX12_unit_274
                  · have c15 : m3.toInt = 0 := teq rfl kp0 c15
                    refine lv_aload_n hx hb dX12_unit_266 rfl (lv_at hl 3 rfl) ?_
                    refine ci_ C hW (runV (x := (g.2.2.1 13)) (As := []) (rest := []) (T := (((hv J [] [(13, 56)] Gl6), L, I, P, E, N), sgM g)) C hW (c_X12_breaksOff l g (hv J [] [(13, 56)] Gl6) L I P E N H.size  hwm) mi_X12_breaksOff tw_1365 (recv_ (T := (((hv J [] [(13, 56)] Gl6), L, I, P, E, N), sgM g)) C hW (mm_ rfl) rfl rfl) ⟨rfl, rfl, by (simp only [RM]; omega), by (simp only [RM]; omega)⟩ rfl hl.1 rfl (Nat.le_of_ble_eq_true rfl) dX12_unit_267 ⟨Nat.le_of_ble_eq_true rfl, Nat.le_of_ble_eq_true rfl⟩) (fun r16 u16 H locs hp16 hW => ?_)
                    obtain ⟨hc16, hf16_0⟩ : ((r16.toInt = 0)) ∧ ((u16 13 60).toInt = 0) := hp16
                    have hW : WB g A s.heap H locs ((hv (hv J [] [(13, 56)] Gl6) [] [(13, 60)] u16), L, I, P, E, N) (sgM g) := hW
                    refine lv_goto (tgt := 274) hx hb dX12_unit_270 (by decide) ?_
                    have hWr : WB g A s.heap H locs (hv J [] [(13, 56), (13, 57), (13, 60)] (hv (hv J [] [(13, 56)] Gl6) [] [(13, 60)] u16), L, I, P, E, N) (sgM g) := by
                      rw [← ag_hvE (J := J) (R := []) (F := [(13, 56), (13, 57), (13, 60)]) (ag_hv rfl rfl (ag_hv rfl rfl ag_rf))]
                      exact hW
                    exact end_i C hr hlocks (hv (hv J [] [(13, 56)] Gl6) [] [(13, 60)] u16) hWr ⟨show (J 13 56).toInt ≤ (Gl6 13 56).toInt from by omega, show ¬ (u16 13 60).toInt = 0 → (J 13 57).toInt = 5 - (d : Int) from by omega⟩ dX12_unit_274
                · have c14 : r13.toInt ≤ 57 := tnlt kp57 rfl c14
                  refine lv_bipush (v := 10) hx hb dX12_unit_233 (by decide) ?_
                  refine lv_iload_n hx hb dX12_unit_235 rfl (lv_at hl 1 rfl) ?_
                  refine lv_imul hx hb dX12_unit_236 ?_
                  refine lv_topi (fun x17 (e17 : x17 = 10 * m2) => ?_)
                  refine lv_aload_n hx hb dX12_unit_237 rfl (lv_at hl 3 rfl) ?_
                  refine ci_ C hW (runV (x := (g.2.2.1 13)) (As := []) (rest := [.int x17]) (T := (((hv J [] [(13, 56)] Gl6), L, I, P, E, N), sgM g)) C hW (c_X12_sign l g (hv J [] [(13, 56)] Gl6) L I P E N H.size  hwm (show 0 ≤ (Gl6 13 56).toInt from by omega) (show ((J 13 58).toInt < 0 ∧ (J 13 59).toInt ≤ 60) ∨ (0 ≤ (J 13 58).toInt ∧ (J 13 58).toInt + (J 13 59).toInt ≤ 1800) from by omega)) mi_X12_sign tw_1358 (recv_ (T := (((hv J [] [(13, 56)] Gl6), L, I, P, E, N), sgM g)) C hW (mm_ rfl) rfl rfl) ⟨rfl, rfl, by (simp only [RM]; omega), by (simp only [RM]; omega)⟩ rfl hl.1 rfl (Nat.le_of_ble_eq_true rfl) dX12_unit_238 ⟨Nat.le_of_ble_eq_true rfl, Nat.le_of_ble_eq_true rfl⟩) (fun r18 u18 H locs hp18 hW => ?_)
                  have hf18_0 : ((r18.toInt = -1 ∧ (J 13 59).toInt ≤ (Gl6 13 56).toInt) ∨ (Gl6 13 56).toInt < (J 13 59).toInt) := hp18
                  clear hp18
                  have hW : WB g A s.heap H locs ((hv J [] [(13, 56)] Gl6), L, I, P, E, N) (sgM g) := hW
                  refine lv_iadd hx hb dX12_unit_241 ?_
                  refine lv_topi (fun x19 (e19 : x19 = x17 + r18) => ?_)
                  refine lv_bipush (v := 48) hx hb dX12_unit_242 (by decide) ?_
                  refine lv_isub hx hb dX12_unit_244 ?_
                  refine lv_topi (fun x20 (e20 : x20 = x19 - 48) => ?_)
                  refine lv_istore_n (lv' := [(2, .int x20), (3, .int m3), (1, .int r2), (0, .ref (g.2.2.1 13))]) hx hb dX12_unit_245 rfl hl (by decide) rfl (fun ls hl => ?_)
                  refine lv_aload_n hx hb dX12_unit_246 rfl (lv_at hl 3 rfl) ?_
                  refine lv_dup hx hb dX12_unit_247 rfl ?_
                  refine rg_13_56 C hW (mm_ rfl) tw_1079 dX12_unit_248 ?_
                  refine lv_as (Gl6 13 56) rfl ?_
                  refine lv_iconst (v := 1) hx hb dX12_unit_251 (by decide) ?_
                  refine lv_iadd hx hb dX12_unit_252 ?_
                  refine lv_topi (fun x21 (e21 : x21 = (Gl6 13 56) + 1) => ?_)
                  try have t21 : x21.toInt = (Gl6 13 56).toInt + 1 := tadd e21 rfl kp1 (by omega)
                  refine rp_13_56 C hW (mm_ rfl) tw_1079 dX12_unit_253 (fun H locs hW => ?_)
                  obtain ⟨x22, e22⟩ : ∃ y : Int32, y = m3 + 1 := ⟨_, rfl⟩
                  refine lv_iinc (v := x22) (lv' := [(3, .int x22), (2, .int x20), (1, .int r2), (0, .ref (g.2.2.1 13))]) hx hb dX12_unit_256 hl (k := 1) rfl (by rw [e22]; rfl) (by decide) rfl (fun ls hl => ?_)
                  try have t22 : x22.toInt = m3.toInt + 1 := tadd e22 rfl kp1 (by omega)
                  refine lv_goto (tgt := 210) hx hb dX12_unit_259 (by decide) ?_
                  have hWl : WB g A s.heap H locs ((hv J [] [(13, 56)] (up2 (hv J [] [(13, 56)] Gl6) 13 56 x21)), L, I, P, E, N) (sgM g) := by
                    rw [← ag_hvE (J := J) (R := []) (F := [(13, 56)]) (ag_up (Or.inr rfl) (ag_hv rfl rfl ag_rf))]
                    exact hW
                  refine ih x20 x22 (up2 (hv J [] [(13, 56)] Gl6) 13 56 x21) H locs ls ?_ ?_ hWl (lv_sub hl [0, 1, 2, 3] rfl)
                  · show (5 - x22.toInt).toNat < n
                    omega
                  · show 0 ≤ x22.toInt ∧ 0 ≤ (x21).toInt ∧ (J 13 56).toInt ≤ (x21).toInt
                    first | omega | exact hi | assumption
        -- into the loop
        have hWl : WB g A s.heap H locs ((hv J [] [(13, 56)] J), L, I, P, E, N) (sgM g) := by
          rw [← ag_hvE (J := J) (R := []) (F := [(13, 56)]) ag_rf]
          exact hW
        refine loop210 ((5 - (0 : Int32).toInt).toNat + 1) 0 0 J H locs ls ?_ ?_ hWl (lv_sub hl [0, 1, 2, 3] rfl)
        · exact Nat.lt_succ_self _
        · show 0 ≤ (0 : Int32).toInt ∧ 0 ≤ (J 13 56).toInt ∧ (J 13 56).toInt ≤ (J 13 56).toInt
          try rw [kp0]
          try rw [kp0]
          first | omega | exact hi | assumption
      · have c5 : r2.toInt = 40 := teq rfl kp40 c5
        refine lv_aload_n hx hb dX12_unit_44 rfl (lv_at hl 1 rfl) ?_
        refine rg_13_57 C hW (mm_ rfl) tw_1080 dX12_unit_45 ?_
        refine lv_iconst (v := 5) hx hb dX12_unit_48 (by decide) ?_
        refine lv_icmp_ne (tgt := 57) hx hb dX12_unit_49 (by decide) (fun c23 => ?_) (fun c23 => ?_)
        · have c23 : ¬ (J 13 57).toInt = 5 := tne rfl kp5 c23
          obtain ⟨d1, hd1⟩ : ∃ k : Nat, d = k + 1 := ⟨d - 1, by omega⟩
          refine lv_aload_n hx hb dX12_unit_57 rfl (lv_at hl 1 rfl) ?_
          refine lv_dup hx hb dX12_unit_58 rfl ?_
          refine rg_13_56 C hW (mm_ rfl) tw_1079 dX12_unit_59 ?_
          refine lv_iconst (v := 1) hx hb dX12_unit_62 (by decide) ?_
          refine lv_iadd hx hb dX12_unit_63 ?_
          refine lv_topi (fun x24 (e24 : x24 = (J 13 56) + 1) => ?_)
          try have t24 : x24.toInt = (J 13 56).toInt + 1 := tadd e24 rfl kp1 (by omega)
          refine rp_13_56 C hW (mm_ rfl) tw_1079 dX12_unit_64 (fun H locs hW => ?_)
          refine lv_aload_n hx hb dX12_unit_67 rfl (lv_at hl 1 rfl) ?_
          refine lv_dup hx hb dX12_unit_68 rfl ?_
          refine rg_13_57 C hW (mm_ rfl) tw_1080 dX12_unit_69 ?_
          refine lv_as (J 13 57) rfl ?_
          refine lv_iconst (v := 1) hx hb dX12_unit_72 (by decide) ?_
          refine lv_iadd hx hb dX12_unit_73 ?_
          refine lv_topi (fun x25 (e25 : x25 = (J 13 57) + 1) => ?_)
          try have t25 : x25.toInt = (J 13 57).toInt + 1 := tadd e25 rfl kp1 (by omega)
          refine rp_13_57 C hW (mm_ rfl) tw_1080 dX12_unit_74 (fun H locs hW => ?_)
          refine lv_aload_n hx hb dX12_unit_77 rfl (lv_at hl 1 rfl) ?_
          refine ci_ C hW (runV (x := (g.2.2.1 13)) (As := []) (rest := []) (T := (((up2 (up2 J 13 56 x24) 13 57 x25), L, I, P, E, N), sgM g)) C hW ((hs d1 hd1) l g (up2 (up2 J 13 56 x24) 13 57 x25) L I P E N H.size  hwm (show 0 ≤ (x24).toInt from by omega) (show ((J 13 58).toInt < 0 ∧ (J 13 59).toInt ≤ 60) ∨ (0 ≤ (J 13 58).toInt ∧ (J 13 58).toInt + (J 13 59).toInt ≤ 1800) from by omega) (show ¬ (J 13 60).toInt = 0 → (x25).toInt = 5 - (d1 : Int) from by omega) (show (d1 : Int) ≤ 5 from by omega)) mi_X12_sum tw_1346 (recv_ (T := (((up2 (up2 J 13 56 x24) 13 57 x25), L, I, P, E, N), sgM g)) C hW (mm_ rfl) rfl rfl) ⟨rfl, rfl, by (simp only [RM]; omega), by (simp only [RM]; omega)⟩ rfl hl.1 rfl (Nat.le_of_ble_eq_true rfl) dX12_unit_78 ⟨Nat.le_of_ble_eq_true rfl, Nat.le_of_ble_eq_true rfl⟩) (fun r26 u26 H locs hp26 hW => ?_)
          obtain ⟨hf26_0, hf26_1⟩ : ((x24).toInt ≤ (u26 13 56).toInt) ∧ (¬ (u26 13 60).toInt = 0 → (u26 13 57).toInt = 5 - (d1 : Int)) := hp26
          have hW : WB g A s.heap H locs ((hv (up2 (up2 J 13 56 x24) 13 57 x25) [] [(13, 56), (13, 57), (13, 60)] u26), L, I, P, E, N) (sgM g) := hW
          refine lv_istore_n (lv' := [(2, .int r26), (1, .int r2), (0, .ref (g.2.2.1 13))]) hx hb dX12_unit_81 rfl hl (by decide) rfl (fun ls hl => ?_)
          refine lv_aload_n hx hb dX12_unit_82 rfl (lv_at hl 2 rfl) ?_
          refine ci_ C hW (runV (x := (g.2.2.1 13)) (As := []) (rest := []) (T := (((hv (up2 (up2 J 13 56 x24) 13 57 x25) [] [(13, 56), (13, 57), (13, 60)] u26), L, I, P, E, N), sgM g)) C hW (c_X12_sign l g (hv (up2 (up2 J 13 56 x24) 13 57 x25) [] [(13, 56), (13, 57), (13, 60)] u26) L I P E N H.size  hwm (show 0 ≤ (u26 13 56).toInt from by omega) (show ((J 13 58).toInt < 0 ∧ (J 13 59).toInt ≤ 60) ∨ (0 ≤ (J 13 58).toInt ∧ (J 13 58).toInt + (J 13 59).toInt ≤ 1800) from by omega)) mi_X12_sign tw_1358 (recv_ (T := (((hv (up2 (up2 J 13 56 x24) 13 57 x25) [] [(13, 56), (13, 57), (13, 60)] u26), L, I, P, E, N), sgM g)) C hW (mm_ rfl) rfl rfl) ⟨rfl, rfl, by (simp only [RM]; omega), by (simp only [RM]; omega)⟩ rfl hl.1 rfl (Nat.le_of_ble_eq_true rfl) dX12_unit_83 ⟨Nat.le_of_ble_eq_true rfl, Nat.le_of_ble_eq_true rfl⟩) (fun r27 u27 H locs hp27 hW => ?_)
          have hf27_0 : ((r27.toInt = -1 ∧ (J 13 59).toInt ≤ (u26 13 56).toInt) ∨ (u26 13 56).toInt < (J 13 59).toInt) := hp27
          clear hp27
          have hW : WB g A s.heap H locs ((hv (up2 (up2 J 13 56 x24) 13 57 x25) [] [(13, 56), (13, 57), (13, 60)] u26), L, I, P, E, N) (sgM g) := hW
          refine lv_istore_n (lv' := [(3, .int r27), (2, .int r26), (1, .int r2), (0, .ref (g.2.2.1 13))]) hx hb dX12_unit_86 rfl hl (by decide) rfl (fun ls hl => ?_)
          refine lv_aload_n hx hb dX12_unit_87 rfl (lv_at hl 3 rfl) ?_
          refine rg_13_60 C hW (mm_ rfl) tw_1083 dX12_unit_88 ?_
          refine lv_as (u26 13 60) rfl ?_
          refine lv_if_eq (tgt := 180) hx hb dX12_unit_91 (by decide) (fun c28 => ?_) (fun c28 => ?_)
          · have c28 : (u26 13 60).toInt = 0 := teq rfl kp0 c28
            refine lv_aload_n hx hb dX12_unit_180 rfl (lv_at hl 3 rfl) ?_
            refine lv_bipush (v := 41) hx hb dX12_unit_181 (by decide) ?_
            refine ci_ C hW (runV (x := (g.2.2.1 13)) (As := [.int 41]) (rest := []) (T := (((hv (up2 (up2 J 13 56 x24) 13 57 x25) [] [(13, 56), (13, 57), (13, 60)] u26), L, I, P, E, N), sgM g)) C hW (c_X12_takes l g (hv (up2 (up2 J 13 56 x24) 13 57 x25) [] [(13, 56), (13, 57), (13, 60)] u26) L I P E N H.size 41 hwm (show 0 ≤ (u26 13 56).toInt from by (try simp only [kp41]); omega) (show ((J 13 58).toInt < 0 ∧ (J 13 59).toInt ≤ 60) ∨ (0 ≤ (J 13 58).toInt ∧ (J 13 58).toInt + (J 13 59).toInt ≤ 1800) from by (try simp only [kp41]); omega) (show 0 ≤ (41 : Int32).toInt from by (try simp only [kp41]); omega)) mi_X12_takes tw_1369 (recv_ (T := (((hv (up2 (up2 J 13 56 x24) 13 57 x25) [] [(13, 56), (13, 57), (13, 60)] u26), L, I, P, E, N), sgM g)) C hW (mm_ rfl) rfl rfl) ⟨rfl, rfl, by (simp only [RM]; omega), by (simp only [RM]; omega)⟩ rfl hl.1 rfl (Nat.le_of_ble_eq_true rfl) dX12_unit_183 ⟨Nat.le_of_ble_eq_true rfl, Nat.le_of_ble_eq_true rfl⟩) (fun r29 u29 H locs hp29 hW => ?_)
            obtain ⟨hc29, hf29_0⟩ : ((r29.toInt = 1 ∧ (¬ (u26 13 60).toInt = 0)) ∨ (r29.toInt = 0)) ∧ ((u26 13 56).toInt ≤ (u29 13 56).toInt) := hp29
            have hW : WB g A s.heap H locs ((hv (hv (up2 (up2 J 13 56 x24) 13 57 x25) [] [(13, 56), (13, 57), (13, 60)] u26) [] [(13, 56)] u29), L, I, P, E, N) (sgM g) := hW
            refine lv_if_ne (tgt := 194) hx hb dX12_unit_186 (by decide) (fun c30 => ?_) (fun c30 => ?_)
            · have c30 : ¬ r29.toInt = 0 := tne rfl kp0 c30
              refine lv_aload_n hx hb dX12_unit_194 rfl (lv_at hl 3 rfl) ?_
              refine lv_dup hx hb dX12_unit_195 rfl ?_
              refine rg_13_57 C hW (mm_ rfl) tw_1080 dX12_unit_196 ?_
              refine lv_as (u26 13 57) rfl ?_
              refine lv_iconst (v := 1) hx hb dX12_unit_199 (by decide) ?_
              refine lv_isub hx hb dX12_unit_200 ?_
              refine lv_topi (fun x31 (e31 : x31 = (u26 13 57) - 1) => ?_)
              try have t31 : x31.toInt = (u26 13 57).toInt - 1 := tsub e31 rfl kp1 (by omega)
              refine rp_13_57 C hW (mm_ rfl) tw_1080 dX12_unit_201 (fun H locs hW => ?_)
              refine lv_iload_n hx hb dX12_unit_204 rfl (lv_at hl 1 rfl) ?_
              have hWr : WB g A s.heap H locs (hv J [] [(13, 56), (13, 57), (13, 60)] (up2 (hv (hv (up2 (up2 J 13 56 x24) 13 57 x25) [] [(13, 56), (13, 57), (13, 60)] u26) [] [(13, 56)] u29) 13 57 x31), L, I, P, E, N) (sgM g) := by
                rw [← ag_hvE (J := J) (R := []) (F := [(13, 56), (13, 57), (13, 60)]) (ag_up (Or.inr rfl) (ag_hv rfl rfl (ag_hv rfl rfl (ag_up (Or.inr rfl) (ag_up (Or.inr rfl) ag_rf)))))]
                exact hW
              exact end_i C hr hlocks (up2 (hv (hv (up2 (up2 J 13 56 x24) 13 57 x25) [] [(13, 56), (13, 57), (13, 60)] u26) [] [(13, 56)] u29) 13 57 x31) hWr ⟨show (J 13 56).toInt ≤ (u29 13 56).toInt from by omega, show ¬ (u26 13 60).toInt = 0 → (x31).toInt = 5 - (d : Int) from by omega⟩ dX12_unit_205
            · have c30 : r29.toInt = 0 := teq rfl kp0 c30
              refine lv_aload_n hx hb dX12_unit_189 rfl (lv_at hl 3 rfl) ?_
              refine ci_ C hW (runV (x := (g.2.2.1 13)) (As := []) (rest := []) (T := (((hv (hv (up2 (up2 J 13 56 x24) 13 57 x25) [] [(13, 56), (13, 57), (13, 60)] u26) [] [(13, 56)] u29), L, I, P, E, N), sgM g)) C hW (c_X12_breaksOff l g (hv (hv (up2 (up2 J 13 56 x24) 13 57 x25) [] [(13, 56), (13, 57), (13, 60)] u26) [] [(13, 56)] u29) L I P E N H.size  hwm) mi_X12_breaksOff tw_1365 (recv_ (T := (((hv (hv (up2 (up2 J 13 56 x24) 13 57 x25) [] [(13, 56), (13, 57), (13, 60)] u26) [] [(13, 56)] u29), L, I, P, E, N), sgM g)) C hW (mm_ rfl) rfl rfl) ⟨rfl, rfl, by (simp only [RM]; omega), by (simp only [RM]; omega)⟩ rfl hl.1 rfl (Nat.le_of_ble_eq_true rfl) dX12_unit_190 ⟨Nat.le_of_ble_eq_true rfl, Nat.le_of_ble_eq_true rfl⟩) (fun r32 u32 H locs hp32 hW => ?_)
              obtain ⟨hc32, hf32_0⟩ : ((r32.toInt = 0)) ∧ ((u32 13 60).toInt = 0) := hp32
              have hW : WB g A s.heap H locs ((hv (hv (hv (up2 (up2 J 13 56 x24) 13 57 x25) [] [(13, 56), (13, 57), (13, 60)] u26) [] [(13, 56)] u29) [] [(13, 60)] u32), L, I, P, E, N) (sgM g) := hW
              have hWr : WB g A s.heap H locs (hv J [] [(13, 56), (13, 57), (13, 60)] (hv (hv (hv (up2 (up2 J 13 56 x24) 13 57 x25) [] [(13, 56), (13, 57), (13, 60)] u26) [] [(13, 56)] u29) [] [(13, 60)] u32), L, I, P, E, N) (sgM g) := by
                rw [← ag_hvE (J := J) (R := []) (F := [(13, 56), (13, 57), (13, 60)]) (ag_hv rfl rfl (ag_hv rfl rfl (ag_hv rfl rfl (ag_up (Or.inr rfl) (ag_up (Or.inr rfl) ag_rf)))))]
                exact hW
              exact end_i C hr hlocks (hv (hv (hv (up2 (up2 J 13 56 x24) 13 57 x25) [] [(13, 56), (13, 57), (13, 60)] u26) [] [(13, 56)] u29) [] [(13, 60)] u32) hWr ⟨show (J 13 56).toInt ≤ (u29 13 56).toInt from by omega, show ¬ (u32 13 60).toInt = 0 → (u26 13 57).toInt = 5 - (d : Int) from by omega⟩ dX12_unit_193
          · have c28 : ¬ (u26 13 60).toInt = 0 := tne rfl kp0 c28
            refine lv_iload_n hx hb dX12_unit_94 rfl (lv_at hl 0 rfl) ?_
            refine lv_bipush (v := 60) hx hb dX12_unit_95 (by decide) ?_
            refine lv_icmp_eq (tgt := 112) hx hb dX12_unit_97 (by decide) (fun c33 => ?_) (fun c33 => ?_)
            · have c33 : r27.toInt = 60 := teq rfl kp60 c33
              refine lv_aload_n hx hb dX12_unit_112 rfl (lv_at hl 3 rfl) ?_
              refine lv_dup hx hb dX12_unit_113 rfl ?_
              refine rg_13_56 C hW (mm_ rfl) tw_1079 dX12_unit_114 ?_
              refine lv_as (u26 13 56) rfl ?_
              refine lv_iconst (v := 1) hx hb dX12_unit_117 (by decide) ?_
              refine lv_iadd hx hb dX12_unit_118 ?_
              refine lv_topi (fun x34 (e34 : x34 = (u26 13 56) + 1) => ?_)
              try have t34 : x34.toInt = (u26 13 56).toInt + 1 := tadd e34 rfl kp1 (by omega)
              refine rp_13_56 C hW (mm_ rfl) tw_1079 dX12_unit_119 (fun H locs hW => ?_)
              refine lv_aload_n hx hb dX12_unit_122 rfl (lv_at hl 3 rfl) ?_
              refine ci_ C hW (runV (x := (g.2.2.1 13)) (As := []) (rest := []) (T := (((up2 (hv (up2 (up2 J 13 56 x24) 13 57 x25) [] [(13, 56), (13, 57), (13, 60)] u26) 13 56 x34), L, I, P, E, N), sgM g)) C hW ((hs d1 hd1) l g (up2 (hv (up2 (up2 J 13 56 x24) 13 57 x25) [] [(13, 56), (13, 57), (13, 60)] u26) 13 56 x34) L I P E N H.size  hwm (show 0 ≤ (x34).toInt from by omega) (show ((J 13 58).toInt < 0 ∧ (J 13 59).toInt ≤ 60) ∨ (0 ≤ (J 13 58).toInt ∧ (J 13 58).toInt + (J 13 59).toInt ≤ 1800) from by omega) (show ¬ (u26 13 60).toInt = 0 → (u26 13 57).toInt = 5 - (d1 : Int) from by omega) (show (d1 : Int) ≤ 5 from by omega)) mi_X12_sum tw_1346 (recv_ (T := (((up2 (hv (up2 (up2 J 13 56 x24) 13 57 x25) [] [(13, 56), (13, 57), (13, 60)] u26) 13 56 x34), L, I, P, E, N), sgM g)) C hW (mm_ rfl) rfl rfl) ⟨rfl, rfl, by (simp only [RM]; omega), by (simp only [RM]; omega)⟩ rfl hl.1 rfl (Nat.le_of_ble_eq_true rfl) dX12_unit_123 ⟨Nat.le_of_ble_eq_true rfl, Nat.le_of_ble_eq_true rfl⟩) (fun r35 u35 H locs hp35 hW => ?_)
              obtain ⟨hf35_0, hf35_1⟩ : ((x34).toInt ≤ (u35 13 56).toInt) ∧ (¬ (u35 13 60).toInt = 0 → (u35 13 57).toInt = 5 - (d1 : Int)) := hp35
              have hW : WB g A s.heap H locs ((hv (up2 (hv (up2 (up2 J 13 56 x24) 13 57 x25) [] [(13, 56), (13, 57), (13, 60)] u26) 13 56 x34) [] [(13, 56), (13, 57), (13, 60)] u35), L, I, P, E, N) (sgM g) := hW
              refine lv_istore (lv' := [(4, .int r35), (3, .int r27), (2, .int r26), (1, .int r2), (0, .ref (g.2.2.1 13))]) hx hb dX12_unit_126 hl (by decide) rfl (fun ls hl => ?_)
              refine lv_iload_n hx hb dX12_unit_128 rfl (lv_at hl 1 rfl) ?_
              refine lv_bipush (v := 60) hx hb dX12_unit_129 (by decide) ?_
              refine lv_icmp_ne (tgt := 148) hx hb dX12_unit_131 (by decide) (fun c36 => ?_) (fun c36 => ?_)
              · have c36 : ¬ r27.toInt = 60 := tne rfl kp60 c36
                exfalso; omega
              · have c36 : r27.toInt = 60 := teq rfl kp60 c36
                refine lv_iload_n hx hb dX12_unit_134 rfl (lv_at hl 2 rfl) ?_
                refine lv_iload hx hb dX12_unit_135 (lv_at hl 0 rfl) ?_
                refine lv_icmp_ge (tgt := 144) hx hb dX12_unit_137 (by decide) (fun c37 => ?_) (fun c37 => ?_)
                · have c37 : r35.toInt ≤ r26.toInt := tle rfl rfl c37
                  refine lv_iconst (v := 0) hx hb dX12_unit_144 (by decide) ?_
                  refine lv_goto (tgt := 179) hx hb dX12_unit_145 (by decide) ?_
                  refine lv_istore_n (lv' := [(2, .int 0), (4, .int r35), (3, .int r27), (1, .int r2), (0, .ref (g.2.2.1 13))]) hx hb dX12_unit_179 rfl hl (by decide) rfl (fun ls hl => ?_)
                  refine lv_aload_n hx hb dX12_unit_180 rfl (lv_at hl 4 rfl) ?_
                  refine lv_bipush (v := 41) hx hb dX12_unit_181 (by decide) ?_
                  refine ci_ C hW (runV (x := (g.2.2.1 13)) (As := [.int 41]) (rest := []) (T := (((hv (up2 (hv (up2 (up2 J 13 56 x24) 13 57 x25) [] [(13, 56), (13, 57), (13, 60)] u26) 13 56 x34) [] [(13, 56), (13, 57), (13, 60)] u35), L, I, P, E, N), sgM g)) C hW (c_X12_takes l g (hv (up2 (hv (up2 (up2 J 13 56 x24) 13 57 x25) [] [(13, 56), (13, 57), (13, 60)] u26) 13 56 x34) [] [(13, 56), (13, 57), (13, 60)] u35) L I P E N H.size 41 hwm (show 0 ≤ (u35 13 56).toInt from by (try simp only [kp41]); omega) (show ((J 13 58).toInt < 0 ∧ (J 13 59).toInt ≤ 60) ∨ (0 ≤ (J 13 58).toInt ∧ (J 13 58).toInt + (J 13 59).toInt ≤ 1800) from by (try simp only [kp41]); omega) (show 0 ≤ (41 : Int32).toInt from by (try simp only [kp41]); omega)) mi_X12_takes tw_1369 (recv_ (T := (((hv (up2 (hv (up2 (up2 J 13 56 x24) 13 57 x25) [] [(13, 56), (13, 57), (13, 60)] u26) 13 56 x34) [] [(13, 56), (13, 57), (13, 60)] u35), L, I, P, E, N), sgM g)) C hW (mm_ rfl) rfl rfl) ⟨rfl, rfl, by (simp only [RM]; omega), by (simp only [RM]; omega)⟩ rfl hl.1 rfl (Nat.le_of_ble_eq_true rfl) dX12_unit_183 ⟨Nat.le_of_ble_eq_true rfl, Nat.le_of_ble_eq_true rfl⟩) (fun r38 u38 H locs hp38 hW => ?_)
                  obtain ⟨hc38, hf38_0⟩ : ((r38.toInt = 1 ∧ (¬ (u35 13 60).toInt = 0)) ∨ (r38.toInt = 0)) ∧ ((u35 13 56).toInt ≤ (u38 13 56).toInt) := hp38
                  have hW : WB g A s.heap H locs ((hv (hv (up2 (hv (up2 (up2 J 13 56 x24) 13 57 x25) [] [(13, 56), (13, 57), (13, 60)] u26) 13 56 x34) [] [(13, 56), (13, 57), (13, 60)] u35) [] [(13, 56)] u38), L, I, P, E, N) (sgM g) := hW
                  refine lv_if_ne (tgt := 194) hx hb dX12_unit_186 (by decide) (fun c39 => ?_) (fun c39 => ?_)
                  · have c39 : ¬ r38.toInt = 0 := tne rfl kp0 c39
                    refine lv_aload_n hx hb dX12_unit_194 rfl (lv_at hl 4 rfl) ?_
                    refine lv_dup hx hb dX12_unit_195 rfl ?_
                    refine rg_13_57 C hW (mm_ rfl) tw_1080 dX12_unit_196 ?_
                    refine lv_as (u35 13 57) rfl ?_
                    refine lv_iconst (v := 1) hx hb dX12_unit_199 (by decide) ?_
                    refine lv_isub hx hb dX12_unit_200 ?_
                    refine lv_topi (fun x40 (e40 : x40 = (u35 13 57) - 1) => ?_)
                    try have t40 : x40.toInt = (u35 13 57).toInt - 1 := tsub e40 rfl kp1 (by omega)
                    refine rp_13_57 C hW (mm_ rfl) tw_1080 dX12_unit_201 (fun H locs hW => ?_)
                    refine lv_iload_n hx hb dX12_unit_204 rfl (lv_at hl 0 rfl) ?_
                    have hWr : WB g A s.heap H locs (hv J [] [(13, 56), (13, 57), (13, 60)] (up2 (hv (hv (up2 (hv (up2 (up2 J 13 56 x24) 13 57 x25) [] [(13, 56), (13, 57), (13, 60)] u26) 13 56 x34) [] [(13, 56), (13, 57), (13, 60)] u35) [] [(13, 56)] u38) 13 57 x40), L, I, P, E, N) (sgM g) := by
                      rw [← ag_hvE (J := J) (R := []) (F := [(13, 56), (13, 57), (13, 60)]) (ag_up (Or.inr rfl) (ag_hv rfl rfl (ag_hv rfl rfl (ag_up (Or.inr rfl) (ag_hv rfl rfl (ag_up (Or.inr rfl) (ag_up (Or.inr rfl) ag_rf)))))))]
                      exact hW
                    exact end_i C hr hlocks (up2 (hv (hv (up2 (hv (up2 (up2 J 13 56 x24) 13 57 x25) [] [(13, 56), (13, 57), (13, 60)] u26) 13 56 x34) [] [(13, 56), (13, 57), (13, 60)] u35) [] [(13, 56)] u38) 13 57 x40) hWr ⟨show (J 13 56).toInt ≤ (u38 13 56).toInt from by omega, show ¬ (u35 13 60).toInt = 0 → (x40).toInt = 5 - (d : Int) from by omega⟩ dX12_unit_205
                  · have c39 : r38.toInt = 0 := teq rfl kp0 c39
                    refine lv_aload_n hx hb dX12_unit_189 rfl (lv_at hl 4 rfl) ?_
                    refine ci_ C hW (runV (x := (g.2.2.1 13)) (As := []) (rest := []) (T := (((hv (hv (up2 (hv (up2 (up2 J 13 56 x24) 13 57 x25) [] [(13, 56), (13, 57), (13, 60)] u26) 13 56 x34) [] [(13, 56), (13, 57), (13, 60)] u35) [] [(13, 56)] u38), L, I, P, E, N), sgM g)) C hW (c_X12_breaksOff l g (hv (hv (up2 (hv (up2 (up2 J 13 56 x24) 13 57 x25) [] [(13, 56), (13, 57), (13, 60)] u26) 13 56 x34) [] [(13, 56), (13, 57), (13, 60)] u35) [] [(13, 56)] u38) L I P E N H.size  hwm) mi_X12_breaksOff tw_1365 (recv_ (T := (((hv (hv (up2 (hv (up2 (up2 J 13 56 x24) 13 57 x25) [] [(13, 56), (13, 57), (13, 60)] u26) 13 56 x34) [] [(13, 56), (13, 57), (13, 60)] u35) [] [(13, 56)] u38), L, I, P, E, N), sgM g)) C hW (mm_ rfl) rfl rfl) ⟨rfl, rfl, by (simp only [RM]; omega), by (simp only [RM]; omega)⟩ rfl hl.1 rfl (Nat.le_of_ble_eq_true rfl) dX12_unit_190 ⟨Nat.le_of_ble_eq_true rfl, Nat.le_of_ble_eq_true rfl⟩) (fun r41 u41 H locs hp41 hW => ?_)
                    obtain ⟨hc41, hf41_0⟩ : ((r41.toInt = 0)) ∧ ((u41 13 60).toInt = 0) := hp41
                    have hW : WB g A s.heap H locs ((hv (hv (hv (up2 (hv (up2 (up2 J 13 56 x24) 13 57 x25) [] [(13, 56), (13, 57), (13, 60)] u26) 13 56 x34) [] [(13, 56), (13, 57), (13, 60)] u35) [] [(13, 56)] u38) [] [(13, 60)] u41), L, I, P, E, N) (sgM g) := hW
                    have hWr : WB g A s.heap H locs (hv J [] [(13, 56), (13, 57), (13, 60)] (hv (hv (hv (up2 (hv (up2 (up2 J 13 56 x24) 13 57 x25) [] [(13, 56), (13, 57), (13, 60)] u26) 13 56 x34) [] [(13, 56), (13, 57), (13, 60)] u35) [] [(13, 56)] u38) [] [(13, 60)] u41), L, I, P, E, N) (sgM g) := by
                      rw [← ag_hvE (J := J) (R := []) (F := [(13, 56), (13, 57), (13, 60)]) (ag_hv rfl rfl (ag_hv rfl rfl (ag_hv rfl rfl (ag_up (Or.inr rfl) (ag_hv rfl rfl (ag_up (Or.inr rfl) (ag_up (Or.inr rfl) ag_rf)))))))]
                      exact hW
                    exact end_i C hr hlocks (hv (hv (hv (up2 (hv (up2 (up2 J 13 56 x24) 13 57 x25) [] [(13, 56), (13, 57), (13, 60)] u26) 13 56 x34) [] [(13, 56), (13, 57), (13, 60)] u35) [] [(13, 56)] u38) [] [(13, 60)] u41) hWr ⟨show (J 13 56).toInt ≤ (u38 13 56).toInt from by omega, show ¬ (u41 13 60).toInt = 0 → (u35 13 57).toInt = 5 - (d : Int) from by omega⟩ dX12_unit_193
                · have c37 : r26.toInt < r35.toInt := tnle rfl rfl c37
                  refine lv_iconst (v := 1) hx hb dX12_unit_140 (by decide) ?_
                  refine lv_goto (tgt := 179) hx hb dX12_unit_141 (by decide) ?_
                  refine lv_istore_n (lv' := [(2, .int 1), (4, .int r35), (3, .int r27), (1, .int r2), (0, .ref (g.2.2.1 13))]) hx hb dX12_unit_179 rfl hl (by decide) rfl (fun ls hl => ?_)
                  refine lv_aload_n hx hb dX12_unit_180 rfl (lv_at hl 4 rfl) ?_
                  refine lv_bipush (v := 41) hx hb dX12_unit_181 (by decide) ?_
                  refine ci_ C hW (runV (x := (g.2.2.1 13)) (As := [.int 41]) (rest := []) (T := (((hv (up2 (hv (up2 (up2 J 13 56 x24) 13 57 x25) [] [(13, 56), (13, 57), (13, 60)] u26) 13 56 x34) [] [(13, 56), (13, 57), (13, 60)] u35), L, I, P, E, N), sgM g)) C hW (c_X12_takes l g (hv (up2 (hv (up2 (up2 J 13 56 x24) 13 57 x25) [] [(13, 56), (13, 57), (13, 60)] u26) 13 56 x34) [] [(13, 56), (13, 57), (13, 60)] u35) L I P E N H.size 41 hwm (show 0 ≤ (u35 13 56).toInt from by (try simp only [kp41]); omega) (show ((J 13 58).toInt < 0 ∧ (J 13 59).toInt ≤ 60) ∨ (0 ≤ (J 13 58).toInt ∧ (J 13 58).toInt + (J 13 59).toInt ≤ 1800) from by (try simp only [kp41]); omega) (show 0 ≤ (41 : Int32).toInt from by (try simp only [kp41]); omega)) mi_X12_takes tw_1369 (recv_ (T := (((hv (up2 (hv (up2 (up2 J 13 56 x24) 13 57 x25) [] [(13, 56), (13, 57), (13, 60)] u26) 13 56 x34) [] [(13, 56), (13, 57), (13, 60)] u35), L, I, P, E, N), sgM g)) C hW (mm_ rfl) rfl rfl) ⟨rfl, rfl, by (simp only [RM]; omega), by (simp only [RM]; omega)⟩ rfl hl.1 rfl (Nat.le_of_ble_eq_true rfl) dX12_unit_183 ⟨Nat.le_of_ble_eq_true rfl, Nat.le_of_ble_eq_true rfl⟩) (fun r42 u42 H locs hp42 hW => ?_)
                  obtain ⟨hc42, hf42_0⟩ : ((r42.toInt = 1 ∧ (¬ (u35 13 60).toInt = 0)) ∨ (r42.toInt = 0)) ∧ ((u35 13 56).toInt ≤ (u42 13 56).toInt) := hp42
                  have hW : WB g A s.heap H locs ((hv (hv (up2 (hv (up2 (up2 J 13 56 x24) 13 57 x25) [] [(13, 56), (13, 57), (13, 60)] u26) 13 56 x34) [] [(13, 56), (13, 57), (13, 60)] u35) [] [(13, 56)] u42), L, I, P, E, N) (sgM g) := hW
                  refine lv_if_ne (tgt := 194) hx hb dX12_unit_186 (by decide) (fun c43 => ?_) (fun c43 => ?_)
                  · have c43 : ¬ r42.toInt = 0 := tne rfl kp0 c43
                    refine lv_aload_n hx hb dX12_unit_194 rfl (lv_at hl 4 rfl) ?_
                    refine lv_dup hx hb dX12_unit_195 rfl ?_
                    refine rg_13_57 C hW (mm_ rfl) tw_1080 dX12_unit_196 ?_
                    refine lv_as (u35 13 57) rfl ?_
                    refine lv_iconst (v := 1) hx hb dX12_unit_199 (by decide) ?_
                    refine lv_isub hx hb dX12_unit_200 ?_
                    refine lv_topi (fun x44 (e44 : x44 = (u35 13 57) - 1) => ?_)
                    try have t44 : x44.toInt = (u35 13 57).toInt - 1 := tsub e44 rfl kp1 (by omega)
                    refine rp_13_57 C hW (mm_ rfl) tw_1080 dX12_unit_201 (fun H locs hW => ?_)
                    refine lv_iload_n hx hb dX12_unit_204 rfl (lv_at hl 0 rfl) ?_
                    have hWr : WB g A s.heap H locs (hv J [] [(13, 56), (13, 57), (13, 60)] (up2 (hv (hv (up2 (hv (up2 (up2 J 13 56 x24) 13 57 x25) [] [(13, 56), (13, 57), (13, 60)] u26) 13 56 x34) [] [(13, 56), (13, 57), (13, 60)] u35) [] [(13, 56)] u42) 13 57 x44), L, I, P, E, N) (sgM g) := by
                      rw [← ag_hvE (J := J) (R := []) (F := [(13, 56), (13, 57), (13, 60)]) (ag_up (Or.inr rfl) (ag_hv rfl rfl (ag_hv rfl rfl (ag_up (Or.inr rfl) (ag_hv rfl rfl (ag_up (Or.inr rfl) (ag_up (Or.inr rfl) ag_rf)))))))]
                      exact hW
                    exact end_i C hr hlocks (up2 (hv (hv (up2 (hv (up2 (up2 J 13 56 x24) 13 57 x25) [] [(13, 56), (13, 57), (13, 60)] u26) 13 56 x34) [] [(13, 56), (13, 57), (13, 60)] u35) [] [(13, 56)] u42) 13 57 x44) hWr ⟨show (J 13 56).toInt ≤ (u42 13 56).toInt from by omega, show ¬ (u35 13 60).toInt = 0 → (x44).toInt = 5 - (d : Int) from by omega⟩ dX12_unit_205
                  · have c43 : r42.toInt = 0 := teq rfl kp0 c43
                    refine lv_aload_n hx hb dX12_unit_189 rfl (lv_at hl 4 rfl) ?_
                    refine ci_ C hW (runV (x := (g.2.2.1 13)) (As := []) (rest := []) (T := (((hv (hv (up2 (hv (up2 (up2 J 13 56 x24) 13 57 x25) [] [(13, 56), (13, 57), (13, 60)] u26) 13 56 x34) [] [(13, 56), (13, 57), (13, 60)] u35) [] [(13, 56)] u42), L, I, P, E, N), sgM g)) C hW (c_X12_breaksOff l g (hv (hv (up2 (hv (up2 (up2 J 13 56 x24) 13 57 x25) [] [(13, 56), (13, 57), (13, 60)] u26) 13 56 x34) [] [(13, 56), (13, 57), (13, 60)] u35) [] [(13, 56)] u42) L I P E N H.size  hwm) mi_X12_breaksOff tw_1365 (recv_ (T := (((hv (hv (up2 (hv (up2 (up2 J 13 56 x24) 13 57 x25) [] [(13, 56), (13, 57), (13, 60)] u26) 13 56 x34) [] [(13, 56), (13, 57), (13, 60)] u35) [] [(13, 56)] u42), L, I, P, E, N), sgM g)) C hW (mm_ rfl) rfl rfl) ⟨rfl, rfl, by (simp only [RM]; omega), by (simp only [RM]; omega)⟩ rfl hl.1 rfl (Nat.le_of_ble_eq_true rfl) dX12_unit_190 ⟨Nat.le_of_ble_eq_true rfl, Nat.le_of_ble_eq_true rfl⟩) (fun r45 u45 H locs hp45 hW => ?_)
                    obtain ⟨hc45, hf45_0⟩ : ((r45.toInt = 0)) ∧ ((u45 13 60).toInt = 0) := hp45
                    have hW : WB g A s.heap H locs ((hv (hv (hv (up2 (hv (up2 (up2 J 13 56 x24) 13 57 x25) [] [(13, 56), (13, 57), (13, 60)] u26) 13 56 x34) [] [(13, 56), (13, 57), (13, 60)] u35) [] [(13, 56)] u42) [] [(13, 60)] u45), L, I, P, E, N) (sgM g) := hW
                    have hWr : WB g A s.heap H locs (hv J [] [(13, 56), (13, 57), (13, 60)] (hv (hv (hv (up2 (hv (up2 (up2 J 13 56 x24) 13 57 x25) [] [(13, 56), (13, 57), (13, 60)] u26) 13 56 x34) [] [(13, 56), (13, 57), (13, 60)] u35) [] [(13, 56)] u42) [] [(13, 60)] u45), L, I, P, E, N) (sgM g) := by
                      rw [← ag_hvE (J := J) (R := []) (F := [(13, 56), (13, 57), (13, 60)]) (ag_hv rfl rfl (ag_hv rfl rfl (ag_hv rfl rfl (ag_up (Or.inr rfl) (ag_hv rfl rfl (ag_up (Or.inr rfl) (ag_up (Or.inr rfl) ag_rf)))))))]
                      exact hW
                    exact end_i C hr hlocks (hv (hv (hv (up2 (hv (up2 (up2 J 13 56 x24) 13 57 x25) [] [(13, 56), (13, 57), (13, 60)] u26) 13 56 x34) [] [(13, 56), (13, 57), (13, 60)] u35) [] [(13, 56)] u42) [] [(13, 60)] u45) hWr ⟨show (J 13 56).toInt ≤ (u42 13 56).toInt from by omega, show ¬ (u45 13 60).toInt = 0 → (u35 13 57).toInt = 5 - (d : Int) from by omega⟩ dX12_unit_193
            · have c33 : ¬ r27.toInt = 60 := tne rfl kp60 c33
              refine lv_iload_n hx hb dX12_unit_100 rfl (lv_at hl 0 rfl) ?_
              refine lv_bipush (v := 61) hx hb dX12_unit_101 (by decide) ?_
              refine lv_icmp_eq (tgt := 112) hx hb dX12_unit_103 (by decide) (fun c46 => ?_) (fun c46 => ?_)
              · have c46 : r27.toInt = 61 := teq rfl kp61 c46
                refine lv_aload_n hx hb dX12_unit_112 rfl (lv_at hl 3 rfl) ?_
                refine lv_dup hx hb dX12_unit_113 rfl ?_
                refine rg_13_56 C hW (mm_ rfl) tw_1079 dX12_unit_114 ?_
                refine lv_as (u26 13 56) rfl ?_
                refine lv_iconst (v := 1) hx hb dX12_unit_117 (by decide) ?_
                refine lv_iadd hx hb dX12_unit_118 ?_
                refine lv_topi (fun x47 (e47 : x47 = (u26 13 56) + 1) => ?_)
                try have t47 : x47.toInt = (u26 13 56).toInt + 1 := tadd e47 rfl kp1 (by omega)
                refine rp_13_56 C hW (mm_ rfl) tw_1079 dX12_unit_119 (fun H locs hW => ?_)
                refine lv_aload_n hx hb dX12_unit_122 rfl (lv_at hl 3 rfl) ?_
                refine ci_ C hW (runV (x := (g.2.2.1 13)) (As := []) (rest := []) (T := (((up2 (hv (up2 (up2 J 13 56 x24) 13 57 x25) [] [(13, 56), (13, 57), (13, 60)] u26) 13 56 x47), L, I, P, E, N), sgM g)) C hW ((hs d1 hd1) l g (up2 (hv (up2 (up2 J 13 56 x24) 13 57 x25) [] [(13, 56), (13, 57), (13, 60)] u26) 13 56 x47) L I P E N H.size  hwm (show 0 ≤ (x47).toInt from by omega) (show ((J 13 58).toInt < 0 ∧ (J 13 59).toInt ≤ 60) ∨ (0 ≤ (J 13 58).toInt ∧ (J 13 58).toInt + (J 13 59).toInt ≤ 1800) from by omega) (show ¬ (u26 13 60).toInt = 0 → (u26 13 57).toInt = 5 - (d1 : Int) from by omega) (show (d1 : Int) ≤ 5 from by omega)) mi_X12_sum tw_1346 (recv_ (T := (((up2 (hv (up2 (up2 J 13 56 x24) 13 57 x25) [] [(13, 56), (13, 57), (13, 60)] u26) 13 56 x47), L, I, P, E, N), sgM g)) C hW (mm_ rfl) rfl rfl) ⟨rfl, rfl, by (simp only [RM]; omega), by (simp only [RM]; omega)⟩ rfl hl.1 rfl (Nat.le_of_ble_eq_true rfl) dX12_unit_123 ⟨Nat.le_of_ble_eq_true rfl, Nat.le_of_ble_eq_true rfl⟩) (fun r48 u48 H locs hp48 hW => ?_)
                obtain ⟨hf48_0, hf48_1⟩ : ((x47).toInt ≤ (u48 13 56).toInt) ∧ (¬ (u48 13 60).toInt = 0 → (u48 13 57).toInt = 5 - (d1 : Int)) := hp48
                have hW : WB g A s.heap H locs ((hv (up2 (hv (up2 (up2 J 13 56 x24) 13 57 x25) [] [(13, 56), (13, 57), (13, 60)] u26) 13 56 x47) [] [(13, 56), (13, 57), (13, 60)] u48), L, I, P, E, N) (sgM g) := hW
                refine lv_istore (lv' := [(4, .int r48), (3, .int r27), (2, .int r26), (1, .int r2), (0, .ref (g.2.2.1 13))]) hx hb dX12_unit_126 hl (by decide) rfl (fun ls hl => ?_)
                refine lv_iload_n hx hb dX12_unit_128 rfl (lv_at hl 1 rfl) ?_
                refine lv_bipush (v := 60) hx hb dX12_unit_129 (by decide) ?_
                refine lv_icmp_ne (tgt := 148) hx hb dX12_unit_131 (by decide) (fun c49 => ?_) (fun c49 => ?_)
                · have c49 : ¬ r27.toInt = 60 := tne rfl kp60 c49
                  refine lv_iload_n hx hb dX12_unit_148 rfl (lv_at hl 1 rfl) ?_
                  refine lv_bipush (v := 61) hx hb dX12_unit_149 (by decide) ?_
                  refine lv_icmp_ne (tgt := 168) hx hb dX12_unit_151 (by decide) (fun c50 => ?_) (fun c50 => ?_)
                  · have c50 : ¬ r27.toInt = 61 := tne rfl kp61 c50
                    exfalso; omega
                  · have c50 : r27.toInt = 61 := teq rfl kp61 c50
                    refine lv_iload_n hx hb dX12_unit_154 rfl (lv_at hl 2 rfl) ?_
                    refine lv_iload hx hb dX12_unit_155 (lv_at hl 0 rfl) ?_
                    refine lv_icmp_ne (tgt := 164) hx hb dX12_unit_157 (by decide) (fun c51 => ?_) (fun c51 => ?_)
                    · have c51 : ¬ r26.toInt = r48.toInt := tne rfl rfl c51
                      refine lv_iconst (v := 0) hx hb dX12_unit_164 (by decide) ?_
                      refine lv_goto (tgt := 179) hx hb dX12_unit_165 (by decide) ?_
                      refine lv_istore_n (lv' := [(2, .int 0), (4, .int r48), (3, .int r27), (1, .int r2), (0, .ref (g.2.2.1 13))]) hx hb dX12_unit_179 rfl hl (by decide) rfl (fun ls hl => ?_)
                      refine lv_aload_n hx hb dX12_unit_180 rfl (lv_at hl 4 rfl) ?_
                      refine lv_bipush (v := 41) hx hb dX12_unit_181 (by decide) ?_
                      refine ci_ C hW (runV (x := (g.2.2.1 13)) (As := [.int 41]) (rest := []) (T := (((hv (up2 (hv (up2 (up2 J 13 56 x24) 13 57 x25) [] [(13, 56), (13, 57), (13, 60)] u26) 13 56 x47) [] [(13, 56), (13, 57), (13, 60)] u48), L, I, P, E, N), sgM g)) C hW (c_X12_takes l g (hv (up2 (hv (up2 (up2 J 13 56 x24) 13 57 x25) [] [(13, 56), (13, 57), (13, 60)] u26) 13 56 x47) [] [(13, 56), (13, 57), (13, 60)] u48) L I P E N H.size 41 hwm (show 0 ≤ (u48 13 56).toInt from by (try simp only [kp41]); omega) (show ((J 13 58).toInt < 0 ∧ (J 13 59).toInt ≤ 60) ∨ (0 ≤ (J 13 58).toInt ∧ (J 13 58).toInt + (J 13 59).toInt ≤ 1800) from by (try simp only [kp41]); omega) (show 0 ≤ (41 : Int32).toInt from by (try simp only [kp41]); omega)) mi_X12_takes tw_1369 (recv_ (T := (((hv (up2 (hv (up2 (up2 J 13 56 x24) 13 57 x25) [] [(13, 56), (13, 57), (13, 60)] u26) 13 56 x47) [] [(13, 56), (13, 57), (13, 60)] u48), L, I, P, E, N), sgM g)) C hW (mm_ rfl) rfl rfl) ⟨rfl, rfl, by (simp only [RM]; omega), by (simp only [RM]; omega)⟩ rfl hl.1 rfl (Nat.le_of_ble_eq_true rfl) dX12_unit_183 ⟨Nat.le_of_ble_eq_true rfl, Nat.le_of_ble_eq_true rfl⟩) (fun r52 u52 H locs hp52 hW => ?_)
                      obtain ⟨hc52, hf52_0⟩ : ((r52.toInt = 1 ∧ (¬ (u48 13 60).toInt = 0)) ∨ (r52.toInt = 0)) ∧ ((u48 13 56).toInt ≤ (u52 13 56).toInt) := hp52
                      have hW : WB g A s.heap H locs ((hv (hv (up2 (hv (up2 (up2 J 13 56 x24) 13 57 x25) [] [(13, 56), (13, 57), (13, 60)] u26) 13 56 x47) [] [(13, 56), (13, 57), (13, 60)] u48) [] [(13, 56)] u52), L, I, P, E, N) (sgM g) := hW
                      refine lv_if_ne (tgt := 194) hx hb dX12_unit_186 (by decide) (fun c53 => ?_) (fun c53 => ?_)
                      · have c53 : ¬ r52.toInt = 0 := tne rfl kp0 c53
                        refine lv_aload_n hx hb dX12_unit_194 rfl (lv_at hl 4 rfl) ?_
                        refine lv_dup hx hb dX12_unit_195 rfl ?_
                        refine rg_13_57 C hW (mm_ rfl) tw_1080 dX12_unit_196 ?_
                        refine lv_as (u48 13 57) rfl ?_
                        refine lv_iconst (v := 1) hx hb dX12_unit_199 (by decide) ?_
                        refine lv_isub hx hb dX12_unit_200 ?_
                        refine lv_topi (fun x54 (e54 : x54 = (u48 13 57) - 1) => ?_)
                        try have t54 : x54.toInt = (u48 13 57).toInt - 1 := tsub e54 rfl kp1 (by omega)
                        refine rp_13_57 C hW (mm_ rfl) tw_1080 dX12_unit_201 (fun H locs hW => ?_)
                        refine lv_iload_n hx hb dX12_unit_204 rfl (lv_at hl 0 rfl) ?_
                        have hWr : WB g A s.heap H locs (hv J [] [(13, 56), (13, 57), (13, 60)] (up2 (hv (hv (up2 (hv (up2 (up2 J 13 56 x24) 13 57 x25) [] [(13, 56), (13, 57), (13, 60)] u26) 13 56 x47) [] [(13, 56), (13, 57), (13, 60)] u48) [] [(13, 56)] u52) 13 57 x54), L, I, P, E, N) (sgM g) := by
                          rw [← ag_hvE (J := J) (R := []) (F := [(13, 56), (13, 57), (13, 60)]) (ag_up (Or.inr rfl) (ag_hv rfl rfl (ag_hv rfl rfl (ag_up (Or.inr rfl) (ag_hv rfl rfl (ag_up (Or.inr rfl) (ag_up (Or.inr rfl) ag_rf)))))))]
                          exact hW
                        exact end_i C hr hlocks (up2 (hv (hv (up2 (hv (up2 (up2 J 13 56 x24) 13 57 x25) [] [(13, 56), (13, 57), (13, 60)] u26) 13 56 x47) [] [(13, 56), (13, 57), (13, 60)] u48) [] [(13, 56)] u52) 13 57 x54) hWr ⟨show (J 13 56).toInt ≤ (u52 13 56).toInt from by omega, show ¬ (u48 13 60).toInt = 0 → (x54).toInt = 5 - (d : Int) from by omega⟩ dX12_unit_205
                      · have c53 : r52.toInt = 0 := teq rfl kp0 c53
                        refine lv_aload_n hx hb dX12_unit_189 rfl (lv_at hl 4 rfl) ?_
                        refine ci_ C hW (runV (x := (g.2.2.1 13)) (As := []) (rest := []) (T := (((hv (hv (up2 (hv (up2 (up2 J 13 56 x24) 13 57 x25) [] [(13, 56), (13, 57), (13, 60)] u26) 13 56 x47) [] [(13, 56), (13, 57), (13, 60)] u48) [] [(13, 56)] u52), L, I, P, E, N), sgM g)) C hW (c_X12_breaksOff l g (hv (hv (up2 (hv (up2 (up2 J 13 56 x24) 13 57 x25) [] [(13, 56), (13, 57), (13, 60)] u26) 13 56 x47) [] [(13, 56), (13, 57), (13, 60)] u48) [] [(13, 56)] u52) L I P E N H.size  hwm) mi_X12_breaksOff tw_1365 (recv_ (T := (((hv (hv (up2 (hv (up2 (up2 J 13 56 x24) 13 57 x25) [] [(13, 56), (13, 57), (13, 60)] u26) 13 56 x47) [] [(13, 56), (13, 57), (13, 60)] u48) [] [(13, 56)] u52), L, I, P, E, N), sgM g)) C hW (mm_ rfl) rfl rfl) ⟨rfl, rfl, by (simp only [RM]; omega), by (simp only [RM]; omega)⟩ rfl hl.1 rfl (Nat.le_of_ble_eq_true rfl) dX12_unit_190 ⟨Nat.le_of_ble_eq_true rfl, Nat.le_of_ble_eq_true rfl⟩) (fun r55 u55 H locs hp55 hW => ?_)
                        obtain ⟨hc55, hf55_0⟩ : ((r55.toInt = 0)) ∧ ((u55 13 60).toInt = 0) := hp55
                        have hW : WB g A s.heap H locs ((hv (hv (hv (up2 (hv (up2 (up2 J 13 56 x24) 13 57 x25) [] [(13, 56), (13, 57), (13, 60)] u26) 13 56 x47) [] [(13, 56), (13, 57), (13, 60)] u48) [] [(13, 56)] u52) [] [(13, 60)] u55), L, I, P, E, N) (sgM g) := hW
                        have hWr : WB g A s.heap H locs (hv J [] [(13, 56), (13, 57), (13, 60)] (hv (hv (hv (up2 (hv (up2 (up2 J 13 56 x24) 13 57 x25) [] [(13, 56), (13, 57), (13, 60)] u26) 13 56 x47) [] [(13, 56), (13, 57), (13, 60)] u48) [] [(13, 56)] u52) [] [(13, 60)] u55), L, I, P, E, N) (sgM g) := by
                          rw [← ag_hvE (J := J) (R := []) (F := [(13, 56), (13, 57), (13, 60)]) (ag_hv rfl rfl (ag_hv rfl rfl (ag_hv rfl rfl (ag_up (Or.inr rfl) (ag_hv rfl rfl (ag_up (Or.inr rfl) (ag_up (Or.inr rfl) ag_rf)))))))]
                          exact hW
                        exact end_i C hr hlocks (hv (hv (hv (up2 (hv (up2 (up2 J 13 56 x24) 13 57 x25) [] [(13, 56), (13, 57), (13, 60)] u26) 13 56 x47) [] [(13, 56), (13, 57), (13, 60)] u48) [] [(13, 56)] u52) [] [(13, 60)] u55) hWr ⟨show (J 13 56).toInt ≤ (u52 13 56).toInt from by omega, show ¬ (u55 13 60).toInt = 0 → (u48 13 57).toInt = 5 - (d : Int) from by omega⟩ dX12_unit_193
                    · have c51 : r26.toInt = r48.toInt := teq rfl rfl c51
                      refine lv_iconst (v := 1) hx hb dX12_unit_160 (by decide) ?_
                      refine lv_goto (tgt := 179) hx hb dX12_unit_161 (by decide) ?_
                      refine lv_istore_n (lv' := [(2, .int 1), (4, .int r48), (3, .int r27), (1, .int r2), (0, .ref (g.2.2.1 13))]) hx hb dX12_unit_179 rfl hl (by decide) rfl (fun ls hl => ?_)
                      refine lv_aload_n hx hb dX12_unit_180 rfl (lv_at hl 4 rfl) ?_
                      refine lv_bipush (v := 41) hx hb dX12_unit_181 (by decide) ?_
                      refine ci_ C hW (runV (x := (g.2.2.1 13)) (As := [.int 41]) (rest := []) (T := (((hv (up2 (hv (up2 (up2 J 13 56 x24) 13 57 x25) [] [(13, 56), (13, 57), (13, 60)] u26) 13 56 x47) [] [(13, 56), (13, 57), (13, 60)] u48), L, I, P, E, N), sgM g)) C hW (c_X12_takes l g (hv (up2 (hv (up2 (up2 J 13 56 x24) 13 57 x25) [] [(13, 56), (13, 57), (13, 60)] u26) 13 56 x47) [] [(13, 56), (13, 57), (13, 60)] u48) L I P E N H.size 41 hwm (show 0 ≤ (u48 13 56).toInt from by (try simp only [kp41]); omega) (show ((J 13 58).toInt < 0 ∧ (J 13 59).toInt ≤ 60) ∨ (0 ≤ (J 13 58).toInt ∧ (J 13 58).toInt + (J 13 59).toInt ≤ 1800) from by (try simp only [kp41]); omega) (show 0 ≤ (41 : Int32).toInt from by (try simp only [kp41]); omega)) mi_X12_takes tw_1369 (recv_ (T := (((hv (up2 (hv (up2 (up2 J 13 56 x24) 13 57 x25) [] [(13, 56), (13, 57), (13, 60)] u26) 13 56 x47) [] [(13, 56), (13, 57), (13, 60)] u48), L, I, P, E, N), sgM g)) C hW (mm_ rfl) rfl rfl) ⟨rfl, rfl, by (simp only [RM]; omega), by (simp only [RM]; omega)⟩ rfl hl.1 rfl (Nat.le_of_ble_eq_true rfl) dX12_unit_183 ⟨Nat.le_of_ble_eq_true rfl, Nat.le_of_ble_eq_true rfl⟩) (fun r56 u56 H locs hp56 hW => ?_)
                      obtain ⟨hc56, hf56_0⟩ : ((r56.toInt = 1 ∧ (¬ (u48 13 60).toInt = 0)) ∨ (r56.toInt = 0)) ∧ ((u48 13 56).toInt ≤ (u56 13 56).toInt) := hp56
                      have hW : WB g A s.heap H locs ((hv (hv (up2 (hv (up2 (up2 J 13 56 x24) 13 57 x25) [] [(13, 56), (13, 57), (13, 60)] u26) 13 56 x47) [] [(13, 56), (13, 57), (13, 60)] u48) [] [(13, 56)] u56), L, I, P, E, N) (sgM g) := hW
                      refine lv_if_ne (tgt := 194) hx hb dX12_unit_186 (by decide) (fun c57 => ?_) (fun c57 => ?_)
                      · have c57 : ¬ r56.toInt = 0 := tne rfl kp0 c57
                        refine lv_aload_n hx hb dX12_unit_194 rfl (lv_at hl 4 rfl) ?_
                        refine lv_dup hx hb dX12_unit_195 rfl ?_
                        refine rg_13_57 C hW (mm_ rfl) tw_1080 dX12_unit_196 ?_
                        refine lv_as (u48 13 57) rfl ?_
                        refine lv_iconst (v := 1) hx hb dX12_unit_199 (by decide) ?_
                        refine lv_isub hx hb dX12_unit_200 ?_
                        refine lv_topi (fun x58 (e58 : x58 = (u48 13 57) - 1) => ?_)
                        try have t58 : x58.toInt = (u48 13 57).toInt - 1 := tsub e58 rfl kp1 (by omega)
                        refine rp_13_57 C hW (mm_ rfl) tw_1080 dX12_unit_201 (fun H locs hW => ?_)
                        refine lv_iload_n hx hb dX12_unit_204 rfl (lv_at hl 0 rfl) ?_
                        have hWr : WB g A s.heap H locs (hv J [] [(13, 56), (13, 57), (13, 60)] (up2 (hv (hv (up2 (hv (up2 (up2 J 13 56 x24) 13 57 x25) [] [(13, 56), (13, 57), (13, 60)] u26) 13 56 x47) [] [(13, 56), (13, 57), (13, 60)] u48) [] [(13, 56)] u56) 13 57 x58), L, I, P, E, N) (sgM g) := by
                          rw [← ag_hvE (J := J) (R := []) (F := [(13, 56), (13, 57), (13, 60)]) (ag_up (Or.inr rfl) (ag_hv rfl rfl (ag_hv rfl rfl (ag_up (Or.inr rfl) (ag_hv rfl rfl (ag_up (Or.inr rfl) (ag_up (Or.inr rfl) ag_rf)))))))]
                          exact hW
                        exact end_i C hr hlocks (up2 (hv (hv (up2 (hv (up2 (up2 J 13 56 x24) 13 57 x25) [] [(13, 56), (13, 57), (13, 60)] u26) 13 56 x47) [] [(13, 56), (13, 57), (13, 60)] u48) [] [(13, 56)] u56) 13 57 x58) hWr ⟨show (J 13 56).toInt ≤ (u56 13 56).toInt from by omega, show ¬ (u48 13 60).toInt = 0 → (x58).toInt = 5 - (d : Int) from by omega⟩ dX12_unit_205
                      · have c57 : r56.toInt = 0 := teq rfl kp0 c57
                        refine lv_aload_n hx hb dX12_unit_189 rfl (lv_at hl 4 rfl) ?_
                        refine ci_ C hW (runV (x := (g.2.2.1 13)) (As := []) (rest := []) (T := (((hv (hv (up2 (hv (up2 (up2 J 13 56 x24) 13 57 x25) [] [(13, 56), (13, 57), (13, 60)] u26) 13 56 x47) [] [(13, 56), (13, 57), (13, 60)] u48) [] [(13, 56)] u56), L, I, P, E, N), sgM g)) C hW (c_X12_breaksOff l g (hv (hv (up2 (hv (up2 (up2 J 13 56 x24) 13 57 x25) [] [(13, 56), (13, 57), (13, 60)] u26) 13 56 x47) [] [(13, 56), (13, 57), (13, 60)] u48) [] [(13, 56)] u56) L I P E N H.size  hwm) mi_X12_breaksOff tw_1365 (recv_ (T := (((hv (hv (up2 (hv (up2 (up2 J 13 56 x24) 13 57 x25) [] [(13, 56), (13, 57), (13, 60)] u26) 13 56 x47) [] [(13, 56), (13, 57), (13, 60)] u48) [] [(13, 56)] u56), L, I, P, E, N), sgM g)) C hW (mm_ rfl) rfl rfl) ⟨rfl, rfl, by (simp only [RM]; omega), by (simp only [RM]; omega)⟩ rfl hl.1 rfl (Nat.le_of_ble_eq_true rfl) dX12_unit_190 ⟨Nat.le_of_ble_eq_true rfl, Nat.le_of_ble_eq_true rfl⟩) (fun r59 u59 H locs hp59 hW => ?_)
                        obtain ⟨hc59, hf59_0⟩ : ((r59.toInt = 0)) ∧ ((u59 13 60).toInt = 0) := hp59
                        have hW : WB g A s.heap H locs ((hv (hv (hv (up2 (hv (up2 (up2 J 13 56 x24) 13 57 x25) [] [(13, 56), (13, 57), (13, 60)] u26) 13 56 x47) [] [(13, 56), (13, 57), (13, 60)] u48) [] [(13, 56)] u56) [] [(13, 60)] u59), L, I, P, E, N) (sgM g) := hW
                        have hWr : WB g A s.heap H locs (hv J [] [(13, 56), (13, 57), (13, 60)] (hv (hv (hv (up2 (hv (up2 (up2 J 13 56 x24) 13 57 x25) [] [(13, 56), (13, 57), (13, 60)] u26) 13 56 x47) [] [(13, 56), (13, 57), (13, 60)] u48) [] [(13, 56)] u56) [] [(13, 60)] u59), L, I, P, E, N) (sgM g) := by
                          rw [← ag_hvE (J := J) (R := []) (F := [(13, 56), (13, 57), (13, 60)]) (ag_hv rfl rfl (ag_hv rfl rfl (ag_hv rfl rfl (ag_up (Or.inr rfl) (ag_hv rfl rfl (ag_up (Or.inr rfl) (ag_up (Or.inr rfl) ag_rf)))))))]
                          exact hW
                        exact end_i C hr hlocks (hv (hv (hv (up2 (hv (up2 (up2 J 13 56 x24) 13 57 x25) [] [(13, 56), (13, 57), (13, 60)] u26) 13 56 x47) [] [(13, 56), (13, 57), (13, 60)] u48) [] [(13, 56)] u56) [] [(13, 60)] u59) hWr ⟨show (J 13 56).toInt ≤ (u56 13 56).toInt from by omega, show ¬ (u59 13 60).toInt = 0 → (u48 13 57).toInt = 5 - (d : Int) from by omega⟩ dX12_unit_193
                · have c49 : r27.toInt = 60 := teq rfl kp60 c49
                  exfalso; omega
              · have c46 : ¬ r27.toInt = 61 := tne rfl kp61 c46
                refine lv_iload_n hx hb dX12_unit_106 rfl (lv_at hl 0 rfl) ?_
                refine lv_bipush (v := 62) hx hb dX12_unit_107 (by decide) ?_
                refine lv_icmp_ne (tgt := 180) hx hb dX12_unit_109 (by decide) (fun c60 => ?_) (fun c60 => ?_)
                · have c60 : ¬ r27.toInt = 62 := tne rfl kp62 c60
                  refine lv_aload_n hx hb dX12_unit_180 rfl (lv_at hl 3 rfl) ?_
                  refine lv_bipush (v := 41) hx hb dX12_unit_181 (by decide) ?_
                  refine ci_ C hW (runV (x := (g.2.2.1 13)) (As := [.int 41]) (rest := []) (T := (((hv (up2 (up2 J 13 56 x24) 13 57 x25) [] [(13, 56), (13, 57), (13, 60)] u26), L, I, P, E, N), sgM g)) C hW (c_X12_takes l g (hv (up2 (up2 J 13 56 x24) 13 57 x25) [] [(13, 56), (13, 57), (13, 60)] u26) L I P E N H.size 41 hwm (show 0 ≤ (u26 13 56).toInt from by (try simp only [kp41]); omega) (show ((J 13 58).toInt < 0 ∧ (J 13 59).toInt ≤ 60) ∨ (0 ≤ (J 13 58).toInt ∧ (J 13 58).toInt + (J 13 59).toInt ≤ 1800) from by (try simp only [kp41]); omega) (show 0 ≤ (41 : Int32).toInt from by (try simp only [kp41]); omega)) mi_X12_takes tw_1369 (recv_ (T := (((hv (up2 (up2 J 13 56 x24) 13 57 x25) [] [(13, 56), (13, 57), (13, 60)] u26), L, I, P, E, N), sgM g)) C hW (mm_ rfl) rfl rfl) ⟨rfl, rfl, by (simp only [RM]; omega), by (simp only [RM]; omega)⟩ rfl hl.1 rfl (Nat.le_of_ble_eq_true rfl) dX12_unit_183 ⟨Nat.le_of_ble_eq_true rfl, Nat.le_of_ble_eq_true rfl⟩) (fun r61 u61 H locs hp61 hW => ?_)
                  obtain ⟨hc61, hf61_0⟩ : ((r61.toInt = 1 ∧ (¬ (u26 13 60).toInt = 0)) ∨ (r61.toInt = 0)) ∧ ((u26 13 56).toInt ≤ (u61 13 56).toInt) := hp61
                  have hW : WB g A s.heap H locs ((hv (hv (up2 (up2 J 13 56 x24) 13 57 x25) [] [(13, 56), (13, 57), (13, 60)] u26) [] [(13, 56)] u61), L, I, P, E, N) (sgM g) := hW
                  refine lv_if_ne (tgt := 194) hx hb dX12_unit_186 (by decide) (fun c62 => ?_) (fun c62 => ?_)
                  · have c62 : ¬ r61.toInt = 0 := tne rfl kp0 c62
                    refine lv_aload_n hx hb dX12_unit_194 rfl (lv_at hl 3 rfl) ?_
                    refine lv_dup hx hb dX12_unit_195 rfl ?_
                    refine rg_13_57 C hW (mm_ rfl) tw_1080 dX12_unit_196 ?_
                    refine lv_as (u26 13 57) rfl ?_
                    refine lv_iconst (v := 1) hx hb dX12_unit_199 (by decide) ?_
                    refine lv_isub hx hb dX12_unit_200 ?_
                    refine lv_topi (fun x63 (e63 : x63 = (u26 13 57) - 1) => ?_)
                    try have t63 : x63.toInt = (u26 13 57).toInt - 1 := tsub e63 rfl kp1 (by omega)
                    refine rp_13_57 C hW (mm_ rfl) tw_1080 dX12_unit_201 (fun H locs hW => ?_)
                    refine lv_iload_n hx hb dX12_unit_204 rfl (lv_at hl 1 rfl) ?_
                    have hWr : WB g A s.heap H locs (hv J [] [(13, 56), (13, 57), (13, 60)] (up2 (hv (hv (up2 (up2 J 13 56 x24) 13 57 x25) [] [(13, 56), (13, 57), (13, 60)] u26) [] [(13, 56)] u61) 13 57 x63), L, I, P, E, N) (sgM g) := by
                      rw [← ag_hvE (J := J) (R := []) (F := [(13, 56), (13, 57), (13, 60)]) (ag_up (Or.inr rfl) (ag_hv rfl rfl (ag_hv rfl rfl (ag_up (Or.inr rfl) (ag_up (Or.inr rfl) ag_rf)))))]
                      exact hW
                    exact end_i C hr hlocks (up2 (hv (hv (up2 (up2 J 13 56 x24) 13 57 x25) [] [(13, 56), (13, 57), (13, 60)] u26) [] [(13, 56)] u61) 13 57 x63) hWr ⟨show (J 13 56).toInt ≤ (u61 13 56).toInt from by omega, show ¬ (u26 13 60).toInt = 0 → (x63).toInt = 5 - (d : Int) from by omega⟩ dX12_unit_205
                  · have c62 : r61.toInt = 0 := teq rfl kp0 c62
                    refine lv_aload_n hx hb dX12_unit_189 rfl (lv_at hl 3 rfl) ?_
                    refine ci_ C hW (runV (x := (g.2.2.1 13)) (As := []) (rest := []) (T := (((hv (hv (up2 (up2 J 13 56 x24) 13 57 x25) [] [(13, 56), (13, 57), (13, 60)] u26) [] [(13, 56)] u61), L, I, P, E, N), sgM g)) C hW (c_X12_breaksOff l g (hv (hv (up2 (up2 J 13 56 x24) 13 57 x25) [] [(13, 56), (13, 57), (13, 60)] u26) [] [(13, 56)] u61) L I P E N H.size  hwm) mi_X12_breaksOff tw_1365 (recv_ (T := (((hv (hv (up2 (up2 J 13 56 x24) 13 57 x25) [] [(13, 56), (13, 57), (13, 60)] u26) [] [(13, 56)] u61), L, I, P, E, N), sgM g)) C hW (mm_ rfl) rfl rfl) ⟨rfl, rfl, by (simp only [RM]; omega), by (simp only [RM]; omega)⟩ rfl hl.1 rfl (Nat.le_of_ble_eq_true rfl) dX12_unit_190 ⟨Nat.le_of_ble_eq_true rfl, Nat.le_of_ble_eq_true rfl⟩) (fun r64 u64 H locs hp64 hW => ?_)
                    obtain ⟨hc64, hf64_0⟩ : ((r64.toInt = 0)) ∧ ((u64 13 60).toInt = 0) := hp64
                    have hW : WB g A s.heap H locs ((hv (hv (hv (up2 (up2 J 13 56 x24) 13 57 x25) [] [(13, 56), (13, 57), (13, 60)] u26) [] [(13, 56)] u61) [] [(13, 60)] u64), L, I, P, E, N) (sgM g) := hW
                    have hWr : WB g A s.heap H locs (hv J [] [(13, 56), (13, 57), (13, 60)] (hv (hv (hv (up2 (up2 J 13 56 x24) 13 57 x25) [] [(13, 56), (13, 57), (13, 60)] u26) [] [(13, 56)] u61) [] [(13, 60)] u64), L, I, P, E, N) (sgM g) := by
                      rw [← ag_hvE (J := J) (R := []) (F := [(13, 56), (13, 57), (13, 60)]) (ag_hv rfl rfl (ag_hv rfl rfl (ag_hv rfl rfl (ag_up (Or.inr rfl) (ag_up (Or.inr rfl) ag_rf)))))]
                      exact hW
                    exact end_i C hr hlocks (hv (hv (hv (up2 (up2 J 13 56 x24) 13 57 x25) [] [(13, 56), (13, 57), (13, 60)] u26) [] [(13, 56)] u61) [] [(13, 60)] u64) hWr ⟨show (J 13 56).toInt ≤ (u61 13 56).toInt from by omega, show ¬ (u64 13 60).toInt = 0 → (u26 13 57).toInt = 5 - (d : Int) from by omega⟩ dX12_unit_193
                · have c60 : r27.toInt = 62 := teq rfl kp62 c60
                  refine lv_aload_n hx hb dX12_unit_112 rfl (lv_at hl 3 rfl) ?_
                  refine lv_dup hx hb dX12_unit_113 rfl ?_
                  refine rg_13_56 C hW (mm_ rfl) tw_1079 dX12_unit_114 ?_
                  refine lv_as (u26 13 56) rfl ?_
                  refine lv_iconst (v := 1) hx hb dX12_unit_117 (by decide) ?_
                  refine lv_iadd hx hb dX12_unit_118 ?_
                  refine lv_topi (fun x65 (e65 : x65 = (u26 13 56) + 1) => ?_)
                  try have t65 : x65.toInt = (u26 13 56).toInt + 1 := tadd e65 rfl kp1 (by omega)
                  refine rp_13_56 C hW (mm_ rfl) tw_1079 dX12_unit_119 (fun H locs hW => ?_)
                  refine lv_aload_n hx hb dX12_unit_122 rfl (lv_at hl 3 rfl) ?_
                  refine ci_ C hW (runV (x := (g.2.2.1 13)) (As := []) (rest := []) (T := (((up2 (hv (up2 (up2 J 13 56 x24) 13 57 x25) [] [(13, 56), (13, 57), (13, 60)] u26) 13 56 x65), L, I, P, E, N), sgM g)) C hW ((hs d1 hd1) l g (up2 (hv (up2 (up2 J 13 56 x24) 13 57 x25) [] [(13, 56), (13, 57), (13, 60)] u26) 13 56 x65) L I P E N H.size  hwm (show 0 ≤ (x65).toInt from by omega) (show ((J 13 58).toInt < 0 ∧ (J 13 59).toInt ≤ 60) ∨ (0 ≤ (J 13 58).toInt ∧ (J 13 58).toInt + (J 13 59).toInt ≤ 1800) from by omega) (show ¬ (u26 13 60).toInt = 0 → (u26 13 57).toInt = 5 - (d1 : Int) from by omega) (show (d1 : Int) ≤ 5 from by omega)) mi_X12_sum tw_1346 (recv_ (T := (((up2 (hv (up2 (up2 J 13 56 x24) 13 57 x25) [] [(13, 56), (13, 57), (13, 60)] u26) 13 56 x65), L, I, P, E, N), sgM g)) C hW (mm_ rfl) rfl rfl) ⟨rfl, rfl, by (simp only [RM]; omega), by (simp only [RM]; omega)⟩ rfl hl.1 rfl (Nat.le_of_ble_eq_true rfl) dX12_unit_123 ⟨Nat.le_of_ble_eq_true rfl, Nat.le_of_ble_eq_true rfl⟩) (fun r66 u66 H locs hp66 hW => ?_)
                  obtain ⟨hf66_0, hf66_1⟩ : ((x65).toInt ≤ (u66 13 56).toInt) ∧ (¬ (u66 13 60).toInt = 0 → (u66 13 57).toInt = 5 - (d1 : Int)) := hp66
                  have hW : WB g A s.heap H locs ((hv (up2 (hv (up2 (up2 J 13 56 x24) 13 57 x25) [] [(13, 56), (13, 57), (13, 60)] u26) 13 56 x65) [] [(13, 56), (13, 57), (13, 60)] u66), L, I, P, E, N) (sgM g) := hW
                  refine lv_istore (lv' := [(4, .int r66), (3, .int r27), (2, .int r26), (1, .int r2), (0, .ref (g.2.2.1 13))]) hx hb dX12_unit_126 hl (by decide) rfl (fun ls hl => ?_)
                  refine lv_iload_n hx hb dX12_unit_128 rfl (lv_at hl 1 rfl) ?_
                  refine lv_bipush (v := 60) hx hb dX12_unit_129 (by decide) ?_
                  refine lv_icmp_ne (tgt := 148) hx hb dX12_unit_131 (by decide) (fun c67 => ?_) (fun c67 => ?_)
                  · have c67 : ¬ r27.toInt = 60 := tne rfl kp60 c67
                    refine lv_iload_n hx hb dX12_unit_148 rfl (lv_at hl 1 rfl) ?_
                    refine lv_bipush (v := 61) hx hb dX12_unit_149 (by decide) ?_
                    refine lv_icmp_ne (tgt := 168) hx hb dX12_unit_151 (by decide) (fun c68 => ?_) (fun c68 => ?_)
                    · have c68 : ¬ r27.toInt = 61 := tne rfl kp61 c68
                      refine lv_iload_n hx hb dX12_unit_168 rfl (lv_at hl 2 rfl) ?_
                      refine lv_iload hx hb dX12_unit_169 (lv_at hl 0 rfl) ?_
                      refine lv_icmp_le (tgt := 178) hx hb dX12_unit_171 (by decide) (fun c69 => ?_) (fun c69 => ?_)
                      · have c69 : r26.toInt ≤ r66.toInt := tle rfl rfl c69
                        refine lv_iconst (v := 0) hx hb dX12_unit_178 (by decide) ?_
                        refine lv_istore_n (lv' := [(2, .int 0), (4, .int r66), (3, .int r27), (1, .int r2), (0, .ref (g.2.2.1 13))]) hx hb dX12_unit_179 rfl hl (by decide) rfl (fun ls hl => ?_)
                        refine lv_aload_n hx hb dX12_unit_180 rfl (lv_at hl 4 rfl) ?_
                        refine lv_bipush (v := 41) hx hb dX12_unit_181 (by decide) ?_
                        refine ci_ C hW (runV (x := (g.2.2.1 13)) (As := [.int 41]) (rest := []) (T := (((hv (up2 (hv (up2 (up2 J 13 56 x24) 13 57 x25) [] [(13, 56), (13, 57), (13, 60)] u26) 13 56 x65) [] [(13, 56), (13, 57), (13, 60)] u66), L, I, P, E, N), sgM g)) C hW (c_X12_takes l g (hv (up2 (hv (up2 (up2 J 13 56 x24) 13 57 x25) [] [(13, 56), (13, 57), (13, 60)] u26) 13 56 x65) [] [(13, 56), (13, 57), (13, 60)] u66) L I P E N H.size 41 hwm (show 0 ≤ (u66 13 56).toInt from by (try simp only [kp41]); omega) (show ((J 13 58).toInt < 0 ∧ (J 13 59).toInt ≤ 60) ∨ (0 ≤ (J 13 58).toInt ∧ (J 13 58).toInt + (J 13 59).toInt ≤ 1800) from by (try simp only [kp41]); omega) (show 0 ≤ (41 : Int32).toInt from by (try simp only [kp41]); omega)) mi_X12_takes tw_1369 (recv_ (T := (((hv (up2 (hv (up2 (up2 J 13 56 x24) 13 57 x25) [] [(13, 56), (13, 57), (13, 60)] u26) 13 56 x65) [] [(13, 56), (13, 57), (13, 60)] u66), L, I, P, E, N), sgM g)) C hW (mm_ rfl) rfl rfl) ⟨rfl, rfl, by (simp only [RM]; omega), by (simp only [RM]; omega)⟩ rfl hl.1 rfl (Nat.le_of_ble_eq_true rfl) dX12_unit_183 ⟨Nat.le_of_ble_eq_true rfl, Nat.le_of_ble_eq_true rfl⟩) (fun r70 u70 H locs hp70 hW => ?_)
                        obtain ⟨hc70, hf70_0⟩ : ((r70.toInt = 1 ∧ (¬ (u66 13 60).toInt = 0)) ∨ (r70.toInt = 0)) ∧ ((u66 13 56).toInt ≤ (u70 13 56).toInt) := hp70
                        have hW : WB g A s.heap H locs ((hv (hv (up2 (hv (up2 (up2 J 13 56 x24) 13 57 x25) [] [(13, 56), (13, 57), (13, 60)] u26) 13 56 x65) [] [(13, 56), (13, 57), (13, 60)] u66) [] [(13, 56)] u70), L, I, P, E, N) (sgM g) := hW
                        refine lv_if_ne (tgt := 194) hx hb dX12_unit_186 (by decide) (fun c71 => ?_) (fun c71 => ?_)
                        · have c71 : ¬ r70.toInt = 0 := tne rfl kp0 c71
                          refine lv_aload_n hx hb dX12_unit_194 rfl (lv_at hl 4 rfl) ?_
                          refine lv_dup hx hb dX12_unit_195 rfl ?_
                          refine rg_13_57 C hW (mm_ rfl) tw_1080 dX12_unit_196 ?_
                          refine lv_as (u66 13 57) rfl ?_
                          refine lv_iconst (v := 1) hx hb dX12_unit_199 (by decide) ?_
                          refine lv_isub hx hb dX12_unit_200 ?_
                          refine lv_topi (fun x72 (e72 : x72 = (u66 13 57) - 1) => ?_)
                          try have t72 : x72.toInt = (u66 13 57).toInt - 1 := tsub e72 rfl kp1 (by omega)
                          refine rp_13_57 C hW (mm_ rfl) tw_1080 dX12_unit_201 (fun H locs hW => ?_)
                          refine lv_iload_n hx hb dX12_unit_204 rfl (lv_at hl 0 rfl) ?_
                          have hWr : WB g A s.heap H locs (hv J [] [(13, 56), (13, 57), (13, 60)] (up2 (hv (hv (up2 (hv (up2 (up2 J 13 56 x24) 13 57 x25) [] [(13, 56), (13, 57), (13, 60)] u26) 13 56 x65) [] [(13, 56), (13, 57), (13, 60)] u66) [] [(13, 56)] u70) 13 57 x72), L, I, P, E, N) (sgM g) := by
                            rw [← ag_hvE (J := J) (R := []) (F := [(13, 56), (13, 57), (13, 60)]) (ag_up (Or.inr rfl) (ag_hv rfl rfl (ag_hv rfl rfl (ag_up (Or.inr rfl) (ag_hv rfl rfl (ag_up (Or.inr rfl) (ag_up (Or.inr rfl) ag_rf)))))))]
                            exact hW
                          exact end_i C hr hlocks (up2 (hv (hv (up2 (hv (up2 (up2 J 13 56 x24) 13 57 x25) [] [(13, 56), (13, 57), (13, 60)] u26) 13 56 x65) [] [(13, 56), (13, 57), (13, 60)] u66) [] [(13, 56)] u70) 13 57 x72) hWr ⟨show (J 13 56).toInt ≤ (u70 13 56).toInt from by omega, show ¬ (u66 13 60).toInt = 0 → (x72).toInt = 5 - (d : Int) from by omega⟩ dX12_unit_205
                        · have c71 : r70.toInt = 0 := teq rfl kp0 c71
                          refine lv_aload_n hx hb dX12_unit_189 rfl (lv_at hl 4 rfl) ?_
                          refine ci_ C hW (runV (x := (g.2.2.1 13)) (As := []) (rest := []) (T := (((hv (hv (up2 (hv (up2 (up2 J 13 56 x24) 13 57 x25) [] [(13, 56), (13, 57), (13, 60)] u26) 13 56 x65) [] [(13, 56), (13, 57), (13, 60)] u66) [] [(13, 56)] u70), L, I, P, E, N), sgM g)) C hW (c_X12_breaksOff l g (hv (hv (up2 (hv (up2 (up2 J 13 56 x24) 13 57 x25) [] [(13, 56), (13, 57), (13, 60)] u26) 13 56 x65) [] [(13, 56), (13, 57), (13, 60)] u66) [] [(13, 56)] u70) L I P E N H.size  hwm) mi_X12_breaksOff tw_1365 (recv_ (T := (((hv (hv (up2 (hv (up2 (up2 J 13 56 x24) 13 57 x25) [] [(13, 56), (13, 57), (13, 60)] u26) 13 56 x65) [] [(13, 56), (13, 57), (13, 60)] u66) [] [(13, 56)] u70), L, I, P, E, N), sgM g)) C hW (mm_ rfl) rfl rfl) ⟨rfl, rfl, by (simp only [RM]; omega), by (simp only [RM]; omega)⟩ rfl hl.1 rfl (Nat.le_of_ble_eq_true rfl) dX12_unit_190 ⟨Nat.le_of_ble_eq_true rfl, Nat.le_of_ble_eq_true rfl⟩) (fun r73 u73 H locs hp73 hW => ?_)
                          obtain ⟨hc73, hf73_0⟩ : ((r73.toInt = 0)) ∧ ((u73 13 60).toInt = 0) := hp73
                          have hW : WB g A s.heap H locs ((hv (hv (hv (up2 (hv (up2 (up2 J 13 56 x24) 13 57 x25) [] [(13, 56), (13, 57), (13, 60)] u26) 13 56 x65) [] [(13, 56), (13, 57), (13, 60)] u66) [] [(13, 56)] u70) [] [(13, 60)] u73), L, I, P, E, N) (sgM g) := hW
                          have hWr : WB g A s.heap H locs (hv J [] [(13, 56), (13, 57), (13, 60)] (hv (hv (hv (up2 (hv (up2 (up2 J 13 56 x24) 13 57 x25) [] [(13, 56), (13, 57), (13, 60)] u26) 13 56 x65) [] [(13, 56), (13, 57), (13, 60)] u66) [] [(13, 56)] u70) [] [(13, 60)] u73), L, I, P, E, N) (sgM g) := by
                            rw [← ag_hvE (J := J) (R := []) (F := [(13, 56), (13, 57), (13, 60)]) (ag_hv rfl rfl (ag_hv rfl rfl (ag_hv rfl rfl (ag_up (Or.inr rfl) (ag_hv rfl rfl (ag_up (Or.inr rfl) (ag_up (Or.inr rfl) ag_rf)))))))]
                            exact hW
                          exact end_i C hr hlocks (hv (hv (hv (up2 (hv (up2 (up2 J 13 56 x24) 13 57 x25) [] [(13, 56), (13, 57), (13, 60)] u26) 13 56 x65) [] [(13, 56), (13, 57), (13, 60)] u66) [] [(13, 56)] u70) [] [(13, 60)] u73) hWr ⟨show (J 13 56).toInt ≤ (u70 13 56).toInt from by omega, show ¬ (u73 13 60).toInt = 0 → (u66 13 57).toInt = 5 - (d : Int) from by omega⟩ dX12_unit_193
                      · have c69 : r66.toInt < r26.toInt := tnle rfl rfl c69
                        refine lv_iconst (v := 1) hx hb dX12_unit_174 (by decide) ?_
                        refine lv_goto (tgt := 179) hx hb dX12_unit_175 (by decide) ?_
                        refine lv_istore_n (lv' := [(2, .int 1), (4, .int r66), (3, .int r27), (1, .int r2), (0, .ref (g.2.2.1 13))]) hx hb dX12_unit_179 rfl hl (by decide) rfl (fun ls hl => ?_)
                        refine lv_aload_n hx hb dX12_unit_180 rfl (lv_at hl 4 rfl) ?_
                        refine lv_bipush (v := 41) hx hb dX12_unit_181 (by decide) ?_
                        refine ci_ C hW (runV (x := (g.2.2.1 13)) (As := [.int 41]) (rest := []) (T := (((hv (up2 (hv (up2 (up2 J 13 56 x24) 13 57 x25) [] [(13, 56), (13, 57), (13, 60)] u26) 13 56 x65) [] [(13, 56), (13, 57), (13, 60)] u66), L, I, P, E, N), sgM g)) C hW (c_X12_takes l g (hv (up2 (hv (up2 (up2 J 13 56 x24) 13 57 x25) [] [(13, 56), (13, 57), (13, 60)] u26) 13 56 x65) [] [(13, 56), (13, 57), (13, 60)] u66) L I P E N H.size 41 hwm (show 0 ≤ (u66 13 56).toInt from by (try simp only [kp41]); omega) (show ((J 13 58).toInt < 0 ∧ (J 13 59).toInt ≤ 60) ∨ (0 ≤ (J 13 58).toInt ∧ (J 13 58).toInt + (J 13 59).toInt ≤ 1800) from by (try simp only [kp41]); omega) (show 0 ≤ (41 : Int32).toInt from by (try simp only [kp41]); omega)) mi_X12_takes tw_1369 (recv_ (T := (((hv (up2 (hv (up2 (up2 J 13 56 x24) 13 57 x25) [] [(13, 56), (13, 57), (13, 60)] u26) 13 56 x65) [] [(13, 56), (13, 57), (13, 60)] u66), L, I, P, E, N), sgM g)) C hW (mm_ rfl) rfl rfl) ⟨rfl, rfl, by (simp only [RM]; omega), by (simp only [RM]; omega)⟩ rfl hl.1 rfl (Nat.le_of_ble_eq_true rfl) dX12_unit_183 ⟨Nat.le_of_ble_eq_true rfl, Nat.le_of_ble_eq_true rfl⟩) (fun r74 u74 H locs hp74 hW => ?_)
                        obtain ⟨hc74, hf74_0⟩ : ((r74.toInt = 1 ∧ (¬ (u66 13 60).toInt = 0)) ∨ (r74.toInt = 0)) ∧ ((u66 13 56).toInt ≤ (u74 13 56).toInt) := hp74
                        have hW : WB g A s.heap H locs ((hv (hv (up2 (hv (up2 (up2 J 13 56 x24) 13 57 x25) [] [(13, 56), (13, 57), (13, 60)] u26) 13 56 x65) [] [(13, 56), (13, 57), (13, 60)] u66) [] [(13, 56)] u74), L, I, P, E, N) (sgM g) := hW
                        refine lv_if_ne (tgt := 194) hx hb dX12_unit_186 (by decide) (fun c75 => ?_) (fun c75 => ?_)
                        · have c75 : ¬ r74.toInt = 0 := tne rfl kp0 c75
                          refine lv_aload_n hx hb dX12_unit_194 rfl (lv_at hl 4 rfl) ?_
                          refine lv_dup hx hb dX12_unit_195 rfl ?_
                          refine rg_13_57 C hW (mm_ rfl) tw_1080 dX12_unit_196 ?_
                          refine lv_as (u66 13 57) rfl ?_
                          refine lv_iconst (v := 1) hx hb dX12_unit_199 (by decide) ?_
                          refine lv_isub hx hb dX12_unit_200 ?_
                          refine lv_topi (fun x76 (e76 : x76 = (u66 13 57) - 1) => ?_)
                          try have t76 : x76.toInt = (u66 13 57).toInt - 1 := tsub e76 rfl kp1 (by omega)
                          refine rp_13_57 C hW (mm_ rfl) tw_1080 dX12_unit_201 (fun H locs hW => ?_)
                          refine lv_iload_n hx hb dX12_unit_204 rfl (lv_at hl 0 rfl) ?_
                          have hWr : WB g A s.heap H locs (hv J [] [(13, 56), (13, 57), (13, 60)] (up2 (hv (hv (up2 (hv (up2 (up2 J 13 56 x24) 13 57 x25) [] [(13, 56), (13, 57), (13, 60)] u26) 13 56 x65) [] [(13, 56), (13, 57), (13, 60)] u66) [] [(13, 56)] u74) 13 57 x76), L, I, P, E, N) (sgM g) := by
                            rw [← ag_hvE (J := J) (R := []) (F := [(13, 56), (13, 57), (13, 60)]) (ag_up (Or.inr rfl) (ag_hv rfl rfl (ag_hv rfl rfl (ag_up (Or.inr rfl) (ag_hv rfl rfl (ag_up (Or.inr rfl) (ag_up (Or.inr rfl) ag_rf)))))))]
                            exact hW
                          exact end_i C hr hlocks (up2 (hv (hv (up2 (hv (up2 (up2 J 13 56 x24) 13 57 x25) [] [(13, 56), (13, 57), (13, 60)] u26) 13 56 x65) [] [(13, 56), (13, 57), (13, 60)] u66) [] [(13, 56)] u74) 13 57 x76) hWr ⟨show (J 13 56).toInt ≤ (u74 13 56).toInt from by omega, show ¬ (u66 13 60).toInt = 0 → (x76).toInt = 5 - (d : Int) from by omega⟩ dX12_unit_205
                        · have c75 : r74.toInt = 0 := teq rfl kp0 c75
                          refine lv_aload_n hx hb dX12_unit_189 rfl (lv_at hl 4 rfl) ?_
                          refine ci_ C hW (runV (x := (g.2.2.1 13)) (As := []) (rest := []) (T := (((hv (hv (up2 (hv (up2 (up2 J 13 56 x24) 13 57 x25) [] [(13, 56), (13, 57), (13, 60)] u26) 13 56 x65) [] [(13, 56), (13, 57), (13, 60)] u66) [] [(13, 56)] u74), L, I, P, E, N), sgM g)) C hW (c_X12_breaksOff l g (hv (hv (up2 (hv (up2 (up2 J 13 56 x24) 13 57 x25) [] [(13, 56), (13, 57), (13, 60)] u26) 13 56 x65) [] [(13, 56), (13, 57), (13, 60)] u66) [] [(13, 56)] u74) L I P E N H.size  hwm) mi_X12_breaksOff tw_1365 (recv_ (T := (((hv (hv (up2 (hv (up2 (up2 J 13 56 x24) 13 57 x25) [] [(13, 56), (13, 57), (13, 60)] u26) 13 56 x65) [] [(13, 56), (13, 57), (13, 60)] u66) [] [(13, 56)] u74), L, I, P, E, N), sgM g)) C hW (mm_ rfl) rfl rfl) ⟨rfl, rfl, by (simp only [RM]; omega), by (simp only [RM]; omega)⟩ rfl hl.1 rfl (Nat.le_of_ble_eq_true rfl) dX12_unit_190 ⟨Nat.le_of_ble_eq_true rfl, Nat.le_of_ble_eq_true rfl⟩) (fun r77 u77 H locs hp77 hW => ?_)
                          obtain ⟨hc77, hf77_0⟩ : ((r77.toInt = 0)) ∧ ((u77 13 60).toInt = 0) := hp77
                          have hW : WB g A s.heap H locs ((hv (hv (hv (up2 (hv (up2 (up2 J 13 56 x24) 13 57 x25) [] [(13, 56), (13, 57), (13, 60)] u26) 13 56 x65) [] [(13, 56), (13, 57), (13, 60)] u66) [] [(13, 56)] u74) [] [(13, 60)] u77), L, I, P, E, N) (sgM g) := hW
                          have hWr : WB g A s.heap H locs (hv J [] [(13, 56), (13, 57), (13, 60)] (hv (hv (hv (up2 (hv (up2 (up2 J 13 56 x24) 13 57 x25) [] [(13, 56), (13, 57), (13, 60)] u26) 13 56 x65) [] [(13, 56), (13, 57), (13, 60)] u66) [] [(13, 56)] u74) [] [(13, 60)] u77), L, I, P, E, N) (sgM g) := by
                            rw [← ag_hvE (J := J) (R := []) (F := [(13, 56), (13, 57), (13, 60)]) (ag_hv rfl rfl (ag_hv rfl rfl (ag_hv rfl rfl (ag_up (Or.inr rfl) (ag_hv rfl rfl (ag_up (Or.inr rfl) (ag_up (Or.inr rfl) ag_rf)))))))]
                            exact hW
                          exact end_i C hr hlocks (hv (hv (hv (up2 (hv (up2 (up2 J 13 56 x24) 13 57 x25) [] [(13, 56), (13, 57), (13, 60)] u26) 13 56 x65) [] [(13, 56), (13, 57), (13, 60)] u66) [] [(13, 56)] u74) [] [(13, 60)] u77) hWr ⟨show (J 13 56).toInt ≤ (u74 13 56).toInt from by omega, show ¬ (u77 13 60).toInt = 0 → (u66 13 57).toInt = 5 - (d : Int) from by omega⟩ dX12_unit_193
                    · have c68 : r27.toInt = 61 := teq rfl kp61 c68
                      exfalso; omega
                  · have c67 : r27.toInt = 60 := teq rfl kp60 c67
                    exfalso; omega
        · have c23 : (J 13 57).toInt = 5 := teq rfl kp5 c23
          refine lv_aload_n hx hb dX12_unit_52 rfl (lv_at hl 1 rfl) ?_
          refine ci_ C hW (runV (x := (g.2.2.1 13)) (As := []) (rest := []) (T := ((J, L, I, P, E, N), sgM g)) C hW (c_X12_breaksOff l g J L I P E N H.size  hwm) mi_X12_breaksOff tw_1365 (recv_ (T := ((J, L, I, P, E, N), sgM g)) C hW (mm_ rfl) rfl rfl) ⟨rfl, rfl, by (simp only [RM]; omega), by (simp only [RM]; omega)⟩ rfl hl.1 rfl (Nat.le_of_ble_eq_true rfl) dX12_unit_53 ⟨Nat.le_of_ble_eq_true rfl, Nat.le_of_ble_eq_true rfl⟩) (fun r78 u78 H locs hp78 hW => ?_)
          obtain ⟨hc78, hf78_0⟩ : ((r78.toInt = 0)) ∧ ((u78 13 60).toInt = 0) := hp78
          have hW : WB g A s.heap H locs ((hv J [] [(13, 60)] u78), L, I, P, E, N) (sgM g) := hW
          have hWr : WB g A s.heap H locs (hv J [] [(13, 56), (13, 57), (13, 60)] (hv J [] [(13, 60)] u78), L, I, P, E, N) (sgM g) := by
            rw [← ag_hvE (J := J) (R := []) (F := [(13, 56), (13, 57), (13, 60)]) (ag_hv rfl rfl ag_rf)]
            exact hW
          exact end_i C hr hlocks (hv J [] [(13, 60)] u78) hWr ⟨show (J 13 56).toInt ≤ (J 13 56).toInt from by omega, show ¬ (u78 13 60).toInt = 0 → (J 13 57).toInt = 5 - (d : Int) from by omega⟩ dX12_unit_56
    · have c4 : ¬ r3.toInt = 0 := tne rfl kp0 c4
      refine lv_aload_n hx hb dX12_unit_21 rfl (lv_at hl 1 rfl) ?_
      refine lv_dup hx hb dX12_unit_22 rfl ?_
      refine rg_13_56 C hW (mm_ rfl) tw_1079 dX12_unit_23 ?_
      refine lv_iconst (v := 1) hx hb dX12_unit_26 (by decide) ?_
      refine lv_iadd hx hb dX12_unit_27 ?_
      refine lv_topi (fun x79 (e79 : x79 = (J 13 56) + 1) => ?_)
      try have t79 : x79.toInt = (J 13 56).toInt + 1 := tadd e79 rfl kp1 (by omega)
      refine rp_13_56 C hW (mm_ rfl) tw_1079 dX12_unit_28 (fun H locs hW => ?_)
      refine lv_aload_n hx hb dX12_unit_31 rfl (lv_at hl 1 rfl) ?_
      refine rg_13_54 C hW (mm_ rfl) tw_1077 dX12_unit_32 ?_
      refine lv_iload_n hx hb dX12_unit_35 rfl (lv_at hl 0 rfl) ?_
      have hin : vp_in r2 128 := tin rfl (by omega)
      refine ra_154 C hW (mm_ rfl) hin dX12_unit_36 ?_
      refine lv_topi (fun x80 (e80 : x80 = J 154 r2.toNatClampNeg) => ?_)
      have hWr : WB g A s.heap H locs (hv J [] [(13, 56), (13, 57), (13, 60)] (up2 J 13 56 x79), L, I, P, E, N) (sgM g) := by
        rw [← ag_hvE (J := J) (R := []) (F := [(13, 56), (13, 57), (13, 60)]) (ag_up (Or.inr rfl) ag_rf)]
        exact hW
      exact end_i C hr hlocks (up2 J 13 56 x79) hWr ⟨show (J 13 56).toInt ≤ (x79).toInt from by omega, show ¬ (J 13 60).toInt = 0 → (J 13 57).toInt = 5 - (d : Int) from by omega⟩ dX12_unit_37
  · have c1 : (J 13 60).toInt = 0 := teq rfl kp0 c1
    refine lv_iconst (v := 0) hx hb dX12_unit_7 (by decide) ?_
    have hWr : WB g A s.heap H locs (hv J [] [(13, 56), (13, 57), (13, 60)] J, L, I, P, E, N) (sgM g) := by
      rw [← ag_hvE (J := J) (R := []) (F := [(13, 56), (13, 57), (13, 60)]) ag_rf]
      exact hW
    exact end_i C hr hlocks J hWr ⟨show (J 13 56).toInt ≤ (J 13 56).toInt from by omega, show ¬ (J 13 60).toInt = 0 → (J 13 57).toInt = 5 - (d : Int) from by omega⟩ dX12_unit_8

set_option maxHeartbeats 4000000 in
set_option maxRecDepth 100000 in
theorem c_X12_term (d : Nat) (hu : UNITC d) (l : Launch) (g : gG) (J : Nat → Nat → Int32) (L : Nat → Nat → Int64) (I : Nat → Nat → Nat → Int32) (P : Nat → Nat → Nat → Option Nat) (E : Nat → Option Nat) (N : Nat → Nat) (sz : Nat)  (hwm : WM J) (hat : 0 ≤ (J 13 56).toInt) (hps : ((J 13 58).toInt < 0 ∧ (J 13 59).toInt ≤ 60) ∨ (0 ≤ (J 13 58).toInt ∧ (J 13 58).toInt + (J 13 59).toInt ≤ 1800)) (hd : ¬ (J 13 60).toInt = 0 → (J 13 57).toInt = 5 - (d : Int)) (hd5 : (d : Int) ≤ 5) : Met l yX12_term (WS yX12_term cX12_term 4 (some .int)) (RM (4 * d + 7) 0 0) (PC g [.ref (g.2.2.1 13)] ((J, L, I, P, E, N), sgM g) sz) (va_Qi (fun (r : Int32) (u : (Nat → Nat → Int32)) => ((J 13 56).toInt ≤ (u 13 56).toInt) ∧ (¬ (u 13 60).toInt = 0 → (u 13 57).toInt = 5 - (d : Int))) (fun u t => at_ g (FR g ((J, L, I, P, E, N), sgM g) sz) ((hv J [] [(13, 56), (13, 57), (13, 60)] u, L, I, P, E, N), sgM g) t) (FR g ((J, L, I, P, E, N), sgM g) sz)) 0 0 (FR g ((J, L, I, P, E, N), sgM g) sz) := by
  refine ent (by decide +kernel) (Nat.le_of_ble_eq_true rfl) ?_
  intro p e s m below meth c ls hsz C hW hr hlocks hname hl
  generalize FR g ((J, L, I, P, E, N), sgM g) sz = A at C hW ⊢
  have hx := C.1.1
  have hb := C.1.2.1
  have hts := C.1.2.2.2.2
  have hW : WB g A s.heap s.heap [] (J, L, I, P, E, N) (sgM g) := hW
  have hl : lv_has ls 4 [(0, .ref (g.2.2.1 13))] := hl
  obtain ⟨H, hH⟩ : ∃ H : Heap, H = s.heap := ⟨_, rfl⟩
  obtain ⟨locs, hlocs⟩ : ∃ q : List Loc, q = [] := ⟨_, rfl⟩
  have hW : WB g A s.heap H locs (J, L, I, P, E, N) (sgM g) := by rw [hH, hlocs]; exact hW
  obtain ⟨⟨hnd1, hnd2, hon, hhm1, hhm2, hhN, hcu1, hcu2, hco1, hco2, hcN⟩, ⟨hrd1, hrd2⟩, ⟨hnw1, hnw2, hns1, hns2, hof⟩, ⟨htm1, htm2, hts_⟩, ⟨had1, had2, hrw1, hrw2, htp1, htp2⟩⟩ := id hwm
  refine start_ hH hlocs ?_
  refine lv_aload_n hx hb dX12_term_0 rfl (lv_at hl 0 rfl) ?_
  refine ci_ C hW (runV (x := (g.2.2.1 13)) (As := []) (rest := []) (T := ((J, L, I, P, E, N), sgM g)) C hW (hu l g J L I P E N H.size  hwm (show 0 ≤ (J 13 56).toInt from by omega) (show ((J 13 58).toInt < 0 ∧ (J 13 59).toInt ≤ 60) ∨ (0 ≤ (J 13 58).toInt ∧ (J 13 58).toInt + (J 13 59).toInt ≤ 1800) from by omega) (show ¬ (J 13 60).toInt = 0 → (J 13 57).toInt = 5 - (d : Int) from by omega) (show (d : Int) ≤ 5 from by omega)) mi_X12_unit tw_1354 (recv_ (T := ((J, L, I, P, E, N), sgM g)) C hW (mm_ rfl) rfl rfl) ⟨rfl, rfl, by (simp only [RM]; omega), by (simp only [RM]; omega)⟩ rfl hl.1 rfl (Nat.le_of_ble_eq_true rfl) dX12_term_1 ⟨Nat.le_of_ble_eq_true rfl, Nat.le_of_ble_eq_true rfl⟩) (fun r1 u1 H locs hp1 hW => ?_)
  obtain ⟨hf1_0, hf1_1⟩ : ((J 13 56).toInt ≤ (u1 13 56).toInt) ∧ (¬ (u1 13 60).toInt = 0 → (u1 13 57).toInt = 5 - (d : Int)) := hp1
  have hW : WB g A s.heap H locs ((hv J [] [(13, 56), (13, 57), (13, 60)] u1), L, I, P, E, N) (sgM g) := hW
  refine lv_istore_n (lv' := [(1, .int r1), (0, .ref (g.2.2.1 13))]) hx hb dX12_term_4 rfl hl (by decide) rfl (fun ls hl => ?_)
  have loop5 : ∀ (n : Nat) (m1 : Int32) (Gl2 : Nat → Nat → Int32) (H : Heap) (locs : List Loc) (ls : Array Slot), (1800 - (Gl2 13 56).toInt).toNat < n → 0 ≤ (Gl2 13 56).toInt ∧ (J 13 56).toInt ≤ (Gl2 13 56).toInt → (¬ (Gl2 13 60).toInt = 0 → (Gl2 13 57).toInt = 5 - (d : Int)) → WB g A s.heap H locs ((hv (hv J [] [(13, 56), (13, 57), (13, 60)] u1) [] [(13, 56), (13, 57), (13, 60)] Gl2), L, I, P, E, N) (sgM g) → lv_has ls 4 [(1, .int m1), (0, .ref (g.2.2.1 13))] → W p l e (RM (4 * d + 7) 0 0) s m ([.ref (g.2.2.1 13)] : List Value).toArray below meth c H locs 0 0 (MQ below (va_Qi (fun (r : Int32) (u : (Nat → Nat → Int32)) => ((J 13 56).toInt ≤ (u 13 56).toInt) ∧ (¬ (u 13 60).toInt = 0 → (u 13 57).toInt = 5 - (d : Int))) (fun u t => at_ g A ((hv J [] [(13, 56), (13, 57), (13, 60)] u, L, I, P, E, N), sgM g) t) A) ([.ref (g.2.2.1 13)] : List Value).toArray s 0 0 A) (F0 m 5 ls []) := by
    intro n
    induction n with
    | zero => intro m1 Gl2 H locs ls hmeas; exact absurd hmeas (Nat.not_lt_zero _)
    | succ n ih =>
      intro m1 Gl2 H locs ls hmeas hi hdl hW hl
      refine lv_aload_n hx hb dX12_term_5 rfl (lv_at hl 1 rfl) ?_
      refine rg_13_60 C hW (mm_ rfl) tw_1083 dX12_term_6 ?_
      refine lv_as (Gl2 13 60) rfl ?_
      refine lv_if_eq (tgt := 87) hx hb dX12_term_9 (by decide) (fun c3 => ?_) (fun c3 => ?_)
      · have c3 : (Gl2 13 60).toInt = 0 := teq rfl kp0 c3
        refine lv_iload_n hx hb dX12_term_87 rfl (lv_at hl 0 rfl) ?_
        have hWr : WB g A s.heap H locs (hv J [] [(13, 56), (13, 57), (13, 60)] (hv (hv J [] [(13, 56), (13, 57), (13, 60)] u1) [] [(13, 56), (13, 57), (13, 60)] Gl2), L, I, P, E, N) (sgM g) := by
          rw [← ag_hvE (J := J) (R := []) (F := [(13, 56), (13, 57), (13, 60)]) (ag_hv rfl rfl (ag_hv rfl rfl ag_rf))]
          exact hW
        exact end_i C hr hlocks (hv (hv J [] [(13, 56), (13, 57), (13, 60)] u1) [] [(13, 56), (13, 57), (13, 60)] Gl2) hWr ⟨show (J 13 56).toInt ≤ (Gl2 13 56).toInt from by omega, show ¬ (Gl2 13 60).toInt = 0 → (Gl2 13 57).toInt = 5 - (d : Int) from by omega⟩ dX12_term_88
      · have c3 : ¬ (Gl2 13 60).toInt = 0 := tne rfl kp0 c3
        refine lv_aload_n hx hb dX12_term_12 rfl (lv_at hl 1 rfl) ?_
        refine ci_ C hW (runV (x := (g.2.2.1 13)) (As := []) (rest := []) (T := (((hv (hv J [] [(13, 56), (13, 57), (13, 60)] u1) [] [(13, 56), (13, 57), (13, 60)] Gl2), L, I, P, E, N), sgM g)) C hW (c_X12_sign l g (hv (hv J [] [(13, 56), (13, 57), (13, 60)] u1) [] [(13, 56), (13, 57), (13, 60)] Gl2) L I P E N H.size  hwm (show 0 ≤ (Gl2 13 56).toInt from by omega) (show ((J 13 58).toInt < 0 ∧ (J 13 59).toInt ≤ 60) ∨ (0 ≤ (J 13 58).toInt ∧ (J 13 58).toInt + (J 13 59).toInt ≤ 1800) from by omega)) mi_X12_sign tw_1358 (recv_ (T := (((hv (hv J [] [(13, 56), (13, 57), (13, 60)] u1) [] [(13, 56), (13, 57), (13, 60)] Gl2), L, I, P, E, N), sgM g)) C hW (mm_ rfl) rfl rfl) ⟨rfl, rfl, by (simp only [RM]; omega), by (simp only [RM]; omega)⟩ rfl hl.1 rfl (Nat.le_of_ble_eq_true rfl) dX12_term_13 ⟨Nat.le_of_ble_eq_true rfl, Nat.le_of_ble_eq_true rfl⟩) (fun r4 u4 H locs hp4 hW => ?_)
        have hf4_0 : ((r4.toInt = -1 ∧ (J 13 59).toInt ≤ (Gl2 13 56).toInt) ∨ (Gl2 13 56).toInt < (J 13 59).toInt) := hp4
        clear hp4
        have hW : WB g A s.heap H locs ((hv (hv J [] [(13, 56), (13, 57), (13, 60)] u1) [] [(13, 56), (13, 57), (13, 60)] Gl2), L, I, P, E, N) (sgM g) := hW
        refine lv_bipush (v := 42) hx hb dX12_term_16 (by decide) ?_
        refine lv_icmp_eq (tgt := 30) hx hb dX12_term_18 (by decide) (fun c5 => ?_) (fun c5 => ?_)
        · have c5 : r4.toInt = 42 := teq rfl kp42 c5
          refine lv_aload_n hx hb dX12_term_30 rfl (lv_at hl 1 rfl) ?_
          refine ci_ C hW (runV (x := (g.2.2.1 13)) (As := []) (rest := []) (T := (((hv (hv J [] [(13, 56), (13, 57), (13, 60)] u1) [] [(13, 56), (13, 57), (13, 60)] Gl2), L, I, P, E, N), sgM g)) C hW (c_X12_sign l g (hv (hv J [] [(13, 56), (13, 57), (13, 60)] u1) [] [(13, 56), (13, 57), (13, 60)] Gl2) L I P E N H.size  hwm (show 0 ≤ (Gl2 13 56).toInt from by omega) (show ((J 13 58).toInt < 0 ∧ (J 13 59).toInt ≤ 60) ∨ (0 ≤ (J 13 58).toInt ∧ (J 13 58).toInt + (J 13 59).toInt ≤ 1800) from by omega)) mi_X12_sign tw_1358 (recv_ (T := (((hv (hv J [] [(13, 56), (13, 57), (13, 60)] u1) [] [(13, 56), (13, 57), (13, 60)] Gl2), L, I, P, E, N), sgM g)) C hW (mm_ rfl) rfl rfl) ⟨rfl, rfl, by (simp only [RM]; omega), by (simp only [RM]; omega)⟩ rfl hl.1 rfl (Nat.le_of_ble_eq_true rfl) dX12_term_31 ⟨Nat.le_of_ble_eq_true rfl, Nat.le_of_ble_eq_true rfl⟩) (fun r6 u6 H locs hp6 hW => ?_)
          have hf6_0 : ((r6.toInt = -1 ∧ (J 13 59).toInt ≤ (Gl2 13 56).toInt) ∨ (Gl2 13 56).toInt < (J 13 59).toInt) := hp6
          clear hp6
          have hW : WB g A s.heap H locs ((hv (hv J [] [(13, 56), (13, 57), (13, 60)] u1) [] [(13, 56), (13, 57), (13, 60)] Gl2), L, I, P, E, N) (sgM g) := hW
          refine lv_istore_n (lv' := [(2, .int r6), (1, .int m1), (0, .ref (g.2.2.1 13))]) hx hb dX12_term_34 rfl hl (by decide) rfl (fun ls hl => ?_)
          refine lv_aload_n hx hb dX12_term_35 rfl (lv_at hl 2 rfl) ?_
          refine lv_dup hx hb dX12_term_36 rfl ?_
          refine rg_13_56 C hW (mm_ rfl) tw_1079 dX12_term_37 ?_
          refine lv_as (Gl2 13 56) rfl ?_
          refine lv_iconst (v := 1) hx hb dX12_term_40 (by decide) ?_
          refine lv_iadd hx hb dX12_term_41 ?_
          refine lv_topi (fun x7 (e7 : x7 = (Gl2 13 56) + 1) => ?_)
          try have t7 : x7.toInt = (Gl2 13 56).toInt + 1 := tadd e7 rfl kp1 (by omega)
          refine rp_13_56 C hW (mm_ rfl) tw_1079 dX12_term_42 (fun H locs hW => ?_)
          refine lv_aload_n hx hb dX12_term_45 rfl (lv_at hl 2 rfl) ?_
          refine ci_ C hW (runV (x := (g.2.2.1 13)) (As := []) (rest := []) (T := (((up2 (hv (hv J [] [(13, 56), (13, 57), (13, 60)] u1) [] [(13, 56), (13, 57), (13, 60)] Gl2) 13 56 x7), L, I, P, E, N), sgM g)) C hW (hu l g (up2 (hv (hv J [] [(13, 56), (13, 57), (13, 60)] u1) [] [(13, 56), (13, 57), (13, 60)] Gl2) 13 56 x7) L I P E N H.size  hwm (show 0 ≤ (x7).toInt from by omega) (show ((J 13 58).toInt < 0 ∧ (J 13 59).toInt ≤ 60) ∨ (0 ≤ (J 13 58).toInt ∧ (J 13 58).toInt + (J 13 59).toInt ≤ 1800) from by omega) (show ¬ (Gl2 13 60).toInt = 0 → (Gl2 13 57).toInt = 5 - (d : Int) from by omega) (show (d : Int) ≤ 5 from by omega)) mi_X12_unit tw_1354 (recv_ (T := (((up2 (hv (hv J [] [(13, 56), (13, 57), (13, 60)] u1) [] [(13, 56), (13, 57), (13, 60)] Gl2) 13 56 x7), L, I, P, E, N), sgM g)) C hW (mm_ rfl) rfl rfl) ⟨rfl, rfl, by (simp only [RM]; omega), by (simp only [RM]; omega)⟩ rfl hl.1 rfl (Nat.le_of_ble_eq_true rfl) dX12_term_46 ⟨Nat.le_of_ble_eq_true rfl, Nat.le_of_ble_eq_true rfl⟩) (fun r8 u8 H locs hp8 hW => ?_)
          obtain ⟨hf8_0, hf8_1⟩ : ((x7).toInt ≤ (u8 13 56).toInt) ∧ (¬ (u8 13 60).toInt = 0 → (u8 13 57).toInt = 5 - (d : Int)) := hp8
          have hW : WB g A s.heap H locs ((hv (up2 (hv (hv J [] [(13, 56), (13, 57), (13, 60)] u1) [] [(13, 56), (13, 57), (13, 60)] Gl2) 13 56 x7) [] [(13, 56), (13, 57), (13, 60)] u8), L, I, P, E, N) (sgM g) := hW
          refine lv_istore_n (lv' := [(3, .int r8), (2, .int r6), (1, .int m1), (0, .ref (g.2.2.1 13))]) hx hb dX12_term_49 rfl hl (by decide) rfl (fun ls hl => ?_)
          refine lv_iload_n hx hb dX12_term_50 rfl (lv_at hl 1 rfl) ?_
          refine lv_bipush (v := 42) hx hb dX12_term_51 (by decide) ?_
          refine lv_icmp_ne (tgt := 67) hx hb dX12_term_53 (by decide) (fun c9 => ?_) (fun c9 => ?_)
          · have c9 : ¬ r6.toInt = 42 := tne rfl kp42 c9
            refine lv_iload_n hx hb dX12_term_67 rfl (lv_at hl 0 rfl) ?_
            refine lv_if_ne (tgt := 75) hx hb dX12_term_68 (by decide) (fun c10 => ?_) (fun c10 => ?_)
            · have c10 : ¬ r8.toInt = 0 := tne rfl kp0 c10
              refine lv_iload_n hx hb dX12_term_75 rfl (lv_at hl 2 rfl) ?_
              refine lv_i2l (v := m1.toInt64) hx hb dX12_term_76 rfl ?_
              refine lv_iload_n hx hb dX12_term_77 rfl (lv_at hl 0 rfl) ?_
              refine lv_i2l (v := r8.toInt64) hx hb dX12_term_78 rfl ?_
              refine lv_ldiv hx hb dX12_term_79 (l64nz (by omega)) ?_
              refine lv_topl (fun z11 ez11 => ?_)
              refine ci_ C hW (runS (As := [.long z11]) (rest := []) (T := (((hv (up2 (hv (hv J [] [(13, 56), (13, 57), (13, 60)] u1) [] [(13, 56), (13, 57), (13, 60)] Gl2) 13 56 x7) [] [(13, 56), (13, 57), (13, 60)] u8), L, I, P, E, N), sgM g)) C hW (c_X12_held l g (hv (up2 (hv (hv J [] [(13, 56), (13, 57), (13, 60)] u1) [] [(13, 56), (13, 57), (13, 60)] Gl2) 13 56 x7) [] [(13, 56), (13, 57), (13, 60)] u8) L I P E N H.size z11 ) mi_X12_held tw_1373 ⟨rfl, rfl, by (simp only [RM]; omega), by (simp only [RM]; omega)⟩ rfl hl.1 rfl (Nat.le_of_ble_eq_true rfl) dX12_term_80 ⟨Nat.le_of_ble_eq_true rfl, Nat.le_of_ble_eq_true rfl⟩) (fun r12 u12 H locs hp12 hW => ?_)
              have hW : WB g A s.heap H locs ((hv (up2 (hv (hv J [] [(13, 56), (13, 57), (13, 60)] u1) [] [(13, 56), (13, 57), (13, 60)] Gl2) 13 56 x7) [] [(13, 56), (13, 57), (13, 60)] u8), L, I, P, E, N) (sgM g) := hW
              refine lv_istore_n (lv' := [(1, .int r12), (3, .int r8), (2, .int r6), (0, .ref (g.2.2.1 13))]) hx hb dX12_term_83 rfl hl (by decide) rfl (fun ls hl => ?_)
              refine lv_goto (tgt := 5) hx hb dX12_term_84 (by decide) ?_
              have hWl : WB g A s.heap H locs ((hv (hv J [] [(13, 56), (13, 57), (13, 60)] u1) [] [(13, 56), (13, 57), (13, 60)] (hv (up2 (hv (hv J [] [(13, 56), (13, 57), (13, 60)] u1) [] [(13, 56), (13, 57), (13, 60)] Gl2) 13 56 x7) [] [(13, 56), (13, 57), (13, 60)] u8)), L, I, P, E, N) (sgM g) := by
                rw [← ag_hvE (J := (hv J [] [(13, 56), (13, 57), (13, 60)] u1)) (R := []) (F := [(13, 56), (13, 57), (13, 60)]) (ag_hv rfl rfl (ag_up (Or.inr rfl) (ag_hv rfl rfl ag_rf)))]
                exact hW
              refine ih r12 (hv (up2 (hv (hv J [] [(13, 56), (13, 57), (13, 60)] u1) [] [(13, 56), (13, 57), (13, 60)] Gl2) 13 56 x7) [] [(13, 56), (13, 57), (13, 60)] u8) H locs ls ?_ ?_ ?_ hWl (lv_sub hl [0, 3] rfl)
              · show (1800 - (u8 13 56).toInt).toNat < n
                omega
              · show 0 ≤ (u8 13 56).toInt ∧ (J 13 56).toInt ≤ (u8 13 56).toInt
                first | omega | exact hi | assumption
              · show ¬ (u8 13 60).toInt = 0 → (u8 13 57).toInt = 5 - (d : Int)
                first | omega | exact hdl | assumption
            · have c10 : r8.toInt = 0 := teq rfl kp0 c10
              refine lv_iconst (v := 0) hx hb dX12_term_71 (by decide) ?_
              refine lv_goto (tgt := 83) hx hb dX12_term_72 (by decide) ?_
              refine lv_istore_n (lv' := [(1, .int 0), (3, .int r8), (2, .int r6), (0, .ref (g.2.2.1 13))]) hx hb dX12_term_83 rfl hl (by decide) rfl (fun ls hl => ?_)
              refine lv_goto (tgt := 5) hx hb dX12_term_84 (by decide) ?_
              have hWl : WB g A s.heap H locs ((hv (hv J [] [(13, 56), (13, 57), (13, 60)] u1) [] [(13, 56), (13, 57), (13, 60)] (hv (up2 (hv (hv J [] [(13, 56), (13, 57), (13, 60)] u1) [] [(13, 56), (13, 57), (13, 60)] Gl2) 13 56 x7) [] [(13, 56), (13, 57), (13, 60)] u8)), L, I, P, E, N) (sgM g) := by
                rw [← ag_hvE (J := (hv J [] [(13, 56), (13, 57), (13, 60)] u1)) (R := []) (F := [(13, 56), (13, 57), (13, 60)]) (ag_hv rfl rfl (ag_up (Or.inr rfl) (ag_hv rfl rfl ag_rf)))]
                exact hW
              refine ih 0 (hv (up2 (hv (hv J [] [(13, 56), (13, 57), (13, 60)] u1) [] [(13, 56), (13, 57), (13, 60)] Gl2) 13 56 x7) [] [(13, 56), (13, 57), (13, 60)] u8) H locs ls ?_ ?_ ?_ hWl (lv_sub hl [0, 3] rfl)
              · show (1800 - (u8 13 56).toInt).toNat < n
                omega
              · show 0 ≤ (u8 13 56).toInt ∧ (J 13 56).toInt ≤ (u8 13 56).toInt
                first | omega | exact hi | assumption
              · show ¬ (u8 13 60).toInt = 0 → (u8 13 57).toInt = 5 - (d : Int)
                first | omega | exact hdl | assumption
          · have c9 : r6.toInt = 42 := teq rfl kp42 c9
            refine lv_iload_n hx hb dX12_term_56 rfl (lv_at hl 2 rfl) ?_
            refine lv_i2l (v := m1.toInt64) hx hb dX12_term_57 rfl ?_
            refine lv_iload_n hx hb dX12_term_58 rfl (lv_at hl 0 rfl) ?_
            refine lv_i2l (v := r8.toInt64) hx hb dX12_term_59 rfl ?_
            refine lv_lmul hx hb dX12_term_60 ?_
            refine lv_topl (fun z13 ez13 => ?_)
            refine ci_ C hW (runS (As := [.long z13]) (rest := []) (T := (((hv (up2 (hv (hv J [] [(13, 56), (13, 57), (13, 60)] u1) [] [(13, 56), (13, 57), (13, 60)] Gl2) 13 56 x7) [] [(13, 56), (13, 57), (13, 60)] u8), L, I, P, E, N), sgM g)) C hW (c_X12_held l g (hv (up2 (hv (hv J [] [(13, 56), (13, 57), (13, 60)] u1) [] [(13, 56), (13, 57), (13, 60)] Gl2) 13 56 x7) [] [(13, 56), (13, 57), (13, 60)] u8) L I P E N H.size z13 ) mi_X12_held tw_1373 ⟨rfl, rfl, by (simp only [RM]; omega), by (simp only [RM]; omega)⟩ rfl hl.1 rfl (Nat.le_of_ble_eq_true rfl) dX12_term_61 ⟨Nat.le_of_ble_eq_true rfl, Nat.le_of_ble_eq_true rfl⟩) (fun r14 u14 H locs hp14 hW => ?_)
            have hW : WB g A s.heap H locs ((hv (up2 (hv (hv J [] [(13, 56), (13, 57), (13, 60)] u1) [] [(13, 56), (13, 57), (13, 60)] Gl2) 13 56 x7) [] [(13, 56), (13, 57), (13, 60)] u8), L, I, P, E, N) (sgM g) := hW
            refine lv_goto (tgt := 83) hx hb dX12_term_64 (by decide) ?_
            refine lv_istore_n (lv' := [(1, .int r14), (3, .int r8), (2, .int r6), (0, .ref (g.2.2.1 13))]) hx hb dX12_term_83 rfl hl (by decide) rfl (fun ls hl => ?_)
            refine lv_goto (tgt := 5) hx hb dX12_term_84 (by decide) ?_
            have hWl : WB g A s.heap H locs ((hv (hv J [] [(13, 56), (13, 57), (13, 60)] u1) [] [(13, 56), (13, 57), (13, 60)] (hv (up2 (hv (hv J [] [(13, 56), (13, 57), (13, 60)] u1) [] [(13, 56), (13, 57), (13, 60)] Gl2) 13 56 x7) [] [(13, 56), (13, 57), (13, 60)] u8)), L, I, P, E, N) (sgM g) := by
              rw [← ag_hvE (J := (hv J [] [(13, 56), (13, 57), (13, 60)] u1)) (R := []) (F := [(13, 56), (13, 57), (13, 60)]) (ag_hv rfl rfl (ag_up (Or.inr rfl) (ag_hv rfl rfl ag_rf)))]
              exact hW
            refine ih r14 (hv (up2 (hv (hv J [] [(13, 56), (13, 57), (13, 60)] u1) [] [(13, 56), (13, 57), (13, 60)] Gl2) 13 56 x7) [] [(13, 56), (13, 57), (13, 60)] u8) H locs ls ?_ ?_ ?_ hWl (lv_sub hl [0, 3] rfl)
            · show (1800 - (u8 13 56).toInt).toNat < n
              omega
            · show 0 ≤ (u8 13 56).toInt ∧ (J 13 56).toInt ≤ (u8 13 56).toInt
              first | omega | exact hi | assumption
            · show ¬ (u8 13 60).toInt = 0 → (u8 13 57).toInt = 5 - (d : Int)
              first | omega | exact hdl | assumption
        · have c5 : ¬ r4.toInt = 42 := tne rfl kp42 c5
          refine lv_aload_n hx hb dX12_term_21 rfl (lv_at hl 1 rfl) ?_
          refine ci_ C hW (runV (x := (g.2.2.1 13)) (As := []) (rest := []) (T := (((hv (hv J [] [(13, 56), (13, 57), (13, 60)] u1) [] [(13, 56), (13, 57), (13, 60)] Gl2), L, I, P, E, N), sgM g)) C hW (c_X12_sign l g (hv (hv J [] [(13, 56), (13, 57), (13, 60)] u1) [] [(13, 56), (13, 57), (13, 60)] Gl2) L I P E N H.size  hwm (show 0 ≤ (Gl2 13 56).toInt from by omega) (show ((J 13 58).toInt < 0 ∧ (J 13 59).toInt ≤ 60) ∨ (0 ≤ (J 13 58).toInt ∧ (J 13 58).toInt + (J 13 59).toInt ≤ 1800) from by omega)) mi_X12_sign tw_1358 (recv_ (T := (((hv (hv J [] [(13, 56), (13, 57), (13, 60)] u1) [] [(13, 56), (13, 57), (13, 60)] Gl2), L, I, P, E, N), sgM g)) C hW (mm_ rfl) rfl rfl) ⟨rfl, rfl, by (simp only [RM]; omega), by (simp only [RM]; omega)⟩ rfl hl.1 rfl (Nat.le_of_ble_eq_true rfl) dX12_term_22 ⟨Nat.le_of_ble_eq_true rfl, Nat.le_of_ble_eq_true rfl⟩) (fun r15 u15 H locs hp15 hW => ?_)
          have hf15_0 : ((r15.toInt = -1 ∧ (J 13 59).toInt ≤ (Gl2 13 56).toInt) ∨ (Gl2 13 56).toInt < (J 13 59).toInt) := hp15
          clear hp15
          have hW : WB g A s.heap H locs ((hv (hv J [] [(13, 56), (13, 57), (13, 60)] u1) [] [(13, 56), (13, 57), (13, 60)] Gl2), L, I, P, E, N) (sgM g) := hW
          refine lv_bipush (v := 47) hx hb dX12_term_25 (by decide) ?_
          refine lv_icmp_ne (tgt := 87) hx hb dX12_term_27 (by decide) (fun c16 => ?_) (fun c16 => ?_)
          · have c16 : ¬ r15.toInt = 47 := tne rfl kp47 c16
            refine lv_iload_n hx hb dX12_term_87 rfl (lv_at hl 0 rfl) ?_
            have hWr : WB g A s.heap H locs (hv J [] [(13, 56), (13, 57), (13, 60)] (hv (hv J [] [(13, 56), (13, 57), (13, 60)] u1) [] [(13, 56), (13, 57), (13, 60)] Gl2), L, I, P, E, N) (sgM g) := by
              rw [← ag_hvE (J := J) (R := []) (F := [(13, 56), (13, 57), (13, 60)]) (ag_hv rfl rfl (ag_hv rfl rfl ag_rf))]
              exact hW
            exact end_i C hr hlocks (hv (hv J [] [(13, 56), (13, 57), (13, 60)] u1) [] [(13, 56), (13, 57), (13, 60)] Gl2) hWr ⟨show (J 13 56).toInt ≤ (Gl2 13 56).toInt from by omega, show ¬ (Gl2 13 60).toInt = 0 → (Gl2 13 57).toInt = 5 - (d : Int) from by omega⟩ dX12_term_88
          · have c16 : r15.toInt = 47 := teq rfl kp47 c16
            refine lv_aload_n hx hb dX12_term_30 rfl (lv_at hl 1 rfl) ?_
            refine ci_ C hW (runV (x := (g.2.2.1 13)) (As := []) (rest := []) (T := (((hv (hv J [] [(13, 56), (13, 57), (13, 60)] u1) [] [(13, 56), (13, 57), (13, 60)] Gl2), L, I, P, E, N), sgM g)) C hW (c_X12_sign l g (hv (hv J [] [(13, 56), (13, 57), (13, 60)] u1) [] [(13, 56), (13, 57), (13, 60)] Gl2) L I P E N H.size  hwm (show 0 ≤ (Gl2 13 56).toInt from by omega) (show ((J 13 58).toInt < 0 ∧ (J 13 59).toInt ≤ 60) ∨ (0 ≤ (J 13 58).toInt ∧ (J 13 58).toInt + (J 13 59).toInt ≤ 1800) from by omega)) mi_X12_sign tw_1358 (recv_ (T := (((hv (hv J [] [(13, 56), (13, 57), (13, 60)] u1) [] [(13, 56), (13, 57), (13, 60)] Gl2), L, I, P, E, N), sgM g)) C hW (mm_ rfl) rfl rfl) ⟨rfl, rfl, by (simp only [RM]; omega), by (simp only [RM]; omega)⟩ rfl hl.1 rfl (Nat.le_of_ble_eq_true rfl) dX12_term_31 ⟨Nat.le_of_ble_eq_true rfl, Nat.le_of_ble_eq_true rfl⟩) (fun r17 u17 H locs hp17 hW => ?_)
            have hf17_0 : ((r17.toInt = -1 ∧ (J 13 59).toInt ≤ (Gl2 13 56).toInt) ∨ (Gl2 13 56).toInt < (J 13 59).toInt) := hp17
            clear hp17
            have hW : WB g A s.heap H locs ((hv (hv J [] [(13, 56), (13, 57), (13, 60)] u1) [] [(13, 56), (13, 57), (13, 60)] Gl2), L, I, P, E, N) (sgM g) := hW
            refine lv_istore_n (lv' := [(2, .int r17), (1, .int m1), (0, .ref (g.2.2.1 13))]) hx hb dX12_term_34 rfl hl (by decide) rfl (fun ls hl => ?_)
            refine lv_aload_n hx hb dX12_term_35 rfl (lv_at hl 2 rfl) ?_
            refine lv_dup hx hb dX12_term_36 rfl ?_
            refine rg_13_56 C hW (mm_ rfl) tw_1079 dX12_term_37 ?_
            refine lv_as (Gl2 13 56) rfl ?_
            refine lv_iconst (v := 1) hx hb dX12_term_40 (by decide) ?_
            refine lv_iadd hx hb dX12_term_41 ?_
            refine lv_topi (fun x18 (e18 : x18 = (Gl2 13 56) + 1) => ?_)
            try have t18 : x18.toInt = (Gl2 13 56).toInt + 1 := tadd e18 rfl kp1 (by omega)
            refine rp_13_56 C hW (mm_ rfl) tw_1079 dX12_term_42 (fun H locs hW => ?_)
            refine lv_aload_n hx hb dX12_term_45 rfl (lv_at hl 2 rfl) ?_
            refine ci_ C hW (runV (x := (g.2.2.1 13)) (As := []) (rest := []) (T := (((up2 (hv (hv J [] [(13, 56), (13, 57), (13, 60)] u1) [] [(13, 56), (13, 57), (13, 60)] Gl2) 13 56 x18), L, I, P, E, N), sgM g)) C hW (hu l g (up2 (hv (hv J [] [(13, 56), (13, 57), (13, 60)] u1) [] [(13, 56), (13, 57), (13, 60)] Gl2) 13 56 x18) L I P E N H.size  hwm (show 0 ≤ (x18).toInt from by omega) (show ((J 13 58).toInt < 0 ∧ (J 13 59).toInt ≤ 60) ∨ (0 ≤ (J 13 58).toInt ∧ (J 13 58).toInt + (J 13 59).toInt ≤ 1800) from by omega) (show ¬ (Gl2 13 60).toInt = 0 → (Gl2 13 57).toInt = 5 - (d : Int) from by omega) (show (d : Int) ≤ 5 from by omega)) mi_X12_unit tw_1354 (recv_ (T := (((up2 (hv (hv J [] [(13, 56), (13, 57), (13, 60)] u1) [] [(13, 56), (13, 57), (13, 60)] Gl2) 13 56 x18), L, I, P, E, N), sgM g)) C hW (mm_ rfl) rfl rfl) ⟨rfl, rfl, by (simp only [RM]; omega), by (simp only [RM]; omega)⟩ rfl hl.1 rfl (Nat.le_of_ble_eq_true rfl) dX12_term_46 ⟨Nat.le_of_ble_eq_true rfl, Nat.le_of_ble_eq_true rfl⟩) (fun r19 u19 H locs hp19 hW => ?_)
            obtain ⟨hf19_0, hf19_1⟩ : ((x18).toInt ≤ (u19 13 56).toInt) ∧ (¬ (u19 13 60).toInt = 0 → (u19 13 57).toInt = 5 - (d : Int)) := hp19
            have hW : WB g A s.heap H locs ((hv (up2 (hv (hv J [] [(13, 56), (13, 57), (13, 60)] u1) [] [(13, 56), (13, 57), (13, 60)] Gl2) 13 56 x18) [] [(13, 56), (13, 57), (13, 60)] u19), L, I, P, E, N) (sgM g) := hW
            refine lv_istore_n (lv' := [(3, .int r19), (2, .int r17), (1, .int m1), (0, .ref (g.2.2.1 13))]) hx hb dX12_term_49 rfl hl (by decide) rfl (fun ls hl => ?_)
            refine lv_iload_n hx hb dX12_term_50 rfl (lv_at hl 1 rfl) ?_
            refine lv_bipush (v := 42) hx hb dX12_term_51 (by decide) ?_
            refine lv_icmp_ne (tgt := 67) hx hb dX12_term_53 (by decide) (fun c20 => ?_) (fun c20 => ?_)
            · have c20 : ¬ r17.toInt = 42 := tne rfl kp42 c20
              refine lv_iload_n hx hb dX12_term_67 rfl (lv_at hl 0 rfl) ?_
              refine lv_if_ne (tgt := 75) hx hb dX12_term_68 (by decide) (fun c21 => ?_) (fun c21 => ?_)
              · have c21 : ¬ r19.toInt = 0 := tne rfl kp0 c21
                refine lv_iload_n hx hb dX12_term_75 rfl (lv_at hl 2 rfl) ?_
                refine lv_i2l (v := m1.toInt64) hx hb dX12_term_76 rfl ?_
                refine lv_iload_n hx hb dX12_term_77 rfl (lv_at hl 0 rfl) ?_
                refine lv_i2l (v := r19.toInt64) hx hb dX12_term_78 rfl ?_
                refine lv_ldiv hx hb dX12_term_79 (l64nz (by omega)) ?_
                refine lv_topl (fun z22 ez22 => ?_)
                refine ci_ C hW (runS (As := [.long z22]) (rest := []) (T := (((hv (up2 (hv (hv J [] [(13, 56), (13, 57), (13, 60)] u1) [] [(13, 56), (13, 57), (13, 60)] Gl2) 13 56 x18) [] [(13, 56), (13, 57), (13, 60)] u19), L, I, P, E, N), sgM g)) C hW (c_X12_held l g (hv (up2 (hv (hv J [] [(13, 56), (13, 57), (13, 60)] u1) [] [(13, 56), (13, 57), (13, 60)] Gl2) 13 56 x18) [] [(13, 56), (13, 57), (13, 60)] u19) L I P E N H.size z22 ) mi_X12_held tw_1373 ⟨rfl, rfl, by (simp only [RM]; omega), by (simp only [RM]; omega)⟩ rfl hl.1 rfl (Nat.le_of_ble_eq_true rfl) dX12_term_80 ⟨Nat.le_of_ble_eq_true rfl, Nat.le_of_ble_eq_true rfl⟩) (fun r23 u23 H locs hp23 hW => ?_)
                have hW : WB g A s.heap H locs ((hv (up2 (hv (hv J [] [(13, 56), (13, 57), (13, 60)] u1) [] [(13, 56), (13, 57), (13, 60)] Gl2) 13 56 x18) [] [(13, 56), (13, 57), (13, 60)] u19), L, I, P, E, N) (sgM g) := hW
                refine lv_istore_n (lv' := [(1, .int r23), (3, .int r19), (2, .int r17), (0, .ref (g.2.2.1 13))]) hx hb dX12_term_83 rfl hl (by decide) rfl (fun ls hl => ?_)
                refine lv_goto (tgt := 5) hx hb dX12_term_84 (by decide) ?_
                have hWl : WB g A s.heap H locs ((hv (hv J [] [(13, 56), (13, 57), (13, 60)] u1) [] [(13, 56), (13, 57), (13, 60)] (hv (up2 (hv (hv J [] [(13, 56), (13, 57), (13, 60)] u1) [] [(13, 56), (13, 57), (13, 60)] Gl2) 13 56 x18) [] [(13, 56), (13, 57), (13, 60)] u19)), L, I, P, E, N) (sgM g) := by
                  rw [← ag_hvE (J := (hv J [] [(13, 56), (13, 57), (13, 60)] u1)) (R := []) (F := [(13, 56), (13, 57), (13, 60)]) (ag_hv rfl rfl (ag_up (Or.inr rfl) (ag_hv rfl rfl ag_rf)))]
                  exact hW
                refine ih r23 (hv (up2 (hv (hv J [] [(13, 56), (13, 57), (13, 60)] u1) [] [(13, 56), (13, 57), (13, 60)] Gl2) 13 56 x18) [] [(13, 56), (13, 57), (13, 60)] u19) H locs ls ?_ ?_ ?_ hWl (lv_sub hl [0, 3] rfl)
                · show (1800 - (u19 13 56).toInt).toNat < n
                  omega
                · show 0 ≤ (u19 13 56).toInt ∧ (J 13 56).toInt ≤ (u19 13 56).toInt
                  first | omega | exact hi | assumption
                · show ¬ (u19 13 60).toInt = 0 → (u19 13 57).toInt = 5 - (d : Int)
                  first | omega | exact hdl | assumption
              · have c21 : r19.toInt = 0 := teq rfl kp0 c21
                refine lv_iconst (v := 0) hx hb dX12_term_71 (by decide) ?_
                refine lv_goto (tgt := 83) hx hb dX12_term_72 (by decide) ?_
                refine lv_istore_n (lv' := [(1, .int 0), (3, .int r19), (2, .int r17), (0, .ref (g.2.2.1 13))]) hx hb dX12_term_83 rfl hl (by decide) rfl (fun ls hl => ?_)
                refine lv_goto (tgt := 5) hx hb dX12_term_84 (by decide) ?_
                have hWl : WB g A s.heap H locs ((hv (hv J [] [(13, 56), (13, 57), (13, 60)] u1) [] [(13, 56), (13, 57), (13, 60)] (hv (up2 (hv (hv J [] [(13, 56), (13, 57), (13, 60)] u1) [] [(13, 56), (13, 57), (13, 60)] Gl2) 13 56 x18) [] [(13, 56), (13, 57), (13, 60)] u19)), L, I, P, E, N) (sgM g) := by
                  rw [← ag_hvE (J := (hv J [] [(13, 56), (13, 57), (13, 60)] u1)) (R := []) (F := [(13, 56), (13, 57), (13, 60)]) (ag_hv rfl rfl (ag_up (Or.inr rfl) (ag_hv rfl rfl ag_rf)))]
                  exact hW
                refine ih 0 (hv (up2 (hv (hv J [] [(13, 56), (13, 57), (13, 60)] u1) [] [(13, 56), (13, 57), (13, 60)] Gl2) 13 56 x18) [] [(13, 56), (13, 57), (13, 60)] u19) H locs ls ?_ ?_ ?_ hWl (lv_sub hl [0, 3] rfl)
                · show (1800 - (u19 13 56).toInt).toNat < n
                  omega
                · show 0 ≤ (u19 13 56).toInt ∧ (J 13 56).toInt ≤ (u19 13 56).toInt
                  first | omega | exact hi | assumption
                · show ¬ (u19 13 60).toInt = 0 → (u19 13 57).toInt = 5 - (d : Int)
                  first | omega | exact hdl | assumption
            · have c20 : r17.toInt = 42 := teq rfl kp42 c20
              refine lv_iload_n hx hb dX12_term_56 rfl (lv_at hl 2 rfl) ?_
              refine lv_i2l (v := m1.toInt64) hx hb dX12_term_57 rfl ?_
              refine lv_iload_n hx hb dX12_term_58 rfl (lv_at hl 0 rfl) ?_
              refine lv_i2l (v := r19.toInt64) hx hb dX12_term_59 rfl ?_
              refine lv_lmul hx hb dX12_term_60 ?_
              refine lv_topl (fun z24 ez24 => ?_)
              refine ci_ C hW (runS (As := [.long z24]) (rest := []) (T := (((hv (up2 (hv (hv J [] [(13, 56), (13, 57), (13, 60)] u1) [] [(13, 56), (13, 57), (13, 60)] Gl2) 13 56 x18) [] [(13, 56), (13, 57), (13, 60)] u19), L, I, P, E, N), sgM g)) C hW (c_X12_held l g (hv (up2 (hv (hv J [] [(13, 56), (13, 57), (13, 60)] u1) [] [(13, 56), (13, 57), (13, 60)] Gl2) 13 56 x18) [] [(13, 56), (13, 57), (13, 60)] u19) L I P E N H.size z24 ) mi_X12_held tw_1373 ⟨rfl, rfl, by (simp only [RM]; omega), by (simp only [RM]; omega)⟩ rfl hl.1 rfl (Nat.le_of_ble_eq_true rfl) dX12_term_61 ⟨Nat.le_of_ble_eq_true rfl, Nat.le_of_ble_eq_true rfl⟩) (fun r25 u25 H locs hp25 hW => ?_)
              have hW : WB g A s.heap H locs ((hv (up2 (hv (hv J [] [(13, 56), (13, 57), (13, 60)] u1) [] [(13, 56), (13, 57), (13, 60)] Gl2) 13 56 x18) [] [(13, 56), (13, 57), (13, 60)] u19), L, I, P, E, N) (sgM g) := hW
              refine lv_goto (tgt := 83) hx hb dX12_term_64 (by decide) ?_
              refine lv_istore_n (lv' := [(1, .int r25), (3, .int r19), (2, .int r17), (0, .ref (g.2.2.1 13))]) hx hb dX12_term_83 rfl hl (by decide) rfl (fun ls hl => ?_)
              refine lv_goto (tgt := 5) hx hb dX12_term_84 (by decide) ?_
              have hWl : WB g A s.heap H locs ((hv (hv J [] [(13, 56), (13, 57), (13, 60)] u1) [] [(13, 56), (13, 57), (13, 60)] (hv (up2 (hv (hv J [] [(13, 56), (13, 57), (13, 60)] u1) [] [(13, 56), (13, 57), (13, 60)] Gl2) 13 56 x18) [] [(13, 56), (13, 57), (13, 60)] u19)), L, I, P, E, N) (sgM g) := by
                rw [← ag_hvE (J := (hv J [] [(13, 56), (13, 57), (13, 60)] u1)) (R := []) (F := [(13, 56), (13, 57), (13, 60)]) (ag_hv rfl rfl (ag_up (Or.inr rfl) (ag_hv rfl rfl ag_rf)))]
                exact hW
              refine ih r25 (hv (up2 (hv (hv J [] [(13, 56), (13, 57), (13, 60)] u1) [] [(13, 56), (13, 57), (13, 60)] Gl2) 13 56 x18) [] [(13, 56), (13, 57), (13, 60)] u19) H locs ls ?_ ?_ ?_ hWl (lv_sub hl [0, 3] rfl)
              · show (1800 - (u19 13 56).toInt).toNat < n
                omega
              · show 0 ≤ (u19 13 56).toInt ∧ (J 13 56).toInt ≤ (u19 13 56).toInt
                first | omega | exact hi | assumption
              · show ¬ (u19 13 60).toInt = 0 → (u19 13 57).toInt = 5 - (d : Int)
                first | omega | exact hdl | assumption
  -- into the loop
  have hWl : WB g A s.heap H locs ((hv (hv J [] [(13, 56), (13, 57), (13, 60)] u1) [] [(13, 56), (13, 57), (13, 60)] (hv J [] [(13, 56), (13, 57), (13, 60)] u1)), L, I, P, E, N) (sgM g) := by
    rw [← ag_hvE (J := (hv J [] [(13, 56), (13, 57), (13, 60)] u1)) (R := []) (F := [(13, 56), (13, 57), (13, 60)]) ag_rf]
    exact hW
  refine loop5 ((1800 - (u1 13 56).toInt).toNat + 1) r1 (hv J [] [(13, 56), (13, 57), (13, 60)] u1) H locs ls ?_ ?_ ?_ hWl (lv_sub hl [0, 1] rfl)
  · exact Nat.lt_succ_self _
  · show 0 ≤ (u1 13 56).toInt ∧ (J 13 56).toInt ≤ (u1 13 56).toInt
    first | omega | exact hi | assumption
  · show ¬ (u1 13 60).toInt = 0 → (u1 13 57).toInt = 5 - (d : Int)
    first | omega | exact hdl | assumption

set_option maxHeartbeats 4000000 in
set_option maxRecDepth 100000 in
theorem c_X12_sum (d : Nat) (ht : TERMC d) (l : Launch) (g : gG) (J : Nat → Nat → Int32) (L : Nat → Nat → Int64) (I : Nat → Nat → Nat → Int32) (P : Nat → Nat → Nat → Option Nat) (E : Nat → Option Nat) (N : Nat → Nat) (sz : Nat)  (hwm : WM J) (hat : 0 ≤ (J 13 56).toInt) (hps : ((J 13 58).toInt < 0 ∧ (J 13 59).toInt ≤ 60) ∨ (0 ≤ (J 13 58).toInt ∧ (J 13 58).toInt + (J 13 59).toInt ≤ 1800)) (hd : ¬ (J 13 60).toInt = 0 → (J 13 57).toInt = 5 - (d : Int)) (hd5 : (d : Int) ≤ 5) : Met l yX12_sum (WS yX12_sum cX12_sum 4 (some .int)) (RM (4 * d + 8) 0 0) (PC g [.ref (g.2.2.1 13)] ((J, L, I, P, E, N), sgM g) sz) (va_Qi (fun (r : Int32) (u : (Nat → Nat → Int32)) => ((J 13 56).toInt ≤ (u 13 56).toInt) ∧ (¬ (u 13 60).toInt = 0 → (u 13 57).toInt = 5 - (d : Int))) (fun u t => at_ g (FR g ((J, L, I, P, E, N), sgM g) sz) ((hv J [] [(13, 56), (13, 57), (13, 60)] u, L, I, P, E, N), sgM g) t) (FR g ((J, L, I, P, E, N), sgM g) sz)) 0 0 (FR g ((J, L, I, P, E, N), sgM g) sz) := by
  refine ent (by decide +kernel) (Nat.le_of_ble_eq_true rfl) ?_
  intro p e s m below meth c ls hsz C hW hr hlocks hname hl
  generalize FR g ((J, L, I, P, E, N), sgM g) sz = A at C hW ⊢
  have hx := C.1.1
  have hb := C.1.2.1
  have hts := C.1.2.2.2.2
  have hW : WB g A s.heap s.heap [] (J, L, I, P, E, N) (sgM g) := hW
  have hl : lv_has ls 4 [(0, .ref (g.2.2.1 13))] := hl
  obtain ⟨H, hH⟩ : ∃ H : Heap, H = s.heap := ⟨_, rfl⟩
  obtain ⟨locs, hlocs⟩ : ∃ q : List Loc, q = [] := ⟨_, rfl⟩
  have hW : WB g A s.heap H locs (J, L, I, P, E, N) (sgM g) := by rw [hH, hlocs]; exact hW
  obtain ⟨⟨hnd1, hnd2, hon, hhm1, hhm2, hhN, hcu1, hcu2, hco1, hco2, hcN⟩, ⟨hrd1, hrd2⟩, ⟨hnw1, hnw2, hns1, hns2, hof⟩, ⟨htm1, htm2, hts_⟩, ⟨had1, had2, hrw1, hrw2, htp1, htp2⟩⟩ := id hwm
  refine start_ hH hlocs ?_
  refine lv_aload_n hx hb dX12_sum_0 rfl (lv_at hl 0 rfl) ?_
  refine ci_ C hW (runV (x := (g.2.2.1 13)) (As := []) (rest := []) (T := ((J, L, I, P, E, N), sgM g)) C hW (ht l g J L I P E N H.size  hwm (show 0 ≤ (J 13 56).toInt from by omega) (show ((J 13 58).toInt < 0 ∧ (J 13 59).toInt ≤ 60) ∨ (0 ≤ (J 13 58).toInt ∧ (J 13 58).toInt + (J 13 59).toInt ≤ 1800) from by omega) (show ¬ (J 13 60).toInt = 0 → (J 13 57).toInt = 5 - (d : Int) from by omega) (show (d : Int) ≤ 5 from by omega)) mi_X12_term tw_1350 (recv_ (T := ((J, L, I, P, E, N), sgM g)) C hW (mm_ rfl) rfl rfl) ⟨rfl, rfl, by (simp only [RM]; omega), by (simp only [RM]; omega)⟩ rfl hl.1 rfl (Nat.le_of_ble_eq_true rfl) dX12_sum_1 ⟨Nat.le_of_ble_eq_true rfl, Nat.le_of_ble_eq_true rfl⟩) (fun r1 u1 H locs hp1 hW => ?_)
  obtain ⟨hf1_0, hf1_1⟩ : ((J 13 56).toInt ≤ (u1 13 56).toInt) ∧ (¬ (u1 13 60).toInt = 0 → (u1 13 57).toInt = 5 - (d : Int)) := hp1
  have hW : WB g A s.heap H locs ((hv J [] [(13, 56), (13, 57), (13, 60)] u1), L, I, P, E, N) (sgM g) := hW
  refine lv_istore_n (lv' := [(1, .int r1), (0, .ref (g.2.2.1 13))]) hx hb dX12_sum_4 rfl hl (by decide) rfl (fun ls hl => ?_)
  have loop5 : ∀ (n : Nat) (m1 : Int32) (Gl2 : Nat → Nat → Int32) (H : Heap) (locs : List Loc) (ls : Array Slot), (1800 - (Gl2 13 56).toInt).toNat < n → 0 ≤ (Gl2 13 56).toInt ∧ (J 13 56).toInt ≤ (Gl2 13 56).toInt → (¬ (Gl2 13 60).toInt = 0 → (Gl2 13 57).toInt = 5 - (d : Int)) → WB g A s.heap H locs ((hv (hv J [] [(13, 56), (13, 57), (13, 60)] u1) [] [(13, 56), (13, 57), (13, 60)] Gl2), L, I, P, E, N) (sgM g) → lv_has ls 4 [(1, .int m1), (0, .ref (g.2.2.1 13))] → W p l e (RM (4 * d + 8) 0 0) s m ([.ref (g.2.2.1 13)] : List Value).toArray below meth c H locs 0 0 (MQ below (va_Qi (fun (r : Int32) (u : (Nat → Nat → Int32)) => ((J 13 56).toInt ≤ (u 13 56).toInt) ∧ (¬ (u 13 60).toInt = 0 → (u 13 57).toInt = 5 - (d : Int))) (fun u t => at_ g A ((hv J [] [(13, 56), (13, 57), (13, 60)] u, L, I, P, E, N), sgM g) t) A) ([.ref (g.2.2.1 13)] : List Value).toArray s 0 0 A) (F0 m 5 ls []) := by
    intro n
    induction n with
    | zero => intro m1 Gl2 H locs ls hmeas; exact absurd hmeas (Nat.not_lt_zero _)
    | succ n ih =>
      intro m1 Gl2 H locs ls hmeas hi hdl hW hl
      refine lv_aload_n hx hb dX12_sum_5 rfl (lv_at hl 1 rfl) ?_
      refine rg_13_60 C hW (mm_ rfl) tw_1083 dX12_sum_6 ?_
      refine lv_as (Gl2 13 60) rfl ?_
      refine lv_if_eq (tgt := 76) hx hb dX12_sum_9 (by decide) (fun c3 => ?_) (fun c3 => ?_)
      · have c3 : (Gl2 13 60).toInt = 0 := teq rfl kp0 c3
        refine lv_iload_n hx hb dX12_sum_76 rfl (lv_at hl 0 rfl) ?_
        have hWr : WB g A s.heap H locs (hv J [] [(13, 56), (13, 57), (13, 60)] (hv (hv J [] [(13, 56), (13, 57), (13, 60)] u1) [] [(13, 56), (13, 57), (13, 60)] Gl2), L, I, P, E, N) (sgM g) := by
          rw [← ag_hvE (J := J) (R := []) (F := [(13, 56), (13, 57), (13, 60)]) (ag_hv rfl rfl (ag_hv rfl rfl ag_rf))]
          exact hW
        exact end_i C hr hlocks (hv (hv J [] [(13, 56), (13, 57), (13, 60)] u1) [] [(13, 56), (13, 57), (13, 60)] Gl2) hWr ⟨show (J 13 56).toInt ≤ (Gl2 13 56).toInt from by omega, show ¬ (Gl2 13 60).toInt = 0 → (Gl2 13 57).toInt = 5 - (d : Int) from by omega⟩ dX12_sum_77
      · have c3 : ¬ (Gl2 13 60).toInt = 0 := tne rfl kp0 c3
        refine lv_aload_n hx hb dX12_sum_12 rfl (lv_at hl 1 rfl) ?_
        refine ci_ C hW (runV (x := (g.2.2.1 13)) (As := []) (rest := []) (T := (((hv (hv J [] [(13, 56), (13, 57), (13, 60)] u1) [] [(13, 56), (13, 57), (13, 60)] Gl2), L, I, P, E, N), sgM g)) C hW (c_X12_sign l g (hv (hv J [] [(13, 56), (13, 57), (13, 60)] u1) [] [(13, 56), (13, 57), (13, 60)] Gl2) L I P E N H.size  hwm (show 0 ≤ (Gl2 13 56).toInt from by omega) (show ((J 13 58).toInt < 0 ∧ (J 13 59).toInt ≤ 60) ∨ (0 ≤ (J 13 58).toInt ∧ (J 13 58).toInt + (J 13 59).toInt ≤ 1800) from by omega)) mi_X12_sign tw_1358 (recv_ (T := (((hv (hv J [] [(13, 56), (13, 57), (13, 60)] u1) [] [(13, 56), (13, 57), (13, 60)] Gl2), L, I, P, E, N), sgM g)) C hW (mm_ rfl) rfl rfl) ⟨rfl, rfl, by (simp only [RM]; omega), by (simp only [RM]; omega)⟩ rfl hl.1 rfl (Nat.le_of_ble_eq_true rfl) dX12_sum_13 ⟨Nat.le_of_ble_eq_true rfl, Nat.le_of_ble_eq_true rfl⟩) (fun r4 u4 H locs hp4 hW => ?_)
        have hf4_0 : ((r4.toInt = -1 ∧ (J 13 59).toInt ≤ (Gl2 13 56).toInt) ∨ (Gl2 13 56).toInt < (J 13 59).toInt) := hp4
        clear hp4
        have hW : WB g A s.heap H locs ((hv (hv J [] [(13, 56), (13, 57), (13, 60)] u1) [] [(13, 56), (13, 57), (13, 60)] Gl2), L, I, P, E, N) (sgM g) := hW
        refine lv_bipush (v := 43) hx hb dX12_sum_16 (by decide) ?_
        refine lv_icmp_eq (tgt := 30) hx hb dX12_sum_18 (by decide) (fun c5 => ?_) (fun c5 => ?_)
        · have c5 : r4.toInt = 43 := teq rfl kp43 c5
          refine lv_aload_n hx hb dX12_sum_30 rfl (lv_at hl 1 rfl) ?_
          refine ci_ C hW (runV (x := (g.2.2.1 13)) (As := []) (rest := []) (T := (((hv (hv J [] [(13, 56), (13, 57), (13, 60)] u1) [] [(13, 56), (13, 57), (13, 60)] Gl2), L, I, P, E, N), sgM g)) C hW (c_X12_sign l g (hv (hv J [] [(13, 56), (13, 57), (13, 60)] u1) [] [(13, 56), (13, 57), (13, 60)] Gl2) L I P E N H.size  hwm (show 0 ≤ (Gl2 13 56).toInt from by omega) (show ((J 13 58).toInt < 0 ∧ (J 13 59).toInt ≤ 60) ∨ (0 ≤ (J 13 58).toInt ∧ (J 13 58).toInt + (J 13 59).toInt ≤ 1800) from by omega)) mi_X12_sign tw_1358 (recv_ (T := (((hv (hv J [] [(13, 56), (13, 57), (13, 60)] u1) [] [(13, 56), (13, 57), (13, 60)] Gl2), L, I, P, E, N), sgM g)) C hW (mm_ rfl) rfl rfl) ⟨rfl, rfl, by (simp only [RM]; omega), by (simp only [RM]; omega)⟩ rfl hl.1 rfl (Nat.le_of_ble_eq_true rfl) dX12_sum_31 ⟨Nat.le_of_ble_eq_true rfl, Nat.le_of_ble_eq_true rfl⟩) (fun r6 u6 H locs hp6 hW => ?_)
          have hf6_0 : ((r6.toInt = -1 ∧ (J 13 59).toInt ≤ (Gl2 13 56).toInt) ∨ (Gl2 13 56).toInt < (J 13 59).toInt) := hp6
          clear hp6
          have hW : WB g A s.heap H locs ((hv (hv J [] [(13, 56), (13, 57), (13, 60)] u1) [] [(13, 56), (13, 57), (13, 60)] Gl2), L, I, P, E, N) (sgM g) := hW
          refine lv_istore_n (lv' := [(2, .int r6), (1, .int m1), (0, .ref (g.2.2.1 13))]) hx hb dX12_sum_34 rfl hl (by decide) rfl (fun ls hl => ?_)
          refine lv_aload_n hx hb dX12_sum_35 rfl (lv_at hl 2 rfl) ?_
          refine lv_dup hx hb dX12_sum_36 rfl ?_
          refine rg_13_56 C hW (mm_ rfl) tw_1079 dX12_sum_37 ?_
          refine lv_as (Gl2 13 56) rfl ?_
          refine lv_iconst (v := 1) hx hb dX12_sum_40 (by decide) ?_
          refine lv_iadd hx hb dX12_sum_41 ?_
          refine lv_topi (fun x7 (e7 : x7 = (Gl2 13 56) + 1) => ?_)
          try have t7 : x7.toInt = (Gl2 13 56).toInt + 1 := tadd e7 rfl kp1 (by omega)
          refine rp_13_56 C hW (mm_ rfl) tw_1079 dX12_sum_42 (fun H locs hW => ?_)
          refine lv_aload_n hx hb dX12_sum_45 rfl (lv_at hl 2 rfl) ?_
          refine ci_ C hW (runV (x := (g.2.2.1 13)) (As := []) (rest := []) (T := (((up2 (hv (hv J [] [(13, 56), (13, 57), (13, 60)] u1) [] [(13, 56), (13, 57), (13, 60)] Gl2) 13 56 x7), L, I, P, E, N), sgM g)) C hW (ht l g (up2 (hv (hv J [] [(13, 56), (13, 57), (13, 60)] u1) [] [(13, 56), (13, 57), (13, 60)] Gl2) 13 56 x7) L I P E N H.size  hwm (show 0 ≤ (x7).toInt from by omega) (show ((J 13 58).toInt < 0 ∧ (J 13 59).toInt ≤ 60) ∨ (0 ≤ (J 13 58).toInt ∧ (J 13 58).toInt + (J 13 59).toInt ≤ 1800) from by omega) (show ¬ (Gl2 13 60).toInt = 0 → (Gl2 13 57).toInt = 5 - (d : Int) from by omega) (show (d : Int) ≤ 5 from by omega)) mi_X12_term tw_1350 (recv_ (T := (((up2 (hv (hv J [] [(13, 56), (13, 57), (13, 60)] u1) [] [(13, 56), (13, 57), (13, 60)] Gl2) 13 56 x7), L, I, P, E, N), sgM g)) C hW (mm_ rfl) rfl rfl) ⟨rfl, rfl, by (simp only [RM]; omega), by (simp only [RM]; omega)⟩ rfl hl.1 rfl (Nat.le_of_ble_eq_true rfl) dX12_sum_46 ⟨Nat.le_of_ble_eq_true rfl, Nat.le_of_ble_eq_true rfl⟩) (fun r8 u8 H locs hp8 hW => ?_)
          obtain ⟨hf8_0, hf8_1⟩ : ((x7).toInt ≤ (u8 13 56).toInt) ∧ (¬ (u8 13 60).toInt = 0 → (u8 13 57).toInt = 5 - (d : Int)) := hp8
          have hW : WB g A s.heap H locs ((hv (up2 (hv (hv J [] [(13, 56), (13, 57), (13, 60)] u1) [] [(13, 56), (13, 57), (13, 60)] Gl2) 13 56 x7) [] [(13, 56), (13, 57), (13, 60)] u8), L, I, P, E, N) (sgM g) := hW
          refine lv_istore_n (lv' := [(3, .int r8), (2, .int r6), (1, .int m1), (0, .ref (g.2.2.1 13))]) hx hb dX12_sum_49 rfl hl (by decide) rfl (fun ls hl => ?_)
          refine lv_iload_n hx hb dX12_sum_50 rfl (lv_at hl 1 rfl) ?_
          refine lv_bipush (v := 43) hx hb dX12_sum_51 (by decide) ?_
          refine lv_icmp_ne (tgt := 64) hx hb dX12_sum_53 (by decide) (fun c9 => ?_) (fun c9 => ?_)
          · have c9 : ¬ r6.toInt = 43 := tne rfl kp43 c9
            refine lv_iload_n hx hb dX12_sum_64 rfl (lv_at hl 2 rfl) ?_
            refine lv_i2l (v := m1.toInt64) hx hb dX12_sum_65 rfl ?_
            refine lv_iload_n hx hb dX12_sum_66 rfl (lv_at hl 0 rfl) ?_
            refine lv_i2l (v := r8.toInt64) hx hb dX12_sum_67 rfl ?_
            refine lv_lsub hx hb dX12_sum_68 ?_
            refine lv_topl (fun z10 ez10 => ?_)
            refine ci_ C hW (runS (As := [.long z10]) (rest := []) (T := (((hv (up2 (hv (hv J [] [(13, 56), (13, 57), (13, 60)] u1) [] [(13, 56), (13, 57), (13, 60)] Gl2) 13 56 x7) [] [(13, 56), (13, 57), (13, 60)] u8), L, I, P, E, N), sgM g)) C hW (c_X12_held l g (hv (up2 (hv (hv J [] [(13, 56), (13, 57), (13, 60)] u1) [] [(13, 56), (13, 57), (13, 60)] Gl2) 13 56 x7) [] [(13, 56), (13, 57), (13, 60)] u8) L I P E N H.size z10 ) mi_X12_held tw_1373 ⟨rfl, rfl, by (simp only [RM]; omega), by (simp only [RM]; omega)⟩ rfl hl.1 rfl (Nat.le_of_ble_eq_true rfl) dX12_sum_69 ⟨Nat.le_of_ble_eq_true rfl, Nat.le_of_ble_eq_true rfl⟩) (fun r11 u11 H locs hp11 hW => ?_)
            have hW : WB g A s.heap H locs ((hv (up2 (hv (hv J [] [(13, 56), (13, 57), (13, 60)] u1) [] [(13, 56), (13, 57), (13, 60)] Gl2) 13 56 x7) [] [(13, 56), (13, 57), (13, 60)] u8), L, I, P, E, N) (sgM g) := hW
            refine lv_istore_n (lv' := [(1, .int r11), (3, .int r8), (2, .int r6), (0, .ref (g.2.2.1 13))]) hx hb dX12_sum_72 rfl hl (by decide) rfl (fun ls hl => ?_)
            refine lv_goto (tgt := 5) hx hb dX12_sum_73 (by decide) ?_
            have hWl : WB g A s.heap H locs ((hv (hv J [] [(13, 56), (13, 57), (13, 60)] u1) [] [(13, 56), (13, 57), (13, 60)] (hv (up2 (hv (hv J [] [(13, 56), (13, 57), (13, 60)] u1) [] [(13, 56), (13, 57), (13, 60)] Gl2) 13 56 x7) [] [(13, 56), (13, 57), (13, 60)] u8)), L, I, P, E, N) (sgM g) := by
              rw [← ag_hvE (J := (hv J [] [(13, 56), (13, 57), (13, 60)] u1)) (R := []) (F := [(13, 56), (13, 57), (13, 60)]) (ag_hv rfl rfl (ag_up (Or.inr rfl) (ag_hv rfl rfl ag_rf)))]
              exact hW
            refine ih r11 (hv (up2 (hv (hv J [] [(13, 56), (13, 57), (13, 60)] u1) [] [(13, 56), (13, 57), (13, 60)] Gl2) 13 56 x7) [] [(13, 56), (13, 57), (13, 60)] u8) H locs ls ?_ ?_ ?_ hWl (lv_sub hl [0, 3] rfl)
            · show (1800 - (u8 13 56).toInt).toNat < n
              omega
            · show 0 ≤ (u8 13 56).toInt ∧ (J 13 56).toInt ≤ (u8 13 56).toInt
              first | omega | exact hi | assumption
            · show ¬ (u8 13 60).toInt = 0 → (u8 13 57).toInt = 5 - (d : Int)
              first | omega | exact hdl | assumption
          · have c9 : r6.toInt = 43 := teq rfl kp43 c9
            refine lv_iload_n hx hb dX12_sum_56 rfl (lv_at hl 2 rfl) ?_
            refine lv_i2l (v := m1.toInt64) hx hb dX12_sum_57 rfl ?_
            refine lv_iload_n hx hb dX12_sum_58 rfl (lv_at hl 0 rfl) ?_
            refine lv_i2l (v := r8.toInt64) hx hb dX12_sum_59 rfl ?_
            refine lv_ladd hx hb dX12_sum_60 ?_
            refine lv_topl (fun z12 ez12 => ?_)
            refine lv_goto (tgt := 69) hx hb dX12_sum_61 (by decide) ?_
            refine ci_ C hW (runS (As := [.long z12]) (rest := []) (T := (((hv (up2 (hv (hv J [] [(13, 56), (13, 57), (13, 60)] u1) [] [(13, 56), (13, 57), (13, 60)] Gl2) 13 56 x7) [] [(13, 56), (13, 57), (13, 60)] u8), L, I, P, E, N), sgM g)) C hW (c_X12_held l g (hv (up2 (hv (hv J [] [(13, 56), (13, 57), (13, 60)] u1) [] [(13, 56), (13, 57), (13, 60)] Gl2) 13 56 x7) [] [(13, 56), (13, 57), (13, 60)] u8) L I P E N H.size z12 ) mi_X12_held tw_1373 ⟨rfl, rfl, by (simp only [RM]; omega), by (simp only [RM]; omega)⟩ rfl hl.1 rfl (Nat.le_of_ble_eq_true rfl) dX12_sum_69 ⟨Nat.le_of_ble_eq_true rfl, Nat.le_of_ble_eq_true rfl⟩) (fun r13 u13 H locs hp13 hW => ?_)
            have hW : WB g A s.heap H locs ((hv (up2 (hv (hv J [] [(13, 56), (13, 57), (13, 60)] u1) [] [(13, 56), (13, 57), (13, 60)] Gl2) 13 56 x7) [] [(13, 56), (13, 57), (13, 60)] u8), L, I, P, E, N) (sgM g) := hW
            refine lv_istore_n (lv' := [(1, .int r13), (3, .int r8), (2, .int r6), (0, .ref (g.2.2.1 13))]) hx hb dX12_sum_72 rfl hl (by decide) rfl (fun ls hl => ?_)
            refine lv_goto (tgt := 5) hx hb dX12_sum_73 (by decide) ?_
            have hWl : WB g A s.heap H locs ((hv (hv J [] [(13, 56), (13, 57), (13, 60)] u1) [] [(13, 56), (13, 57), (13, 60)] (hv (up2 (hv (hv J [] [(13, 56), (13, 57), (13, 60)] u1) [] [(13, 56), (13, 57), (13, 60)] Gl2) 13 56 x7) [] [(13, 56), (13, 57), (13, 60)] u8)), L, I, P, E, N) (sgM g) := by
              rw [← ag_hvE (J := (hv J [] [(13, 56), (13, 57), (13, 60)] u1)) (R := []) (F := [(13, 56), (13, 57), (13, 60)]) (ag_hv rfl rfl (ag_up (Or.inr rfl) (ag_hv rfl rfl ag_rf)))]
              exact hW
            refine ih r13 (hv (up2 (hv (hv J [] [(13, 56), (13, 57), (13, 60)] u1) [] [(13, 56), (13, 57), (13, 60)] Gl2) 13 56 x7) [] [(13, 56), (13, 57), (13, 60)] u8) H locs ls ?_ ?_ ?_ hWl (lv_sub hl [0, 3] rfl)
            · show (1800 - (u8 13 56).toInt).toNat < n
              omega
            · show 0 ≤ (u8 13 56).toInt ∧ (J 13 56).toInt ≤ (u8 13 56).toInt
              first | omega | exact hi | assumption
            · show ¬ (u8 13 60).toInt = 0 → (u8 13 57).toInt = 5 - (d : Int)
              first | omega | exact hdl | assumption
        · have c5 : ¬ r4.toInt = 43 := tne rfl kp43 c5
          refine lv_aload_n hx hb dX12_sum_21 rfl (lv_at hl 1 rfl) ?_
          refine ci_ C hW (runV (x := (g.2.2.1 13)) (As := []) (rest := []) (T := (((hv (hv J [] [(13, 56), (13, 57), (13, 60)] u1) [] [(13, 56), (13, 57), (13, 60)] Gl2), L, I, P, E, N), sgM g)) C hW (c_X12_sign l g (hv (hv J [] [(13, 56), (13, 57), (13, 60)] u1) [] [(13, 56), (13, 57), (13, 60)] Gl2) L I P E N H.size  hwm (show 0 ≤ (Gl2 13 56).toInt from by omega) (show ((J 13 58).toInt < 0 ∧ (J 13 59).toInt ≤ 60) ∨ (0 ≤ (J 13 58).toInt ∧ (J 13 58).toInt + (J 13 59).toInt ≤ 1800) from by omega)) mi_X12_sign tw_1358 (recv_ (T := (((hv (hv J [] [(13, 56), (13, 57), (13, 60)] u1) [] [(13, 56), (13, 57), (13, 60)] Gl2), L, I, P, E, N), sgM g)) C hW (mm_ rfl) rfl rfl) ⟨rfl, rfl, by (simp only [RM]; omega), by (simp only [RM]; omega)⟩ rfl hl.1 rfl (Nat.le_of_ble_eq_true rfl) dX12_sum_22 ⟨Nat.le_of_ble_eq_true rfl, Nat.le_of_ble_eq_true rfl⟩) (fun r14 u14 H locs hp14 hW => ?_)
          have hf14_0 : ((r14.toInt = -1 ∧ (J 13 59).toInt ≤ (Gl2 13 56).toInt) ∨ (Gl2 13 56).toInt < (J 13 59).toInt) := hp14
          clear hp14
          have hW : WB g A s.heap H locs ((hv (hv J [] [(13, 56), (13, 57), (13, 60)] u1) [] [(13, 56), (13, 57), (13, 60)] Gl2), L, I, P, E, N) (sgM g) := hW
          refine lv_bipush (v := 45) hx hb dX12_sum_25 (by decide) ?_
          refine lv_icmp_ne (tgt := 76) hx hb dX12_sum_27 (by decide) (fun c15 => ?_) (fun c15 => ?_)
          · have c15 : ¬ r14.toInt = 45 := tne rfl kp45 c15
            refine lv_iload_n hx hb dX12_sum_76 rfl (lv_at hl 0 rfl) ?_
            have hWr : WB g A s.heap H locs (hv J [] [(13, 56), (13, 57), (13, 60)] (hv (hv J [] [(13, 56), (13, 57), (13, 60)] u1) [] [(13, 56), (13, 57), (13, 60)] Gl2), L, I, P, E, N) (sgM g) := by
              rw [← ag_hvE (J := J) (R := []) (F := [(13, 56), (13, 57), (13, 60)]) (ag_hv rfl rfl (ag_hv rfl rfl ag_rf))]
              exact hW
            exact end_i C hr hlocks (hv (hv J [] [(13, 56), (13, 57), (13, 60)] u1) [] [(13, 56), (13, 57), (13, 60)] Gl2) hWr ⟨show (J 13 56).toInt ≤ (Gl2 13 56).toInt from by omega, show ¬ (Gl2 13 60).toInt = 0 → (Gl2 13 57).toInt = 5 - (d : Int) from by omega⟩ dX12_sum_77
          · have c15 : r14.toInt = 45 := teq rfl kp45 c15
            refine lv_aload_n hx hb dX12_sum_30 rfl (lv_at hl 1 rfl) ?_
            refine ci_ C hW (runV (x := (g.2.2.1 13)) (As := []) (rest := []) (T := (((hv (hv J [] [(13, 56), (13, 57), (13, 60)] u1) [] [(13, 56), (13, 57), (13, 60)] Gl2), L, I, P, E, N), sgM g)) C hW (c_X12_sign l g (hv (hv J [] [(13, 56), (13, 57), (13, 60)] u1) [] [(13, 56), (13, 57), (13, 60)] Gl2) L I P E N H.size  hwm (show 0 ≤ (Gl2 13 56).toInt from by omega) (show ((J 13 58).toInt < 0 ∧ (J 13 59).toInt ≤ 60) ∨ (0 ≤ (J 13 58).toInt ∧ (J 13 58).toInt + (J 13 59).toInt ≤ 1800) from by omega)) mi_X12_sign tw_1358 (recv_ (T := (((hv (hv J [] [(13, 56), (13, 57), (13, 60)] u1) [] [(13, 56), (13, 57), (13, 60)] Gl2), L, I, P, E, N), sgM g)) C hW (mm_ rfl) rfl rfl) ⟨rfl, rfl, by (simp only [RM]; omega), by (simp only [RM]; omega)⟩ rfl hl.1 rfl (Nat.le_of_ble_eq_true rfl) dX12_sum_31 ⟨Nat.le_of_ble_eq_true rfl, Nat.le_of_ble_eq_true rfl⟩) (fun r16 u16 H locs hp16 hW => ?_)
            have hf16_0 : ((r16.toInt = -1 ∧ (J 13 59).toInt ≤ (Gl2 13 56).toInt) ∨ (Gl2 13 56).toInt < (J 13 59).toInt) := hp16
            clear hp16
            have hW : WB g A s.heap H locs ((hv (hv J [] [(13, 56), (13, 57), (13, 60)] u1) [] [(13, 56), (13, 57), (13, 60)] Gl2), L, I, P, E, N) (sgM g) := hW
            refine lv_istore_n (lv' := [(2, .int r16), (1, .int m1), (0, .ref (g.2.2.1 13))]) hx hb dX12_sum_34 rfl hl (by decide) rfl (fun ls hl => ?_)
            refine lv_aload_n hx hb dX12_sum_35 rfl (lv_at hl 2 rfl) ?_
            refine lv_dup hx hb dX12_sum_36 rfl ?_
            refine rg_13_56 C hW (mm_ rfl) tw_1079 dX12_sum_37 ?_
            refine lv_as (Gl2 13 56) rfl ?_
            refine lv_iconst (v := 1) hx hb dX12_sum_40 (by decide) ?_
            refine lv_iadd hx hb dX12_sum_41 ?_
            refine lv_topi (fun x17 (e17 : x17 = (Gl2 13 56) + 1) => ?_)
            try have t17 : x17.toInt = (Gl2 13 56).toInt + 1 := tadd e17 rfl kp1 (by omega)
            refine rp_13_56 C hW (mm_ rfl) tw_1079 dX12_sum_42 (fun H locs hW => ?_)
            refine lv_aload_n hx hb dX12_sum_45 rfl (lv_at hl 2 rfl) ?_
            refine ci_ C hW (runV (x := (g.2.2.1 13)) (As := []) (rest := []) (T := (((up2 (hv (hv J [] [(13, 56), (13, 57), (13, 60)] u1) [] [(13, 56), (13, 57), (13, 60)] Gl2) 13 56 x17), L, I, P, E, N), sgM g)) C hW (ht l g (up2 (hv (hv J [] [(13, 56), (13, 57), (13, 60)] u1) [] [(13, 56), (13, 57), (13, 60)] Gl2) 13 56 x17) L I P E N H.size  hwm (show 0 ≤ (x17).toInt from by omega) (show ((J 13 58).toInt < 0 ∧ (J 13 59).toInt ≤ 60) ∨ (0 ≤ (J 13 58).toInt ∧ (J 13 58).toInt + (J 13 59).toInt ≤ 1800) from by omega) (show ¬ (Gl2 13 60).toInt = 0 → (Gl2 13 57).toInt = 5 - (d : Int) from by omega) (show (d : Int) ≤ 5 from by omega)) mi_X12_term tw_1350 (recv_ (T := (((up2 (hv (hv J [] [(13, 56), (13, 57), (13, 60)] u1) [] [(13, 56), (13, 57), (13, 60)] Gl2) 13 56 x17), L, I, P, E, N), sgM g)) C hW (mm_ rfl) rfl rfl) ⟨rfl, rfl, by (simp only [RM]; omega), by (simp only [RM]; omega)⟩ rfl hl.1 rfl (Nat.le_of_ble_eq_true rfl) dX12_sum_46 ⟨Nat.le_of_ble_eq_true rfl, Nat.le_of_ble_eq_true rfl⟩) (fun r18 u18 H locs hp18 hW => ?_)
            obtain ⟨hf18_0, hf18_1⟩ : ((x17).toInt ≤ (u18 13 56).toInt) ∧ (¬ (u18 13 60).toInt = 0 → (u18 13 57).toInt = 5 - (d : Int)) := hp18
            have hW : WB g A s.heap H locs ((hv (up2 (hv (hv J [] [(13, 56), (13, 57), (13, 60)] u1) [] [(13, 56), (13, 57), (13, 60)] Gl2) 13 56 x17) [] [(13, 56), (13, 57), (13, 60)] u18), L, I, P, E, N) (sgM g) := hW
            refine lv_istore_n (lv' := [(3, .int r18), (2, .int r16), (1, .int m1), (0, .ref (g.2.2.1 13))]) hx hb dX12_sum_49 rfl hl (by decide) rfl (fun ls hl => ?_)
            refine lv_iload_n hx hb dX12_sum_50 rfl (lv_at hl 1 rfl) ?_
            refine lv_bipush (v := 43) hx hb dX12_sum_51 (by decide) ?_
            refine lv_icmp_ne (tgt := 64) hx hb dX12_sum_53 (by decide) (fun c19 => ?_) (fun c19 => ?_)
            · have c19 : ¬ r16.toInt = 43 := tne rfl kp43 c19
              refine lv_iload_n hx hb dX12_sum_64 rfl (lv_at hl 2 rfl) ?_
              refine lv_i2l (v := m1.toInt64) hx hb dX12_sum_65 rfl ?_
              refine lv_iload_n hx hb dX12_sum_66 rfl (lv_at hl 0 rfl) ?_
              refine lv_i2l (v := r18.toInt64) hx hb dX12_sum_67 rfl ?_
              refine lv_lsub hx hb dX12_sum_68 ?_
              refine lv_topl (fun z20 ez20 => ?_)
              refine ci_ C hW (runS (As := [.long z20]) (rest := []) (T := (((hv (up2 (hv (hv J [] [(13, 56), (13, 57), (13, 60)] u1) [] [(13, 56), (13, 57), (13, 60)] Gl2) 13 56 x17) [] [(13, 56), (13, 57), (13, 60)] u18), L, I, P, E, N), sgM g)) C hW (c_X12_held l g (hv (up2 (hv (hv J [] [(13, 56), (13, 57), (13, 60)] u1) [] [(13, 56), (13, 57), (13, 60)] Gl2) 13 56 x17) [] [(13, 56), (13, 57), (13, 60)] u18) L I P E N H.size z20 ) mi_X12_held tw_1373 ⟨rfl, rfl, by (simp only [RM]; omega), by (simp only [RM]; omega)⟩ rfl hl.1 rfl (Nat.le_of_ble_eq_true rfl) dX12_sum_69 ⟨Nat.le_of_ble_eq_true rfl, Nat.le_of_ble_eq_true rfl⟩) (fun r21 u21 H locs hp21 hW => ?_)
              have hW : WB g A s.heap H locs ((hv (up2 (hv (hv J [] [(13, 56), (13, 57), (13, 60)] u1) [] [(13, 56), (13, 57), (13, 60)] Gl2) 13 56 x17) [] [(13, 56), (13, 57), (13, 60)] u18), L, I, P, E, N) (sgM g) := hW
              refine lv_istore_n (lv' := [(1, .int r21), (3, .int r18), (2, .int r16), (0, .ref (g.2.2.1 13))]) hx hb dX12_sum_72 rfl hl (by decide) rfl (fun ls hl => ?_)
              refine lv_goto (tgt := 5) hx hb dX12_sum_73 (by decide) ?_
              have hWl : WB g A s.heap H locs ((hv (hv J [] [(13, 56), (13, 57), (13, 60)] u1) [] [(13, 56), (13, 57), (13, 60)] (hv (up2 (hv (hv J [] [(13, 56), (13, 57), (13, 60)] u1) [] [(13, 56), (13, 57), (13, 60)] Gl2) 13 56 x17) [] [(13, 56), (13, 57), (13, 60)] u18)), L, I, P, E, N) (sgM g) := by
                rw [← ag_hvE (J := (hv J [] [(13, 56), (13, 57), (13, 60)] u1)) (R := []) (F := [(13, 56), (13, 57), (13, 60)]) (ag_hv rfl rfl (ag_up (Or.inr rfl) (ag_hv rfl rfl ag_rf)))]
                exact hW
              refine ih r21 (hv (up2 (hv (hv J [] [(13, 56), (13, 57), (13, 60)] u1) [] [(13, 56), (13, 57), (13, 60)] Gl2) 13 56 x17) [] [(13, 56), (13, 57), (13, 60)] u18) H locs ls ?_ ?_ ?_ hWl (lv_sub hl [0, 3] rfl)
              · show (1800 - (u18 13 56).toInt).toNat < n
                omega
              · show 0 ≤ (u18 13 56).toInt ∧ (J 13 56).toInt ≤ (u18 13 56).toInt
                first | omega | exact hi | assumption
              · show ¬ (u18 13 60).toInt = 0 → (u18 13 57).toInt = 5 - (d : Int)
                first | omega | exact hdl | assumption
            · have c19 : r16.toInt = 43 := teq rfl kp43 c19
              refine lv_iload_n hx hb dX12_sum_56 rfl (lv_at hl 2 rfl) ?_
              refine lv_i2l (v := m1.toInt64) hx hb dX12_sum_57 rfl ?_
              refine lv_iload_n hx hb dX12_sum_58 rfl (lv_at hl 0 rfl) ?_
              refine lv_i2l (v := r18.toInt64) hx hb dX12_sum_59 rfl ?_
              refine lv_ladd hx hb dX12_sum_60 ?_
              refine lv_topl (fun z22 ez22 => ?_)
              refine lv_goto (tgt := 69) hx hb dX12_sum_61 (by decide) ?_
              refine ci_ C hW (runS (As := [.long z22]) (rest := []) (T := (((hv (up2 (hv (hv J [] [(13, 56), (13, 57), (13, 60)] u1) [] [(13, 56), (13, 57), (13, 60)] Gl2) 13 56 x17) [] [(13, 56), (13, 57), (13, 60)] u18), L, I, P, E, N), sgM g)) C hW (c_X12_held l g (hv (up2 (hv (hv J [] [(13, 56), (13, 57), (13, 60)] u1) [] [(13, 56), (13, 57), (13, 60)] Gl2) 13 56 x17) [] [(13, 56), (13, 57), (13, 60)] u18) L I P E N H.size z22 ) mi_X12_held tw_1373 ⟨rfl, rfl, by (simp only [RM]; omega), by (simp only [RM]; omega)⟩ rfl hl.1 rfl (Nat.le_of_ble_eq_true rfl) dX12_sum_69 ⟨Nat.le_of_ble_eq_true rfl, Nat.le_of_ble_eq_true rfl⟩) (fun r23 u23 H locs hp23 hW => ?_)
              have hW : WB g A s.heap H locs ((hv (up2 (hv (hv J [] [(13, 56), (13, 57), (13, 60)] u1) [] [(13, 56), (13, 57), (13, 60)] Gl2) 13 56 x17) [] [(13, 56), (13, 57), (13, 60)] u18), L, I, P, E, N) (sgM g) := hW
              refine lv_istore_n (lv' := [(1, .int r23), (3, .int r18), (2, .int r16), (0, .ref (g.2.2.1 13))]) hx hb dX12_sum_72 rfl hl (by decide) rfl (fun ls hl => ?_)
              refine lv_goto (tgt := 5) hx hb dX12_sum_73 (by decide) ?_
              have hWl : WB g A s.heap H locs ((hv (hv J [] [(13, 56), (13, 57), (13, 60)] u1) [] [(13, 56), (13, 57), (13, 60)] (hv (up2 (hv (hv J [] [(13, 56), (13, 57), (13, 60)] u1) [] [(13, 56), (13, 57), (13, 60)] Gl2) 13 56 x17) [] [(13, 56), (13, 57), (13, 60)] u18)), L, I, P, E, N) (sgM g) := by
                rw [← ag_hvE (J := (hv J [] [(13, 56), (13, 57), (13, 60)] u1)) (R := []) (F := [(13, 56), (13, 57), (13, 60)]) (ag_hv rfl rfl (ag_up (Or.inr rfl) (ag_hv rfl rfl ag_rf)))]
                exact hW
              refine ih r23 (hv (up2 (hv (hv J [] [(13, 56), (13, 57), (13, 60)] u1) [] [(13, 56), (13, 57), (13, 60)] Gl2) 13 56 x17) [] [(13, 56), (13, 57), (13, 60)] u18) H locs ls ?_ ?_ ?_ hWl (lv_sub hl [0, 3] rfl)
              · show (1800 - (u18 13 56).toInt).toNat < n
                omega
              · show 0 ≤ (u18 13 56).toInt ∧ (J 13 56).toInt ≤ (u18 13 56).toInt
                first | omega | exact hi | assumption
              · show ¬ (u18 13 60).toInt = 0 → (u18 13 57).toInt = 5 - (d : Int)
                first | omega | exact hdl | assumption
  -- into the loop
  have hWl : WB g A s.heap H locs ((hv (hv J [] [(13, 56), (13, 57), (13, 60)] u1) [] [(13, 56), (13, 57), (13, 60)] (hv J [] [(13, 56), (13, 57), (13, 60)] u1)), L, I, P, E, N) (sgM g) := by
    rw [← ag_hvE (J := (hv J [] [(13, 56), (13, 57), (13, 60)] u1)) (R := []) (F := [(13, 56), (13, 57), (13, 60)]) ag_rf]
    exact hW
  refine loop5 ((1800 - (u1 13 56).toInt).toNat + 1) r1 (hv J [] [(13, 56), (13, 57), (13, 60)] u1) H locs ls ?_ ?_ ?_ hWl (lv_sub hl [0, 1] rfl)
  · exact Nat.lt_succ_self _
  · show 0 ≤ (u1 13 56).toInt ∧ (J 13 56).toInt ≤ (u1 13 56).toInt
    first | omega | exact hi | assumption
  · show ¬ (u1 13 60).toInt = 0 → (u1 13 57).toInt = 5 - (d : Int)
    first | omega | exact hdl | assumption
